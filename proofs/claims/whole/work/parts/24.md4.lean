theorem dX10_seen_0 : decode cX10_seen 0 = .ok (.iload_n 1, 1) := by decide +kernel
theorem dX10_seen_1 : decode cX10_seen 1 = .ok (.i2l, 1) := by decide +kernel
theorem dX10_seen_2 : decode cX10_seen 2 = .ok (.lconst 0, 1) := by decide +kernel
theorem dX10_seen_3 : decode cX10_seen 3 = .ok (.ldc2_w 244, 3) := by decide +kernel
theorem dX10_seen_6 : decode cX10_seen 6 = .ok (.invokestatic 151, 3) := by decide +kernel
theorem dX10_seen_9 : decode cX10_seen 9 = .ok (.ifCond .eq 15, 3) := by decide +kernel
theorem dX10_seen_12 : decode cX10_seen 12 = .ok (.iload_n 2, 1) := by decide +kernel
theorem dX10_seen_13 : decode cX10_seen 13 = .ok (.i2l, 1) := by decide +kernel
theorem dX10_seen_14 : decode cX10_seen 14 = .ok (.lconst 0, 1) := by decide +kernel
theorem dX10_seen_15 : decode cX10_seen 15 = .ok (.ldc2_w 246, 3) := by decide +kernel
theorem dX10_seen_18 : decode cX10_seen 18 = .ok (.invokestatic 151, 3) := by decide +kernel
theorem dX10_seen_21 : decode cX10_seen 21 = .ok (.ifCond .ne 6, 3) := by decide +kernel
theorem dX10_seen_24 : decode cX10_seen 24 = .ok (.bipush (-5), 2) := by decide +kernel
theorem dX10_seen_26 : decode cX10_seen 26 = .ok (.ireturn, 1) := by decide +kernel
theorem dX10_seen_27 : decode cX10_seen 27 = .ok (.iload_n 3, 1) := by decide +kernel
theorem dX10_seen_28 : decode cX10_seen 28 = .ok (.i2l, 1) := by decide +kernel
theorem dX10_seen_29 : decode cX10_seen 29 = .ok (.ldc2_w 248, 3) := by decide +kernel
theorem dX10_seen_32 : decode cX10_seen 32 = .ok (.ldc2_w 250, 3) := by decide +kernel
theorem dX10_seen_35 : decode cX10_seen 35 = .ok (.invokestatic 151, 3) := by decide +kernel
theorem dX10_seen_38 : decode cX10_seen 38 = .ok (.ifCond .ne 6, 3) := by decide +kernel
theorem dX10_seen_41 : decode cX10_seen 41 = .ok (.bipush (-2), 2) := by decide +kernel
theorem dX10_seen_43 : decode cX10_seen 43 = .ok (.ireturn, 1) := by decide +kernel
theorem dX10_seen_44 : decode cX10_seen 44 = .ok (.aload_n 0, 1) := by decide +kernel
theorem dX10_seen_45 : decode cX10_seen 45 = .ok (.getfield 101, 3) := by decide +kernel
theorem dX10_seen_48 : decode cX10_seen 48 = .ok (.bipush 12, 2) := by decide +kernel
theorem dX10_seen_50 : decode cX10_seen 50 = .ok (.iload_n 1, 1) := by decide +kernel
theorem dX10_seen_51 : decode cX10_seen 51 = .ok (.imul, 1) := by decide +kernel
theorem dX10_seen_52 : decode cX10_seen 52 = .ok (.iload_n 2, 1) := by decide +kernel
theorem dX10_seen_53 : decode cX10_seen 53 = .ok (.iadd, 1) := by decide +kernel
theorem dX10_seen_54 : decode cX10_seen 54 = .ok (.iaload, 1) := by decide +kernel
theorem dX10_seen_55 : decode cX10_seen 55 = .ok (.istore 4, 2) := by decide +kernel
theorem dX10_seen_57 : decode cX10_seen 57 = .ok (.aload_n 0, 1) := by decide +kernel
theorem dX10_seen_58 : decode cX10_seen 58 = .ok (.getfield 101, 3) := by decide +kernel
theorem dX10_seen_61 : decode cX10_seen 61 = .ok (.bipush 12, 2) := by decide +kernel
theorem dX10_seen_63 : decode cX10_seen 63 = .ok (.iload_n 1, 1) := by decide +kernel
theorem dX10_seen_64 : decode cX10_seen 64 = .ok (.imul, 1) := by decide +kernel
theorem dX10_seen_65 : decode cX10_seen 65 = .ok (.iload_n 2, 1) := by decide +kernel
theorem dX10_seen_66 : decode cX10_seen 66 = .ok (.iadd, 1) := by decide +kernel
theorem dX10_seen_67 : decode cX10_seen 67 = .ok (.iload_n 3, 1) := by decide +kernel
theorem dX10_seen_68 : decode cX10_seen 68 = .ok (.iastore, 1) := by decide +kernel
theorem dX10_seen_69 : decode cX10_seen 69 = .ok (.iload 4, 2) := by decide +kernel
theorem dX10_seen_71 : decode cX10_seen 71 = .ok (.ireturn, 1) := by decide +kernel
def f_X10_seen (h : Hp) (a0 : Nat) (a1 : Int32) (a2 : Int32) (a3 : Int32) : Option (Int32 × Hp) :=
bnd (f_X10_isIn h (a1.toInt64) (0 : Int64) (5 : Int64)) fun v1 h2 =>
if v1 = 0 then (
some ((-5 : Int32), h2)) else (
bnd (f_X10_isIn h2 (a2.toInt64) (0 : Int64) (11 : Int64)) fun v4 h5 =>
if v4 = 0 then (
some ((-5 : Int32), h5)) else (
bnd (f_X10_isIn h5 (a3.toInt64) (-1 : Int64) (9 : Int64)) fun v7 h8 =>
if v7 = 0 then (
some ((-2 : Int32), h8)) else (
gd (okOb h8 a0 10) <|
vl (gR h8 a0 34) fun r11 =>
un r11 fun b12 =>
gd (okAb h8 b12 11 (((12 : Int32) * a1) + a2)) <|
vl (gI h8 b12 (((12 : Int32) * a1) + a2).toNatClampNeg) fun x14 =>
vl (gR h8 a0 34) fun r15 =>
un r15 fun b16 =>
gd (okAb h8 b16 11 (((12 : Int32) * a1) + a2)) <|
vl (sI h8 b16 (((12 : Int32) * a1) + a2).toNatClampNeg a3) fun h18 =>
some (x14, h18))))
set_option maxHeartbeats 4000000 in
set_option maxRecDepth 100000 in
theorem t_X10_seen {X : Cx} {d : Nat} {h : Hp} {a0 : Nat} {a1 : Int32} {a2 : Int32} {a3 : Int32} {v : Int32} {h' : Hp} (hD : 2 ≤ d) (H : f_X10_seen h a0 a1 a2 a3 = some (v, h')) : PM X mX10_seen d [.ref a0, .int a1, .int a2, .int a3] h (some (.int v)) h' := by
  unfold f_X10_seen at H
  refine PM.of (loc := [some (.ref a0), some (.int a1), some (.int a2), some (.int a3), none]) (by decide) rfl (Nat.le_of_ble_eq_true rfl) ?_
  refine ev_iload_n dX10_seen_0 rfl rfl ?_
  refine ev_i2l dX10_seen_1 rfl ?_
  refine ev_lconst (v := (0 : Int64)) dX10_seen_2 (by decide) ?_
  refine ev_ldc2 (v := (5 : Int64)) dX10_seen_3 k6_20 ?_
  replace H := bnd_some H
  obtain ⟨v1, h2, eh2, H⟩ := H
  have ph2 := (t_X10_isIn (X := X) (d := 1) (by omega) eh2)
  refine ev_callS (as := [.long (a1.toInt64), .long (0 : Int64), .long (5 : Int64)]) dX10_seen_6 ph2 ok_X10_isIn (by omega) rfl k5_88 k5_89 rfl (Nat.le_of_ble_eq_true rfl) ?_
  refine ev_if_eq (tgt := 24) dX10_seen_9 (by decide) (fun c3 => ?_) (fun c3 => ?_)
  · rw [if_pos c3] at H
    refine ev_bipush (v := (-5 : Int32)) dX10_seen_24 (by decide) ?_
    exact ev_iretx dX10_seen_26 rfl rfl H
  · rw [if_neg c3] at H
    refine ev_iload_n dX10_seen_12 rfl rfl ?_
    refine ev_i2l dX10_seen_13 rfl ?_
    refine ev_lconst (v := (0 : Int64)) dX10_seen_14 (by decide) ?_
    refine ev_ldc2 (v := (11 : Int64)) dX10_seen_15 k6_21 ?_
    replace H := bnd_some H
    obtain ⟨v4, h5, eh5, H⟩ := H
    have ph5 := (t_X10_isIn (X := X) (d := 1) (by omega) eh5)
    refine ev_callS (as := [.long (a2.toInt64), .long (0 : Int64), .long (11 : Int64)]) dX10_seen_18 ph5 ok_X10_isIn (by omega) rfl k5_88 k5_89 rfl (Nat.le_of_ble_eq_true rfl) ?_
    refine ev_if_ne (tgt := 27) dX10_seen_21 (by decide) (fun c6 => ?_) (fun c6 => ?_)
    · rw [if_neg c6] at H
      refine ev_iload_n dX10_seen_27 rfl rfl ?_
      refine ev_i2l dX10_seen_28 rfl ?_
      refine ev_ldc2 (v := (-1 : Int64)) dX10_seen_29 k6_22 ?_
      refine ev_ldc2 (v := (9 : Int64)) dX10_seen_32 k6_23 ?_
      replace H := bnd_some H
      obtain ⟨v7, h8, eh8, H⟩ := H
      have ph8 := (t_X10_isIn (X := X) (d := 1) (by omega) eh8)
      refine ev_callS (as := [.long (a3.toInt64), .long (-1 : Int64), .long (9 : Int64)]) dX10_seen_35 ph8 ok_X10_isIn (by omega) rfl k5_88 k5_89 rfl (Nat.le_of_ble_eq_true rfl) ?_
      refine ev_if_ne (tgt := 44) dX10_seen_38 (by decide) (fun c9 => ?_) (fun c9 => ?_)
      · rw [if_neg c9] at H
        refine ev_aload_n dX10_seen_44 rfl rfl rfl ?_
        replace H := gd_some H
        obtain ⟨g10, H⟩ := H
        replace H := vl_some H
        obtain ⟨r11, er11, H⟩ := H
        refine ev_getRx dX10_seen_45 fgX10_101 rfl (okOb.p g10) er11 ?_
        refine ev_bipush (v := (12 : Int32)) dX10_seen_48 (by decide) ?_
        refine ev_iload_n dX10_seen_50 rfl rfl ?_
        refine ev_imul dX10_seen_51 ?_
        refine ev_iload_n dX10_seen_52 rfl rfl ?_
        refine ev_iadd dX10_seen_53 ?_
        replace H := un_some H
        obtain ⟨b12, eb12, H⟩ := H
        subst eb12
        replace H := gd_some H
        obtain ⟨g13, H⟩ := H
        replace H := vl_some H
        obtain ⟨x14, ex14, H⟩ := H
        refine ev_ialdx dX10_seen_54 (okAb.p g13) ex14 ?_
        refine ev_istore (loc2 := [some (.ref a0), some (.int a1), some (.int a2), some (.int a3), some (.int x14)]) dX10_seen_55 (by decide) rfl ?_
        refine ev_aload_n dX10_seen_57 rfl rfl rfl ?_
        replace H := vl_some H
        obtain ⟨r15, er15, H⟩ := H
        refine ev_getRx dX10_seen_58 fgX10_101 rfl (okOb.p g10) er15 ?_
        refine ev_bipush (v := (12 : Int32)) dX10_seen_61 (by decide) ?_
        refine ev_iload_n dX10_seen_63 rfl rfl ?_
        refine ev_imul dX10_seen_64 ?_
        refine ev_iload_n dX10_seen_65 rfl rfl ?_
        refine ev_iadd dX10_seen_66 ?_
        refine ev_iload_n dX10_seen_67 rfl rfl ?_
        replace H := un_some H
        obtain ⟨b16, eb16, H⟩ := H
        subst eb16
        replace H := gd_some H
        obtain ⟨g17, H⟩ := H
        replace H := vl_some H
        obtain ⟨h18, eh18, H⟩ := H
        refine ev_iast dX10_seen_68 (okAb.p g17) eh18 ?_
        refine ev_iload dX10_seen_69 rfl ?_
        exact ev_iretx dX10_seen_71 rfl rfl H
      · rw [if_pos c9] at H
        refine ev_bipush (v := (-2 : Int32)) dX10_seen_41 (by decide) ?_
        exact ev_iretx dX10_seen_43 rfl rfl H
    · rw [if_pos c6] at H
      refine ev_bipush (v := (-5 : Int32)) dX10_seen_24 (by decide) ?_
      exact ev_iretx dX10_seen_26 rfl rfl H

theorem dX10_quarrels_0 : decode cX10_quarrels 0 = .ok (.iconst 0, 1) := by decide +kernel
theorem dX10_quarrels_1 : decode cX10_quarrels 1 = .ok (.istore_n 3, 1) := by decide +kernel
theorem dX10_quarrels_2 : decode cX10_quarrels 2 = .ok (.iconst 0, 1) := by decide +kernel
theorem dX10_quarrels_3 : decode cX10_quarrels 3 = .ok (.istore 4, 2) := by decide +kernel
theorem dX10_quarrels_5 : decode cX10_quarrels 5 = .ok (.iload 4, 2) := by decide +kernel
theorem dX10_quarrels_7 : decode cX10_quarrels 7 = .ok (.bipush 72, 2) := by decide +kernel
theorem dX10_quarrels_9 : decode cX10_quarrels 9 = .ok (.if_icmp .ge 62, 3) := by decide +kernel
theorem dX10_quarrels_12 : decode cX10_quarrels 12 = .ok (.iload_n 3, 1) := by decide +kernel
theorem dX10_quarrels_13 : decode cX10_quarrels 13 = .ok (.aload_n 0, 1) := by decide +kernel
theorem dX10_quarrels_14 : decode cX10_quarrels 14 = .ok (.getfield 101, 3) := by decide +kernel
theorem dX10_quarrels_17 : decode cX10_quarrels 17 = .ok (.iload 4, 2) := by decide +kernel
theorem dX10_quarrels_19 : decode cX10_quarrels 19 = .ok (.iload_n 1, 1) := by decide +kernel
theorem dX10_quarrels_20 : decode cX10_quarrels 20 = .ok (.iadd, 1) := by decide +kernel
theorem dX10_quarrels_21 : decode cX10_quarrels 21 = .ok (.iaload, 1) := by decide +kernel
theorem dX10_quarrels_22 : decode cX10_quarrels 22 = .ok (.ifCond .lt 40, 3) := by decide +kernel
theorem dX10_quarrels_25 : decode cX10_quarrels 25 = .ok (.aload_n 0, 1) := by decide +kernel
theorem dX10_quarrels_26 : decode cX10_quarrels 26 = .ok (.getfield 101, 3) := by decide +kernel
theorem dX10_quarrels_29 : decode cX10_quarrels 29 = .ok (.iload 4, 2) := by decide +kernel
theorem dX10_quarrels_31 : decode cX10_quarrels 31 = .ok (.iload_n 2, 1) := by decide +kernel
theorem dX10_quarrels_32 : decode cX10_quarrels 32 = .ok (.iadd, 1) := by decide +kernel
theorem dX10_quarrels_33 : decode cX10_quarrels 33 = .ok (.iaload, 1) := by decide +kernel
theorem dX10_quarrels_34 : decode cX10_quarrels 34 = .ok (.ifCond .lt 28, 3) := by decide +kernel
theorem dX10_quarrels_37 : decode cX10_quarrels 37 = .ok (.aload_n 0, 1) := by decide +kernel
theorem dX10_quarrels_38 : decode cX10_quarrels 38 = .ok (.getfield 101, 3) := by decide +kernel
theorem dX10_quarrels_41 : decode cX10_quarrels 41 = .ok (.iload 4, 2) := by decide +kernel
theorem dX10_quarrels_43 : decode cX10_quarrels 43 = .ok (.iload_n 1, 1) := by decide +kernel
theorem dX10_quarrels_44 : decode cX10_quarrels 44 = .ok (.iadd, 1) := by decide +kernel
theorem dX10_quarrels_45 : decode cX10_quarrels 45 = .ok (.iaload, 1) := by decide +kernel
theorem dX10_quarrels_46 : decode cX10_quarrels 46 = .ok (.aload_n 0, 1) := by decide +kernel
theorem dX10_quarrels_47 : decode cX10_quarrels 47 = .ok (.getfield 101, 3) := by decide +kernel
theorem dX10_quarrels_50 : decode cX10_quarrels 50 = .ok (.iload 4, 2) := by decide +kernel
theorem dX10_quarrels_52 : decode cX10_quarrels 52 = .ok (.iload_n 2, 1) := by decide +kernel
theorem dX10_quarrels_53 : decode cX10_quarrels 53 = .ok (.iadd, 1) := by decide +kernel
theorem dX10_quarrels_54 : decode cX10_quarrels 54 = .ok (.iaload, 1) := by decide +kernel
theorem dX10_quarrels_55 : decode cX10_quarrels 55 = .ok (.if_icmp .le 7, 3) := by decide +kernel
theorem dX10_quarrels_58 : decode cX10_quarrels 58 = .ok (.iconst 1, 1) := by decide +kernel
theorem dX10_quarrels_59 : decode cX10_quarrels 59 = .ok (.goto 4, 3) := by decide +kernel
theorem dX10_quarrels_62 : decode cX10_quarrels 62 = .ok (.iconst 0, 1) := by decide +kernel
theorem dX10_quarrels_63 : decode cX10_quarrels 63 = .ok (.iadd, 1) := by decide +kernel
theorem dX10_quarrels_64 : decode cX10_quarrels 64 = .ok (.istore_n 3, 1) := by decide +kernel
theorem dX10_quarrels_65 : decode cX10_quarrels 65 = .ok (.iinc 4 12, 3) := by decide +kernel
theorem dX10_quarrels_68 : decode cX10_quarrels 68 = .ok (.goto (-63), 3) := by decide +kernel
theorem dX10_quarrels_71 : decode cX10_quarrels 71 = .ok (.iload_n 3, 1) := by decide +kernel
theorem dX10_quarrels_72 : decode cX10_quarrels 72 = .ok (.ireturn, 1) := by decide +kernel
def f_X10_quarrels_L5 : Nat → Nat → Int32 → Int32 → Int32 → Int32 → Hp → Option (Int32 × Hp)
  | 0, _, _, _, _, _, _ => none
  | n + 1, l0, l1, l2, l3, l4, h =>
    if (72 : Int32) ≤ l4 then (
    some (l3, h)) else (
    gd (okOb h l0 10) <|
    vl (gR h l0 34) fun r3 =>
    un r3 fun b4 =>
    gd (okAb h b4 11 (l4 + l1)) <|
    vl (gI h b4 (l4 + l1).toNatClampNeg) fun x6 =>
    if x6 < 0 then (
    vl (l3 + (0 : Int32)) fun x8 =>
    vl (l4 + (12 : Int32)) fun x9 =>
    f_X10_quarrels_L5 n l0 l1 l2 x8 x9 h) else (
    vl (gR h l0 34) fun r10 =>
    un r10 fun b11 =>
    gd (okAb h b11 11 (l4 + l2)) <|
    vl (gI h b11 (l4 + l2).toNatClampNeg) fun x13 =>
    if x13 < 0 then (
    vl (l3 + (0 : Int32)) fun x15 =>
    vl (l4 + (12 : Int32)) fun x16 =>
    f_X10_quarrels_L5 n l0 l1 l2 x15 x16 h) else (
    vl (gR h l0 34) fun r17 =>
    un r17 fun b18 =>
    gd (okAb h b18 11 (l4 + l1)) <|
    vl (gI h b18 (l4 + l1).toNatClampNeg) fun x20 =>
    vl (gR h l0 34) fun r21 =>
    un r21 fun b22 =>
    gd (okAb h b22 11 (l4 + l2)) <|
    vl (gI h b22 (l4 + l2).toNatClampNeg) fun x24 =>
    if x20 ≤ x24 then (
    vl (l3 + (0 : Int32)) fun x26 =>
    vl (l4 + (12 : Int32)) fun x27 =>
    f_X10_quarrels_L5 n l0 l1 l2 x26 x27 h) else (
    vl (l3 + (1 : Int32)) fun x28 =>
    vl (l4 + (12 : Int32)) fun x29 =>
    f_X10_quarrels_L5 n l0 l1 l2 x28 x29 h))))
set_option maxHeartbeats 4000000 in
set_option maxRecDepth 100000 in
theorem t_X10_quarrels_L5 {X : Cx} {d : Nat} {h0 h' : Hp} {v : Int32} (hD : 1 ≤ d) : ∀ (n : Nat) (l0 : Nat) (l1 : Int32) (l2 : Int32) (l3 : Int32) (l4 : Int32) (h : Hp), f_X10_quarrels_L5 n l0 l1 l2 l3 l4 h = some (v, h') → EV X mX10_quarrels d h0 (some (.int v)) h' 5 [some (.ref l0), some (.int l1), some (.int l2), some (.int l3), some (.int l4)] [] h := by
  intro n
  induction n with
  | zero => intro l0 l1 l2 l3 l4 h H; simp [f_X10_quarrels_L5] at H
  | succ n ih =>
    intro l0 l1 l2 l3 l4 h H
    rw [f_X10_quarrels_L5] at H
    refine ev_iload dX10_quarrels_5 rfl ?_
    refine ev_bipush (v := (72 : Int32)) dX10_quarrels_7 (by decide) ?_
    refine ev_icmp_ge (tgt := 71) dX10_quarrels_9 (by decide) (fun c1 => ?_) (fun c1 => ?_)
    · rw [if_pos c1] at H
      refine ev_iload_n dX10_quarrels_71 rfl rfl ?_
      exact ev_iretx dX10_quarrels_72 rfl rfl H
    · rw [if_neg c1] at H
      refine ev_iload_n dX10_quarrels_12 rfl rfl ?_
      refine ev_aload_n dX10_quarrels_13 rfl rfl rfl ?_
      replace H := gd_some H
      obtain ⟨g2, H⟩ := H
      replace H := vl_some H
      obtain ⟨r3, er3, H⟩ := H
      refine ev_getRx dX10_quarrels_14 fgX10_101 rfl (okOb.p g2) er3 ?_
      refine ev_iload dX10_quarrels_17 rfl ?_
      refine ev_iload_n dX10_quarrels_19 rfl rfl ?_
      refine ev_iadd dX10_quarrels_20 ?_
      replace H := un_some H
      obtain ⟨b4, eb4, H⟩ := H
      subst eb4
      replace H := gd_some H
      obtain ⟨g5, H⟩ := H
      replace H := vl_some H
      obtain ⟨x6, ex6, H⟩ := H
      refine ev_ialdx dX10_quarrels_21 (okAb.p g5) ex6 ?_
      refine ev_if_lt (tgt := 62) dX10_quarrels_22 (by decide) (fun c7 => ?_) (fun c7 => ?_)
      · rw [if_pos c7] at H
        refine ev_iconst (v := (0 : Int32)) dX10_quarrels_62 (by decide) ?_
        refine ev_iadd dX10_quarrels_63 ?_
        replace H := vl_some H
        obtain ⟨x8, ex8, H⟩ := H
        refine ev_istore_nx (loc2 := [some (.ref l0), some (.int l1), some (.int l2), some (.int x8), some (.int l4)]) dX10_quarrels_64 rfl (by decide) ex8 rfl ?_
        replace H := vl_some H
        obtain ⟨x9, ex9, H⟩ := H
        refine ev_iincx (loc2 := [some (.ref l0), some (.int l1), some (.int l2), some (.int x8), some (.int x9)]) dX10_quarrels_65 rfl (by decide) ex9 (by decide) rfl ?_
        refine ev_goto (tgt := 5) dX10_quarrels_68 (by decide) ?_
        exact ih l0 l1 l2 x8 x9 h H
      · rw [if_neg c7] at H
        refine ev_aload_n dX10_quarrels_25 rfl rfl rfl ?_
        replace H := vl_some H
        obtain ⟨r10, er10, H⟩ := H
        refine ev_getRx dX10_quarrels_26 fgX10_101 rfl (okOb.p g2) er10 ?_
        refine ev_iload dX10_quarrels_29 rfl ?_
        refine ev_iload_n dX10_quarrels_31 rfl rfl ?_
        refine ev_iadd dX10_quarrels_32 ?_
        replace H := un_some H
        obtain ⟨b11, eb11, H⟩ := H
        subst eb11
        replace H := gd_some H
        obtain ⟨g12, H⟩ := H
        replace H := vl_some H
        obtain ⟨x13, ex13, H⟩ := H
        refine ev_ialdx dX10_quarrels_33 (okAb.p g12) ex13 ?_
        refine ev_if_lt (tgt := 62) dX10_quarrels_34 (by decide) (fun c14 => ?_) (fun c14 => ?_)
        · rw [if_pos c14] at H
          refine ev_iconst (v := (0 : Int32)) dX10_quarrels_62 (by decide) ?_
          refine ev_iadd dX10_quarrels_63 ?_
          replace H := vl_some H
          obtain ⟨x15, ex15, H⟩ := H
          refine ev_istore_nx (loc2 := [some (.ref l0), some (.int l1), some (.int l2), some (.int x15), some (.int l4)]) dX10_quarrels_64 rfl (by decide) ex15 rfl ?_
          replace H := vl_some H
          obtain ⟨x16, ex16, H⟩ := H
          refine ev_iincx (loc2 := [some (.ref l0), some (.int l1), some (.int l2), some (.int x15), some (.int x16)]) dX10_quarrels_65 rfl (by decide) ex16 (by decide) rfl ?_
          refine ev_goto (tgt := 5) dX10_quarrels_68 (by decide) ?_
          exact ih l0 l1 l2 x15 x16 h H
        · rw [if_neg c14] at H
          refine ev_aload_n dX10_quarrels_37 rfl rfl rfl ?_
          replace H := vl_some H
          obtain ⟨r17, er17, H⟩ := H
          refine ev_getRx dX10_quarrels_38 fgX10_101 rfl (okOb.p g2) er17 ?_
          refine ev_iload dX10_quarrels_41 rfl ?_
          refine ev_iload_n dX10_quarrels_43 rfl rfl ?_
          refine ev_iadd dX10_quarrels_44 ?_
          replace H := un_some H
          obtain ⟨b18, eb18, H⟩ := H
          subst eb18
          replace H := gd_some H
          obtain ⟨g19, H⟩ := H
          replace H := vl_some H
          obtain ⟨x20, ex20, H⟩ := H
          refine ev_ialdx dX10_quarrels_45 (okAb.p g19) ex20 ?_
          refine ev_aload_n dX10_quarrels_46 rfl rfl rfl ?_
          replace H := vl_some H
          obtain ⟨r21, er21, H⟩ := H
          refine ev_getRx dX10_quarrels_47 fgX10_101 rfl (okOb.p g2) er21 ?_
          refine ev_iload dX10_quarrels_50 rfl ?_
          refine ev_iload_n dX10_quarrels_52 rfl rfl ?_
          refine ev_iadd dX10_quarrels_53 ?_
          replace H := un_some H
          obtain ⟨b22, eb22, H⟩ := H
          subst eb22
          replace H := gd_some H
          obtain ⟨g23, H⟩ := H
          replace H := vl_some H
          obtain ⟨x24, ex24, H⟩ := H
          refine ev_ialdx dX10_quarrels_54 (okAb.p g23) ex24 ?_
          refine ev_icmp_le (tgt := 62) dX10_quarrels_55 (by decide) (fun c25 => ?_) (fun c25 => ?_)
          · rw [if_pos c25] at H
            refine ev_iconst (v := (0 : Int32)) dX10_quarrels_62 (by decide) ?_
            refine ev_iadd dX10_quarrels_63 ?_
            replace H := vl_some H
            obtain ⟨x26, ex26, H⟩ := H
            refine ev_istore_nx (loc2 := [some (.ref l0), some (.int l1), some (.int l2), some (.int x26), some (.int l4)]) dX10_quarrels_64 rfl (by decide) ex26 rfl ?_
            replace H := vl_some H
            obtain ⟨x27, ex27, H⟩ := H
            refine ev_iincx (loc2 := [some (.ref l0), some (.int l1), some (.int l2), some (.int x26), some (.int x27)]) dX10_quarrels_65 rfl (by decide) ex27 (by decide) rfl ?_
            refine ev_goto (tgt := 5) dX10_quarrels_68 (by decide) ?_
            exact ih l0 l1 l2 x26 x27 h H
          · rw [if_neg c25] at H
            refine ev_iconst (v := (1 : Int32)) dX10_quarrels_58 (by decide) ?_
            refine ev_goto (tgt := 63) dX10_quarrels_59 (by decide) ?_
            refine ev_iadd dX10_quarrels_63 ?_
            replace H := vl_some H
            obtain ⟨x28, ex28, H⟩ := H
            refine ev_istore_nx (loc2 := [some (.ref l0), some (.int l1), some (.int l2), some (.int x28), some (.int l4)]) dX10_quarrels_64 rfl (by decide) ex28 rfl ?_
            replace H := vl_some H
            obtain ⟨x29, ex29, H⟩ := H
            refine ev_iincx (loc2 := [some (.ref l0), some (.int l1), some (.int l2), some (.int x28), some (.int x29)]) dX10_quarrels_65 rfl (by decide) ex29 (by decide) rfl ?_
            refine ev_goto (tgt := 5) dX10_quarrels_68 (by decide) ?_
            exact ih l0 l1 l2 x28 x29 h H
def f_X10_quarrels (h : Hp) (a0 : Nat) (a1 : Int32) (a2 : Int32) : Option (Int32 × Hp) :=
f_X10_quarrels_L5 6000 a0 a1 a2 (0 : Int32) (0 : Int32) h
set_option maxHeartbeats 4000000 in
set_option maxRecDepth 100000 in
theorem t_X10_quarrels {X : Cx} {d : Nat} {h : Hp} {a0 : Nat} {a1 : Int32} {a2 : Int32} {v : Int32} {h' : Hp} (hD : 1 ≤ d) (H : f_X10_quarrels h a0 a1 a2 = some (v, h')) : PM X mX10_quarrels d [.ref a0, .int a1, .int a2] h (some (.int v)) h' := by
  unfold f_X10_quarrels at H
  refine PM.of (loc := [some (.ref a0), some (.int a1), some (.int a2), none, none]) (by decide) rfl (Nat.le_of_ble_eq_true rfl) ?_
  refine ev_iconst (v := (0 : Int32)) dX10_quarrels_0 (by decide) ?_
  refine ev_istore_n (loc2 := [some (.ref a0), some (.int a1), some (.int a2), some (.int (0 : Int32)), none]) dX10_quarrels_1 rfl (by decide) rfl ?_
  refine ev_iconst (v := (0 : Int32)) dX10_quarrels_2 (by decide) ?_
  refine ev_istore (loc2 := [some (.ref a0), some (.int a1), some (.int a2), some (.int (0 : Int32)), some (.int (0 : Int32))]) dX10_quarrels_3 (by decide) rfl ?_
  refine t_X10_quarrels_L5 hD  6000 a0 a1 a2 (0 : Int32) (0 : Int32) h H

theorem dX10_order_0 : decode cX10_order 0 = .ok (.iconst 0, 1) := by decide +kernel
theorem dX10_order_1 : decode cX10_order 1 = .ok (.istore_n 2, 1) := by decide +kernel
theorem dX10_order_2 : decode cX10_order 2 = .ok (.iconst 0, 1) := by decide +kernel
theorem dX10_order_3 : decode cX10_order 3 = .ok (.istore_n 3, 1) := by decide +kernel
theorem dX10_order_4 : decode cX10_order 4 = .ok (.iload_n 3, 1) := by decide +kernel
theorem dX10_order_5 : decode cX10_order 5 = .ok (.bipush 12, 2) := by decide +kernel
theorem dX10_order_7 : decode cX10_order 7 = .ok (.if_icmp .ge 17, 3) := by decide +kernel
theorem dX10_order_10 : decode cX10_order 10 = .ok (.iload_n 2, 1) := by decide +kernel
theorem dX10_order_11 : decode cX10_order 11 = .ok (.iload_n 1, 1) := by decide +kernel
theorem dX10_order_12 : decode cX10_order 12 = .ok (.iload_n 3, 1) := by decide +kernel
theorem dX10_order_13 : decode cX10_order 13 = .ok (.ishr, 1) := by decide +kernel
theorem dX10_order_14 : decode cX10_order 14 = .ok (.iconst 1, 1) := by decide +kernel
theorem dX10_order_15 : decode cX10_order 15 = .ok (.iand, 1) := by decide +kernel
theorem dX10_order_16 : decode cX10_order 16 = .ok (.iadd, 1) := by decide +kernel
theorem dX10_order_17 : decode cX10_order 17 = .ok (.istore_n 2, 1) := by decide +kernel
theorem dX10_order_18 : decode cX10_order 18 = .ok (.iinc 3 1, 3) := by decide +kernel
theorem dX10_order_21 : decode cX10_order 21 = .ok (.goto (-17), 3) := by decide +kernel
theorem dX10_order_24 : decode cX10_order 24 = .ok (.iload_n 1, 1) := by decide +kernel
theorem dX10_order_25 : decode cX10_order 25 = .ok (.i2l, 1) := by decide +kernel
theorem dX10_order_26 : decode cX10_order 26 = .ok (.lconst 1, 1) := by decide +kernel
theorem dX10_order_27 : decode cX10_order 27 = .ok (.ldc2_w 252, 3) := by decide +kernel
theorem dX10_order_30 : decode cX10_order 30 = .ok (.invokestatic 151, 3) := by decide +kernel
theorem dX10_order_33 : decode cX10_order 33 = .ok (.ifCond .eq 9, 3) := by decide +kernel
theorem dX10_order_36 : decode cX10_order 36 = .ok (.iload_n 2, 1) := by decide +kernel
theorem dX10_order_37 : decode cX10_order 37 = .ok (.bipush 7, 2) := by decide +kernel
theorem dX10_order_39 : decode cX10_order 39 = .ok (.if_icmp .le 6, 3) := by decide +kernel
theorem dX10_order_42 : decode cX10_order 42 = .ok (.bipush (-2), 2) := by decide +kernel
theorem dX10_order_44 : decode cX10_order 44 = .ok (.ireturn, 1) := by decide +kernel
theorem dX10_order_45 : decode cX10_order 45 = .ok (.iconst 0, 1) := by decide +kernel
theorem dX10_order_46 : decode cX10_order 46 = .ok (.istore_n 3, 1) := by decide +kernel
theorem dX10_order_47 : decode cX10_order 47 = .ok (.iconst 0, 1) := by decide +kernel
theorem dX10_order_48 : decode cX10_order 48 = .ok (.istore 4, 2) := by decide +kernel
theorem dX10_order_50 : decode cX10_order 50 = .ok (.iload 4, 2) := by decide +kernel
theorem dX10_order_52 : decode cX10_order 52 = .ok (.bipush 12, 2) := by decide +kernel
theorem dX10_order_54 : decode cX10_order 54 = .ok (.if_icmp .ge 32, 3) := by decide +kernel
theorem dX10_order_57 : decode cX10_order 57 = .ok (.iload_n 1, 1) := by decide +kernel
theorem dX10_order_58 : decode cX10_order 58 = .ok (.iload 4, 2) := by decide +kernel
theorem dX10_order_60 : decode cX10_order 60 = .ok (.ishr, 1) := by decide +kernel
theorem dX10_order_61 : decode cX10_order 61 = .ok (.iconst 1, 1) := by decide +kernel
theorem dX10_order_62 : decode cX10_order 62 = .ok (.iand, 1) := by decide +kernel
theorem dX10_order_63 : decode cX10_order 63 = .ok (.ifCond .ne 6, 3) := by decide +kernel
theorem dX10_order_66 : decode cX10_order 66 = .ok (.goto 14, 3) := by decide +kernel
theorem dX10_order_69 : decode cX10_order 69 = .ok (.aload_n 0, 1) := by decide +kernel
theorem dX10_order_70 : decode cX10_order 70 = .ok (.getfield 98, 3) := by decide +kernel
theorem dX10_order_73 : decode cX10_order 73 = .ok (.iload_n 3, 1) := by decide +kernel
theorem dX10_order_74 : decode cX10_order 74 = .ok (.iload 4, 2) := by decide +kernel
theorem dX10_order_76 : decode cX10_order 76 = .ok (.iastore, 1) := by decide +kernel
theorem dX10_order_77 : decode cX10_order 77 = .ok (.iinc 3 1, 3) := by decide +kernel
theorem dX10_order_80 : decode cX10_order 80 = .ok (.iinc 4 1, 3) := by decide +kernel
theorem dX10_order_83 : decode cX10_order 83 = .ok (.goto (-33), 3) := by decide +kernel
theorem dX10_order_86 : decode cX10_order 86 = .ok (.iconst 0, 1) := by decide +kernel
theorem dX10_order_87 : decode cX10_order 87 = .ok (.istore 4, 2) := by decide +kernel
theorem dX10_order_89 : decode cX10_order 89 = .ok (.iload 4, 2) := by decide +kernel
theorem dX10_order_91 : decode cX10_order 91 = .ok (.sipush 144, 3) := by decide +kernel
theorem dX10_order_94 : decode cX10_order 94 = .ok (.if_icmp .ge 30, 3) := by decide +kernel
theorem dX10_order_97 : decode cX10_order 97 = .ok (.aload_n 0, 1) := by decide +kernel
theorem dX10_order_98 : decode cX10_order 98 = .ok (.getfield 107, 3) := by decide +kernel
theorem dX10_order_101 : decode cX10_order 101 = .ok (.iload 4, 2) := by decide +kernel
theorem dX10_order_103 : decode cX10_order 103 = .ok (.aload_n 0, 1) := by decide +kernel
theorem dX10_order_104 : decode cX10_order 104 = .ok (.iload 4, 2) := by decide +kernel
theorem dX10_order_106 : decode cX10_order 106 = .ok (.bipush 12, 2) := by decide +kernel
theorem dX10_order_108 : decode cX10_order 108 = .ok (.idiv, 1) := by decide +kernel
theorem dX10_order_109 : decode cX10_order 109 = .ok (.iload 4, 2) := by decide +kernel
theorem dX10_order_111 : decode cX10_order 111 = .ok (.bipush 12, 2) := by decide +kernel
theorem dX10_order_113 : decode cX10_order 113 = .ok (.irem, 1) := by decide +kernel
theorem dX10_order_114 : decode cX10_order 114 = .ok (.invokevirtual 254, 3) := by decide +kernel
theorem dX10_order_117 : decode cX10_order 117 = .ok (.iastore, 1) := by decide +kernel
theorem dX10_order_118 : decode cX10_order 118 = .ok (.iinc 4 1, 3) := by decide +kernel
theorem dX10_order_121 : decode cX10_order 121 = .ok (.goto (-32), 3) := by decide +kernel
theorem dX10_order_124 : decode cX10_order 124 = .ok (.ldc_w 257, 3) := by decide +kernel
theorem dX10_order_127 : decode cX10_order 127 = .ok (.istore 4, 2) := by decide +kernel
theorem dX10_order_129 : decode cX10_order 129 = .ok (.iconst 1, 1) := by decide +kernel
theorem dX10_order_130 : decode cX10_order 130 = .ok (.istore 5, 2) := by decide +kernel
theorem dX10_order_132 : decode cX10_order 132 = .ok (.iload 5, 2) := by decide +kernel
theorem dX10_order_134 : decode cX10_order 134 = .ok (.ifCond .eq 139, 3) := by decide +kernel
theorem dX10_order_137 : decode cX10_order 137 = .ok (.iconst 0, 1) := by decide +kernel
theorem dX10_order_138 : decode cX10_order 138 = .ok (.istore 6, 2) := by decide +kernel
theorem dX10_order_140 : decode cX10_order 140 = .ok (.iconst 0, 1) := by decide +kernel
theorem dX10_order_141 : decode cX10_order 141 = .ok (.istore 7, 2) := by decide +kernel
theorem dX10_order_143 : decode cX10_order 143 = .ok (.iload 7, 2) := by decide +kernel
theorem dX10_order_145 : decode cX10_order 145 = .ok (.iload_n 2, 1) := by decide +kernel
theorem dX10_order_146 : decode cX10_order 146 = .ok (.if_icmp .ge 55, 3) := by decide +kernel
theorem dX10_order_149 : decode cX10_order 149 = .ok (.iload 7, 2) := by decide +kernel
theorem dX10_order_151 : decode cX10_order 151 = .ok (.iconst 1, 1) := by decide +kernel
theorem dX10_order_152 : decode cX10_order 152 = .ok (.iadd, 1) := by decide +kernel
theorem dX10_order_153 : decode cX10_order 153 = .ok (.istore 8, 2) := by decide +kernel
theorem dX10_order_155 : decode cX10_order 155 = .ok (.iload 8, 2) := by decide +kernel
theorem dX10_order_157 : decode cX10_order 157 = .ok (.iload_n 2, 1) := by decide +kernel
theorem dX10_order_158 : decode cX10_order 158 = .ok (.if_icmp .ge 37, 3) := by decide +kernel
theorem dX10_order_161 : decode cX10_order 161 = .ok (.iload 6, 2) := by decide +kernel
theorem dX10_order_163 : decode cX10_order 163 = .ok (.aload_n 0, 1) := by decide +kernel
theorem dX10_order_164 : decode cX10_order 164 = .ok (.getfield 107, 3) := by decide +kernel
theorem dX10_order_167 : decode cX10_order 167 = .ok (.bipush 12, 2) := by decide +kernel
theorem dX10_order_169 : decode cX10_order 169 = .ok (.aload_n 0, 1) := by decide +kernel
theorem dX10_order_170 : decode cX10_order 170 = .ok (.getfield 98, 3) := by decide +kernel
theorem dX10_order_173 : decode cX10_order 173 = .ok (.iload 7, 2) := by decide +kernel
theorem dX10_order_175 : decode cX10_order 175 = .ok (.iaload, 1) := by decide +kernel
theorem dX10_order_176 : decode cX10_order 176 = .ok (.imul, 1) := by decide +kernel
theorem dX10_order_177 : decode cX10_order 177 = .ok (.aload_n 0, 1) := by decide +kernel
theorem dX10_order_178 : decode cX10_order 178 = .ok (.getfield 98, 3) := by decide +kernel
theorem dX10_order_181 : decode cX10_order 181 = .ok (.iload 8, 2) := by decide +kernel
theorem dX10_order_183 : decode cX10_order 183 = .ok (.iaload, 1) := by decide +kernel
theorem dX10_order_184 : decode cX10_order 184 = .ok (.iadd, 1) := by decide +kernel
theorem dX10_order_185 : decode cX10_order 185 = .ok (.iaload, 1) := by decide +kernel
theorem dX10_order_186 : decode cX10_order 186 = .ok (.iadd, 1) := by decide +kernel
theorem dX10_order_187 : decode cX10_order 187 = .ok (.istore 6, 2) := by decide +kernel
theorem dX10_order_189 : decode cX10_order 189 = .ok (.iinc 8 1, 3) := by decide +kernel
theorem dX10_order_192 : decode cX10_order 192 = .ok (.goto (-37), 3) := by decide +kernel
theorem dX10_order_195 : decode cX10_order 195 = .ok (.iinc 7 1, 3) := by decide +kernel
theorem dX10_order_198 : decode cX10_order 198 = .ok (.goto (-55), 3) := by decide +kernel
theorem dX10_order_201 : decode cX10_order 201 = .ok (.iload 6, 2) := by decide +kernel
theorem dX10_order_203 : decode cX10_order 203 = .ok (.iload 4, 2) := by decide +kernel
theorem dX10_order_205 : decode cX10_order 205 = .ok (.if_icmp .ge 41, 3) := by decide +kernel
theorem dX10_order_208 : decode cX10_order 208 = .ok (.iload 6, 2) := by decide +kernel
theorem dX10_order_210 : decode cX10_order 210 = .ok (.istore 4, 2) := by decide +kernel
theorem dX10_order_212 : decode cX10_order 212 = .ok (.aload_n 0, 1) := by decide +kernel
theorem dX10_order_213 : decode cX10_order 213 = .ok (.iconst 0, 1) := by decide +kernel
theorem dX10_order_214 : decode cX10_order 214 = .ok (.putfield 258, 3) := by decide +kernel
theorem dX10_order_217 : decode cX10_order 217 = .ok (.iconst 0, 1) := by decide +kernel
theorem dX10_order_218 : decode cX10_order 218 = .ok (.istore 7, 2) := by decide +kernel
theorem dX10_order_220 : decode cX10_order 220 = .ok (.iload 7, 2) := by decide +kernel
theorem dX10_order_222 : decode cX10_order 222 = .ok (.iload_n 2, 1) := by decide +kernel
theorem dX10_order_223 : decode cX10_order 223 = .ok (.if_icmp .ge 23, 3) := by decide +kernel
theorem dX10_order_226 : decode cX10_order 226 = .ok (.aload_n 0, 1) := by decide +kernel
theorem dX10_order_227 : decode cX10_order 227 = .ok (.getfield 104, 3) := by decide +kernel
theorem dX10_order_230 : decode cX10_order 230 = .ok (.iload 7, 2) := by decide +kernel
theorem dX10_order_232 : decode cX10_order 232 = .ok (.aload_n 0, 1) := by decide +kernel
theorem dX10_order_233 : decode cX10_order 233 = .ok (.getfield 98, 3) := by decide +kernel
theorem dX10_order_236 : decode cX10_order 236 = .ok (.iload 7, 2) := by decide +kernel
theorem dX10_order_238 : decode cX10_order 238 = .ok (.iaload, 1) := by decide +kernel
theorem dX10_order_239 : decode cX10_order 239 = .ok (.iastore, 1) := by decide +kernel
theorem dX10_order_240 : decode cX10_order 240 = .ok (.iinc 7 1, 3) := by decide +kernel
theorem dX10_order_243 : decode cX10_order 243 = .ok (.goto (-23), 3) := by decide +kernel
theorem dX10_order_246 : decode cX10_order 246 = .ok (.iload 6, 2) := by decide +kernel
theorem dX10_order_248 : decode cX10_order 248 = .ok (.iload 4, 2) := by decide +kernel
theorem dX10_order_250 : decode cX10_order 250 = .ok (.if_icmp .ne 13, 3) := by decide +kernel
theorem dX10_order_253 : decode cX10_order 253 = .ok (.aload_n 0, 1) := by decide +kernel
theorem dX10_order_254 : decode cX10_order 254 = .ok (.dup, 1) := by decide +kernel
theorem dX10_order_255 : decode cX10_order 255 = .ok (.getfield 258, 3) := by decide +kernel
theorem dX10_order_258 : decode cX10_order 258 = .ok (.iconst 1, 1) := by decide +kernel
theorem dX10_order_259 : decode cX10_order 259 = .ok (.iadd, 1) := by decide +kernel
theorem dX10_order_260 : decode cX10_order 260 = .ok (.putfield 258, 3) := by decide +kernel
theorem dX10_order_263 : decode cX10_order 263 = .ok (.aload_n 0, 1) := by decide +kernel
theorem dX10_order_264 : decode cX10_order 264 = .ok (.iload_n 2, 1) := by decide +kernel
theorem dX10_order_265 : decode cX10_order 265 = .ok (.invokevirtual 261, 3) := by decide +kernel
theorem dX10_order_268 : decode cX10_order 268 = .ok (.istore 5, 2) := by decide +kernel
theorem dX10_order_270 : decode cX10_order 270 = .ok (.goto (-138), 3) := by decide +kernel
theorem dX10_order_273 : decode cX10_order 273 = .ok (.aload_n 0, 1) := by decide +kernel
theorem dX10_order_274 : decode cX10_order 274 = .ok (.iload_n 2, 1) := by decide +kernel
theorem dX10_order_275 : decode cX10_order 275 = .ok (.putfield 264, 3) := by decide +kernel
theorem dX10_order_278 : decode cX10_order 278 = .ok (.aload_n 0, 1) := by decide +kernel
theorem dX10_order_279 : decode cX10_order 279 = .ok (.iconst 1, 1) := by decide +kernel
theorem dX10_order_280 : decode cX10_order 280 = .ok (.putfield 267, 3) := by decide +kernel
theorem dX10_order_283 : decode cX10_order 283 = .ok (.iload 4, 2) := by decide +kernel
theorem dX10_order_285 : decode cX10_order 285 = .ok (.ireturn, 1) := by decide +kernel
def f_X10_order_L4 (k24 : Nat → Int32 → Int32 → Int32 → Hp → Option (Int32 × Hp)) : Nat → Nat → Int32 → Int32 → Int32 → Hp → Option (Int32 × Hp)
  | 0, _, _, _, _, _ => none
  | n + 1, l0, l1, l2, l3, h =>
    if (12 : Int32) ≤ l3 then (
    k24 l0 l1 l2 l3 h) else (
    vl (l2 + ((l1 >>> (l3 &&& 31)) &&& (1 : Int32))) fun x2 =>
    vl (l3 + (1 : Int32)) fun x3 =>
    f_X10_order_L4 k24 n l0 l1 x2 x3 h)
set_option maxHeartbeats 4000000 in
set_option maxRecDepth 100000 in
theorem t_X10_order_L4 {X : Cx} {d : Nat} {h0 h' : Hp} {v : Int32} {k24 : Nat → Int32 → Int32 → Int32 → Hp → Option (Int32 × Hp)} (hD : 3 ≤ d) (hk24 : ∀ (z0 : Nat) (z1 : Int32) (z2 : Int32) (z3 : Int32) (h : Hp), k24 z0 z1 z2 z3 h = some (v, h') → EV X mX10_order d h0 (some (.int v)) h' 24 [some (.ref z0), some (.int z1), some (.int z2), some (.int z3), none, none, none, none, none] [] h) : ∀ (n : Nat) (l0 : Nat) (l1 : Int32) (l2 : Int32) (l3 : Int32) (h : Hp), f_X10_order_L4 k24 n l0 l1 l2 l3 h = some (v, h') → EV X mX10_order d h0 (some (.int v)) h' 4 [some (.ref l0), some (.int l1), some (.int l2), some (.int l3), none, none, none, none, none] [] h := by
  intro n
  induction n with
  | zero => intro l0 l1 l2 l3 h H; simp [f_X10_order_L4] at H
  | succ n ih =>
    intro l0 l1 l2 l3 h H
    rw [f_X10_order_L4] at H
    refine ev_iload_n dX10_order_4 rfl rfl ?_
    refine ev_bipush (v := (12 : Int32)) dX10_order_5 (by decide) ?_
    refine ev_icmp_ge (tgt := 24) dX10_order_7 (by decide) (fun c1 => ?_) (fun c1 => ?_)
    · rw [if_pos c1] at H
      exact hk24 l0 l1 l2 l3 h H
    · rw [if_neg c1] at H
      refine ev_iload_n dX10_order_10 rfl rfl ?_
      refine ev_iload_n dX10_order_11 rfl rfl ?_
      refine ev_iload_n dX10_order_12 rfl rfl ?_
      refine ev_ishr dX10_order_13 ?_
      refine ev_iconst (v := (1 : Int32)) dX10_order_14 (by decide) ?_
      refine ev_iand dX10_order_15 ?_
      refine ev_iadd dX10_order_16 ?_
      replace H := vl_some H
      obtain ⟨x2, ex2, H⟩ := H
      refine ev_istore_nx (loc2 := [some (.ref l0), some (.int l1), some (.int x2), some (.int l3), none, none, none, none, none]) dX10_order_17 rfl (by decide) ex2 rfl ?_
      replace H := vl_some H
      obtain ⟨x3, ex3, H⟩ := H
      refine ev_iincx (loc2 := [some (.ref l0), some (.int l1), some (.int x2), some (.int x3), none, none, none, none, none]) dX10_order_18 rfl (by decide) ex3 (by decide) rfl ?_
      refine ev_goto (tgt := 4) dX10_order_21 (by decide) ?_
      exact ih l0 l1 x2 x3 h H
def f_X10_order_L50 (k86 : Nat → Int32 → Int32 → Int32 → Int32 → Hp → Option (Int32 × Hp)) : Nat → Nat → Int32 → Int32 → Int32 → Int32 → Hp → Option (Int32 × Hp)
  | 0, _, _, _, _, _, _ => none
  | n + 1, l0, l1, l2, l3, l4, h =>
    if (12 : Int32) ≤ l4 then (
    k86 l0 l1 l2 l3 l4 h) else (
    if ((l1 >>> (l4 &&& 31)) &&& (1 : Int32)) = 0 then (
    vl (l4 + (1 : Int32)) fun x22 =>
    f_X10_order_L50 k86 n l0 l1 l2 l3 x22 h) else (
    gd (okOb h l0 10) <|
    vl (gR h l0 33) fun r16 =>
    un r16 fun b17 =>
    gd (okAb h b17 11 l3) <|
    vl (sI h b17 l3.toNatClampNeg l4) fun h19 =>
    vl (l3 + (1 : Int32)) fun x20 =>
    vl (l4 + (1 : Int32)) fun x21 =>
    f_X10_order_L50 k86 n l0 l1 l2 x20 x21 h19))
set_option maxHeartbeats 4000000 in
set_option maxRecDepth 100000 in
theorem t_X10_order_L50 {X : Cx} {d : Nat} {h0 h' : Hp} {v : Int32} {k86 : Nat → Int32 → Int32 → Int32 → Int32 → Hp → Option (Int32 × Hp)} (hD : 3 ≤ d) (hk86 : ∀ (z0 : Nat) (z1 : Int32) (z2 : Int32) (z3 : Int32) (z4 : Int32) (h : Hp), k86 z0 z1 z2 z3 z4 h = some (v, h') → EV X mX10_order d h0 (some (.int v)) h' 86 [some (.ref z0), some (.int z1), some (.int z2), some (.int z3), some (.int z4), none, none, none, none] [] h) : ∀ (n : Nat) (l0 : Nat) (l1 : Int32) (l2 : Int32) (l3 : Int32) (l4 : Int32) (h : Hp), f_X10_order_L50 k86 n l0 l1 l2 l3 l4 h = some (v, h') → EV X mX10_order d h0 (some (.int v)) h' 50 [some (.ref l0), some (.int l1), some (.int l2), some (.int l3), some (.int l4), none, none, none, none] [] h := by
  intro n
  induction n with
  | zero => intro l0 l1 l2 l3 l4 h H; simp [f_X10_order_L50] at H
  | succ n ih =>
    intro l0 l1 l2 l3 l4 h H
    rw [f_X10_order_L50] at H
    refine ev_iload dX10_order_50 rfl ?_
    refine ev_bipush (v := (12 : Int32)) dX10_order_52 (by decide) ?_
    refine ev_icmp_ge (tgt := 86) dX10_order_54 (by decide) (fun c13 => ?_) (fun c13 => ?_)
    · rw [if_pos c13] at H
      exact hk86 l0 l1 l2 l3 l4 h H
    · rw [if_neg c13] at H
      refine ev_iload_n dX10_order_57 rfl rfl ?_
      refine ev_iload dX10_order_58 rfl ?_
      refine ev_ishr dX10_order_60 ?_
      refine ev_iconst (v := (1 : Int32)) dX10_order_61 (by decide) ?_
      refine ev_iand dX10_order_62 ?_
      refine ev_if_ne (tgt := 69) dX10_order_63 (by decide) (fun c14 => ?_) (fun c14 => ?_)
      · rw [if_neg c14] at H
        refine ev_aload_n dX10_order_69 rfl rfl rfl ?_
        replace H := gd_some H
        obtain ⟨g15, H⟩ := H
        replace H := vl_some H
        obtain ⟨r16, er16, H⟩ := H
        refine ev_getRx dX10_order_70 fgX10_98 rfl (okOb.p g15) er16 ?_
        refine ev_iload_n dX10_order_73 rfl rfl ?_
        refine ev_iload dX10_order_74 rfl ?_
        replace H := un_some H
        obtain ⟨b17, eb17, H⟩ := H
        subst eb17
        replace H := gd_some H
        obtain ⟨g18, H⟩ := H
        replace H := vl_some H
        obtain ⟨h19, eh19, H⟩ := H
        refine ev_iast dX10_order_76 (okAb.p g18) eh19 ?_
        replace H := vl_some H
        obtain ⟨x20, ex20, H⟩ := H
        refine ev_iincx (loc2 := [some (.ref l0), some (.int l1), some (.int l2), some (.int x20), some (.int l4), none, none, none, none]) dX10_order_77 rfl (by decide) ex20 (by decide) rfl ?_
        replace H := vl_some H
        obtain ⟨x21, ex21, H⟩ := H
        refine ev_iincx (loc2 := [some (.ref l0), some (.int l1), some (.int l2), some (.int x20), some (.int x21), none, none, none, none]) dX10_order_80 rfl (by decide) ex21 (by decide) rfl ?_
        refine ev_goto (tgt := 50) dX10_order_83 (by decide) ?_
        exact ih l0 l1 l2 x20 x21 h19 H
      · rw [if_pos c14] at H
        refine ev_goto (tgt := 80) dX10_order_66 (by decide) ?_
        replace H := vl_some H
        obtain ⟨x22, ex22, H⟩ := H
        refine ev_iincx (loc2 := [some (.ref l0), some (.int l1), some (.int l2), some (.int l3), some (.int x22), none, none, none, none]) dX10_order_80 rfl (by decide) ex22 (by decide) rfl ?_
        refine ev_goto (tgt := 50) dX10_order_83 (by decide) ?_
        exact ih l0 l1 l2 l3 x22 h H
def f_X10_order_L89 (k124 : Nat → Int32 → Int32 → Int32 → Int32 → Hp → Option (Int32 × Hp)) : Nat → Nat → Int32 → Int32 → Int32 → Int32 → Hp → Option (Int32 × Hp)
  | 0, _, _, _, _, _, _ => none
  | n + 1, l0, l1, l2, l3, l4, h =>
    if (144 : Int32) ≤ l4 then (
    k124 l0 l1 l2 l3 l4 h) else (
    gd (okOb h l0 10) <|
    vl (gR h l0 36) fun r31 =>
    bnd (f_X10_quarrels h l0 (l4 / (12 : Int32)) (l4 - l4 / (12 : Int32) * (12 : Int32))) fun v32 h33 =>
    un r31 fun b34 =>
    gd (okAb h33 b34 11 l4) <|
    vl (sI h33 b34 l4.toNatClampNeg v32) fun h36 =>
    vl (l4 + (1 : Int32)) fun x37 =>
    f_X10_order_L89 k124 n l0 l1 l2 l3 x37 h36)
set_option maxHeartbeats 4000000 in
set_option maxRecDepth 100000 in
theorem t_X10_order_L89 {X : Cx} {d : Nat} {h0 h' : Hp} {v : Int32} {k124 : Nat → Int32 → Int32 → Int32 → Int32 → Hp → Option (Int32 × Hp)} (hD : 3 ≤ d) (hk124 : ∀ (z0 : Nat) (z1 : Int32) (z2 : Int32) (z3 : Int32) (z4 : Int32) (h : Hp), k124 z0 z1 z2 z3 z4 h = some (v, h') → EV X mX10_order d h0 (some (.int v)) h' 124 [some (.ref z0), some (.int z1), some (.int z2), some (.int z3), some (.int z4), none, none, none, none] [] h) : ∀ (n : Nat) (l0 : Nat) (l1 : Int32) (l2 : Int32) (l3 : Int32) (l4 : Int32) (h : Hp), f_X10_order_L89 k124 n l0 l1 l2 l3 l4 h = some (v, h') → EV X mX10_order d h0 (some (.int v)) h' 89 [some (.ref l0), some (.int l1), some (.int l2), some (.int l3), some (.int l4), none, none, none, none] [] h := by
  intro n
  induction n with
  | zero => intro l0 l1 l2 l3 l4 h H; simp [f_X10_order_L89] at H
  | succ n ih =>
    intro l0 l1 l2 l3 l4 h H
    rw [f_X10_order_L89] at H
    refine ev_iload dX10_order_89 rfl ?_
    refine ev_sipush (v := (144 : Int32)) dX10_order_91 (by decide) ?_
    refine ev_icmp_ge (tgt := 124) dX10_order_94 (by decide) (fun c29 => ?_) (fun c29 => ?_)
    · rw [if_pos c29] at H
      exact hk124 l0 l1 l2 l3 l4 h H
    · rw [if_neg c29] at H
      refine ev_aload_n dX10_order_97 rfl rfl rfl ?_
      replace H := gd_some H
      obtain ⟨g30, H⟩ := H
      replace H := vl_some H
      obtain ⟨r31, er31, H⟩ := H
      refine ev_getRx dX10_order_98 fgX10_107 rfl (okOb.p g30) er31 ?_
      refine ev_iload dX10_order_101 rfl ?_
      refine ev_aload_n dX10_order_103 rfl rfl rfl ?_
      refine ev_iload dX10_order_104 rfl ?_
      refine ev_bipush (v := (12 : Int32)) dX10_order_106 (by decide) ?_
      refine ev_idiv dX10_order_108 (by decide) ?_
      refine ev_iload dX10_order_109 rfl ?_
      refine ev_bipush (v := (12 : Int32)) dX10_order_111 (by decide) ?_
      refine ev_irem dX10_order_113 (by decide) ?_
      replace H := bnd_some H
      obtain ⟨v32, h33, eh33, H⟩ := H
      have ph33 := (t_X10_quarrels (X := X) (d := 1) (by omega) eh33)
      refine ev_callV (as := [.int (l4 / (12 : Int32)), .int (l4 - l4 / (12 : Int32) * (12 : Int32))]) dX10_order_114 ph33 ok_X10_quarrels (by omega) rfl k6_29 k6_31 ks_42 (ci := 10) (by decide) rfl rfl (okOb.p g30) rfl (by simp only [List.map_cons, List.map_nil, rv_cat]; exact Nat.le_of_ble_eq_true rfl) ?_
      replace H := un_some H
      obtain ⟨b34, eb34, H⟩ := H
      subst eb34
      replace H := gd_some H
      obtain ⟨g35, H⟩ := H
      replace H := vl_some H
      obtain ⟨h36, eh36, H⟩ := H
      refine ev_iast dX10_order_117 (okAb.p g35) eh36 ?_
      replace H := vl_some H
      obtain ⟨x37, ex37, H⟩ := H
      refine ev_iincx (loc2 := [some (.ref l0), some (.int l1), some (.int l2), some (.int l3), some (.int x37), none, none, none, none]) dX10_order_118 rfl (by decide) ex37 (by decide) rfl ?_
      refine ev_goto (tgt := 89) dX10_order_121 (by decide) ?_
      exact ih l0 l1 l2 l3 x37 h36 H
def f_X10_order_L155 (k195 : Nat → Int32 → Int32 → Int32 → Int32 → Int32 → Int32 → Int32 → Int32 → Hp → Option (Int32 × Hp)) : Nat → Nat → Int32 → Int32 → Int32 → Int32 → Int32 → Int32 → Int32 → Int32 → Hp → Option (Int32 × Hp)
  | 0, _, _, _, _, _, _, _, _, _, _ => none
  | n + 1, l0, l1, l2, l3, l4, l5, l6, l7, l8, h =>
    if l2 ≤ l8 then (
    k195 l0 l1 l2 l3 l4 l5 l6 l7 l8 h) else (
    gd (okOb h l0 10) <|
    vl (gR h l0 36) fun r52 =>
    vl (gR h l0 33) fun r53 =>
    un r53 fun b54 =>
    gd (okAb h b54 11 l7) <|
    vl (gI h b54 l7.toNatClampNeg) fun x56 =>
    vl (gR h l0 33) fun r57 =>
    un r57 fun b58 =>
    gd (okAb h b58 11 l8) <|
    vl (gI h b58 l8.toNatClampNeg) fun x60 =>
    un r52 fun b61 =>
    gd (okAb h b61 11 (((12 : Int32) * x56) + x60)) <|
    vl (gI h b61 (((12 : Int32) * x56) + x60).toNatClampNeg) fun x63 =>
    vl (l6 + x63) fun x64 =>
    vl (l8 + (1 : Int32)) fun x65 =>
    f_X10_order_L155 k195 n l0 l1 l2 l3 l4 l5 x64 l7 x65 h)
set_option maxHeartbeats 4000000 in
set_option maxRecDepth 100000 in
theorem t_X10_order_L155 {X : Cx} {d : Nat} {h0 h' : Hp} {v : Int32} {k195 : Nat → Int32 → Int32 → Int32 → Int32 → Int32 → Int32 → Int32 → Int32 → Hp → Option (Int32 × Hp)} (hD : 3 ≤ d) (hk195 : ∀ (z0 : Nat) (z1 : Int32) (z2 : Int32) (z3 : Int32) (z4 : Int32) (z5 : Int32) (z6 : Int32) (z7 : Int32) (z8 : Int32) (h : Hp), k195 z0 z1 z2 z3 z4 z5 z6 z7 z8 h = some (v, h') → EV X mX10_order d h0 (some (.int v)) h' 195 [some (.ref z0), some (.int z1), some (.int z2), some (.int z3), some (.int z4), some (.int z5), some (.int z6), some (.int z7), some (.int z8)] [] h) : ∀ (n : Nat) (l0 : Nat) (l1 : Int32) (l2 : Int32) (l3 : Int32) (l4 : Int32) (l5 : Int32) (l6 : Int32) (l7 : Int32) (l8 : Int32) (h : Hp), f_X10_order_L155 k195 n l0 l1 l2 l3 l4 l5 l6 l7 l8 h = some (v, h') → EV X mX10_order d h0 (some (.int v)) h' 155 [some (.ref l0), some (.int l1), some (.int l2), some (.int l3), some (.int l4), some (.int l5), some (.int l6), some (.int l7), some (.int l8)] [] h := by
  intro n
  induction n with
  | zero => intro l0 l1 l2 l3 l4 l5 l6 l7 l8 h H; simp [f_X10_order_L155] at H
  | succ n ih =>
    intro l0 l1 l2 l3 l4 l5 l6 l7 l8 h H
    rw [f_X10_order_L155] at H
    refine ev_iload dX10_order_155 rfl ?_
    refine ev_iload_n dX10_order_157 rfl rfl ?_
    refine ev_icmp_ge (tgt := 195) dX10_order_158 (by decide) (fun c50 => ?_) (fun c50 => ?_)
    · rw [if_pos c50] at H
      exact hk195 l0 l1 l2 l3 l4 l5 l6 l7 l8 h H
    · rw [if_neg c50] at H
      refine ev_iload dX10_order_161 rfl ?_
      refine ev_aload_n dX10_order_163 rfl rfl rfl ?_
      replace H := gd_some H
      obtain ⟨g51, H⟩ := H
      replace H := vl_some H
      obtain ⟨r52, er52, H⟩ := H
      refine ev_getRx dX10_order_164 fgX10_107 rfl (okOb.p g51) er52 ?_
      refine ev_bipush (v := (12 : Int32)) dX10_order_167 (by decide) ?_
      refine ev_aload_n dX10_order_169 rfl rfl rfl ?_
      replace H := vl_some H
      obtain ⟨r53, er53, H⟩ := H
      refine ev_getRx dX10_order_170 fgX10_98 rfl (okOb.p g51) er53 ?_
      refine ev_iload dX10_order_173 rfl ?_
      replace H := un_some H
      obtain ⟨b54, eb54, H⟩ := H
      subst eb54
      replace H := gd_some H
      obtain ⟨g55, H⟩ := H
      replace H := vl_some H
      obtain ⟨x56, ex56, H⟩ := H
      refine ev_ialdx dX10_order_175 (okAb.p g55) ex56 ?_
      refine ev_imul dX10_order_176 ?_
      refine ev_aload_n dX10_order_177 rfl rfl rfl ?_
      replace H := vl_some H
      obtain ⟨r57, er57, H⟩ := H
      refine ev_getRx dX10_order_178 fgX10_98 rfl (okOb.p g51) er57 ?_
      refine ev_iload dX10_order_181 rfl ?_
      replace H := un_some H
      obtain ⟨b58, eb58, H⟩ := H
      subst eb58
      replace H := gd_some H
      obtain ⟨g59, H⟩ := H
      replace H := vl_some H
      obtain ⟨x60, ex60, H⟩ := H
      refine ev_ialdx dX10_order_183 (okAb.p g59) ex60 ?_
      refine ev_iadd dX10_order_184 ?_
      replace H := un_some H
      obtain ⟨b61, eb61, H⟩ := H
      subst eb61
      replace H := gd_some H
      obtain ⟨g62, H⟩ := H
      replace H := vl_some H
      obtain ⟨x63, ex63, H⟩ := H
      refine ev_ialdx dX10_order_185 (okAb.p g62) ex63 ?_
      refine ev_iadd dX10_order_186 ?_
      replace H := vl_some H
      obtain ⟨x64, ex64, H⟩ := H
      refine ev_istorex (loc2 := [some (.ref l0), some (.int l1), some (.int l2), some (.int l3), some (.int l4), some (.int l5), some (.int x64), some (.int l7), some (.int l8)]) dX10_order_187 (by decide) ex64 rfl ?_
      replace H := vl_some H
      obtain ⟨x65, ex65, H⟩ := H
      refine ev_iincx (loc2 := [some (.ref l0), some (.int l1), some (.int l2), some (.int l3), some (.int l4), some (.int l5), some (.int x64), some (.int l7), some (.int x65)]) dX10_order_189 rfl (by decide) ex65 (by decide) rfl ?_
      refine ev_goto (tgt := 155) dX10_order_192 (by decide) ?_
      exact ih l0 l1 l2 l3 l4 l5 x64 l7 x65 h H
def f_X10_order_L143 (k201 : Nat → Int32 → Int32 → Int32 → Int32 → Int32 → Int32 → Int32 → Hp → Option (Int32 × Hp)) : Nat → Nat → Int32 → Int32 → Int32 → Int32 → Int32 → Int32 → Int32 → Hp → Option (Int32 × Hp)
  | 0, _, _, _, _, _, _, _, _, _ => none
  | n + 1, l0, l1, l2, l3, l4, l5, l6, l7, h =>
    if l2 ≤ l7 then (
    k201 l0 l1 l2 l3 l4 l5 l6 l7 h) else (
    vl (l7 + (1 : Int32)) fun x49 =>
    f_X10_order_L155 (fun y66 y67 y68 y69 y70 y71 y72 y73 y74 h75 =>
    vl (y73 + (1 : Int32)) fun x76 =>
    f_X10_order_L143 k201 n y66 y67 y68 y69 y70 y71 y72 x76 h75) 6000 l0 l1 l2 l3 l4 l5 l6 l7 x49 h)
set_option maxHeartbeats 4000000 in
set_option maxRecDepth 100000 in
theorem t_X10_order_L143 {X : Cx} {d : Nat} {h0 h' : Hp} {v : Int32} {k201 : Nat → Int32 → Int32 → Int32 → Int32 → Int32 → Int32 → Int32 → Hp → Option (Int32 × Hp)} (hD : 3 ≤ d) (hk201 : ∀ (z0 : Nat) (z1 : Int32) (z2 : Int32) (z3 : Int32) (z4 : Int32) (z5 : Int32) (z6 : Int32) (z7 : Int32) (h : Hp), k201 z0 z1 z2 z3 z4 z5 z6 z7 h = some (v, h') → EV X mX10_order d h0 (some (.int v)) h' 201 [some (.ref z0), some (.int z1), some (.int z2), some (.int z3), some (.int z4), some (.int z5), some (.int z6), some (.int z7), none] [] h) : ∀ (n : Nat) (l0 : Nat) (l1 : Int32) (l2 : Int32) (l3 : Int32) (l4 : Int32) (l5 : Int32) (l6 : Int32) (l7 : Int32) (h : Hp), f_X10_order_L143 k201 n l0 l1 l2 l3 l4 l5 l6 l7 h = some (v, h') → EV X mX10_order d h0 (some (.int v)) h' 143 [some (.ref l0), some (.int l1), some (.int l2), some (.int l3), some (.int l4), some (.int l5), some (.int l6), some (.int l7), none] [] h := by
  intro n
  induction n with
  | zero => intro l0 l1 l2 l3 l4 l5 l6 l7 h H; simp [f_X10_order_L143] at H
  | succ n ih =>
    intro l0 l1 l2 l3 l4 l5 l6 l7 h H
    rw [f_X10_order_L143] at H
    refine ev_iload dX10_order_143 rfl ?_
    refine ev_iload_n dX10_order_145 rfl rfl ?_
    refine ev_icmp_ge (tgt := 201) dX10_order_146 (by decide) (fun c48 => ?_) (fun c48 => ?_)
    · rw [if_pos c48] at H
      exact hk201 l0 l1 l2 l3 l4 l5 l6 l7 h H
    · rw [if_neg c48] at H
      refine ev_iload dX10_order_149 rfl ?_
      refine ev_iconst (v := (1 : Int32)) dX10_order_151 (by decide) ?_
      refine ev_iadd dX10_order_152 ?_
      replace H := vl_some H
      obtain ⟨x49, ex49, H⟩ := H
      refine ev_istorex (loc2 := [some (.ref l0), some (.int l1), some (.int l2), some (.int l3), some (.int l4), some (.int l5), some (.int l6), some (.int l7), some (.int x49)]) dX10_order_153 (by decide) ex49 rfl ?_
      refine t_X10_order_L155 hD ?_ 6000 l0 l1 l2 l3 l4 l5 l6 l7 x49 h H
      · intro y66 y67 y68 y69 y70 y71 y72 y73 y74 h75 H
        replace H := vl_some H
        obtain ⟨x76, ex76, H⟩ := H
        refine ev_iincx (loc2 := [some (.ref y66), some (.int y67), some (.int y68), some (.int y69), some (.int y70), some (.int y71), some (.int y72), some (.int x76), some (.int y74)]) dX10_order_195 rfl (by decide) ex76 (by decide) rfl ?_
        refine ev_goto (tgt := 143) dX10_order_198 (by decide) ?_
        refine ev_drop (loc2 := [some (.ref y66), some (.int y67), some (.int y68), some (.int y69), some (.int y70), some (.int y71), some (.int y72), some (.int x76), none]) [true, true, true, true, true, true, true, true, false] rfl ?_
        exact ih y66 y67 y68 y69 y70 y71 y72 x76 h75 H
def f_X10_order_J246 (k132 : Nat → Int32 → Int32 → Int32 → Int32 → Int32 → Hp → Option (Int32 × Hp)) (l0 : Nat) (l1 : Int32) (l2 : Int32) (l3 : Int32) (l4 : Int32) (l5 : Int32) (l6 : Int32) (l7 : Int32) (h : Hp) : Option (Int32 × Hp) :=
if l6 = l4 then (
gd (okOb h l0 10) <|
vl (gI h l0 38) fun x92 =>
vl (sI h l0 38 (x92 + (1 : Int32))) fun h93 =>
bnd (f_X10_next h93 l0 l2) fun v94 h95 =>
k132 l0 l1 l2 l3 l4 v94 h95) else (
gd (okOb h l0 10) <|
bnd (f_X10_next h l0 l2) fun v89 h90 =>
k132 l0 l1 l2 l3 l4 v89 h90)
set_option maxHeartbeats 4000000 in
set_option maxRecDepth 100000 in
theorem t_X10_order_J246 {X : Cx} {d : Nat} {h0 h' : Hp} {v : Int32} {k132 : Nat → Int32 → Int32 → Int32 → Int32 → Int32 → Hp → Option (Int32 × Hp)} (hD : 3 ≤ d) (hk132 : ∀ (z0 : Nat) (z1 : Int32) (z2 : Int32) (z3 : Int32) (z4 : Int32) (z5 : Int32) (h : Hp), k132 z0 z1 z2 z3 z4 z5 h = some (v, h') → EV X mX10_order d h0 (some (.int v)) h' 132 [some (.ref z0), some (.int z1), some (.int z2), some (.int z3), some (.int z4), some (.int z5), none, none, none] [] h) : ∀ (l0 : Nat) (l1 : Int32) (l2 : Int32) (l3 : Int32) (l4 : Int32) (l5 : Int32) (l6 : Int32) (l7 : Int32) (h : Hp), f_X10_order_J246 k132 l0 l1 l2 l3 l4 l5 l6 l7 h = some (v, h') → EV X mX10_order d h0 (some (.int v)) h' 246 [some (.ref l0), some (.int l1), some (.int l2), some (.int l3), some (.int l4), some (.int l5), some (.int l6), some (.int l7), none] [] h := by
  intro l0 l1 l2 l3 l4 l5 l6 l7 h H
  unfold f_X10_order_J246 at H
  refine ev_iload dX10_order_246 rfl ?_
  refine ev_iload dX10_order_248 rfl ?_
  refine ev_icmp_ne (tgt := 263) dX10_order_250 (by decide) (fun c87 => ?_) (fun c87 => ?_)
  · rw [if_neg c87] at H
    refine ev_aload_n dX10_order_263 rfl rfl rfl ?_
    refine ev_iload_n dX10_order_264 rfl rfl ?_
    replace H := gd_some H
    obtain ⟨g88, H⟩ := H
    replace H := bnd_some H
    obtain ⟨v89, h90, eh90, H⟩ := H
    have ph90 := (t_X10_next (X := X) (d := 2) (by omega) eh90)
    refine ev_callV (as := [.int l2]) dX10_order_265 ph90 ok_X10_next (by omega) rfl k6_34 k6_36 ks_43 (ci := 10) (by decide) rfl rfl (okOb.p g88) rfl (Nat.le_of_ble_eq_true rfl) ?_
    refine ev_istore (loc2 := [some (.ref l0), some (.int l1), some (.int l2), some (.int l3), some (.int l4), some (.int v89), some (.int l6), some (.int l7), none]) dX10_order_268 (by decide) rfl ?_
    refine ev_goto (tgt := 132) dX10_order_270 (by decide) ?_
    refine ev_drop (loc2 := [some (.ref l0), some (.int l1), some (.int l2), some (.int l3), some (.int l4), some (.int v89), none, none, none]) [true, true, true, true, true, true, false, false, true] rfl ?_
    exact hk132 l0 l1 l2 l3 l4 v89 h90 H
  · rw [if_pos c87] at H
    refine ev_aload_n dX10_order_253 rfl rfl rfl ?_
    refine ev_dup dX10_order_254 rfl ?_
    replace H := gd_some H
    obtain ⟨g91, H⟩ := H
    replace H := vl_some H
    obtain ⟨x92, ex92, H⟩ := H
    refine ev_getIx dX10_order_255 fgX10_258 rfl (okOb.p g91) ex92 ?_
    refine ev_iconst (v := (1 : Int32)) dX10_order_258 (by decide) ?_
    refine ev_iadd dX10_order_259 ?_
    replace H := vl_some H
    obtain ⟨h93, eh93, H⟩ := H
    refine ev_putI dX10_order_260 fdX10_258 rfl rfl rfl (okOb.p g91) eh93 ?_
    refine ev_aload_n dX10_order_263 rfl rfl rfl ?_
    refine ev_iload_n dX10_order_264 rfl rfl ?_
    replace H := bnd_some H
    obtain ⟨v94, h95, eh95, H⟩ := H
    have ph95 := (t_X10_next (X := X) (d := 2) (by omega) eh95)
    refine ev_callV (as := [.int l2]) dX10_order_265 ph95 ok_X10_next (by omega) rfl k6_34 k6_36 ks_43 (ci := 10) (by decide) rfl rfl (okO_sI eh93 (okOb.p g91)) rfl (Nat.le_of_ble_eq_true rfl) ?_
    refine ev_istore (loc2 := [some (.ref l0), some (.int l1), some (.int l2), some (.int l3), some (.int l4), some (.int v94), some (.int l6), some (.int l7), none]) dX10_order_268 (by decide) rfl ?_
    refine ev_goto (tgt := 132) dX10_order_270 (by decide) ?_
    refine ev_drop (loc2 := [some (.ref l0), some (.int l1), some (.int l2), some (.int l3), some (.int l4), some (.int v94), none, none, none]) [true, true, true, true, true, true, false, false, true] rfl ?_
    exact hk132 l0 l1 l2 l3 l4 v94 h95 H
def f_X10_order_L220 (k246 : Nat → Int32 → Int32 → Int32 → Int32 → Int32 → Int32 → Int32 → Hp → Option (Int32 × Hp)) : Nat → Nat → Int32 → Int32 → Int32 → Int32 → Int32 → Int32 → Int32 → Hp → Option (Int32 × Hp)
  | 0, _, _, _, _, _, _, _, _, _ => none
  | n + 1, l0, l1, l2, l3, l4, l5, l6, l7, h =>
    if l2 ≤ l7 then (
    k246 l0 l1 l2 l3 l4 l5 l6 l7 h) else (
    gd (okOb h l0 10) <|
    vl (gR h l0 35) fun r100 =>
    vl (gR h l0 33) fun r101 =>
    un r101 fun b102 =>
    gd (okAb h b102 11 l7) <|
    vl (gI h b102 l7.toNatClampNeg) fun x104 =>
    un r100 fun b105 =>
    gd (okAb h b105 11 l7) <|
    vl (sI h b105 l7.toNatClampNeg x104) fun h107 =>
    vl (l7 + (1 : Int32)) fun x108 =>
    f_X10_order_L220 k246 n l0 l1 l2 l3 l4 l5 l6 x108 h107)
set_option maxHeartbeats 4000000 in
set_option maxRecDepth 100000 in
theorem t_X10_order_L220 {X : Cx} {d : Nat} {h0 h' : Hp} {v : Int32} {k246 : Nat → Int32 → Int32 → Int32 → Int32 → Int32 → Int32 → Int32 → Hp → Option (Int32 × Hp)} (hD : 3 ≤ d) (hk246 : ∀ (z0 : Nat) (z1 : Int32) (z2 : Int32) (z3 : Int32) (z4 : Int32) (z5 : Int32) (z6 : Int32) (z7 : Int32) (h : Hp), k246 z0 z1 z2 z3 z4 z5 z6 z7 h = some (v, h') → EV X mX10_order d h0 (some (.int v)) h' 246 [some (.ref z0), some (.int z1), some (.int z2), some (.int z3), some (.int z4), some (.int z5), some (.int z6), some (.int z7), none] [] h) : ∀ (n : Nat) (l0 : Nat) (l1 : Int32) (l2 : Int32) (l3 : Int32) (l4 : Int32) (l5 : Int32) (l6 : Int32) (l7 : Int32) (h : Hp), f_X10_order_L220 k246 n l0 l1 l2 l3 l4 l5 l6 l7 h = some (v, h') → EV X mX10_order d h0 (some (.int v)) h' 220 [some (.ref l0), some (.int l1), some (.int l2), some (.int l3), some (.int l4), some (.int l5), some (.int l6), some (.int l7), none] [] h := by
  intro n
  induction n with
  | zero => intro l0 l1 l2 l3 l4 l5 l6 l7 h H; simp [f_X10_order_L220] at H
  | succ n ih =>
    intro l0 l1 l2 l3 l4 l5 l6 l7 h H
    rw [f_X10_order_L220] at H
    refine ev_iload dX10_order_220 rfl ?_
    refine ev_iload_n dX10_order_222 rfl rfl ?_
    refine ev_icmp_ge (tgt := 246) dX10_order_223 (by decide) (fun c98 => ?_) (fun c98 => ?_)
    · rw [if_pos c98] at H
      exact hk246 l0 l1 l2 l3 l4 l5 l6 l7 h H
    · rw [if_neg c98] at H
      refine ev_aload_n dX10_order_226 rfl rfl rfl ?_
      replace H := gd_some H
      obtain ⟨g99, H⟩ := H
      replace H := vl_some H
      obtain ⟨r100, er100, H⟩ := H
      refine ev_getRx dX10_order_227 fgX10_104 rfl (okOb.p g99) er100 ?_
      refine ev_iload dX10_order_230 rfl ?_
      refine ev_aload_n dX10_order_232 rfl rfl rfl ?_
      replace H := vl_some H
      obtain ⟨r101, er101, H⟩ := H
      refine ev_getRx dX10_order_233 fgX10_98 rfl (okOb.p g99) er101 ?_
      refine ev_iload dX10_order_236 rfl ?_
      replace H := un_some H
      obtain ⟨b102, eb102, H⟩ := H
      subst eb102
      replace H := gd_some H
      obtain ⟨g103, H⟩ := H
      replace H := vl_some H
      obtain ⟨x104, ex104, H⟩ := H
      refine ev_ialdx dX10_order_238 (okAb.p g103) ex104 ?_
      replace H := un_some H
      obtain ⟨b105, eb105, H⟩ := H
      subst eb105
      replace H := gd_some H
      obtain ⟨g106, H⟩ := H
      replace H := vl_some H
      obtain ⟨h107, eh107, H⟩ := H
      refine ev_iast dX10_order_239 (okAb.p g106) eh107 ?_
      replace H := vl_some H
      obtain ⟨x108, ex108, H⟩ := H
      refine ev_iincx (loc2 := [some (.ref l0), some (.int l1), some (.int l2), some (.int l3), some (.int l4), some (.int l5), some (.int l6), some (.int x108), none]) dX10_order_240 rfl (by decide) ex108 (by decide) rfl ?_
      refine ev_goto (tgt := 220) dX10_order_243 (by decide) ?_
      exact ih l0 l1 l2 l3 l4 l5 l6 x108 h107 H
def f_X10_order_L132 : Nat → Nat → Int32 → Int32 → Int32 → Int32 → Int32 → Hp → Option (Int32 × Hp)
  | 0, _, _, _, _, _, _, _ => none
  | n + 1, l0, l1, l2, l3, l4, l5, h =>
    if l5 = 0 then (
    gd (okOb h l0 10) <|
    vl (sI h l0 37 l2) fun h46 =>
    vl (sI h46 l0 39 (1 : Int32)) fun h47 =>
    some (l4, h47)) else (
    f_X10_order_L143 (fun y77 y78 y79 y80 y81 y82 y83 y84 h85 =>
    if y81 ≤ y83 then (
    f_X10_order_J246 (f_X10_order_L132 n) y77 y78 y79 y80 y81 y82 y83 y84 h85) else (
    gd (okOb h85 y77 10) <|
    vl (sI h85 y77 38 (0 : Int32)) fun h97 =>
    f_X10_order_L220 (fun y109 y110 y111 y112 y113 y114 y115 y116 h117 =>
    f_X10_order_J246 (f_X10_order_L132 n) y109 y110 y111 y112 y113 y114 y115 y116 h117) 6000 y77 y78 y79 y80 y83 y82 y83 (0 : Int32) h97)) 6000 l0 l1 l2 l3 l4 l5 (0 : Int32) (0 : Int32) h)
set_option maxHeartbeats 4000000 in
set_option maxRecDepth 100000 in
theorem t_X10_order_L132 {X : Cx} {d : Nat} {h0 h' : Hp} {v : Int32} (hD : 3 ≤ d) : ∀ (n : Nat) (l0 : Nat) (l1 : Int32) (l2 : Int32) (l3 : Int32) (l4 : Int32) (l5 : Int32) (h : Hp), f_X10_order_L132 n l0 l1 l2 l3 l4 l5 h = some (v, h') → EV X mX10_order d h0 (some (.int v)) h' 132 [some (.ref l0), some (.int l1), some (.int l2), some (.int l3), some (.int l4), some (.int l5), none, none, none] [] h := by
  intro n
  induction n with
  | zero => intro l0 l1 l2 l3 l4 l5 h H; simp [f_X10_order_L132] at H
  | succ n ih =>
    intro l0 l1 l2 l3 l4 l5 h H
    rw [f_X10_order_L132] at H
    refine ev_iload dX10_order_132 rfl ?_
    refine ev_if_eq (tgt := 273) dX10_order_134 (by decide) (fun c44 => ?_) (fun c44 => ?_)
    · rw [if_pos c44] at H
      refine ev_aload_n dX10_order_273 rfl rfl rfl ?_
      refine ev_iload_n dX10_order_274 rfl rfl ?_
      replace H := gd_some H
      obtain ⟨g45, H⟩ := H
      replace H := vl_some H
      obtain ⟨h46, eh46, H⟩ := H
      refine ev_putI dX10_order_275 fdX10_264 rfl rfl rfl (okOb.p g45) eh46 ?_
      refine ev_aload_n dX10_order_278 rfl rfl rfl ?_
      refine ev_iconst (v := (1 : Int32)) dX10_order_279 (by decide) ?_
      replace H := vl_some H
      obtain ⟨h47, eh47, H⟩ := H
      refine ev_putI dX10_order_280 fdX10_267 rfl rfl rfl (okO_sI eh46 (okOb.p g45)) eh47 ?_
      refine ev_iload dX10_order_283 rfl ?_
      exact ev_iretx dX10_order_285 rfl rfl H
    · rw [if_neg c44] at H
      refine ev_iconst (v := (0 : Int32)) dX10_order_137 (by decide) ?_
      refine ev_istore (loc2 := [some (.ref l0), some (.int l1), some (.int l2), some (.int l3), some (.int l4), some (.int l5), some (.int (0 : Int32)), none, none]) dX10_order_138 (by decide) rfl ?_
      refine ev_iconst (v := (0 : Int32)) dX10_order_140 (by decide) ?_
      refine ev_istore (loc2 := [some (.ref l0), some (.int l1), some (.int l2), some (.int l3), some (.int l4), some (.int l5), some (.int (0 : Int32)), some (.int (0 : Int32)), none]) dX10_order_141 (by decide) rfl ?_
      refine t_X10_order_L143 hD ?_ 6000 l0 l1 l2 l3 l4 l5 (0 : Int32) (0 : Int32) h H
      · intro y77 y78 y79 y80 y81 y82 y83 y84 h85 H
        refine ev_iload dX10_order_201 rfl ?_
        refine ev_iload dX10_order_203 rfl ?_
        refine ev_icmp_ge (tgt := 246) dX10_order_205 (by decide) (fun c86 => ?_) (fun c86 => ?_)
        · rw [if_pos c86] at H
          exact t_X10_order_J246 hD ih y77 y78 y79 y80 y81 y82 y83 y84 h85 H
        · rw [if_neg c86] at H
          refine ev_iload dX10_order_208 rfl ?_
          refine ev_istore (loc2 := [some (.ref y77), some (.int y78), some (.int y79), some (.int y80), some (.int y83), some (.int y82), some (.int y83), some (.int y84), none]) dX10_order_210 (by decide) rfl ?_
          refine ev_aload_n dX10_order_212 rfl rfl rfl ?_
          refine ev_iconst (v := (0 : Int32)) dX10_order_213 (by decide) ?_
          replace H := gd_some H
          obtain ⟨g96, H⟩ := H
          replace H := vl_some H
          obtain ⟨h97, eh97, H⟩ := H
          refine ev_putI dX10_order_214 fdX10_258 rfl rfl rfl (okOb.p g96) eh97 ?_
          refine ev_iconst (v := (0 : Int32)) dX10_order_217 (by decide) ?_
          refine ev_istore (loc2 := [some (.ref y77), some (.int y78), some (.int y79), some (.int y80), some (.int y83), some (.int y82), some (.int y83), some (.int (0 : Int32)), none]) dX10_order_218 (by decide) rfl ?_
          refine t_X10_order_L220 hD ?_ 6000 y77 y78 y79 y80 y83 y82 y83 (0 : Int32) h97 H
          · intro y109 y110 y111 y112 y113 y114 y115 y116 h117 H
            exact t_X10_order_J246 hD ih y109 y110 y111 y112 y113 y114 y115 y116 h117 H
def f_X10_order (h : Hp) (a0 : Nat) (a1 : Int32) : Option (Int32 × Hp) :=
f_X10_order_L4 (fun y4 y5 y6 y7 h8 =>
bnd (f_X10_isIn h8 (y5.toInt64) (1 : Int64) (4095 : Int64)) fun v9 h10 =>
if v9 = 0 then (
some ((-2 : Int32), h10)) else (
if y6 ≤ (7 : Int32) then (
f_X10_order_L50 (fun y23 y24 y25 y26 y27 h28 =>
f_X10_order_L89 (fun y38 y39 y40 y41 y42 h43 =>
f_X10_order_L132 6000 y38 y39 y40 y41 (1000000 : Int32) (1 : Int32) h43) 6000 y23 y24 y25 y26 (0 : Int32) h28) 6000 y4 y5 y6 (0 : Int32) (0 : Int32) h10) else (
some ((-2 : Int32), h10)))) 6000 a0 a1 (0 : Int32) (0 : Int32) h
set_option maxHeartbeats 4000000 in
set_option maxRecDepth 100000 in
theorem t_X10_order {X : Cx} {d : Nat} {h : Hp} {a0 : Nat} {a1 : Int32} {v : Int32} {h' : Hp} (hD : 3 ≤ d) (H : f_X10_order h a0 a1 = some (v, h')) : PM X mX10_order d [.ref a0, .int a1] h (some (.int v)) h' := by
  unfold f_X10_order at H
  refine PM.of (loc := [some (.ref a0), some (.int a1), none, none, none, none, none, none, none]) (by decide) rfl (Nat.le_of_ble_eq_true rfl) ?_
  refine ev_iconst (v := (0 : Int32)) dX10_order_0 (by decide) ?_
  refine ev_istore_n (loc2 := [some (.ref a0), some (.int a1), some (.int (0 : Int32)), none, none, none, none, none, none]) dX10_order_1 rfl (by decide) rfl ?_
  refine ev_iconst (v := (0 : Int32)) dX10_order_2 (by decide) ?_
  refine ev_istore_n (loc2 := [some (.ref a0), some (.int a1), some (.int (0 : Int32)), some (.int (0 : Int32)), none, none, none, none, none]) dX10_order_3 rfl (by decide) rfl ?_
  refine t_X10_order_L4 hD ?_ 6000 a0 a1 (0 : Int32) (0 : Int32) h H
  · intro y4 y5 y6 y7 h8 H
    refine ev_iload_n dX10_order_24 rfl rfl ?_
    refine ev_i2l dX10_order_25 rfl ?_
    refine ev_lconst (v := (1 : Int64)) dX10_order_26 (by decide) ?_
    refine ev_ldc2 (v := (4095 : Int64)) dX10_order_27 k6_28 ?_
    replace H := bnd_some H
    obtain ⟨v9, h10, eh10, H⟩ := H
    have ph10 := (t_X10_isIn (X := X) (d := 1) (by omega) eh10)
    refine ev_callS (as := [.long (y5.toInt64), .long (1 : Int64), .long (4095 : Int64)]) dX10_order_30 ph10 ok_X10_isIn (by omega) rfl k5_88 k5_89 rfl (Nat.le_of_ble_eq_true rfl) ?_
    refine ev_if_eq (tgt := 42) dX10_order_33 (by decide) (fun c11 => ?_) (fun c11 => ?_)
    · rw [if_pos c11] at H
      refine ev_bipush (v := (-2 : Int32)) dX10_order_42 (by decide) ?_
      exact ev_iretx dX10_order_44 rfl rfl H
    · rw [if_neg c11] at H
      refine ev_iload_n dX10_order_36 rfl rfl ?_
      refine ev_bipush (v := (7 : Int32)) dX10_order_37 (by decide) ?_
      refine ev_icmp_le (tgt := 45) dX10_order_39 (by decide) (fun c12 => ?_) (fun c12 => ?_)
      · rw [if_pos c12] at H
        refine ev_iconst (v := (0 : Int32)) dX10_order_45 (by decide) ?_
        refine ev_istore_n (loc2 := [some (.ref y4), some (.int y5), some (.int y6), some (.int (0 : Int32)), none, none, none, none, none]) dX10_order_46 rfl (by decide) rfl ?_
        refine ev_iconst (v := (0 : Int32)) dX10_order_47 (by decide) ?_
        refine ev_istore (loc2 := [some (.ref y4), some (.int y5), some (.int y6), some (.int (0 : Int32)), some (.int (0 : Int32)), none, none, none, none]) dX10_order_48 (by decide) rfl ?_
        refine t_X10_order_L50 hD ?_ 6000 y4 y5 y6 (0 : Int32) (0 : Int32) h10 H
        · intro y23 y24 y25 y26 y27 h28 H
          refine ev_iconst (v := (0 : Int32)) dX10_order_86 (by decide) ?_
          refine ev_istore (loc2 := [some (.ref y23), some (.int y24), some (.int y25), some (.int y26), some (.int (0 : Int32)), none, none, none, none]) dX10_order_87 (by decide) rfl ?_
          refine t_X10_order_L89 hD ?_ 6000 y23 y24 y25 y26 (0 : Int32) h28 H
          · intro y38 y39 y40 y41 y42 h43 H
            refine ev_ldcw (v := (1000000 : Int32)) dX10_order_124 k6_33 ?_
            refine ev_istore (loc2 := [some (.ref y38), some (.int y39), some (.int y40), some (.int y41), some (.int (1000000 : Int32)), none, none, none, none]) dX10_order_127 (by decide) rfl ?_
            refine ev_iconst (v := (1 : Int32)) dX10_order_129 (by decide) ?_
            refine ev_istore (loc2 := [some (.ref y38), some (.int y39), some (.int y40), some (.int y41), some (.int (1000000 : Int32)), some (.int (1 : Int32)), none, none, none]) dX10_order_130 (by decide) rfl ?_
            refine t_X10_order_L132 hD  6000 y38 y39 y40 y41 (1000000 : Int32) (1 : Int32) h43 H
      · rw [if_neg c12] at H
        refine ev_bipush (v := (-2 : Int32)) dX10_order_42 (by decide) ?_
        exact ev_iretx dX10_order_44 rfl rfl H

theorem dX10_ordered_0 : decode cX10_ordered 0 = .ok (.iload_n 1, 1) := by decide +kernel
theorem dX10_ordered_1 : decode cX10_ordered 1 = .ok (.i2l, 1) := by decide +kernel
theorem dX10_ordered_2 : decode cX10_ordered 2 = .ok (.lconst 0, 1) := by decide +kernel
theorem dX10_ordered_3 : decode cX10_ordered 3 = .ok (.aload_n 0, 1) := by decide +kernel
theorem dX10_ordered_4 : decode cX10_ordered 4 = .ok (.getfield 264, 3) := by decide +kernel
theorem dX10_ordered_7 : decode cX10_ordered 7 = .ok (.iconst 1, 1) := by decide +kernel
theorem dX10_ordered_8 : decode cX10_ordered 8 = .ok (.isub, 1) := by decide +kernel
theorem dX10_ordered_9 : decode cX10_ordered 9 = .ok (.i2l, 1) := by decide +kernel
theorem dX10_ordered_10 : decode cX10_ordered 10 = .ok (.invokestatic 151, 3) := by decide +kernel
theorem dX10_ordered_13 : decode cX10_ordered 13 = .ok (.ifCond .eq 12, 3) := by decide +kernel
theorem dX10_ordered_16 : decode cX10_ordered 16 = .ok (.aload_n 0, 1) := by decide +kernel
theorem dX10_ordered_17 : decode cX10_ordered 17 = .ok (.getfield 104, 3) := by decide +kernel
theorem dX10_ordered_20 : decode cX10_ordered 20 = .ok (.iload_n 1, 1) := by decide +kernel
theorem dX10_ordered_21 : decode cX10_ordered 21 = .ok (.iaload, 1) := by decide +kernel
theorem dX10_ordered_22 : decode cX10_ordered 22 = .ok (.goto 4, 3) := by decide +kernel
theorem dX10_ordered_25 : decode cX10_ordered 25 = .ok (.iconst (-1), 1) := by decide +kernel
theorem dX10_ordered_26 : decode cX10_ordered 26 = .ok (.ireturn, 1) := by decide +kernel
def f_X10_ordered (h : Hp) (a0 : Nat) (a1 : Int32) : Option (Int32 × Hp) :=
gd (okOb h a0 10) <|
vl (gI h a0 37) fun x2 =>
bnd (f_X10_isIn h (a1.toInt64) (0 : Int64) ((x2 - (1 : Int32)).toInt64)) fun v3 h4 =>
if v3 = 0 then (
some ((-1 : Int32), h4)) else (
vl (gR h4 a0 35) fun r6 =>
un r6 fun b7 =>
gd (okAb h4 b7 11 a1) <|
vl (gI h4 b7 a1.toNatClampNeg) fun x9 =>
some (x9, h4))
set_option maxHeartbeats 4000000 in
set_option maxRecDepth 100000 in
theorem t_X10_ordered {X : Cx} {d : Nat} {h : Hp} {a0 : Nat} {a1 : Int32} {v : Int32} {h' : Hp} (hD : 2 ≤ d) (H : f_X10_ordered h a0 a1 = some (v, h')) : PM X mX10_ordered d [.ref a0, .int a1] h (some (.int v)) h' := by
  unfold f_X10_ordered at H
  refine PM.of (loc := [some (.ref a0), some (.int a1)]) (by decide) rfl (Nat.le_of_ble_eq_true rfl) ?_
  refine ev_iload_n dX10_ordered_0 rfl rfl ?_
  refine ev_i2l dX10_ordered_1 rfl ?_
  refine ev_lconst (v := (0 : Int64)) dX10_ordered_2 (by decide) ?_
  refine ev_aload_n dX10_ordered_3 rfl rfl rfl ?_
  replace H := gd_some H
  obtain ⟨g1, H⟩ := H
  replace H := vl_some H
  obtain ⟨x2, ex2, H⟩ := H
  refine ev_getIx dX10_ordered_4 fgX10_264 rfl (okOb.p g1) ex2 ?_
  refine ev_iconst (v := (1 : Int32)) dX10_ordered_7 (by decide) ?_
  refine ev_isub dX10_ordered_8 ?_
  refine ev_i2l dX10_ordered_9 rfl ?_
  replace H := bnd_some H
  obtain ⟨v3, h4, eh4, H⟩ := H
  have ph4 := (t_X10_isIn (X := X) (d := 1) (by omega) eh4)
  refine ev_callS (as := [.long (a1.toInt64), .long (0 : Int64), .long ((x2 - (1 : Int32)).toInt64)]) dX10_ordered_10 ph4 ok_X10_isIn (by omega) rfl k5_88 k5_89 rfl (Nat.le_of_ble_eq_true rfl) ?_
  refine ev_if_eq (tgt := 25) dX10_ordered_13 (by decide) (fun c5 => ?_) (fun c5 => ?_)
  · rw [if_pos c5] at H
    refine ev_iconst (v := (-1 : Int32)) dX10_ordered_25 (by decide) ?_
    exact ev_iretx dX10_ordered_26 rfl rfl H
  · rw [if_neg c5] at H
    refine ev_aload_n dX10_ordered_16 rfl rfl rfl ?_
    replace H := vl_some H
    obtain ⟨r6, er6, H⟩ := H
    refine ev_getRx dX10_ordered_17 fgX10_104 rfl (okO_ext ph4.1 (okOb.p g1)) er6 ?_
    refine ev_iload_n dX10_ordered_20 rfl rfl ?_
    replace H := un_some H
    obtain ⟨b7, eb7, H⟩ := H
    subst eb7
    replace H := gd_some H
    obtain ⟨g8, H⟩ := H
    replace H := vl_some H
    obtain ⟨x9, ex9, H⟩ := H
    refine ev_ialdx dX10_ordered_21 (okAb.p g8) ex9 ?_
    refine ev_goto (tgt := 26) dX10_ordered_22 (by decide) ?_
    exact ev_iretx dX10_ordered_26 rfl rfl H

theorem dX10_rivals_0 : decode cX10_rivals 0 = .ok (.aload_n 0, 1) := by decide +kernel
theorem dX10_rivals_1 : decode cX10_rivals 1 = .ok (.getfield 267, 3) := by decide +kernel
theorem dX10_rivals_4 : decode cX10_rivals 4 = .ok (.ifCond .eq 10, 3) := by decide +kernel
theorem dX10_rivals_7 : decode cX10_rivals 7 = .ok (.aload_n 0, 1) := by decide +kernel
theorem dX10_rivals_8 : decode cX10_rivals 8 = .ok (.getfield 258, 3) := by decide +kernel
theorem dX10_rivals_11 : decode cX10_rivals 11 = .ok (.goto 5, 3) := by decide +kernel
theorem dX10_rivals_14 : decode cX10_rivals 14 = .ok (.bipush (-3), 2) := by decide +kernel
theorem dX10_rivals_16 : decode cX10_rivals 16 = .ok (.ireturn, 1) := by decide +kernel
def f_X10_rivals (h : Hp) (a0 : Nat) : Option (Int32 × Hp) :=
gd (okOb h a0 10) <|
vl (gI h a0 39) fun x2 =>
if x2 = 0 then (
some ((-3 : Int32), h)) else (
vl (gI h a0 38) fun x4 =>
some (x4, h))
set_option maxHeartbeats 4000000 in
set_option maxRecDepth 100000 in
theorem t_X10_rivals {X : Cx} {d : Nat} {h : Hp} {a0 : Nat} {v : Int32} {h' : Hp} (hD : 1 ≤ d) (H : f_X10_rivals h a0 = some (v, h')) : PM X mX10_rivals d [.ref a0] h (some (.int v)) h' := by
  unfold f_X10_rivals at H
  refine PM.of (loc := [some (.ref a0)]) (by decide) rfl (Nat.le_of_ble_eq_true rfl) ?_
  refine ev_aload_n dX10_rivals_0 rfl rfl rfl ?_
  replace H := gd_some H
  obtain ⟨g1, H⟩ := H
  replace H := vl_some H
  obtain ⟨x2, ex2, H⟩ := H
  refine ev_getIx dX10_rivals_1 fgX10_267 rfl (okOb.p g1) ex2 ?_
  refine ev_if_eq (tgt := 14) dX10_rivals_4 (by decide) (fun c3 => ?_) (fun c3 => ?_)
  · rw [if_pos c3] at H
    refine ev_bipush (v := (-3 : Int32)) dX10_rivals_14 (by decide) ?_
    exact ev_iretx dX10_rivals_16 rfl rfl H
  · rw [if_neg c3] at H
    refine ev_aload_n dX10_rivals_7 rfl rfl rfl ?_
    replace H := vl_some H
    obtain ⟨x4, ex4, H⟩ := H
    refine ev_getIx dX10_rivals_8 fgX10_258 rfl (okOb.p g1) ex4 ?_
    refine ev_goto (tgt := 16) dX10_rivals_11 (by decide) ?_
    exact ev_iretx dX10_rivals_16 rfl rfl H

theorem dX10_signOf__0 : decode cX10_signOf_ 0 = .ok (.iload_n 0, 1) := by decide +kernel
theorem dX10_signOf__1 : decode cX10_signOf_ 1 = .ok (.tableswitch 160 0 2 #[27, 58, 109], 27) := by decide +kernel
theorem dX10_signOf__28 : decode cX10_signOf_ 28 = .ok (.iload_n 1, 1) := by decide +kernel
theorem dX10_signOf__29 : decode cX10_signOf_ 29 = .ok (.ifCond .ne 8, 3) := by decide +kernel
theorem dX10_signOf__32 : decode cX10_signOf_ 32 = .ok (.bipush 115, 2) := by decide +kernel
theorem dX10_signOf__34 : decode cX10_signOf_ 34 = .ok (.goto 24, 3) := by decide +kernel
theorem dX10_signOf__37 : decode cX10_signOf_ 37 = .ok (.iload_n 1, 1) := by decide +kernel
theorem dX10_signOf__38 : decode cX10_signOf_ 38 = .ok (.iconst 1, 1) := by decide +kernel
theorem dX10_signOf__39 : decode cX10_signOf_ 39 = .ok (.if_icmp .ne 8, 3) := by decide +kernel
theorem dX10_signOf__42 : decode cX10_signOf_ 42 = .ok (.bipush 101, 2) := by decide +kernel
theorem dX10_signOf__44 : decode cX10_signOf_ 44 = .ok (.goto 14, 3) := by decide +kernel
theorem dX10_signOf__47 : decode cX10_signOf_ 47 = .ok (.iload_n 1, 1) := by decide +kernel
theorem dX10_signOf__48 : decode cX10_signOf_ 48 = .ok (.iconst 2, 1) := by decide +kernel
theorem dX10_signOf__49 : decode cX10_signOf_ 49 = .ok (.if_icmp .ne 8, 3) := by decide +kernel
theorem dX10_signOf__52 : decode cX10_signOf_ 52 = .ok (.bipush 116, 2) := by decide +kernel
theorem dX10_signOf__54 : decode cX10_signOf_ 54 = .ok (.goto 4, 3) := by decide +kernel
theorem dX10_signOf__57 : decode cX10_signOf_ 57 = .ok (.iconst 0, 1) := by decide +kernel
theorem dX10_signOf__58 : decode cX10_signOf_ 58 = .ok (.ireturn, 1) := by decide +kernel
theorem dX10_signOf__59 : decode cX10_signOf_ 59 = .ok (.iload_n 1, 1) := by decide +kernel
theorem dX10_signOf__60 : decode cX10_signOf_ 60 = .ok (.ifCond .ne 8, 3) := by decide +kernel
theorem dX10_signOf__63 : decode cX10_signOf_ 63 = .ok (.bipush 102, 2) := by decide +kernel
theorem dX10_signOf__65 : decode cX10_signOf_ 65 = .ok (.goto 44, 3) := by decide +kernel
theorem dX10_signOf__68 : decode cX10_signOf_ 68 = .ok (.iload_n 1, 1) := by decide +kernel
theorem dX10_signOf__69 : decode cX10_signOf_ 69 = .ok (.iconst 1, 1) := by decide +kernel
theorem dX10_signOf__70 : decode cX10_signOf_ 70 = .ok (.if_icmp .ne 8, 3) := by decide +kernel
theorem dX10_signOf__73 : decode cX10_signOf_ 73 = .ok (.bipush 97, 2) := by decide +kernel
theorem dX10_signOf__75 : decode cX10_signOf_ 75 = .ok (.goto 34, 3) := by decide +kernel
theorem dX10_signOf__78 : decode cX10_signOf_ 78 = .ok (.iload_n 1, 1) := by decide +kernel
theorem dX10_signOf__79 : decode cX10_signOf_ 79 = .ok (.iconst 2, 1) := by decide +kernel
theorem dX10_signOf__80 : decode cX10_signOf_ 80 = .ok (.if_icmp .ne 8, 3) := by decide +kernel
theorem dX10_signOf__83 : decode cX10_signOf_ 83 = .ok (.bipush 117, 2) := by decide +kernel
theorem dX10_signOf__85 : decode cX10_signOf_ 85 = .ok (.goto 24, 3) := by decide +kernel
theorem dX10_signOf__88 : decode cX10_signOf_ 88 = .ok (.iload_n 1, 1) := by decide +kernel
theorem dX10_signOf__89 : decode cX10_signOf_ 89 = .ok (.iconst 3, 1) := by decide +kernel
theorem dX10_signOf__90 : decode cX10_signOf_ 90 = .ok (.if_icmp .ne 8, 3) := by decide +kernel
theorem dX10_signOf__93 : decode cX10_signOf_ 93 = .ok (.bipush 108, 2) := by decide +kernel
theorem dX10_signOf__95 : decode cX10_signOf_ 95 = .ok (.goto 14, 3) := by decide +kernel
theorem dX10_signOf__98 : decode cX10_signOf_ 98 = .ok (.iload_n 1, 1) := by decide +kernel
theorem dX10_signOf__99 : decode cX10_signOf_ 99 = .ok (.iconst 4, 1) := by decide +kernel
theorem dX10_signOf__100 : decode cX10_signOf_ 100 = .ok (.if_icmp .ne 8, 3) := by decide +kernel
theorem dX10_signOf__103 : decode cX10_signOf_ 103 = .ok (.bipush 116, 2) := by decide +kernel
theorem dX10_signOf__105 : decode cX10_signOf_ 105 = .ok (.goto 4, 3) := by decide +kernel
theorem dX10_signOf__108 : decode cX10_signOf_ 108 = .ok (.iconst 0, 1) := by decide +kernel
theorem dX10_signOf__109 : decode cX10_signOf_ 109 = .ok (.ireturn, 1) := by decide +kernel
theorem dX10_signOf__110 : decode cX10_signOf_ 110 = .ok (.iload_n 1, 1) := by decide +kernel
theorem dX10_signOf__111 : decode cX10_signOf_ 111 = .ok (.ifCond .ne 8, 3) := by decide +kernel
theorem dX10_signOf__114 : decode cX10_signOf_ 114 = .ok (.bipush 112, 2) := by decide +kernel
theorem dX10_signOf__116 : decode cX10_signOf_ 116 = .ok (.goto 44, 3) := by decide +kernel
theorem dX10_signOf__119 : decode cX10_signOf_ 119 = .ok (.iload_n 1, 1) := by decide +kernel
theorem dX10_signOf__120 : decode cX10_signOf_ 120 = .ok (.iconst 1, 1) := by decide +kernel
theorem dX10_signOf__121 : decode cX10_signOf_ 121 = .ok (.if_icmp .ne 8, 3) := by decide +kernel
theorem dX10_signOf__124 : decode cX10_signOf_ 124 = .ok (.bipush 114, 2) := by decide +kernel
theorem dX10_signOf__126 : decode cX10_signOf_ 126 = .ok (.goto 34, 3) := by decide +kernel
theorem dX10_signOf__129 : decode cX10_signOf_ 129 = .ok (.iload_n 1, 1) := by decide +kernel
theorem dX10_signOf__130 : decode cX10_signOf_ 130 = .ok (.iconst 2, 1) := by decide +kernel
theorem dX10_signOf__131 : decode cX10_signOf_ 131 = .ok (.if_icmp .ne 8, 3) := by decide +kernel
theorem dX10_signOf__134 : decode cX10_signOf_ 134 = .ok (.bipush 105, 2) := by decide +kernel
theorem dX10_signOf__136 : decode cX10_signOf_ 136 = .ok (.goto 24, 3) := by decide +kernel
theorem dX10_signOf__139 : decode cX10_signOf_ 139 = .ok (.iload_n 1, 1) := by decide +kernel
theorem dX10_signOf__140 : decode cX10_signOf_ 140 = .ok (.iconst 3, 1) := by decide +kernel
theorem dX10_signOf__141 : decode cX10_signOf_ 141 = .ok (.if_icmp .ne 8, 3) := by decide +kernel
theorem dX10_signOf__144 : decode cX10_signOf_ 144 = .ok (.bipush 110, 2) := by decide +kernel
theorem dX10_signOf__146 : decode cX10_signOf_ 146 = .ok (.goto 14, 3) := by decide +kernel
theorem dX10_signOf__149 : decode cX10_signOf_ 149 = .ok (.iload_n 1, 1) := by decide +kernel
theorem dX10_signOf__150 : decode cX10_signOf_ 150 = .ok (.iconst 4, 1) := by decide +kernel
theorem dX10_signOf__151 : decode cX10_signOf_ 151 = .ok (.if_icmp .ne 8, 3) := by decide +kernel
theorem dX10_signOf__154 : decode cX10_signOf_ 154 = .ok (.bipush 116, 2) := by decide +kernel
theorem dX10_signOf__156 : decode cX10_signOf_ 156 = .ok (.goto 4, 3) := by decide +kernel
theorem dX10_signOf__159 : decode cX10_signOf_ 159 = .ok (.iconst 0, 1) := by decide +kernel
theorem dX10_signOf__160 : decode cX10_signOf_ 160 = .ok (.ireturn, 1) := by decide +kernel
theorem dX10_signOf__161 : decode cX10_signOf_ 161 = .ok (.iload_n 1, 1) := by decide +kernel
theorem dX10_signOf__162 : decode cX10_signOf_ 162 = .ok (.ifCond .ne 8, 3) := by decide +kernel
theorem dX10_signOf__165 : decode cX10_signOf_ 165 = .ok (.bipush 115, 2) := by decide +kernel
theorem dX10_signOf__167 : decode cX10_signOf_ 167 = .ok (.goto 44, 3) := by decide +kernel
theorem dX10_signOf__170 : decode cX10_signOf_ 170 = .ok (.iload_n 1, 1) := by decide +kernel
theorem dX10_signOf__171 : decode cX10_signOf_ 171 = .ok (.iconst 1, 1) := by decide +kernel
theorem dX10_signOf__172 : decode cX10_signOf_ 172 = .ok (.if_icmp .ne 8, 3) := by decide +kernel
theorem dX10_signOf__175 : decode cX10_signOf_ 175 = .ok (.bipush 112, 2) := by decide +kernel
theorem dX10_signOf__177 : decode cX10_signOf_ 177 = .ok (.goto 34, 3) := by decide +kernel
theorem dX10_signOf__180 : decode cX10_signOf_ 180 = .ok (.iload_n 1, 1) := by decide +kernel
theorem dX10_signOf__181 : decode cX10_signOf_ 181 = .ok (.iconst 2, 1) := by decide +kernel
theorem dX10_signOf__182 : decode cX10_signOf_ 182 = .ok (.if_icmp .ne 8, 3) := by decide +kernel
theorem dX10_signOf__185 : decode cX10_signOf_ 185 = .ok (.bipush 111, 2) := by decide +kernel
theorem dX10_signOf__187 : decode cX10_signOf_ 187 = .ok (.goto 24, 3) := by decide +kernel
theorem dX10_signOf__190 : decode cX10_signOf_ 190 = .ok (.iload_n 1, 1) := by decide +kernel
theorem dX10_signOf__191 : decode cX10_signOf_ 191 = .ok (.iconst 3, 1) := by decide +kernel
theorem dX10_signOf__192 : decode cX10_signOf_ 192 = .ok (.if_icmp .ne 8, 3) := by decide +kernel
theorem dX10_signOf__195 : decode cX10_signOf_ 195 = .ok (.bipush 105, 2) := by decide +kernel
theorem dX10_signOf__197 : decode cX10_signOf_ 197 = .ok (.goto 14, 3) := by decide +kernel
theorem dX10_signOf__200 : decode cX10_signOf_ 200 = .ok (.iload_n 1, 1) := by decide +kernel
theorem dX10_signOf__201 : decode cX10_signOf_ 201 = .ok (.iconst 4, 1) := by decide +kernel
theorem dX10_signOf__202 : decode cX10_signOf_ 202 = .ok (.if_icmp .ne 8, 3) := by decide +kernel
theorem dX10_signOf__205 : decode cX10_signOf_ 205 = .ok (.bipush 108, 2) := by decide +kernel
theorem dX10_signOf__207 : decode cX10_signOf_ 207 = .ok (.goto 4, 3) := by decide +kernel
theorem dX10_signOf__210 : decode cX10_signOf_ 210 = .ok (.iconst 0, 1) := by decide +kernel
theorem dX10_signOf__211 : decode cX10_signOf_ 211 = .ok (.ireturn, 1) := by decide +kernel
def f_X10_signOf_ (h : Hp) (a0 : Int32) (a1 : Int32) : Option (Int32 × Hp) :=
if a0 = (0 : Int32) then (
if a1 = 0 then (
some ((115 : Int32), h)) else (
if a1 = (1 : Int32) then (
some ((101 : Int32), h)) else (
if a1 = (2 : Int32) then (
some ((116 : Int32), h)) else (
some ((0 : Int32), h))))) else if a0 = (1 : Int32) then (
if a1 = 0 then (
some ((102 : Int32), h)) else (
if a1 = (1 : Int32) then (
some ((97 : Int32), h)) else (
if a1 = (2 : Int32) then (
some ((117 : Int32), h)) else (
if a1 = (3 : Int32) then (
some ((108 : Int32), h)) else (
if a1 = (4 : Int32) then (
some ((116 : Int32), h)) else (
some ((0 : Int32), h))))))) else if a0 = (2 : Int32) then (
if a1 = 0 then (
some ((112 : Int32), h)) else (
if a1 = (1 : Int32) then (
some ((114 : Int32), h)) else (
if a1 = (2 : Int32) then (
some ((105 : Int32), h)) else (
if a1 = (3 : Int32) then (
some ((110 : Int32), h)) else (
if a1 = (4 : Int32) then (
some ((116 : Int32), h)) else (
some ((0 : Int32), h))))))) else (
if a1 = 0 then (
some ((115 : Int32), h)) else (
if a1 = (1 : Int32) then (
some ((112 : Int32), h)) else (
if a1 = (2 : Int32) then (
some ((111 : Int32), h)) else (
if a1 = (3 : Int32) then (
some ((105 : Int32), h)) else (
if a1 = (4 : Int32) then (
some ((108 : Int32), h)) else (
some ((0 : Int32), h)))))))
set_option maxHeartbeats 4000000 in
set_option maxRecDepth 100000 in
theorem t_X10_signOf_ {X : Cx} {d : Nat} {h : Hp} {a0 : Int32} {a1 : Int32} {v : Int32} {h' : Hp} (hD : 1 ≤ d) (H : f_X10_signOf_ h a0 a1 = some (v, h')) : PM X mX10_signOf_ d [.int a0, .int a1] h (some (.int v)) h' := by
  unfold f_X10_signOf_ at H
  refine PM.of (loc := [some (.int a0), some (.int a1)]) (by decide) rfl (Nat.le_of_ble_eq_true rfl) ?_
  refine ev_iload_n dX10_signOf__0 rfl rfl ?_
  by_cases c1 : a0 = (0 : Int32)
  · rw [if_pos c1] at H
    refine ev_tsIn (tgt := 28) dX10_signOf__1 (by rw [c1]; decide) (by rw [c1]; decide) (by rw [c1]; rfl) (by decide) ?_
    refine ev_iload_n dX10_signOf__28 rfl rfl ?_
    refine ev_if_ne (tgt := 37) dX10_signOf__29 (by decide) (fun c2 => ?_) (fun c2 => ?_)
    · rw [if_neg c2] at H
      refine ev_iload_n dX10_signOf__37 rfl rfl ?_
      refine ev_iconst (v := (1 : Int32)) dX10_signOf__38 (by decide) ?_
      refine ev_icmp_ne (tgt := 47) dX10_signOf__39 (by decide) (fun c3 => ?_) (fun c3 => ?_)
      · rw [if_neg c3] at H
        refine ev_iload_n dX10_signOf__47 rfl rfl ?_
        refine ev_iconst (v := (2 : Int32)) dX10_signOf__48 (by decide) ?_
        refine ev_icmp_ne (tgt := 57) dX10_signOf__49 (by decide) (fun c4 => ?_) (fun c4 => ?_)
        · rw [if_neg c4] at H
          refine ev_iconst (v := (0 : Int32)) dX10_signOf__57 (by decide) ?_
          exact ev_iretx dX10_signOf__58 rfl rfl H
        · rw [if_pos c4] at H
          refine ev_bipush (v := (116 : Int32)) dX10_signOf__52 (by decide) ?_
          refine ev_goto (tgt := 58) dX10_signOf__54 (by decide) ?_
          exact ev_iretx dX10_signOf__58 rfl rfl H
      · rw [if_pos c3] at H
        refine ev_bipush (v := (101 : Int32)) dX10_signOf__42 (by decide) ?_
        refine ev_goto (tgt := 58) dX10_signOf__44 (by decide) ?_
        exact ev_iretx dX10_signOf__58 rfl rfl H
    · rw [if_pos c2] at H
      refine ev_bipush (v := (115 : Int32)) dX10_signOf__32 (by decide) ?_
      refine ev_goto (tgt := 58) dX10_signOf__34 (by decide) ?_
      exact ev_iretx dX10_signOf__58 rfl rfl H
  rw [if_neg c1] at H
  by_cases c5 : a0 = (1 : Int32)
  · rw [if_pos c5] at H
    refine ev_tsIn (tgt := 59) dX10_signOf__1 (by rw [c5]; decide) (by rw [c5]; decide) (by rw [c5]; rfl) (by decide) ?_
    refine ev_iload_n dX10_signOf__59 rfl rfl ?_
    refine ev_if_ne (tgt := 68) dX10_signOf__60 (by decide) (fun c6 => ?_) (fun c6 => ?_)
    · rw [if_neg c6] at H
      refine ev_iload_n dX10_signOf__68 rfl rfl ?_
      refine ev_iconst (v := (1 : Int32)) dX10_signOf__69 (by decide) ?_
      refine ev_icmp_ne (tgt := 78) dX10_signOf__70 (by decide) (fun c7 => ?_) (fun c7 => ?_)
      · rw [if_neg c7] at H
        refine ev_iload_n dX10_signOf__78 rfl rfl ?_
        refine ev_iconst (v := (2 : Int32)) dX10_signOf__79 (by decide) ?_
        refine ev_icmp_ne (tgt := 88) dX10_signOf__80 (by decide) (fun c8 => ?_) (fun c8 => ?_)
        · rw [if_neg c8] at H
          refine ev_iload_n dX10_signOf__88 rfl rfl ?_
          refine ev_iconst (v := (3 : Int32)) dX10_signOf__89 (by decide) ?_
          refine ev_icmp_ne (tgt := 98) dX10_signOf__90 (by decide) (fun c9 => ?_) (fun c9 => ?_)
          · rw [if_neg c9] at H
            refine ev_iload_n dX10_signOf__98 rfl rfl ?_
            refine ev_iconst (v := (4 : Int32)) dX10_signOf__99 (by decide) ?_
            refine ev_icmp_ne (tgt := 108) dX10_signOf__100 (by decide) (fun c10 => ?_) (fun c10 => ?_)
            · rw [if_neg c10] at H
              refine ev_iconst (v := (0 : Int32)) dX10_signOf__108 (by decide) ?_
              exact ev_iretx dX10_signOf__109 rfl rfl H
            · rw [if_pos c10] at H
              refine ev_bipush (v := (116 : Int32)) dX10_signOf__103 (by decide) ?_
              refine ev_goto (tgt := 109) dX10_signOf__105 (by decide) ?_
              exact ev_iretx dX10_signOf__109 rfl rfl H
          · rw [if_pos c9] at H
            refine ev_bipush (v := (108 : Int32)) dX10_signOf__93 (by decide) ?_
            refine ev_goto (tgt := 109) dX10_signOf__95 (by decide) ?_
            exact ev_iretx dX10_signOf__109 rfl rfl H
        · rw [if_pos c8] at H
          refine ev_bipush (v := (117 : Int32)) dX10_signOf__83 (by decide) ?_
          refine ev_goto (tgt := 109) dX10_signOf__85 (by decide) ?_
          exact ev_iretx dX10_signOf__109 rfl rfl H
      · rw [if_pos c7] at H
        refine ev_bipush (v := (97 : Int32)) dX10_signOf__73 (by decide) ?_
        refine ev_goto (tgt := 109) dX10_signOf__75 (by decide) ?_
        exact ev_iretx dX10_signOf__109 rfl rfl H
    · rw [if_pos c6] at H
      refine ev_bipush (v := (102 : Int32)) dX10_signOf__63 (by decide) ?_
      refine ev_goto (tgt := 109) dX10_signOf__65 (by decide) ?_
      exact ev_iretx dX10_signOf__109 rfl rfl H
  rw [if_neg c5] at H
  by_cases c11 : a0 = (2 : Int32)
  · rw [if_pos c11] at H
    refine ev_tsIn (tgt := 110) dX10_signOf__1 (by rw [c11]; decide) (by rw [c11]; decide) (by rw [c11]; rfl) (by decide) ?_
    refine ev_iload_n dX10_signOf__110 rfl rfl ?_
    refine ev_if_ne (tgt := 119) dX10_signOf__111 (by decide) (fun c12 => ?_) (fun c12 => ?_)
    · rw [if_neg c12] at H
      refine ev_iload_n dX10_signOf__119 rfl rfl ?_
      refine ev_iconst (v := (1 : Int32)) dX10_signOf__120 (by decide) ?_
      refine ev_icmp_ne (tgt := 129) dX10_signOf__121 (by decide) (fun c13 => ?_) (fun c13 => ?_)
      · rw [if_neg c13] at H
        refine ev_iload_n dX10_signOf__129 rfl rfl ?_
        refine ev_iconst (v := (2 : Int32)) dX10_signOf__130 (by decide) ?_
        refine ev_icmp_ne (tgt := 139) dX10_signOf__131 (by decide) (fun c14 => ?_) (fun c14 => ?_)
        · rw [if_neg c14] at H
          refine ev_iload_n dX10_signOf__139 rfl rfl ?_
          refine ev_iconst (v := (3 : Int32)) dX10_signOf__140 (by decide) ?_
          refine ev_icmp_ne (tgt := 149) dX10_signOf__141 (by decide) (fun c15 => ?_) (fun c15 => ?_)
          · rw [if_neg c15] at H
            refine ev_iload_n dX10_signOf__149 rfl rfl ?_
            refine ev_iconst (v := (4 : Int32)) dX10_signOf__150 (by decide) ?_
            refine ev_icmp_ne (tgt := 159) dX10_signOf__151 (by decide) (fun c16 => ?_) (fun c16 => ?_)
            · rw [if_neg c16] at H
              refine ev_iconst (v := (0 : Int32)) dX10_signOf__159 (by decide) ?_
              exact ev_iretx dX10_signOf__160 rfl rfl H
            · rw [if_pos c16] at H
              refine ev_bipush (v := (116 : Int32)) dX10_signOf__154 (by decide) ?_
              refine ev_goto (tgt := 160) dX10_signOf__156 (by decide) ?_
              exact ev_iretx dX10_signOf__160 rfl rfl H
          · rw [if_pos c15] at H
            refine ev_bipush (v := (110 : Int32)) dX10_signOf__144 (by decide) ?_
            refine ev_goto (tgt := 160) dX10_signOf__146 (by decide) ?_
            exact ev_iretx dX10_signOf__160 rfl rfl H
        · rw [if_pos c14] at H
          refine ev_bipush (v := (105 : Int32)) dX10_signOf__134 (by decide) ?_
          refine ev_goto (tgt := 160) dX10_signOf__136 (by decide) ?_
          exact ev_iretx dX10_signOf__160 rfl rfl H
      · rw [if_pos c13] at H
        refine ev_bipush (v := (114 : Int32)) dX10_signOf__124 (by decide) ?_
        refine ev_goto (tgt := 160) dX10_signOf__126 (by decide) ?_
        exact ev_iretx dX10_signOf__160 rfl rfl H
    · rw [if_pos c12] at H
      refine ev_bipush (v := (112 : Int32)) dX10_signOf__114 (by decide) ?_
      refine ev_goto (tgt := 160) dX10_signOf__116 (by decide) ?_
      exact ev_iretx dX10_signOf__160 rfl rfl H
  rw [if_neg c11] at H
  refine ev_tsOut (tgt := 161) dX10_signOf__1 (ts_out (n := 3) (by decide) (by decide) (fun j hj => ?_)) (by decide) ?_
  · match j, hj with
    | 0, _ => exact fun q => c1 (by rw [q]; decide)
    | 1, _ => exact fun q => c5 (by rw [q]; decide)
    | 2, _ => exact fun q => c11 (by rw [q]; decide)
  refine ev_iload_n dX10_signOf__161 rfl rfl ?_
  refine ev_if_ne (tgt := 170) dX10_signOf__162 (by decide) (fun c17 => ?_) (fun c17 => ?_)
  · rw [if_neg c17] at H
    refine ev_iload_n dX10_signOf__170 rfl rfl ?_
    refine ev_iconst (v := (1 : Int32)) dX10_signOf__171 (by decide) ?_
    refine ev_icmp_ne (tgt := 180) dX10_signOf__172 (by decide) (fun c18 => ?_) (fun c18 => ?_)
    · rw [if_neg c18] at H
      refine ev_iload_n dX10_signOf__180 rfl rfl ?_
      refine ev_iconst (v := (2 : Int32)) dX10_signOf__181 (by decide) ?_
      refine ev_icmp_ne (tgt := 190) dX10_signOf__182 (by decide) (fun c19 => ?_) (fun c19 => ?_)
      · rw [if_neg c19] at H
        refine ev_iload_n dX10_signOf__190 rfl rfl ?_
        refine ev_iconst (v := (3 : Int32)) dX10_signOf__191 (by decide) ?_
        refine ev_icmp_ne (tgt := 200) dX10_signOf__192 (by decide) (fun c20 => ?_) (fun c20 => ?_)
        · rw [if_neg c20] at H
          refine ev_iload_n dX10_signOf__200 rfl rfl ?_
          refine ev_iconst (v := (4 : Int32)) dX10_signOf__201 (by decide) ?_
          refine ev_icmp_ne (tgt := 210) dX10_signOf__202 (by decide) (fun c21 => ?_) (fun c21 => ?_)
          · rw [if_neg c21] at H
            refine ev_iconst (v := (0 : Int32)) dX10_signOf__210 (by decide) ?_
            exact ev_iretx dX10_signOf__211 rfl rfl H
          · rw [if_pos c21] at H
            refine ev_bipush (v := (108 : Int32)) dX10_signOf__205 (by decide) ?_
            refine ev_goto (tgt := 211) dX10_signOf__207 (by decide) ?_
            exact ev_iretx dX10_signOf__211 rfl rfl H
        · rw [if_pos c20] at H
          refine ev_bipush (v := (105 : Int32)) dX10_signOf__195 (by decide) ?_
          refine ev_goto (tgt := 211) dX10_signOf__197 (by decide) ?_
          exact ev_iretx dX10_signOf__211 rfl rfl H
      · rw [if_pos c19] at H
        refine ev_bipush (v := (111 : Int32)) dX10_signOf__185 (by decide) ?_
        refine ev_goto (tgt := 211) dX10_signOf__187 (by decide) ?_
        exact ev_iretx dX10_signOf__211 rfl rfl H
    · rw [if_pos c18] at H
      refine ev_bipush (v := (112 : Int32)) dX10_signOf__175 (by decide) ?_
      refine ev_goto (tgt := 211) dX10_signOf__177 (by decide) ?_
      exact ev_iretx dX10_signOf__211 rfl rfl H
  · rw [if_pos c17] at H
    refine ev_bipush (v := (115 : Int32)) dX10_signOf__165 (by decide) ?_
    refine ev_goto (tgt := 211) dX10_signOf__167 (by decide) ?_
    exact ev_iretx dX10_signOf__211 rfl rfl H

theorem dX10_sign_0 : decode cX10_sign 0 = .ok (.aload_n 0, 1) := by decide +kernel
theorem dX10_sign_1 : decode cX10_sign 1 = .ok (.getfield 271, 3) := by decide +kernel
theorem dX10_sign_4 : decode cX10_sign 4 = .ok (.aload_n 0, 1) := by decide +kernel
theorem dX10_sign_5 : decode cX10_sign 5 = .ok (.getfield 155, 3) := by decide +kernel
theorem dX10_sign_8 : decode cX10_sign 8 = .ok (.if_icmp .ge 15, 3) := by decide +kernel
theorem dX10_sign_11 : decode cX10_sign 11 = .ok (.aload_n 0, 1) := by decide +kernel
theorem dX10_sign_12 : decode cX10_sign 12 = .ok (.getfield 7, 3) := by decide +kernel
theorem dX10_sign_15 : decode cX10_sign 15 = .ok (.aload_n 0, 1) := by decide +kernel
theorem dX10_sign_16 : decode cX10_sign 16 = .ok (.getfield 271, 3) := by decide +kernel
theorem dX10_sign_19 : decode cX10_sign 19 = .ok (.iaload, 1) := by decide +kernel
theorem dX10_sign_20 : decode cX10_sign 20 = .ok (.goto 4, 3) := by decide +kernel
theorem dX10_sign_23 : decode cX10_sign 23 = .ok (.iconst (-1), 1) := by decide +kernel
theorem dX10_sign_24 : decode cX10_sign 24 = .ok (.ireturn, 1) := by decide +kernel
def f_X10_sign (h : Hp) (a0 : Nat) : Option (Int32 × Hp) :=
gd (okOb h a0 10) <|
vl (gI h a0 44) fun x2 =>
vl (gI h a0 2) fun x3 =>
if x3 ≤ x2 then (
some ((-1 : Int32), h)) else (
vl (gR h a0 0) fun r5 =>
vl (gI h a0 44) fun x6 =>
un r5 fun b7 =>
gd (okAb h b7 11 x6) <|
vl (gI h b7 x6.toNatClampNeg) fun x9 =>
some (x9, h))
set_option maxHeartbeats 4000000 in
set_option maxRecDepth 100000 in
theorem t_X10_sign {X : Cx} {d : Nat} {h : Hp} {a0 : Nat} {v : Int32} {h' : Hp} (hD : 1 ≤ d) (H : f_X10_sign h a0 = some (v, h')) : PM X mX10_sign d [.ref a0] h (some (.int v)) h' := by
  unfold f_X10_sign at H
  refine PM.of (loc := [some (.ref a0)]) (by decide) rfl (Nat.le_of_ble_eq_true rfl) ?_
  refine ev_aload_n dX10_sign_0 rfl rfl rfl ?_
  replace H := gd_some H
  obtain ⟨g1, H⟩ := H
  replace H := vl_some H
  obtain ⟨x2, ex2, H⟩ := H
  refine ev_getIx dX10_sign_1 fgX10_271 rfl (okOb.p g1) ex2 ?_
  refine ev_aload_n dX10_sign_4 rfl rfl rfl ?_
  replace H := vl_some H
  obtain ⟨x3, ex3, H⟩ := H
  refine ev_getIx dX10_sign_5 fgX10_155 rfl (okOb.p g1) ex3 ?_
  refine ev_icmp_ge (tgt := 23) dX10_sign_8 (by decide) (fun c4 => ?_) (fun c4 => ?_)
  · rw [if_pos c4] at H
    refine ev_iconst (v := (-1 : Int32)) dX10_sign_23 (by decide) ?_
    exact ev_iretx dX10_sign_24 rfl rfl H
  · rw [if_neg c4] at H
    refine ev_aload_n dX10_sign_11 rfl rfl rfl ?_
    replace H := vl_some H
    obtain ⟨r5, er5, H⟩ := H
    refine ev_getRx dX10_sign_12 fgX10_7 rfl (okOb.p g1) er5 ?_
    refine ev_aload_n dX10_sign_15 rfl rfl rfl ?_
    replace H := vl_some H
    obtain ⟨x6, ex6, H⟩ := H
    refine ev_getIx dX10_sign_16 fgX10_271 rfl (okOb.p g1) ex6 ?_
    replace H := un_some H
    obtain ⟨b7, eb7, H⟩ := H
    subst eb7
    replace H := gd_some H
    obtain ⟨g8, H⟩ := H
    replace H := vl_some H
    obtain ⟨x9, ex9, H⟩ := H
    refine ev_ialdx dX10_sign_19 (okAb.p g8) ex9 ?_
    refine ev_goto (tgt := 24) dX10_sign_20 (by decide) ?_
    exact ev_iretx dX10_sign_24 rfl rfl H

theorem dX10_word_0 : decode cX10_word 0 = .ok (.aload_n 0, 1) := by decide +kernel
theorem dX10_word_1 : decode cX10_word 1 = .ok (.getfield 271, 3) := by decide +kernel
theorem dX10_word_4 : decode cX10_word 4 = .ok (.istore_n 1, 1) := by decide +kernel
theorem dX10_word_5 : decode cX10_word 5 = .ok (.bipush 15, 2) := by decide +kernel
theorem dX10_word_7 : decode cX10_word 7 = .ok (.istore_n 2, 1) := by decide +kernel
theorem dX10_word_8 : decode cX10_word 8 = .ok (.iconst 0, 1) := by decide +kernel
theorem dX10_word_9 : decode cX10_word 9 = .ok (.istore_n 3, 1) := by decide +kernel
theorem dX10_word_10 : decode cX10_word 10 = .ok (.iconst 0, 1) := by decide +kernel
theorem dX10_word_11 : decode cX10_word 11 = .ok (.istore 4, 2) := by decide +kernel
theorem dX10_word_13 : decode cX10_word 13 = .ok (.iload 4, 2) := by decide +kernel
theorem dX10_word_15 : decode cX10_word 15 = .ok (.iconst 4, 1) := by decide +kernel
theorem dX10_word_16 : decode cX10_word 16 = .ok (.if_icmp .ge 58, 3) := by decide +kernel
theorem dX10_word_19 : decode cX10_word 19 = .ok (.iload_n 2, 1) := by decide +kernel
theorem dX10_word_20 : decode cX10_word 20 = .ok (.iload 4, 2) := by decide +kernel
theorem dX10_word_22 : decode cX10_word 22 = .ok (.ishr, 1) := by decide +kernel
theorem dX10_word_23 : decode cX10_word 23 = .ok (.iconst 1, 1) := by decide +kernel
theorem dX10_word_24 : decode cX10_word 24 = .ok (.iand, 1) := by decide +kernel
theorem dX10_word_25 : decode cX10_word 25 = .ok (.iconst 1, 1) := by decide +kernel
theorem dX10_word_26 : decode cX10_word 26 = .ok (.if_icmp .ne 42, 3) := by decide +kernel
theorem dX10_word_29 : decode cX10_word 29 = .ok (.iload 4, 2) := by decide +kernel
theorem dX10_word_31 : decode cX10_word 31 = .ok (.aload_n 0, 1) := by decide +kernel
theorem dX10_word_32 : decode cX10_word 32 = .ok (.getfield 271, 3) := by decide +kernel
theorem dX10_word_35 : decode cX10_word 35 = .ok (.iload_n 1, 1) := by decide +kernel
theorem dX10_word_36 : decode cX10_word 36 = .ok (.isub, 1) := by decide +kernel
theorem dX10_word_37 : decode cX10_word 37 = .ok (.invokestatic 274, 3) := by decide +kernel
theorem dX10_word_40 : decode cX10_word 40 = .ok (.ifCond .eq 28, 3) := by decide +kernel
theorem dX10_word_43 : decode cX10_word 43 = .ok (.iload 4, 2) := by decide +kernel
theorem dX10_word_45 : decode cX10_word 45 = .ok (.aload_n 0, 1) := by decide +kernel
theorem dX10_word_46 : decode cX10_word 46 = .ok (.getfield 271, 3) := by decide +kernel
theorem dX10_word_49 : decode cX10_word 49 = .ok (.iload_n 1, 1) := by decide +kernel
theorem dX10_word_50 : decode cX10_word 50 = .ok (.isub, 1) := by decide +kernel
theorem dX10_word_51 : decode cX10_word 51 = .ok (.invokestatic 274, 3) := by decide +kernel
theorem dX10_word_54 : decode cX10_word 54 = .ok (.aload_n 0, 1) := by decide +kernel
theorem dX10_word_55 : decode cX10_word 55 = .ok (.invokevirtual 276, 3) := by decide +kernel
theorem dX10_word_58 : decode cX10_word 58 = .ok (.if_icmp .ne 10, 3) := by decide +kernel
theorem dX10_word_61 : decode cX10_word 61 = .ok (.iload_n 3, 1) := by decide +kernel
theorem dX10_word_62 : decode cX10_word 62 = .ok (.iconst 1, 1) := by decide +kernel
theorem dX10_word_63 : decode cX10_word 63 = .ok (.iload 4, 2) := by decide +kernel
theorem dX10_word_65 : decode cX10_word 65 = .ok (.ishl, 1) := by decide +kernel
theorem dX10_word_66 : decode cX10_word 66 = .ok (.ior, 1) := by decide +kernel
theorem dX10_word_67 : decode cX10_word 67 = .ok (.istore_n 3, 1) := by decide +kernel
theorem dX10_word_68 : decode cX10_word 68 = .ok (.iinc 4 1, 3) := by decide +kernel
theorem dX10_word_71 : decode cX10_word 71 = .ok (.goto (-58), 3) := by decide +kernel
theorem dX10_word_74 : decode cX10_word 74 = .ok (.iload_n 3, 1) := by decide +kernel
theorem dX10_word_75 : decode cX10_word 75 = .ok (.ifCond .ne 6, 3) := by decide +kernel
theorem dX10_word_78 : decode cX10_word 78 = .ok (.goto 18, 3) := by decide +kernel
theorem dX10_word_81 : decode cX10_word 81 = .ok (.iload_n 3, 1) := by decide +kernel
theorem dX10_word_82 : decode cX10_word 82 = .ok (.istore_n 2, 1) := by decide +kernel
theorem dX10_word_83 : decode cX10_word 83 = .ok (.aload_n 0, 1) := by decide +kernel
theorem dX10_word_84 : decode cX10_word 84 = .ok (.dup, 1) := by decide +kernel
theorem dX10_word_85 : decode cX10_word 85 = .ok (.getfield 271, 3) := by decide +kernel
theorem dX10_word_88 : decode cX10_word 88 = .ok (.iconst 1, 1) := by decide +kernel
theorem dX10_word_89 : decode cX10_word 89 = .ok (.iadd, 1) := by decide +kernel
theorem dX10_word_90 : decode cX10_word 90 = .ok (.putfield 271, 3) := by decide +kernel
theorem dX10_word_93 : decode cX10_word 93 = .ok (.goto (-85), 3) := by decide +kernel
theorem dX10_word_96 : decode cX10_word 96 = .ok (.iconst 0, 1) := by decide +kernel
theorem dX10_word_97 : decode cX10_word 97 = .ok (.istore_n 3, 1) := by decide +kernel
theorem dX10_word_98 : decode cX10_word 98 = .ok (.iload_n 3, 1) := by decide +kernel
theorem dX10_word_99 : decode cX10_word 99 = .ok (.iconst 4, 1) := by decide +kernel
theorem dX10_word_100 : decode cX10_word 100 = .ok (.if_icmp .ge 63, 3) := by decide +kernel
theorem dX10_word_103 : decode cX10_word 103 = .ok (.iload_n 2, 1) := by decide +kernel
theorem dX10_word_104 : decode cX10_word 104 = .ok (.iload_n 3, 1) := by decide +kernel
theorem dX10_word_105 : decode cX10_word 105 = .ok (.ishr, 1) := by decide +kernel
theorem dX10_word_106 : decode cX10_word 106 = .ok (.iconst 1, 1) := by decide +kernel
theorem dX10_word_107 : decode cX10_word 107 = .ok (.iand, 1) := by decide +kernel
theorem dX10_word_108 : decode cX10_word 108 = .ok (.ifCond .eq 49, 3) := by decide +kernel
theorem dX10_word_111 : decode cX10_word 111 = .ok (.aload_n 0, 1) := by decide +kernel
theorem dX10_word_112 : decode cX10_word 112 = .ok (.getfield 271, 3) := by decide +kernel
theorem dX10_word_115 : decode cX10_word 115 = .ok (.iload_n 1, 1) := by decide +kernel
theorem dX10_word_116 : decode cX10_word 116 = .ok (.isub, 1) := by decide +kernel
theorem dX10_word_117 : decode cX10_word 117 = .ok (.ifCond .eq 40, 3) := by decide +kernel
theorem dX10_word_120 : decode cX10_word 120 = .ok (.iload_n 3, 1) := by decide +kernel
theorem dX10_word_121 : decode cX10_word 121 = .ok (.aload_n 0, 1) := by decide +kernel
theorem dX10_word_122 : decode cX10_word 122 = .ok (.getfield 271, 3) := by decide +kernel
theorem dX10_word_125 : decode cX10_word 125 = .ok (.iload_n 1, 1) := by decide +kernel
theorem dX10_word_126 : decode cX10_word 126 = .ok (.isub, 1) := by decide +kernel
theorem dX10_word_127 : decode cX10_word 127 = .ok (.invokestatic 274, 3) := by decide +kernel
theorem dX10_word_130 : decode cX10_word 130 = .ok (.ifCond .ne 27, 3) := by decide +kernel
theorem dX10_word_133 : decode cX10_word 133 = .ok (.aload_n 0, 1) := by decide +kernel
theorem dX10_word_134 : decode cX10_word 134 = .ok (.invokevirtual 276, 3) := by decide +kernel
theorem dX10_word_137 : decode cX10_word 137 = .ok (.bipush 61, 2) := by decide +kernel
theorem dX10_word_139 : decode cX10_word 139 = .ok (.if_icmp .eq 6, 3) := by decide +kernel
theorem dX10_word_142 : decode cX10_word 142 = .ok (.goto 15, 3) := by decide +kernel
theorem dX10_word_145 : decode cX10_word 145 = .ok (.aload_n 0, 1) := by decide +kernel
theorem dX10_word_146 : decode cX10_word 146 = .ok (.dup, 1) := by decide +kernel
theorem dX10_word_147 : decode cX10_word 147 = .ok (.getfield 271, 3) := by decide +kernel
theorem dX10_word_150 : decode cX10_word 150 = .ok (.iconst 1, 1) := by decide +kernel
theorem dX10_word_151 : decode cX10_word 151 = .ok (.iadd, 1) := by decide +kernel
theorem dX10_word_152 : decode cX10_word 152 = .ok (.putfield 271, 3) := by decide +kernel
theorem dX10_word_155 : decode cX10_word 155 = .ok (.iload_n 3, 1) := by decide +kernel
theorem dX10_word_156 : decode cX10_word 156 = .ok (.ireturn, 1) := by decide +kernel
theorem dX10_word_157 : decode cX10_word 157 = .ok (.iinc 3 1, 3) := by decide +kernel
theorem dX10_word_160 : decode cX10_word 160 = .ok (.goto (-62), 3) := by decide +kernel
theorem dX10_word_163 : decode cX10_word 163 = .ok (.iconst (-1), 1) := by decide +kernel
theorem dX10_word_164 : decode cX10_word 164 = .ok (.ireturn, 1) := by decide +kernel
def f_X10_word_L13 (k74 : Nat → Int32 → Int32 → Int32 → Int32 → Hp → Option (Int32 × Hp)) : Nat → Nat → Int32 → Int32 → Int32 → Int32 → Hp → Option (Int32 × Hp)
  | 0, _, _, _, _, _, _ => none
  | n + 1, l0, l1, l2, l3, l4, h =>
    if (4 : Int32) ≤ l4 then (
    k74 l0 l1 l2 l3 l4 h) else (
    if ((l2 >>> (l4 &&& 31)) &&& (1 : Int32)) = (1 : Int32) then (
    gd (okOb h l0 10) <|
    vl (gI h l0 44) fun x7 =>
    bnd (f_X10_signOf_ h l4 (x7 - l1)) fun v8 h9 =>
    if v8 = 0 then (
    vl (l4 + (1 : Int32)) fun x11 =>
    f_X10_word_L13 k74 n l0 l1 l2 l3 x11 h9) else (
    vl (gI h9 l0 44) fun x12 =>
    bnd (f_X10_signOf_ h9 l4 (x12 - l1)) fun v13 h14 =>
    bnd (f_X10_sign h14 l0) fun v15 h16 =>
    if v13 = v15 then (
    vl (l3 ||| ((1 : Int32) <<< (l4 &&& 31))) fun x19 =>
    vl (l4 + (1 : Int32)) fun x20 =>
    f_X10_word_L13 k74 n l0 l1 l2 x19 x20 h16) else (
    vl (l4 + (1 : Int32)) fun x18 =>
    f_X10_word_L13 k74 n l0 l1 l2 l3 x18 h16))) else (
    vl (l4 + (1 : Int32)) fun x5 =>
    f_X10_word_L13 k74 n l0 l1 l2 l3 x5 h))
set_option maxHeartbeats 4000000 in
set_option maxRecDepth 100000 in
theorem t_X10_word_L13 {X : Cx} {d : Nat} {h0 h' : Hp} {v : Int32} {k74 : Nat → Int32 → Int32 → Int32 → Int32 → Hp → Option (Int32 × Hp)} (hD : 2 ≤ d) (hk74 : ∀ (z0 : Nat) (z1 : Int32) (z2 : Int32) (z3 : Int32) (z4 : Int32) (h : Hp), k74 z0 z1 z2 z3 z4 h = some (v, h') → EV X mX10_word d h0 (some (.int v)) h' 74 [some (.ref z0), some (.int z1), some (.int z2), some (.int z3), some (.int z4)] [] h) : ∀ (n : Nat) (l0 : Nat) (l1 : Int32) (l2 : Int32) (l3 : Int32) (l4 : Int32) (h : Hp), f_X10_word_L13 k74 n l0 l1 l2 l3 l4 h = some (v, h') → EV X mX10_word d h0 (some (.int v)) h' 13 [some (.ref l0), some (.int l1), some (.int l2), some (.int l3), some (.int l4)] [] h := by
  intro n
  induction n with
  | zero => intro l0 l1 l2 l3 l4 h H; simp [f_X10_word_L13] at H
  | succ n ih =>
    intro l0 l1 l2 l3 l4 h H
    rw [f_X10_word_L13] at H
    refine ev_iload dX10_word_13 rfl ?_
    refine ev_iconst (v := (4 : Int32)) dX10_word_15 (by decide) ?_
    refine ev_icmp_ge (tgt := 74) dX10_word_16 (by decide) (fun c3 => ?_) (fun c3 => ?_)
    · rw [if_pos c3] at H
      exact hk74 l0 l1 l2 l3 l4 h H
    · rw [if_neg c3] at H
      refine ev_iload_n dX10_word_19 rfl rfl ?_
      refine ev_iload dX10_word_20 rfl ?_
      refine ev_ishr dX10_word_22 ?_
      refine ev_iconst (v := (1 : Int32)) dX10_word_23 (by decide) ?_
      refine ev_iand dX10_word_24 ?_
      refine ev_iconst (v := (1 : Int32)) dX10_word_25 (by decide) ?_
      refine ev_icmp_ne (tgt := 68) dX10_word_26 (by decide) (fun c4 => ?_) (fun c4 => ?_)
      · rw [if_neg c4] at H
        replace H := vl_some H
        obtain ⟨x5, ex5, H⟩ := H
        refine ev_iincx (loc2 := [some (.ref l0), some (.int l1), some (.int l2), some (.int l3), some (.int x5)]) dX10_word_68 rfl (by decide) ex5 (by decide) rfl ?_
        refine ev_goto (tgt := 13) dX10_word_71 (by decide) ?_
        exact ih l0 l1 l2 l3 x5 h H
      · rw [if_pos c4] at H
        refine ev_iload dX10_word_29 rfl ?_
        refine ev_aload_n dX10_word_31 rfl rfl rfl ?_
        replace H := gd_some H
        obtain ⟨g6, H⟩ := H
        replace H := vl_some H
        obtain ⟨x7, ex7, H⟩ := H
        refine ev_getIx dX10_word_32 fgX10_271 rfl (okOb.p g6) ex7 ?_
        refine ev_iload_n dX10_word_35 rfl rfl ?_
        refine ev_isub dX10_word_36 ?_
        replace H := bnd_some H
        obtain ⟨v8, h9, eh9, H⟩ := H
        have ph9 := (t_X10_signOf_ (X := X) (d := 1) (by omega) eh9)
        refine ev_callS (as := [.int l4, .int (x7 - l1)]) dX10_word_37 ph9 ok_X10_signOf_ (by omega) rfl k6_62 k6_63 rfl (Nat.le_of_ble_eq_true rfl) ?_
        refine ev_if_eq (tgt := 68) dX10_word_40 (by decide) (fun c10 => ?_) (fun c10 => ?_)
        · rw [if_pos c10] at H
          replace H := vl_some H
          obtain ⟨x11, ex11, H⟩ := H
          refine ev_iincx (loc2 := [some (.ref l0), some (.int l1), some (.int l2), some (.int l3), some (.int x11)]) dX10_word_68 rfl (by decide) ex11 (by decide) rfl ?_
          refine ev_goto (tgt := 13) dX10_word_71 (by decide) ?_
          exact ih l0 l1 l2 l3 x11 h9 H
        · rw [if_neg c10] at H
          refine ev_iload dX10_word_43 rfl ?_
          refine ev_aload_n dX10_word_45 rfl rfl rfl ?_
          replace H := vl_some H
          obtain ⟨x12, ex12, H⟩ := H
          refine ev_getIx dX10_word_46 fgX10_271 rfl (okO_ext ph9.1 (okOb.p g6)) ex12 ?_
          refine ev_iload_n dX10_word_49 rfl rfl ?_
          refine ev_isub dX10_word_50 ?_
          replace H := bnd_some H
          obtain ⟨v13, h14, eh14, H⟩ := H
          have ph14 := (t_X10_signOf_ (X := X) (d := 1) (by omega) eh14)
          refine ev_callS (as := [.int l4, .int (x12 - l1)]) dX10_word_51 ph14 ok_X10_signOf_ (by omega) rfl k6_62 k6_63 rfl (Nat.le_of_ble_eq_true rfl) ?_
          refine ev_aload_n dX10_word_54 rfl rfl rfl ?_
          replace H := bnd_some H
          obtain ⟨v15, h16, eh16, H⟩ := H
          have ph16 := (t_X10_sign (X := X) (d := 1) (by omega) eh16)
          refine ev_callV (as := []) dX10_word_55 ph16 ok_X10_sign (by omega) rfl k6_65 k6_67 ks_47 (ci := 10) (by decide) rfl rfl (okO_ext ph14.1 (okO_ext ph9.1 (okOb.p g6))) rfl (Nat.le_of_ble_eq_true rfl) ?_
          refine ev_icmp_ne (tgt := 68) dX10_word_58 (by decide) (fun c17 => ?_) (fun c17 => ?_)
          · rw [if_neg c17] at H
            replace H := vl_some H
            obtain ⟨x18, ex18, H⟩ := H
            refine ev_iincx (loc2 := [some (.ref l0), some (.int l1), some (.int l2), some (.int l3), some (.int x18)]) dX10_word_68 rfl (by decide) ex18 (by decide) rfl ?_
            refine ev_goto (tgt := 13) dX10_word_71 (by decide) ?_
            exact ih l0 l1 l2 l3 x18 h16 H
          · rw [if_pos c17] at H
            refine ev_iload_n dX10_word_61 rfl rfl ?_
            refine ev_iconst (v := (1 : Int32)) dX10_word_62 (by decide) ?_
            refine ev_iload dX10_word_63 rfl ?_
            refine ev_ishl dX10_word_65 ?_
            refine ev_ior dX10_word_66 ?_
            replace H := vl_some H
            obtain ⟨x19, ex19, H⟩ := H
            refine ev_istore_nx (loc2 := [some (.ref l0), some (.int l1), some (.int l2), some (.int x19), some (.int l4)]) dX10_word_67 rfl (by decide) ex19 rfl ?_
            replace H := vl_some H
            obtain ⟨x20, ex20, H⟩ := H
            refine ev_iincx (loc2 := [some (.ref l0), some (.int l1), some (.int l2), some (.int x19), some (.int x20)]) dX10_word_68 rfl (by decide) ex20 (by decide) rfl ?_
            refine ev_goto (tgt := 13) dX10_word_71 (by decide) ?_
            exact ih l0 l1 l2 x19 x20 h16 H
def f_X10_word_L8 (k78 : Nat → Int32 → Int32 → Hp → Option (Int32 × Hp)) : Nat → Nat → Int32 → Int32 → Hp → Option (Int32 × Hp)
  | 0, _, _, _, _ => none
  | n + 1, l0, l1, l2, h =>
    f_X10_word_L13 (fun y21 y22 y23 y24 y25 h26 =>
    if y24 = 0 then (
    k78 y21 y22 y23 h26) else (
    gd (okOb h26 y21 10) <|
    vl (gI h26 y21 44) fun x29 =>
    vl (sI h26 y21 44 (x29 + (1 : Int32))) fun h30 =>
    f_X10_word_L8 k78 n y21 y22 y24 h30)) 6000 l0 l1 l2 (0 : Int32) (0 : Int32) h
set_option maxHeartbeats 4000000 in
set_option maxRecDepth 100000 in
theorem t_X10_word_L8 {X : Cx} {d : Nat} {h0 h' : Hp} {v : Int32} {k78 : Nat → Int32 → Int32 → Hp → Option (Int32 × Hp)} (hD : 2 ≤ d) (hk78 : ∀ (z0 : Nat) (z1 : Int32) (z2 : Int32) (h : Hp), k78 z0 z1 z2 h = some (v, h') → EV X mX10_word d h0 (some (.int v)) h' 78 [some (.ref z0), some (.int z1), some (.int z2), none, none] [] h) : ∀ (n : Nat) (l0 : Nat) (l1 : Int32) (l2 : Int32) (h : Hp), f_X10_word_L8 k78 n l0 l1 l2 h = some (v, h') → EV X mX10_word d h0 (some (.int v)) h' 8 [some (.ref l0), some (.int l1), some (.int l2), none, none] [] h := by
  intro n
  induction n with
  | zero => intro l0 l1 l2 h H; simp [f_X10_word_L8] at H
  | succ n ih =>
    intro l0 l1 l2 h H
    rw [f_X10_word_L8] at H
    refine ev_iconst (v := (0 : Int32)) dX10_word_8 (by decide) ?_
    refine ev_istore_n (loc2 := [some (.ref l0), some (.int l1), some (.int l2), some (.int (0 : Int32)), none]) dX10_word_9 rfl (by decide) rfl ?_
    refine ev_iconst (v := (0 : Int32)) dX10_word_10 (by decide) ?_
    refine ev_istore (loc2 := [some (.ref l0), some (.int l1), some (.int l2), some (.int (0 : Int32)), some (.int (0 : Int32))]) dX10_word_11 (by decide) rfl ?_
    refine t_X10_word_L13 hD ?_ 6000 l0 l1 l2 (0 : Int32) (0 : Int32) h H
    · intro y21 y22 y23 y24 y25 h26 H
      refine ev_iload_n dX10_word_74 rfl rfl ?_
      refine ev_if_ne (tgt := 81) dX10_word_75 (by decide) (fun c27 => ?_) (fun c27 => ?_)
      · rw [if_neg c27] at H
        refine ev_iload_n dX10_word_81 rfl rfl ?_
        refine ev_istore_n (loc2 := [some (.ref y21), some (.int y22), some (.int y24), some (.int y24), some (.int y25)]) dX10_word_82 rfl (by decide) rfl ?_
        refine ev_aload_n dX10_word_83 rfl rfl rfl ?_
        refine ev_dup dX10_word_84 rfl ?_
        replace H := gd_some H
        obtain ⟨g28, H⟩ := H
        replace H := vl_some H
        obtain ⟨x29, ex29, H⟩ := H
        refine ev_getIx dX10_word_85 fgX10_271 rfl (okOb.p g28) ex29 ?_
        refine ev_iconst (v := (1 : Int32)) dX10_word_88 (by decide) ?_
        refine ev_iadd dX10_word_89 ?_
        replace H := vl_some H
        obtain ⟨h30, eh30, H⟩ := H
        refine ev_putI dX10_word_90 fdX10_271 rfl rfl rfl (okOb.p g28) eh30 ?_
        refine ev_goto (tgt := 8) dX10_word_93 (by decide) ?_
        refine ev_drop (loc2 := [some (.ref y21), some (.int y22), some (.int y24), none, none]) [true, true, true, false, false] rfl ?_
        exact ih y21 y22 y24 h30 H
      · rw [if_pos c27] at H
        refine ev_drop (loc2 := [some (.ref y21), some (.int y22), some (.int y23), none, none]) [true, true, true, false, false] rfl ?_
        exact hk78 y21 y22 y23 h26 H
def f_X10_word_L98 : Nat → Nat → Int32 → Int32 → Int32 → Hp → Option (Int32 × Hp)
  | 0, _, _, _, _, _ => none
  | n + 1, l0, l1, l2, l3, h =>
    if (4 : Int32) ≤ l3 then (
    some ((-1 : Int32), h)) else (
    if ((l2 >>> (l3 &&& 31)) &&& (1 : Int32)) = 0 then (
    vl (l3 + (1 : Int32)) fun x37 =>
    f_X10_word_L98 n l0 l1 l2 x37 h) else (
    gd (okOb h l0 10) <|
    vl (gI h l0 44) fun x39 =>
    if (x39 - l1) = 0 then (
    vl (l3 + (1 : Int32)) fun x41 =>
    f_X10_word_L98 n l0 l1 l2 x41 h) else (
    vl (gI h l0 44) fun x42 =>
    bnd (f_X10_signOf_ h l3 (x42 - l1)) fun v43 h44 =>
    if v43 = 0 then (
    bnd (f_X10_sign h44 l0) fun v47 h48 =>
    if v47 = (61 : Int32) then (
    vl (gI h48 l0 44) fun x50 =>
    vl (sI h48 l0 44 (x50 + (1 : Int32))) fun h51 =>
    some (l3, h51)) else (
    vl (l3 + (1 : Int32)) fun x52 =>
    f_X10_word_L98 n l0 l1 l2 x52 h48)) else (
    vl (l3 + (1 : Int32)) fun x46 =>
    f_X10_word_L98 n l0 l1 l2 x46 h44))))
set_option maxHeartbeats 4000000 in
set_option maxRecDepth 100000 in
theorem t_X10_word_L98 {X : Cx} {d : Nat} {h0 h' : Hp} {v : Int32} (hD : 2 ≤ d) : ∀ (n : Nat) (l0 : Nat) (l1 : Int32) (l2 : Int32) (l3 : Int32) (h : Hp), f_X10_word_L98 n l0 l1 l2 l3 h = some (v, h') → EV X mX10_word d h0 (some (.int v)) h' 98 [some (.ref l0), some (.int l1), some (.int l2), some (.int l3), none] [] h := by
  intro n
  induction n with
  | zero => intro l0 l1 l2 l3 h H; simp [f_X10_word_L98] at H
  | succ n ih =>
    intro l0 l1 l2 l3 h H
    rw [f_X10_word_L98] at H
    refine ev_iload_n dX10_word_98 rfl rfl ?_
    refine ev_iconst (v := (4 : Int32)) dX10_word_99 (by decide) ?_
    refine ev_icmp_ge (tgt := 163) dX10_word_100 (by decide) (fun c35 => ?_) (fun c35 => ?_)
    · rw [if_pos c35] at H
      refine ev_iconst (v := (-1 : Int32)) dX10_word_163 (by decide) ?_
      exact ev_iretx dX10_word_164 rfl rfl H
    · rw [if_neg c35] at H
      refine ev_iload_n dX10_word_103 rfl rfl ?_
      refine ev_iload_n dX10_word_104 rfl rfl ?_
      refine ev_ishr dX10_word_105 ?_
      refine ev_iconst (v := (1 : Int32)) dX10_word_106 (by decide) ?_
      refine ev_iand dX10_word_107 ?_
      refine ev_if_eq (tgt := 157) dX10_word_108 (by decide) (fun c36 => ?_) (fun c36 => ?_)
      · rw [if_pos c36] at H
        replace H := vl_some H
        obtain ⟨x37, ex37, H⟩ := H
        refine ev_iincx (loc2 := [some (.ref l0), some (.int l1), some (.int l2), some (.int x37), none]) dX10_word_157 rfl (by decide) ex37 (by decide) rfl ?_
        refine ev_goto (tgt := 98) dX10_word_160 (by decide) ?_
        exact ih l0 l1 l2 x37 h H
      · rw [if_neg c36] at H
        refine ev_aload_n dX10_word_111 rfl rfl rfl ?_
        replace H := gd_some H
        obtain ⟨g38, H⟩ := H
        replace H := vl_some H
        obtain ⟨x39, ex39, H⟩ := H
        refine ev_getIx dX10_word_112 fgX10_271 rfl (okOb.p g38) ex39 ?_
        refine ev_iload_n dX10_word_115 rfl rfl ?_
        refine ev_isub dX10_word_116 ?_
        refine ev_if_eq (tgt := 157) dX10_word_117 (by decide) (fun c40 => ?_) (fun c40 => ?_)
        · rw [if_pos c40] at H
          replace H := vl_some H
          obtain ⟨x41, ex41, H⟩ := H
          refine ev_iincx (loc2 := [some (.ref l0), some (.int l1), some (.int l2), some (.int x41), none]) dX10_word_157 rfl (by decide) ex41 (by decide) rfl ?_
          refine ev_goto (tgt := 98) dX10_word_160 (by decide) ?_
          exact ih l0 l1 l2 x41 h H
        · rw [if_neg c40] at H
          refine ev_iload_n dX10_word_120 rfl rfl ?_
          refine ev_aload_n dX10_word_121 rfl rfl rfl ?_
          replace H := vl_some H
          obtain ⟨x42, ex42, H⟩ := H
          refine ev_getIx dX10_word_122 fgX10_271 rfl (okOb.p g38) ex42 ?_
          refine ev_iload_n dX10_word_125 rfl rfl ?_
          refine ev_isub dX10_word_126 ?_
          replace H := bnd_some H
          obtain ⟨v43, h44, eh44, H⟩ := H
          have ph44 := (t_X10_signOf_ (X := X) (d := 1) (by omega) eh44)
          refine ev_callS (as := [.int l3, .int (x42 - l1)]) dX10_word_127 ph44 ok_X10_signOf_ (by omega) rfl k6_62 k6_63 rfl (Nat.le_of_ble_eq_true rfl) ?_
          refine ev_if_ne (tgt := 157) dX10_word_130 (by decide) (fun c45 => ?_) (fun c45 => ?_)
          · rw [if_neg c45] at H
            replace H := vl_some H
            obtain ⟨x46, ex46, H⟩ := H
            refine ev_iincx (loc2 := [some (.ref l0), some (.int l1), some (.int l2), some (.int x46), none]) dX10_word_157 rfl (by decide) ex46 (by decide) rfl ?_
            refine ev_goto (tgt := 98) dX10_word_160 (by decide) ?_
            exact ih l0 l1 l2 x46 h44 H
          · rw [if_pos c45] at H
            refine ev_aload_n dX10_word_133 rfl rfl rfl ?_
            replace H := bnd_some H
            obtain ⟨v47, h48, eh48, H⟩ := H
            have ph48 := (t_X10_sign (X := X) (d := 1) (by omega) eh48)
            refine ev_callV (as := []) dX10_word_134 ph48 ok_X10_sign (by omega) rfl k6_65 k6_67 ks_47 (ci := 10) (by decide) rfl rfl (okO_ext ph44.1 (okOb.p g38)) rfl (Nat.le_of_ble_eq_true rfl) ?_
            refine ev_bipush (v := (61 : Int32)) dX10_word_137 (by decide) ?_
            refine ev_icmp_eq (tgt := 145) dX10_word_139 (by decide) (fun c49 => ?_) (fun c49 => ?_)
            · rw [if_pos c49] at H
              refine ev_aload_n dX10_word_145 rfl rfl rfl ?_
              refine ev_dup dX10_word_146 rfl ?_
              replace H := vl_some H
              obtain ⟨x50, ex50, H⟩ := H
              refine ev_getIx dX10_word_147 fgX10_271 rfl (okO_ext ph48.1 (okO_ext ph44.1 (okOb.p g38))) ex50 ?_
              refine ev_iconst (v := (1 : Int32)) dX10_word_150 (by decide) ?_
              refine ev_iadd dX10_word_151 ?_
              replace H := vl_some H
              obtain ⟨h51, eh51, H⟩ := H
              refine ev_putI dX10_word_152 fdX10_271 rfl rfl rfl (okO_ext ph48.1 (okO_ext ph44.1 (okOb.p g38))) eh51 ?_
              refine ev_iload_n dX10_word_155 rfl rfl ?_
              exact ev_iretx dX10_word_156 rfl rfl H
            · rw [if_neg c49] at H
              refine ev_goto (tgt := 157) dX10_word_142 (by decide) ?_
              replace H := vl_some H
              obtain ⟨x52, ex52, H⟩ := H
              refine ev_iincx (loc2 := [some (.ref l0), some (.int l1), some (.int l2), some (.int x52), none]) dX10_word_157 rfl (by decide) ex52 (by decide) rfl ?_
              refine ev_goto (tgt := 98) dX10_word_160 (by decide) ?_
              exact ih l0 l1 l2 x52 h48 H
def f_X10_word (h : Hp) (a0 : Nat) : Option (Int32 × Hp) :=
gd (okOb h a0 10) <|
vl (gI h a0 44) fun x2 =>
f_X10_word_L8 (fun y31 y32 y33 h34 =>
f_X10_word_L98 6000 y31 y32 y33 (0 : Int32) h34) 6000 a0 x2 (15 : Int32) h
set_option maxHeartbeats 4000000 in
set_option maxRecDepth 100000 in
theorem t_X10_word {X : Cx} {d : Nat} {h : Hp} {a0 : Nat} {v : Int32} {h' : Hp} (hD : 2 ≤ d) (H : f_X10_word h a0 = some (v, h')) : PM X mX10_word d [.ref a0] h (some (.int v)) h' := by
  unfold f_X10_word at H
  refine PM.of (loc := [some (.ref a0), none, none, none, none]) (by decide) rfl (Nat.le_of_ble_eq_true rfl) ?_
  refine ev_aload_n dX10_word_0 rfl rfl rfl ?_
  replace H := gd_some H
  obtain ⟨g1, H⟩ := H
  replace H := vl_some H
  obtain ⟨x2, ex2, H⟩ := H
  refine ev_getIx dX10_word_1 fgX10_271 rfl (okOb.p g1) ex2 ?_
  refine ev_istore_n (loc2 := [some (.ref a0), some (.int x2), none, none, none]) dX10_word_4 rfl (by decide) rfl ?_
  refine ev_bipush (v := (15 : Int32)) dX10_word_5 (by decide) ?_
  refine ev_istore_n (loc2 := [some (.ref a0), some (.int x2), some (.int (15 : Int32)), none, none]) dX10_word_7 rfl (by decide) rfl ?_
  refine t_X10_word_L8 hD ?_ 6000 a0 x2 (15 : Int32) h H
  · intro y31 y32 y33 h34 H
    refine ev_goto (tgt := 96) dX10_word_78 (by decide) ?_
    refine ev_iconst (v := (0 : Int32)) dX10_word_96 (by decide) ?_
    refine ev_istore_n (loc2 := [some (.ref y31), some (.int y32), some (.int y33), some (.int (0 : Int32)), none]) dX10_word_97 rfl (by decide) rfl ?_
    refine t_X10_word_L98 hD  6000 y31 y32 y33 (0 : Int32) h34 H

theorem dX10_isDigit_0 : decode cX10_isDigit 0 = .ok (.iload_n 0, 1) := by decide +kernel
theorem dX10_isDigit_1 : decode cX10_isDigit 1 = .ok (.bipush 48, 2) := by decide +kernel
theorem dX10_isDigit_3 : decode cX10_isDigit 3 = .ok (.if_icmp .lt 13, 3) := by decide +kernel
theorem dX10_isDigit_6 : decode cX10_isDigit 6 = .ok (.iload_n 0, 1) := by decide +kernel
theorem dX10_isDigit_7 : decode cX10_isDigit 7 = .ok (.bipush 57, 2) := by decide +kernel
theorem dX10_isDigit_9 : decode cX10_isDigit 9 = .ok (.if_icmp .gt 7, 3) := by decide +kernel
theorem dX10_isDigit_12 : decode cX10_isDigit 12 = .ok (.iconst 1, 1) := by decide +kernel
theorem dX10_isDigit_13 : decode cX10_isDigit 13 = .ok (.goto 4, 3) := by decide +kernel
theorem dX10_isDigit_16 : decode cX10_isDigit 16 = .ok (.iconst 0, 1) := by decide +kernel
theorem dX10_isDigit_17 : decode cX10_isDigit 17 = .ok (.ireturn, 1) := by decide +kernel
def f_X10_isDigit (h : Hp) (a0 : Int32) : Option (Int32 × Hp) :=
if a0 < (48 : Int32) then (
some ((0 : Int32), h)) else (
if (57 : Int32) < a0 then (
some ((0 : Int32), h)) else (
some ((1 : Int32), h)))
set_option maxHeartbeats 4000000 in
set_option maxRecDepth 100000 in
theorem t_X10_isDigit {X : Cx} {d : Nat} {h : Hp} {a0 : Int32} {v : Int32} {h' : Hp} (hD : 1 ≤ d) (H : f_X10_isDigit h a0 = some (v, h')) : PM X mX10_isDigit d [.int a0] h (some (.int v)) h' := by
  unfold f_X10_isDigit at H
  refine PM.of (loc := [some (.int a0)]) (by decide) rfl (Nat.le_of_ble_eq_true rfl) ?_
  refine ev_iload_n dX10_isDigit_0 rfl rfl ?_
  refine ev_bipush (v := (48 : Int32)) dX10_isDigit_1 (by decide) ?_
  refine ev_icmp_lt (tgt := 16) dX10_isDigit_3 (by decide) (fun c1 => ?_) (fun c1 => ?_)
  · rw [if_pos c1] at H
    refine ev_iconst (v := (0 : Int32)) dX10_isDigit_16 (by decide) ?_
    exact ev_iretx dX10_isDigit_17 rfl rfl H
  · rw [if_neg c1] at H
    refine ev_iload_n dX10_isDigit_6 rfl rfl ?_
    refine ev_bipush (v := (57 : Int32)) dX10_isDigit_7 (by decide) ?_
    refine ev_icmp_gt (tgt := 16) dX10_isDigit_9 (by decide) (fun c2 => ?_) (fun c2 => ?_)
    · rw [if_pos c2] at H
      refine ev_iconst (v := (0 : Int32)) dX10_isDigit_16 (by decide) ?_
      exact ev_iretx dX10_isDigit_17 rfl rfl H
    · rw [if_neg c2] at H
      refine ev_iconst (v := (1 : Int32)) dX10_isDigit_12 (by decide) ?_
      refine ev_goto (tgt := 17) dX10_isDigit_13 (by decide) ?_
      exact ev_iretx dX10_isDigit_17 rfl rfl H

theorem dX10_number_0 : decode cX10_number 0 = .ok (.aload_n 0, 1) := by decide +kernel
theorem dX10_number_1 : decode cX10_number 1 = .ok (.invokevirtual 276, 3) := by decide +kernel
theorem dX10_number_4 : decode cX10_number 4 = .ok (.invokestatic 280, 3) := by decide +kernel
theorem dX10_number_7 : decode cX10_number 7 = .ok (.ifCond .eq 16, 3) := by decide +kernel
theorem dX10_number_10 : decode cX10_number 10 = .ok (.iload_n 1, 1) := by decide +kernel
theorem dX10_number_11 : decode cX10_number 11 = .ok (.ifCond .eq 14, 3) := by decide +kernel
theorem dX10_number_14 : decode cX10_number 14 = .ok (.aload_n 0, 1) := by decide +kernel
theorem dX10_number_15 : decode cX10_number 15 = .ok (.invokevirtual 276, 3) := by decide +kernel
theorem dX10_number_18 : decode cX10_number 18 = .ok (.bipush 48, 2) := by decide +kernel
theorem dX10_number_20 : decode cX10_number 20 = .ok (.if_icmp .ne 5, 3) := by decide +kernel
theorem dX10_number_23 : decode cX10_number 23 = .ok (.iconst (-1), 1) := by decide +kernel
theorem dX10_number_24 : decode cX10_number 24 = .ok (.ireturn, 1) := by decide +kernel
theorem dX10_number_25 : decode cX10_number 25 = .ok (.iconst 0, 1) := by decide +kernel
theorem dX10_number_26 : decode cX10_number 26 = .ok (.istore_n 2, 1) := by decide +kernel
theorem dX10_number_27 : decode cX10_number 27 = .ok (.iconst 0, 1) := by decide +kernel
theorem dX10_number_28 : decode cX10_number 28 = .ok (.istore_n 3, 1) := by decide +kernel
theorem dX10_number_29 : decode cX10_number 29 = .ok (.aload_n 0, 1) := by decide +kernel
theorem dX10_number_30 : decode cX10_number 30 = .ok (.invokevirtual 276, 3) := by decide +kernel
theorem dX10_number_33 : decode cX10_number 33 = .ok (.invokestatic 280, 3) := by decide +kernel
theorem dX10_number_36 : decode cX10_number 36 = .ok (.ifCond .eq 45, 3) := by decide +kernel
theorem dX10_number_39 : decode cX10_number 39 = .ok (.iload_n 3, 1) := by decide +kernel
theorem dX10_number_40 : decode cX10_number 40 = .ok (.iconst 4, 1) := by decide +kernel
theorem dX10_number_41 : decode cX10_number 41 = .ok (.if_icmp .ge 40, 3) := by decide +kernel
theorem dX10_number_44 : decode cX10_number 44 = .ok (.iload_n 3, 1) := by decide +kernel
theorem dX10_number_45 : decode cX10_number 45 = .ok (.ifCond .eq 7, 3) := by decide +kernel
theorem dX10_number_48 : decode cX10_number 48 = .ok (.iload_n 2, 1) := by decide +kernel
theorem dX10_number_49 : decode cX10_number 49 = .ok (.ifCond .le 32, 3) := by decide +kernel
theorem dX10_number_52 : decode cX10_number 52 = .ok (.bipush 10, 2) := by decide +kernel
theorem dX10_number_54 : decode cX10_number 54 = .ok (.iload_n 2, 1) := by decide +kernel
theorem dX10_number_55 : decode cX10_number 55 = .ok (.imul, 1) := by decide +kernel
theorem dX10_number_56 : decode cX10_number 56 = .ok (.aload_n 0, 1) := by decide +kernel
theorem dX10_number_57 : decode cX10_number 57 = .ok (.invokevirtual 276, 3) := by decide +kernel
theorem dX10_number_60 : decode cX10_number 60 = .ok (.iadd, 1) := by decide +kernel
theorem dX10_number_61 : decode cX10_number 61 = .ok (.bipush 48, 2) := by decide +kernel
theorem dX10_number_63 : decode cX10_number 63 = .ok (.isub, 1) := by decide +kernel
theorem dX10_number_64 : decode cX10_number 64 = .ok (.istore_n 2, 1) := by decide +kernel
theorem dX10_number_65 : decode cX10_number 65 = .ok (.aload_n 0, 1) := by decide +kernel
theorem dX10_number_66 : decode cX10_number 66 = .ok (.dup, 1) := by decide +kernel
theorem dX10_number_67 : decode cX10_number 67 = .ok (.getfield 271, 3) := by decide +kernel
theorem dX10_number_70 : decode cX10_number 70 = .ok (.iconst 1, 1) := by decide +kernel
theorem dX10_number_71 : decode cX10_number 71 = .ok (.iadd, 1) := by decide +kernel
theorem dX10_number_72 : decode cX10_number 72 = .ok (.putfield 271, 3) := by decide +kernel
theorem dX10_number_75 : decode cX10_number 75 = .ok (.iinc 3 1, 3) := by decide +kernel
theorem dX10_number_78 : decode cX10_number 78 = .ok (.goto (-49), 3) := by decide +kernel
theorem dX10_number_81 : decode cX10_number 81 = .ok (.iload_n 2, 1) := by decide +kernel
theorem dX10_number_82 : decode cX10_number 82 = .ok (.ireturn, 1) := by decide +kernel
def f_X10_number_J52 (k29 : Nat → Int32 → Int32 → Int32 → Hp → Option (Int32 × Hp)) (l0 : Nat) (l1 : Int32) (l2 : Int32) (l3 : Int32) (h : Hp) : Option (Int32 × Hp) :=
gd (okOb h l0 10) <|
bnd (f_X10_sign h l0) fun v17 h18 =>
vl ((((10 : Int32) * l2) + v17) - (48 : Int32)) fun x19 =>
vl (gI h18 l0 44) fun x20 =>
vl (sI h18 l0 44 (x20 + (1 : Int32))) fun h21 =>
vl (l3 + (1 : Int32)) fun x22 =>
k29 l0 l1 x19 x22 h21
set_option maxHeartbeats 4000000 in
set_option maxRecDepth 100000 in
theorem t_X10_number_J52 {X : Cx} {d : Nat} {h0 h' : Hp} {v : Int32} {k29 : Nat → Int32 → Int32 → Int32 → Hp → Option (Int32 × Hp)} (hD : 2 ≤ d) (hk29 : ∀ (z0 : Nat) (z1 : Int32) (z2 : Int32) (z3 : Int32) (h : Hp), k29 z0 z1 z2 z3 h = some (v, h') → EV X mX10_number d h0 (some (.int v)) h' 29 [some (.ref z0), some (.int z1), some (.int z2), some (.int z3)] [] h) : ∀ (l0 : Nat) (l1 : Int32) (l2 : Int32) (l3 : Int32) (h : Hp), f_X10_number_J52 k29 l0 l1 l2 l3 h = some (v, h') → EV X mX10_number d h0 (some (.int v)) h' 52 [some (.ref l0), some (.int l1), some (.int l2), some (.int l3)] [] h := by
  intro l0 l1 l2 l3 h H
  unfold f_X10_number_J52 at H
  refine ev_bipush (v := (10 : Int32)) dX10_number_52 (by decide) ?_
  refine ev_iload_n dX10_number_54 rfl rfl ?_
  refine ev_imul dX10_number_55 ?_
  refine ev_aload_n dX10_number_56 rfl rfl rfl ?_
  replace H := gd_some H
  obtain ⟨g16, H⟩ := H
  replace H := bnd_some H
  obtain ⟨v17, h18, eh18, H⟩ := H
  have ph18 := (t_X10_sign (X := X) (d := 1) (by omega) eh18)
  refine ev_callV (as := []) dX10_number_57 ph18 ok_X10_sign (by omega) rfl k6_65 k6_67 ks_47 (ci := 10) (by decide) rfl rfl (okOb.p g16) rfl (Nat.le_of_ble_eq_true rfl) ?_
  refine ev_iadd dX10_number_60 ?_
  refine ev_bipush (v := (48 : Int32)) dX10_number_61 (by decide) ?_
  refine ev_isub dX10_number_63 ?_
  replace H := vl_some H
  obtain ⟨x19, ex19, H⟩ := H
  refine ev_istore_nx (loc2 := [some (.ref l0), some (.int l1), some (.int x19), some (.int l3)]) dX10_number_64 rfl (by decide) ex19 rfl ?_
  refine ev_aload_n dX10_number_65 rfl rfl rfl ?_
  refine ev_dup dX10_number_66 rfl ?_
  replace H := vl_some H
  obtain ⟨x20, ex20, H⟩ := H
  refine ev_getIx dX10_number_67 fgX10_271 rfl (okO_ext ph18.1 (okOb.p g16)) ex20 ?_
  refine ev_iconst (v := (1 : Int32)) dX10_number_70 (by decide) ?_
  refine ev_iadd dX10_number_71 ?_
  replace H := vl_some H
  obtain ⟨h21, eh21, H⟩ := H
  refine ev_putI dX10_number_72 fdX10_271 rfl rfl rfl (okO_ext ph18.1 (okOb.p g16)) eh21 ?_
  replace H := vl_some H
  obtain ⟨x22, ex22, H⟩ := H
  refine ev_iincx (loc2 := [some (.ref l0), some (.int l1), some (.int x19), some (.int x22)]) dX10_number_75 rfl (by decide) ex22 (by decide) rfl ?_
  refine ev_goto (tgt := 29) dX10_number_78 (by decide) ?_
  exact hk29 l0 l1 x19 x22 h21 H
def f_X10_number_L29 : Nat → Nat → Int32 → Int32 → Int32 → Hp → Option (Int32 × Hp)
  | 0, _, _, _, _, _ => none
  | n + 1, l0, l1, l2, l3, h =>
    gd (okOb h l0 10) <|
    bnd (f_X10_sign h l0) fun v9 h10 =>
    bnd (f_X10_isDigit h10 v9) fun v11 h12 =>
    if v11 = 0 then (
    some (l2, h12)) else (
    if (4 : Int32) ≤ l3 then (
    some (l2, h12)) else (
    if l3 = 0 then (
    f_X10_number_J52 (f_X10_number_L29 n) l0 l1 l2 l3 h12) else (
    if l2 ≤ 0 then (
    some (l2, h12)) else (
    f_X10_number_J52 (f_X10_number_L29 n) l0 l1 l2 l3 h12))))
set_option maxHeartbeats 4000000 in
set_option maxRecDepth 100000 in
theorem t_X10_number_L29 {X : Cx} {d : Nat} {h0 h' : Hp} {v : Int32} (hD : 2 ≤ d) : ∀ (n : Nat) (l0 : Nat) (l1 : Int32) (l2 : Int32) (l3 : Int32) (h : Hp), f_X10_number_L29 n l0 l1 l2 l3 h = some (v, h') → EV X mX10_number d h0 (some (.int v)) h' 29 [some (.ref l0), some (.int l1), some (.int l2), some (.int l3)] [] h := by
  intro n
  induction n with
  | zero => intro l0 l1 l2 l3 h H; simp [f_X10_number_L29] at H
  | succ n ih =>
    intro l0 l1 l2 l3 h H
    rw [f_X10_number_L29] at H
    refine ev_aload_n dX10_number_29 rfl rfl rfl ?_
    replace H := gd_some H
    obtain ⟨g8, H⟩ := H
    replace H := bnd_some H
    obtain ⟨v9, h10, eh10, H⟩ := H
    have ph10 := (t_X10_sign (X := X) (d := 1) (by omega) eh10)
    refine ev_callV (as := []) dX10_number_30 ph10 ok_X10_sign (by omega) rfl k6_65 k6_67 ks_47 (ci := 10) (by decide) rfl rfl (okOb.p g8) rfl (Nat.le_of_ble_eq_true rfl) ?_
    replace H := bnd_some H
    obtain ⟨v11, h12, eh12, H⟩ := H
    have ph12 := (t_X10_isDigit (X := X) (d := 1) (by omega) eh12)
    refine ev_callS (as := [.int v9]) dX10_number_33 ph12 ok_X10_isDigit (by omega) rfl k6_73 k6_74 rfl (Nat.le_of_ble_eq_true rfl) ?_
    refine ev_if_eq (tgt := 81) dX10_number_36 (by decide) (fun c13 => ?_) (fun c13 => ?_)
    · rw [if_pos c13] at H
      refine ev_iload_n dX10_number_81 rfl rfl ?_
      exact ev_iretx dX10_number_82 rfl rfl H
    · rw [if_neg c13] at H
      refine ev_iload_n dX10_number_39 rfl rfl ?_
      refine ev_iconst (v := (4 : Int32)) dX10_number_40 (by decide) ?_
      refine ev_icmp_ge (tgt := 81) dX10_number_41 (by decide) (fun c14 => ?_) (fun c14 => ?_)
      · rw [if_pos c14] at H
        refine ev_iload_n dX10_number_81 rfl rfl ?_
        exact ev_iretx dX10_number_82 rfl rfl H
      · rw [if_neg c14] at H
        refine ev_iload_n dX10_number_44 rfl rfl ?_
        refine ev_if_eq (tgt := 52) dX10_number_45 (by decide) (fun c15 => ?_) (fun c15 => ?_)
        · rw [if_pos c15] at H
          exact t_X10_number_J52 hD ih l0 l1 l2 l3 h12 H
        · rw [if_neg c15] at H
          refine ev_iload_n dX10_number_48 rfl rfl ?_
          refine ev_if_le (tgt := 81) dX10_number_49 (by decide) (fun c23 => ?_) (fun c23 => ?_)
          · rw [if_pos c23] at H
            refine ev_iload_n dX10_number_81 rfl rfl ?_
            exact ev_iretx dX10_number_82 rfl rfl H
          · rw [if_neg c23] at H
            exact t_X10_number_J52 hD ih l0 l1 l2 l3 h12 H
def f_X10_number_J25 (l0 : Nat) (l1 : Int32) (h : Hp) : Option (Int32 × Hp) :=
f_X10_number_L29 6000 l0 l1 (0 : Int32) (0 : Int32) h
set_option maxHeartbeats 4000000 in
set_option maxRecDepth 100000 in
theorem t_X10_number_J25 {X : Cx} {d : Nat} {h0 h' : Hp} {v : Int32} (hD : 2 ≤ d) : ∀ (l0 : Nat) (l1 : Int32) (h : Hp), f_X10_number_J25 l0 l1 h = some (v, h') → EV X mX10_number d h0 (some (.int v)) h' 25 [some (.ref l0), some (.int l1), none, none] [] h := by
  intro l0 l1 h H
  unfold f_X10_number_J25 at H
  refine ev_iconst (v := (0 : Int32)) dX10_number_25 (by decide) ?_
  refine ev_istore_n (loc2 := [some (.ref l0), some (.int l1), some (.int (0 : Int32)), none]) dX10_number_26 rfl (by decide) rfl ?_
  refine ev_iconst (v := (0 : Int32)) dX10_number_27 (by decide) ?_
  refine ev_istore_n (loc2 := [some (.ref l0), some (.int l1), some (.int (0 : Int32)), some (.int (0 : Int32))]) dX10_number_28 rfl (by decide) rfl ?_
  refine t_X10_number_L29 hD  6000 l0 l1 (0 : Int32) (0 : Int32) h H
def f_X10_number (h : Hp) (a0 : Nat) (a1 : Int32) : Option (Int32 × Hp) :=
gd (okOb h a0 10) <|
bnd (f_X10_sign h a0) fun v2 h3 =>
bnd (f_X10_isDigit h3 v2) fun v4 h5 =>
if v4 = 0 then (
some ((-1 : Int32), h5)) else (
if a1 = 0 then (
f_X10_number_J25 a0 a1 h5) else (
bnd (f_X10_sign h5 a0) fun v24 h25 =>
if v24 = (48 : Int32) then (
some ((-1 : Int32), h25)) else (
f_X10_number_J25 a0 a1 h25)))
set_option maxHeartbeats 4000000 in
set_option maxRecDepth 100000 in
theorem t_X10_number {X : Cx} {d : Nat} {h : Hp} {a0 : Nat} {a1 : Int32} {v : Int32} {h' : Hp} (hD : 2 ≤ d) (H : f_X10_number h a0 a1 = some (v, h')) : PM X mX10_number d [.ref a0, .int a1] h (some (.int v)) h' := by
  unfold f_X10_number at H
  refine PM.of (loc := [some (.ref a0), some (.int a1), none, none]) (by decide) rfl (Nat.le_of_ble_eq_true rfl) ?_
  refine ev_aload_n dX10_number_0 rfl rfl rfl ?_
  replace H := gd_some H
  obtain ⟨g1, H⟩ := H
  replace H := bnd_some H
  obtain ⟨v2, h3, eh3, H⟩ := H
  have ph3 := (t_X10_sign (X := X) (d := 1) (by omega) eh3)
  refine ev_callV (as := []) dX10_number_1 ph3 ok_X10_sign (by omega) rfl k6_65 k6_67 ks_47 (ci := 10) (by decide) rfl rfl (okOb.p g1) rfl (Nat.le_of_ble_eq_true rfl) ?_
  replace H := bnd_some H
  obtain ⟨v4, h5, eh5, H⟩ := H
  have ph5 := (t_X10_isDigit (X := X) (d := 1) (by omega) eh5)
  refine ev_callS (as := [.int v2]) dX10_number_4 ph5 ok_X10_isDigit (by omega) rfl k6_73 k6_74 rfl (Nat.le_of_ble_eq_true rfl) ?_
  refine ev_if_eq (tgt := 23) dX10_number_7 (by decide) (fun c6 => ?_) (fun c6 => ?_)
  · rw [if_pos c6] at H
    refine ev_iconst (v := (-1 : Int32)) dX10_number_23 (by decide) ?_
    exact ev_iretx dX10_number_24 rfl rfl H
  · rw [if_neg c6] at H
    refine ev_iload_n dX10_number_10 rfl rfl ?_
    refine ev_if_eq (tgt := 25) dX10_number_11 (by decide) (fun c7 => ?_) (fun c7 => ?_)
    · rw [if_pos c7] at H
      exact t_X10_number_J25 hD a0 a1 h5 H
    · rw [if_neg c7] at H
      refine ev_aload_n dX10_number_14 rfl rfl rfl ?_
      replace H := bnd_some H
      obtain ⟨v24, h25, eh25, H⟩ := H
      have ph25 := (t_X10_sign (X := X) (d := 1) (by omega) eh25)
      refine ev_callV (as := []) dX10_number_15 ph25 ok_X10_sign (by omega) rfl k6_65 k6_67 ks_47 (ci := 10) (by decide) rfl rfl (okO_ext ph5.1 (okO_ext ph3.1 (okOb.p g1))) rfl (Nat.le_of_ble_eq_true rfl) ?_
      refine ev_bipush (v := (48 : Int32)) dX10_number_18 (by decide) ?_
      refine ev_icmp_ne (tgt := 25) dX10_number_20 (by decide) (fun c26 => ?_) (fun c26 => ?_)
      · rw [if_neg c26] at H
        exact t_X10_number_J25 hD a0 a1 h25 H
      · rw [if_pos c26] at H
        refine ev_iconst (v := (-1 : Int32)) dX10_number_23 (by decide) ?_
        exact ev_iretx dX10_number_24 rfl rfl H

theorem dX10_clauses_0 : decode cX10_clauses 0 = .ok (.iconst 0, 1) := by decide +kernel
theorem dX10_clauses_1 : decode cX10_clauses 1 = .ok (.istore_n 1, 1) := by decide +kernel
theorem dX10_clauses_2 : decode cX10_clauses 2 = .ok (.iload_n 1, 1) := by decide +kernel
theorem dX10_clauses_3 : decode cX10_clauses 3 = .ok (.iconst 4, 1) := by decide +kernel
theorem dX10_clauses_4 : decode cX10_clauses 4 = .ok (.if_icmp .ge 23, 3) := by decide +kernel
theorem dX10_clauses_7 : decode cX10_clauses 7 = .ok (.aload_n 0, 1) := by decide +kernel
theorem dX10_clauses_8 : decode cX10_clauses 8 = .ok (.getfield 116, 3) := by decide +kernel
theorem dX10_clauses_11 : decode cX10_clauses 11 = .ok (.iload_n 1, 1) := by decide +kernel
theorem dX10_clauses_12 : decode cX10_clauses 12 = .ok (.iconst 0, 1) := by decide +kernel
theorem dX10_clauses_13 : decode cX10_clauses 13 = .ok (.iastore, 1) := by decide +kernel
theorem dX10_clauses_14 : decode cX10_clauses 14 = .ok (.aload_n 0, 1) := by decide +kernel
theorem dX10_clauses_15 : decode cX10_clauses 15 = .ok (.getfield 119, 3) := by decide +kernel
theorem dX10_clauses_18 : decode cX10_clauses 18 = .ok (.iload_n 1, 1) := by decide +kernel
theorem dX10_clauses_19 : decode cX10_clauses 19 = .ok (.iconst 1, 1) := by decide +kernel
theorem dX10_clauses_20 : decode cX10_clauses 20 = .ok (.iastore, 1) := by decide +kernel
theorem dX10_clauses_21 : decode cX10_clauses 21 = .ok (.iinc 1 1, 3) := by decide +kernel
theorem dX10_clauses_24 : decode cX10_clauses 24 = .ok (.goto (-22), 3) := by decide +kernel
theorem dX10_clauses_27 : decode cX10_clauses 27 = .ok (.aload_n 0, 1) := by decide +kernel
theorem dX10_clauses_28 : decode cX10_clauses 28 = .ok (.iconst 0, 1) := by decide +kernel
theorem dX10_clauses_29 : decode cX10_clauses 29 = .ok (.putfield 271, 3) := by decide +kernel
theorem dX10_clauses_32 : decode cX10_clauses 32 = .ok (.iconst 1, 1) := by decide +kernel
theorem dX10_clauses_33 : decode cX10_clauses 33 = .ok (.istore_n 1, 1) := by decide +kernel
theorem dX10_clauses_34 : decode cX10_clauses 34 = .ok (.iload_n 1, 1) := by decide +kernel
theorem dX10_clauses_35 : decode cX10_clauses 35 = .ok (.bipush 8, 2) := by decide +kernel
theorem dX10_clauses_37 : decode cX10_clauses 37 = .ok (.if_icmp .gt 125, 3) := by decide +kernel
theorem dX10_clauses_40 : decode cX10_clauses 40 = .ok (.aload_n 0, 1) := by decide +kernel
theorem dX10_clauses_41 : decode cX10_clauses 41 = .ok (.invokevirtual 283, 3) := by decide +kernel
theorem dX10_clauses_44 : decode cX10_clauses 44 = .ok (.istore_n 2, 1) := by decide +kernel
theorem dX10_clauses_45 : decode cX10_clauses 45 = .ok (.iload_n 2, 1) := by decide +kernel
theorem dX10_clauses_46 : decode cX10_clauses 46 = .ok (.ifCond .ge 7, 3) := by decide +kernel
theorem dX10_clauses_49 : decode cX10_clauses 49 = .ok (.iconst (-1), 1) := by decide +kernel
theorem dX10_clauses_50 : decode cX10_clauses 50 = .ok (.goto 8, 3) := by decide +kernel
theorem dX10_clauses_53 : decode cX10_clauses 53 = .ok (.aload_n 0, 1) := by decide +kernel
theorem dX10_clauses_54 : decode cX10_clauses 54 = .ok (.iconst 0, 1) := by decide +kernel
theorem dX10_clauses_55 : decode cX10_clauses 55 = .ok (.invokevirtual 286, 3) := by decide +kernel
theorem dX10_clauses_58 : decode cX10_clauses 58 = .ok (.istore_n 3, 1) := by decide +kernel
theorem dX10_clauses_59 : decode cX10_clauses 59 = .ok (.iload_n 3, 1) := by decide +kernel
theorem dX10_clauses_60 : decode cX10_clauses 60 = .ok (.ifCond .ge 5, 3) := by decide +kernel
theorem dX10_clauses_63 : decode cX10_clauses 63 = .ok (.iconst (-1), 1) := by decide +kernel
theorem dX10_clauses_64 : decode cX10_clauses 64 = .ok (.ireturn, 1) := by decide +kernel
theorem dX10_clauses_65 : decode cX10_clauses 65 = .ok (.iconst 1, 1) := by decide +kernel
theorem dX10_clauses_66 : decode cX10_clauses 66 = .ok (.istore 4, 2) := by decide +kernel
theorem dX10_clauses_68 : decode cX10_clauses 68 = .ok (.aload_n 0, 1) := by decide +kernel
theorem dX10_clauses_69 : decode cX10_clauses 69 = .ok (.invokevirtual 276, 3) := by decide +kernel
theorem dX10_clauses_72 : decode cX10_clauses 72 = .ok (.bipush 47, 2) := by decide +kernel
theorem dX10_clauses_74 : decode cX10_clauses 74 = .ok (.if_icmp .ne 27, 3) := by decide +kernel
theorem dX10_clauses_77 : decode cX10_clauses 77 = .ok (.aload_n 0, 1) := by decide +kernel
theorem dX10_clauses_78 : decode cX10_clauses 78 = .ok (.dup, 1) := by decide +kernel
theorem dX10_clauses_79 : decode cX10_clauses 79 = .ok (.getfield 271, 3) := by decide +kernel
theorem dX10_clauses_82 : decode cX10_clauses 82 = .ok (.iconst 1, 1) := by decide +kernel
theorem dX10_clauses_83 : decode cX10_clauses 83 = .ok (.iadd, 1) := by decide +kernel
theorem dX10_clauses_84 : decode cX10_clauses 84 = .ok (.putfield 271, 3) := by decide +kernel
theorem dX10_clauses_87 : decode cX10_clauses 87 = .ok (.aload_n 0, 1) := by decide +kernel
theorem dX10_clauses_88 : decode cX10_clauses 88 = .ok (.iconst 1, 1) := by decide +kernel
theorem dX10_clauses_89 : decode cX10_clauses 89 = .ok (.invokevirtual 286, 3) := by decide +kernel
theorem dX10_clauses_92 : decode cX10_clauses 92 = .ok (.istore 4, 2) := by decide +kernel
theorem dX10_clauses_94 : decode cX10_clauses 94 = .ok (.iload 4, 2) := by decide +kernel
theorem dX10_clauses_96 : decode cX10_clauses 96 = .ok (.ifCond .ge 5, 3) := by decide +kernel
theorem dX10_clauses_99 : decode cX10_clauses 99 = .ok (.iconst (-1), 1) := by decide +kernel
theorem dX10_clauses_100 : decode cX10_clauses 100 = .ok (.ireturn, 1) := by decide +kernel
theorem dX10_clauses_101 : decode cX10_clauses 101 = .ok (.aload_n 0, 1) := by decide +kernel
theorem dX10_clauses_102 : decode cX10_clauses 102 = .ok (.getfield 116, 3) := by decide +kernel
theorem dX10_clauses_105 : decode cX10_clauses 105 = .ok (.iload_n 2, 1) := by decide +kernel
theorem dX10_clauses_106 : decode cX10_clauses 106 = .ok (.iload_n 3, 1) := by decide +kernel
theorem dX10_clauses_107 : decode cX10_clauses 107 = .ok (.iastore, 1) := by decide +kernel
theorem dX10_clauses_108 : decode cX10_clauses 108 = .ok (.aload_n 0, 1) := by decide +kernel
theorem dX10_clauses_109 : decode cX10_clauses 109 = .ok (.getfield 119, 3) := by decide +kernel
theorem dX10_clauses_112 : decode cX10_clauses 112 = .ok (.iload_n 2, 1) := by decide +kernel
theorem dX10_clauses_113 : decode cX10_clauses 113 = .ok (.iload 4, 2) := by decide +kernel
theorem dX10_clauses_115 : decode cX10_clauses 115 = .ok (.iastore, 1) := by decide +kernel
theorem dX10_clauses_116 : decode cX10_clauses 116 = .ok (.aload_n 0, 1) := by decide +kernel
theorem dX10_clauses_117 : decode cX10_clauses 117 = .ok (.getfield 271, 3) := by decide +kernel
theorem dX10_clauses_120 : decode cX10_clauses 120 = .ok (.aload_n 0, 1) := by decide +kernel
theorem dX10_clauses_121 : decode cX10_clauses 121 = .ok (.getfield 155, 3) := by decide +kernel
theorem dX10_clauses_124 : decode cX10_clauses 124 = .ok (.if_icmp .ne 5, 3) := by decide +kernel
theorem dX10_clauses_127 : decode cX10_clauses 127 = .ok (.iload_n 1, 1) := by decide +kernel
theorem dX10_clauses_128 : decode cX10_clauses 128 = .ok (.ireturn, 1) := by decide +kernel
theorem dX10_clauses_129 : decode cX10_clauses 129 = .ok (.aload_n 0, 1) := by decide +kernel
theorem dX10_clauses_130 : decode cX10_clauses 130 = .ok (.invokevirtual 276, 3) := by decide +kernel
theorem dX10_clauses_133 : decode cX10_clauses 133 = .ok (.bipush 59, 2) := by decide +kernel
theorem dX10_clauses_135 : decode cX10_clauses 135 = .ok (.if_icmp .ne 9, 3) := by decide +kernel
theorem dX10_clauses_138 : decode cX10_clauses 138 = .ok (.iload_n 1, 1) := by decide +kernel
theorem dX10_clauses_139 : decode cX10_clauses 139 = .ok (.bipush 8, 2) := by decide +kernel
theorem dX10_clauses_141 : decode cX10_clauses 141 = .ok (.if_icmp .ne 5, 3) := by decide +kernel
theorem dX10_clauses_144 : decode cX10_clauses 144 = .ok (.iconst (-1), 1) := by decide +kernel
theorem dX10_clauses_145 : decode cX10_clauses 145 = .ok (.ireturn, 1) := by decide +kernel
theorem dX10_clauses_146 : decode cX10_clauses 146 = .ok (.aload_n 0, 1) := by decide +kernel
theorem dX10_clauses_147 : decode cX10_clauses 147 = .ok (.dup, 1) := by decide +kernel
theorem dX10_clauses_148 : decode cX10_clauses 148 = .ok (.getfield 271, 3) := by decide +kernel
theorem dX10_clauses_151 : decode cX10_clauses 151 = .ok (.iconst 1, 1) := by decide +kernel
theorem dX10_clauses_152 : decode cX10_clauses 152 = .ok (.iadd, 1) := by decide +kernel
theorem dX10_clauses_153 : decode cX10_clauses 153 = .ok (.putfield 271, 3) := by decide +kernel
theorem dX10_clauses_156 : decode cX10_clauses 156 = .ok (.iinc 1 1, 3) := by decide +kernel
theorem dX10_clauses_159 : decode cX10_clauses 159 = .ok (.goto (-125), 3) := by decide +kernel
theorem dX10_clauses_162 : decode cX10_clauses 162 = .ok (.iconst (-1), 1) := by decide +kernel
theorem dX10_clauses_163 : decode cX10_clauses 163 = .ok (.ireturn, 1) := by decide +kernel
def f_X10_clauses_L2 (k27 : Nat → Int32 → Hp → Option (Int32 × Hp)) : Nat → Nat → Int32 → Hp → Option (Int32 × Hp)
  | 0, _, _, _ => none
  | n + 1, l0, l1, h =>
    if (4 : Int32) ≤ l1 then (
    k27 l0 l1 h) else (
    gd (okOb h l0 10) <|
    vl (gR h l0 42) fun r3 =>
    un r3 fun b4 =>
    gd (okAb h b4 11 l1) <|
    vl (sI h b4 l1.toNatClampNeg (0 : Int32)) fun h6 =>
    vl (gR h6 l0 43) fun r7 =>
    un r7 fun b8 =>
    gd (okAb h6 b8 11 l1) <|
    vl (sI h6 b8 l1.toNatClampNeg (1 : Int32)) fun h10 =>
    vl (l1 + (1 : Int32)) fun x11 =>
    f_X10_clauses_L2 k27 n l0 x11 h10)
set_option maxHeartbeats 4000000 in
set_option maxRecDepth 100000 in
theorem t_X10_clauses_L2 {X : Cx} {d : Nat} {h0 h' : Hp} {v : Int32} {k27 : Nat → Int32 → Hp → Option (Int32 × Hp)} (hD : 3 ≤ d) (hk27 : ∀ (z0 : Nat) (z1 : Int32) (h : Hp), k27 z0 z1 h = some (v, h') → EV X mX10_clauses d h0 (some (.int v)) h' 27 [some (.ref z0), some (.int z1), none, none, none] [] h) : ∀ (n : Nat) (l0 : Nat) (l1 : Int32) (h : Hp), f_X10_clauses_L2 k27 n l0 l1 h = some (v, h') → EV X mX10_clauses d h0 (some (.int v)) h' 2 [some (.ref l0), some (.int l1), none, none, none] [] h := by
  intro n
  induction n with
  | zero => intro l0 l1 h H; simp [f_X10_clauses_L2] at H
  | succ n ih =>
    intro l0 l1 h H
    rw [f_X10_clauses_L2] at H
    refine ev_iload_n dX10_clauses_2 rfl rfl ?_
    refine ev_iconst (v := (4 : Int32)) dX10_clauses_3 (by decide) ?_
    refine ev_icmp_ge (tgt := 27) dX10_clauses_4 (by decide) (fun c1 => ?_) (fun c1 => ?_)
    · rw [if_pos c1] at H
      exact hk27 l0 l1 h H
    · rw [if_neg c1] at H
      refine ev_aload_n dX10_clauses_7 rfl rfl rfl ?_
      replace H := gd_some H
      obtain ⟨g2, H⟩ := H
      replace H := vl_some H
      obtain ⟨r3, er3, H⟩ := H
      refine ev_getRx dX10_clauses_8 fgX10_116 rfl (okOb.p g2) er3 ?_
      refine ev_iload_n dX10_clauses_11 rfl rfl ?_
      refine ev_iconst (v := (0 : Int32)) dX10_clauses_12 (by decide) ?_
      replace H := un_some H
      obtain ⟨b4, eb4, H⟩ := H
      subst eb4
      replace H := gd_some H
      obtain ⟨g5, H⟩ := H
      replace H := vl_some H
      obtain ⟨h6, eh6, H⟩ := H
      refine ev_iast dX10_clauses_13 (okAb.p g5) eh6 ?_
      refine ev_aload_n dX10_clauses_14 rfl rfl rfl ?_
      replace H := vl_some H
      obtain ⟨r7, er7, H⟩ := H
      refine ev_getRx dX10_clauses_15 fgX10_119 rfl (okO_sI eh6 (okOb.p g2)) er7 ?_
      refine ev_iload_n dX10_clauses_18 rfl rfl ?_
      refine ev_iconst (v := (1 : Int32)) dX10_clauses_19 (by decide) ?_
      replace H := un_some H
      obtain ⟨b8, eb8, H⟩ := H
      subst eb8
      replace H := gd_some H
      obtain ⟨g9, H⟩ := H
      replace H := vl_some H
      obtain ⟨h10, eh10, H⟩ := H
      refine ev_iast dX10_clauses_20 (okAb.p g9) eh10 ?_
      replace H := vl_some H
      obtain ⟨x11, ex11, H⟩ := H
      refine ev_iincx (loc2 := [some (.ref l0), some (.int x11), none, none, none]) dX10_clauses_21 rfl (by decide) ex11 (by decide) rfl ?_
      refine ev_goto (tgt := 2) dX10_clauses_24 (by decide) ?_
      exact ih l0 x11 h10 H
def f_X10_clauses_J101 (k34 : Nat → Int32 → Hp → Option (Int32 × Hp)) (l0 : Nat) (l1 : Int32) (l2 : Int32) (l3 : Int32) (l4 : Int32) (h : Hp) : Option (Int32 × Hp) :=
gd (okOb h l0 10) <|
vl (gR h l0 42) fun r30 =>
un r30 fun b31 =>
gd (okAb h b31 11 l2) <|
vl (sI h b31 l2.toNatClampNeg l3) fun h33 =>
vl (gR h33 l0 43) fun r34 =>
un r34 fun b35 =>
gd (okAb h33 b35 11 l2) <|
vl (sI h33 b35 l2.toNatClampNeg l4) fun h37 =>
vl (gI h37 l0 44) fun x38 =>
vl (gI h37 l0 2) fun x39 =>
if x38 = x39 then (
some (l1, h37)) else (
bnd (f_X10_sign h37 l0) fun v41 h42 =>
if v41 = (59 : Int32) then (
if l1 = (8 : Int32) then (
some ((-1 : Int32), h42)) else (
vl (gI h42 l0 44) fun x45 =>
vl (sI h42 l0 44 (x45 + (1 : Int32))) fun h46 =>
vl (l1 + (1 : Int32)) fun x47 =>
k34 l0 x47 h46)) else (
some ((-1 : Int32), h42)))
set_option maxHeartbeats 4000000 in
set_option maxRecDepth 100000 in
theorem t_X10_clauses_J101 {X : Cx} {d : Nat} {h0 h' : Hp} {v : Int32} {k34 : Nat → Int32 → Hp → Option (Int32 × Hp)} (hD : 3 ≤ d) (hk34 : ∀ (z0 : Nat) (z1 : Int32) (h : Hp), k34 z0 z1 h = some (v, h') → EV X mX10_clauses d h0 (some (.int v)) h' 34 [some (.ref z0), some (.int z1), none, none, none] [] h) : ∀ (l0 : Nat) (l1 : Int32) (l2 : Int32) (l3 : Int32) (l4 : Int32) (h : Hp), f_X10_clauses_J101 k34 l0 l1 l2 l3 l4 h = some (v, h') → EV X mX10_clauses d h0 (some (.int v)) h' 101 [some (.ref l0), some (.int l1), some (.int l2), some (.int l3), some (.int l4)] [] h := by
  intro l0 l1 l2 l3 l4 h H
  unfold f_X10_clauses_J101 at H
  refine ev_aload_n dX10_clauses_101 rfl rfl rfl ?_
  replace H := gd_some H
  obtain ⟨g29, H⟩ := H
  replace H := vl_some H
  obtain ⟨r30, er30, H⟩ := H
  refine ev_getRx dX10_clauses_102 fgX10_116 rfl (okOb.p g29) er30 ?_
  refine ev_iload_n dX10_clauses_105 rfl rfl ?_
  refine ev_iload_n dX10_clauses_106 rfl rfl ?_
  replace H := un_some H
  obtain ⟨b31, eb31, H⟩ := H
  subst eb31
  replace H := gd_some H
  obtain ⟨g32, H⟩ := H
  replace H := vl_some H
  obtain ⟨h33, eh33, H⟩ := H
  refine ev_iast dX10_clauses_107 (okAb.p g32) eh33 ?_
  refine ev_aload_n dX10_clauses_108 rfl rfl rfl ?_
  replace H := vl_some H
  obtain ⟨r34, er34, H⟩ := H
  refine ev_getRx dX10_clauses_109 fgX10_119 rfl (okO_sI eh33 (okOb.p g29)) er34 ?_
  refine ev_iload_n dX10_clauses_112 rfl rfl ?_
  refine ev_iload dX10_clauses_113 rfl ?_
  replace H := un_some H
  obtain ⟨b35, eb35, H⟩ := H
  subst eb35
  replace H := gd_some H
  obtain ⟨g36, H⟩ := H
  replace H := vl_some H
  obtain ⟨h37, eh37, H⟩ := H
  refine ev_iast dX10_clauses_115 (okAb.p g36) eh37 ?_
  refine ev_aload_n dX10_clauses_116 rfl rfl rfl ?_
  replace H := vl_some H
  obtain ⟨x38, ex38, H⟩ := H
  refine ev_getIx dX10_clauses_117 fgX10_271 rfl (okO_sI eh37 (okO_sI eh33 (okOb.p g29))) ex38 ?_
  refine ev_aload_n dX10_clauses_120 rfl rfl rfl ?_
  replace H := vl_some H
  obtain ⟨x39, ex39, H⟩ := H
  refine ev_getIx dX10_clauses_121 fgX10_155 rfl (okO_sI eh37 (okO_sI eh33 (okOb.p g29))) ex39 ?_
  refine ev_icmp_ne (tgt := 129) dX10_clauses_124 (by decide) (fun c40 => ?_) (fun c40 => ?_)
  · rw [if_neg c40] at H
    refine ev_aload_n dX10_clauses_129 rfl rfl rfl ?_
    replace H := bnd_some H
    obtain ⟨v41, h42, eh42, H⟩ := H
    have ph42 := (t_X10_sign (X := X) (d := 1) (by omega) eh42)
    refine ev_callV (as := []) dX10_clauses_130 ph42 ok_X10_sign (by omega) rfl k6_65 k6_67 ks_47 (ci := 10) (by decide) rfl rfl (okO_sI eh37 (okO_sI eh33 (okOb.p g29))) rfl (Nat.le_of_ble_eq_true rfl) ?_
    refine ev_bipush (v := (59 : Int32)) dX10_clauses_133 (by decide) ?_
    refine ev_icmp_ne (tgt := 144) dX10_clauses_135 (by decide) (fun c43 => ?_) (fun c43 => ?_)
    · rw [if_neg c43] at H
      refine ev_iconst (v := (-1 : Int32)) dX10_clauses_144 (by decide) ?_
      exact ev_iretx dX10_clauses_145 rfl rfl H
    · rw [if_pos c43] at H
      refine ev_iload_n dX10_clauses_138 rfl rfl ?_
      refine ev_bipush (v := (8 : Int32)) dX10_clauses_139 (by decide) ?_
      refine ev_icmp_ne (tgt := 146) dX10_clauses_141 (by decide) (fun c44 => ?_) (fun c44 => ?_)
      · rw [if_neg c44] at H
        refine ev_aload_n dX10_clauses_146 rfl rfl rfl ?_
        refine ev_dup dX10_clauses_147 rfl ?_
        replace H := vl_some H
        obtain ⟨x45, ex45, H⟩ := H
        refine ev_getIx dX10_clauses_148 fgX10_271 rfl (okO_ext ph42.1 (okO_sI eh37 (okO_sI eh33 (okOb.p g29)))) ex45 ?_
        refine ev_iconst (v := (1 : Int32)) dX10_clauses_151 (by decide) ?_
        refine ev_iadd dX10_clauses_152 ?_
        replace H := vl_some H
        obtain ⟨h46, eh46, H⟩ := H
        refine ev_putI dX10_clauses_153 fdX10_271 rfl rfl rfl (okO_ext ph42.1 (okO_sI eh37 (okO_sI eh33 (okOb.p g29)))) eh46 ?_
        replace H := vl_some H
        obtain ⟨x47, ex47, H⟩ := H
        refine ev_iincx (loc2 := [some (.ref l0), some (.int x47), some (.int l2), some (.int l3), some (.int l4)]) dX10_clauses_156 rfl (by decide) ex47 (by decide) rfl ?_
        refine ev_goto (tgt := 34) dX10_clauses_159 (by decide) ?_
        refine ev_drop (loc2 := [some (.ref l0), some (.int x47), none, none, none]) [true, true, false, false, false] rfl ?_
        exact hk34 l0 x47 h46 H
      · rw [if_pos c44] at H
        refine ev_iconst (v := (-1 : Int32)) dX10_clauses_144 (by decide) ?_
        exact ev_iretx dX10_clauses_145 rfl rfl H
  · rw [if_pos c40] at H
    refine ev_iload_n dX10_clauses_127 rfl rfl ?_
    exact ev_iretx dX10_clauses_128 rfl rfl H
def f_X10_clauses_J58 (k34 : Nat → Int32 → Hp → Option (Int32 × Hp)) (l0 : Nat) (l1 : Int32) (l2 : Int32) (w0 : Int32) (h : Hp) : Option (Int32 × Hp) :=
if 0 ≤ w0 then (
gd (okOb h l0 10) <|
bnd (f_X10_sign h l0) fun v26 h27 =>
if v26 = (47 : Int32) then (
vl (gI h27 l0 44) fun x48 =>
vl (sI h27 l0 44 (x48 + (1 : Int32))) fun h49 =>
bnd (f_X10_number h49 l0 (1 : Int32)) fun v50 h51 =>
if 0 ≤ v50 then (
f_X10_clauses_J101 k34 l0 l1 l2 w0 v50 h51) else (
some ((-1 : Int32), h51))) else (
f_X10_clauses_J101 k34 l0 l1 l2 w0 (1 : Int32) h27)) else (
some ((-1 : Int32), h))
set_option maxHeartbeats 4000000 in
set_option maxRecDepth 100000 in
theorem t_X10_clauses_J58 {X : Cx} {d : Nat} {h0 h' : Hp} {v : Int32} {k34 : Nat → Int32 → Hp → Option (Int32 × Hp)} (hD : 3 ≤ d) (hk34 : ∀ (z0 : Nat) (z1 : Int32) (h : Hp), k34 z0 z1 h = some (v, h') → EV X mX10_clauses d h0 (some (.int v)) h' 34 [some (.ref z0), some (.int z1), none, none, none] [] h) : ∀ (l0 : Nat) (l1 : Int32) (l2 : Int32) (w0 : Int32) (h : Hp), f_X10_clauses_J58 k34 l0 l1 l2 w0 h = some (v, h') → EV X mX10_clauses d h0 (some (.int v)) h' 58 [some (.ref l0), some (.int l1), some (.int l2), none, none] [.int w0] h := by
  intro l0 l1 l2 w0 h H
  unfold f_X10_clauses_J58 at H
  refine ev_istore_n (loc2 := [some (.ref l0), some (.int l1), some (.int l2), some (.int w0), none]) dX10_clauses_58 rfl (by decide) rfl ?_
  refine ev_iload_n dX10_clauses_59 rfl rfl ?_
  refine ev_if_ge (tgt := 65) dX10_clauses_60 (by decide) (fun c24 => ?_) (fun c24 => ?_)
  · rw [if_pos c24] at H
    refine ev_iconst (v := (1 : Int32)) dX10_clauses_65 (by decide) ?_
    refine ev_istore (loc2 := [some (.ref l0), some (.int l1), some (.int l2), some (.int w0), some (.int (1 : Int32))]) dX10_clauses_66 (by decide) rfl ?_
    refine ev_aload_n dX10_clauses_68 rfl rfl rfl ?_
    replace H := gd_some H
    obtain ⟨g25, H⟩ := H
    replace H := bnd_some H
    obtain ⟨v26, h27, eh27, H⟩ := H
    have ph27 := (t_X10_sign (X := X) (d := 1) (by omega) eh27)
    refine ev_callV (as := []) dX10_clauses_69 ph27 ok_X10_sign (by omega) rfl k6_65 k6_67 ks_47 (ci := 10) (by decide) rfl rfl (okOb.p g25) rfl (Nat.le_of_ble_eq_true rfl) ?_
    refine ev_bipush (v := (47 : Int32)) dX10_clauses_72 (by decide) ?_
    refine ev_icmp_ne (tgt := 101) dX10_clauses_74 (by decide) (fun c28 => ?_) (fun c28 => ?_)
    · rw [if_neg c28] at H
      exact t_X10_clauses_J101 hD hk34 l0 l1 l2 w0 (1 : Int32) h27 H
    · rw [if_pos c28] at H
      refine ev_aload_n dX10_clauses_77 rfl rfl rfl ?_
      refine ev_dup dX10_clauses_78 rfl ?_
      replace H := vl_some H
      obtain ⟨x48, ex48, H⟩ := H
      refine ev_getIx dX10_clauses_79 fgX10_271 rfl (okO_ext ph27.1 (okOb.p g25)) ex48 ?_
      refine ev_iconst (v := (1 : Int32)) dX10_clauses_82 (by decide) ?_
      refine ev_iadd dX10_clauses_83 ?_
      replace H := vl_some H
      obtain ⟨h49, eh49, H⟩ := H
      refine ev_putI dX10_clauses_84 fdX10_271 rfl rfl rfl (okO_ext ph27.1 (okOb.p g25)) eh49 ?_
      refine ev_aload_n dX10_clauses_87 rfl rfl rfl ?_
      refine ev_iconst (v := (1 : Int32)) dX10_clauses_88 (by decide) ?_
      replace H := bnd_some H
      obtain ⟨v50, h51, eh51, H⟩ := H
      have ph51 := (t_X10_number (X := X) (d := 2) (by omega) eh51)
      refine ev_callV (as := [.int (1 : Int32)]) dX10_clauses_89 ph51 ok_X10_number (by omega) rfl k6_69 k6_71 ks_48 (ci := 10) (by decide) rfl rfl (okO_sI eh49 (okO_ext ph27.1 (okOb.p g25))) rfl (Nat.le_of_ble_eq_true rfl) ?_
      refine ev_istore (loc2 := [some (.ref l0), some (.int l1), some (.int l2), some (.int w0), some (.int v50)]) dX10_clauses_92 (by decide) rfl ?_
      refine ev_iload dX10_clauses_94 rfl ?_
      refine ev_if_ge (tgt := 101) dX10_clauses_96 (by decide) (fun c52 => ?_) (fun c52 => ?_)
      · rw [if_pos c52] at H
        exact t_X10_clauses_J101 hD hk34 l0 l1 l2 w0 v50 h51 H
      · rw [if_neg c52] at H
        refine ev_iconst (v := (-1 : Int32)) dX10_clauses_99 (by decide) ?_
        exact ev_iretx dX10_clauses_100 rfl rfl H
  · rw [if_neg c24] at H
    refine ev_iconst (v := (-1 : Int32)) dX10_clauses_63 (by decide) ?_
    exact ev_iretx dX10_clauses_64 rfl rfl H
def f_X10_clauses_L34 : Nat → Nat → Int32 → Hp → Option (Int32 × Hp)
  | 0, _, _, _ => none
  | n + 1, l0, l1, h =>
    if (8 : Int32) < l1 then (
    some ((-1 : Int32), h)) else (
    gd (okOb h l0 10) <|
    bnd (f_X10_word h l0) fun v19 h20 =>
    if 0 ≤ v19 then (
    bnd (f_X10_number h20 l0 (0 : Int32)) fun v22 h23 =>
    f_X10_clauses_J58 (f_X10_clauses_L34 n) l0 l1 v19 v22 h23) else (
    f_X10_clauses_J58 (f_X10_clauses_L34 n) l0 l1 v19 (-1 : Int32) h20))
set_option maxHeartbeats 4000000 in
set_option maxRecDepth 100000 in
theorem t_X10_clauses_L34 {X : Cx} {d : Nat} {h0 h' : Hp} {v : Int32} (hD : 3 ≤ d) : ∀ (n : Nat) (l0 : Nat) (l1 : Int32) (h : Hp), f_X10_clauses_L34 n l0 l1 h = some (v, h') → EV X mX10_clauses d h0 (some (.int v)) h' 34 [some (.ref l0), some (.int l1), none, none, none] [] h := by
  intro n
  induction n with
  | zero => intro l0 l1 h H; simp [f_X10_clauses_L34] at H
  | succ n ih =>
    intro l0 l1 h H
    rw [f_X10_clauses_L34] at H
    refine ev_iload_n dX10_clauses_34 rfl rfl ?_
    refine ev_bipush (v := (8 : Int32)) dX10_clauses_35 (by decide) ?_
    refine ev_icmp_gt (tgt := 162) dX10_clauses_37 (by decide) (fun c17 => ?_) (fun c17 => ?_)
    · rw [if_pos c17] at H
      refine ev_iconst (v := (-1 : Int32)) dX10_clauses_162 (by decide) ?_
      exact ev_iretx dX10_clauses_163 rfl rfl H
    · rw [if_neg c17] at H
      refine ev_aload_n dX10_clauses_40 rfl rfl rfl ?_
      replace H := gd_some H
      obtain ⟨g18, H⟩ := H
      replace H := bnd_some H
      obtain ⟨v19, h20, eh20, H⟩ := H
      have ph20 := (t_X10_word (X := X) (d := 2) (by omega) eh20)
      refine ev_callV (as := []) dX10_clauses_41 ph20 ok_X10_word (by omega) rfl k6_58 k6_60 ks_46 (ci := 10) (by decide) rfl rfl (okOb.p g18) rfl (Nat.le_of_ble_eq_true rfl) ?_
      refine ev_istore_n (loc2 := [some (.ref l0), some (.int l1), some (.int v19), none, none]) dX10_clauses_44 rfl (by decide) rfl ?_
      refine ev_iload_n dX10_clauses_45 rfl rfl ?_
      refine ev_if_ge (tgt := 53) dX10_clauses_46 (by decide) (fun c21 => ?_) (fun c21 => ?_)
      · rw [if_pos c21] at H
        refine ev_aload_n dX10_clauses_53 rfl rfl rfl ?_
        refine ev_iconst (v := (0 : Int32)) dX10_clauses_54 (by decide) ?_
        replace H := bnd_some H
        obtain ⟨v22, h23, eh23, H⟩ := H
        have ph23 := (t_X10_number (X := X) (d := 2) (by omega) eh23)
        refine ev_callV (as := [.int (0 : Int32)]) dX10_clauses_55 ph23 ok_X10_number (by omega) rfl k6_69 k6_71 ks_48 (ci := 10) (by decide) rfl rfl (okO_ext ph20.1 (okOb.p g18)) rfl (Nat.le_of_ble_eq_true rfl) ?_
        exact t_X10_clauses_J58 hD ih l0 l1 v19 v22 h23 H
      · rw [if_neg c21] at H
        refine ev_iconst (v := (-1 : Int32)) dX10_clauses_49 (by decide) ?_
        refine ev_goto (tgt := 58) dX10_clauses_50 (by decide) ?_
        exact t_X10_clauses_J58 hD ih l0 l1 v19 (-1 : Int32) h20 H
def f_X10_clauses (h : Hp) (a0 : Nat) : Option (Int32 × Hp) :=
f_X10_clauses_L2 (fun y12 y13 h14 =>
gd (okOb h14 y12 10) <|
vl (sI h14 y12 44 (0 : Int32)) fun h16 =>
f_X10_clauses_L34 6000 y12 (1 : Int32) h16) 6000 a0 (0 : Int32) h
set_option maxHeartbeats 4000000 in
set_option maxRecDepth 100000 in
theorem t_X10_clauses {X : Cx} {d : Nat} {h : Hp} {a0 : Nat} {v : Int32} {h' : Hp} (hD : 3 ≤ d) (H : f_X10_clauses h a0 = some (v, h')) : PM X mX10_clauses d [.ref a0] h (some (.int v)) h' := by
  unfold f_X10_clauses at H
  refine PM.of (loc := [some (.ref a0), none, none, none, none]) (by decide) rfl (Nat.le_of_ble_eq_true rfl) ?_
  refine ev_iconst (v := (0 : Int32)) dX10_clauses_0 (by decide) ?_
  refine ev_istore_n (loc2 := [some (.ref a0), some (.int (0 : Int32)), none, none, none]) dX10_clauses_1 rfl (by decide) rfl ?_
  refine t_X10_clauses_L2 hD ?_ 6000 a0 (0 : Int32) h H
  · intro y12 y13 h14 H
    refine ev_aload_n dX10_clauses_27 rfl rfl rfl ?_
    refine ev_iconst (v := (0 : Int32)) dX10_clauses_28 (by decide) ?_
    replace H := gd_some H
    obtain ⟨g15, H⟩ := H
    replace H := vl_some H
    obtain ⟨h16, eh16, H⟩ := H
    refine ev_putI dX10_clauses_29 fdX10_271 rfl rfl rfl (okOb.p g15) eh16 ?_
    refine ev_iconst (v := (1 : Int32)) dX10_clauses_32 (by decide) ?_
    refine ev_istore_n (loc2 := [some (.ref y12), some (.int (1 : Int32)), none, none, none]) dX10_clauses_33 rfl (by decide) rfl ?_
    refine t_X10_clauses_L34 hD  6000 y12 (1 : Int32) h16 H
