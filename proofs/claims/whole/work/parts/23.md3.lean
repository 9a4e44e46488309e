theorem dX10_statesOf_0 : decode cX10_statesOf 0 = .ok (.iconst 0, 1) := by decide +kernel
theorem dX10_statesOf_1 : decode cX10_statesOf 1 = .ok (.istore_n 2, 1) := by decide +kernel
theorem dX10_statesOf_2 : decode cX10_statesOf 2 = .ok (.iconst 0, 1) := by decide +kernel
theorem dX10_statesOf_3 : decode cX10_statesOf 3 = .ok (.istore_n 3, 1) := by decide +kernel
theorem dX10_statesOf_4 : decode cX10_statesOf 4 = .ok (.iload_n 3, 1) := by decide +kernel
theorem dX10_statesOf_5 : decode cX10_statesOf 5 = .ok (.bipush 60, 2) := by decide +kernel
theorem dX10_statesOf_7 : decode cX10_statesOf 7 = .ok (.if_icmp .ge 96, 3) := by decide +kernel
theorem dX10_statesOf_10 : decode cX10_statesOf 10 = .ok (.aload_n 0, 1) := by decide +kernel
theorem dX10_statesOf_11 : decode cX10_statesOf 11 = .ok (.getfield 82, 3) := by decide +kernel
theorem dX10_statesOf_14 : decode cX10_statesOf 14 = .ok (.bipush 60, 2) := by decide +kernel
theorem dX10_statesOf_16 : decode cX10_statesOf 16 = .ok (.iload_n 1, 1) := by decide +kernel
theorem dX10_statesOf_17 : decode cX10_statesOf 17 = .ok (.imul, 1) := by decide +kernel
theorem dX10_statesOf_18 : decode cX10_statesOf 18 = .ok (.iload_n 3, 1) := by decide +kernel
theorem dX10_statesOf_19 : decode cX10_statesOf 19 = .ok (.iadd, 1) := by decide +kernel
theorem dX10_statesOf_20 : decode cX10_statesOf 20 = .ok (.iaload, 1) := by decide +kernel
theorem dX10_statesOf_21 : decode cX10_statesOf 21 = .ok (.ifCond .lt 7, 3) := by decide +kernel
theorem dX10_statesOf_24 : decode cX10_statesOf 24 = .ok (.iconst 1, 1) := by decide +kernel
theorem dX10_statesOf_25 : decode cX10_statesOf 25 = .ok (.goto 4, 3) := by decide +kernel
theorem dX10_statesOf_28 : decode cX10_statesOf 28 = .ok (.iconst 0, 1) := by decide +kernel
theorem dX10_statesOf_29 : decode cX10_statesOf 29 = .ok (.istore 4, 2) := by decide +kernel
theorem dX10_statesOf_31 : decode cX10_statesOf 31 = .ok (.iconst 0, 1) := by decide +kernel
theorem dX10_statesOf_32 : decode cX10_statesOf 32 = .ok (.istore 5, 2) := by decide +kernel
theorem dX10_statesOf_34 : decode cX10_statesOf 34 = .ok (.iload 5, 2) := by decide +kernel
theorem dX10_statesOf_36 : decode cX10_statesOf 36 = .ok (.iload_n 3, 1) := by decide +kernel
theorem dX10_statesOf_37 : decode cX10_statesOf 37 = .ok (.if_icmp .ge 47, 3) := by decide +kernel
theorem dX10_statesOf_40 : decode cX10_statesOf 40 = .ok (.iload 4, 2) := by decide +kernel
theorem dX10_statesOf_42 : decode cX10_statesOf 42 = .ok (.ifCond .eq 33, 3) := by decide +kernel
theorem dX10_statesOf_45 : decode cX10_statesOf 45 = .ok (.aload_n 0, 1) := by decide +kernel
theorem dX10_statesOf_46 : decode cX10_statesOf 46 = .ok (.getfield 82, 3) := by decide +kernel
theorem dX10_statesOf_49 : decode cX10_statesOf 49 = .ok (.bipush 60, 2) := by decide +kernel
theorem dX10_statesOf_51 : decode cX10_statesOf 51 = .ok (.iload_n 1, 1) := by decide +kernel
theorem dX10_statesOf_52 : decode cX10_statesOf 52 = .ok (.imul, 1) := by decide +kernel
theorem dX10_statesOf_53 : decode cX10_statesOf 53 = .ok (.iload 5, 2) := by decide +kernel
theorem dX10_statesOf_55 : decode cX10_statesOf 55 = .ok (.iadd, 1) := by decide +kernel
theorem dX10_statesOf_56 : decode cX10_statesOf 56 = .ok (.iaload, 1) := by decide +kernel
theorem dX10_statesOf_57 : decode cX10_statesOf 57 = .ok (.aload_n 0, 1) := by decide +kernel
theorem dX10_statesOf_58 : decode cX10_statesOf 58 = .ok (.getfield 82, 3) := by decide +kernel
theorem dX10_statesOf_61 : decode cX10_statesOf 61 = .ok (.bipush 60, 2) := by decide +kernel
theorem dX10_statesOf_63 : decode cX10_statesOf 63 = .ok (.iload_n 1, 1) := by decide +kernel
theorem dX10_statesOf_64 : decode cX10_statesOf 64 = .ok (.imul, 1) := by decide +kernel
theorem dX10_statesOf_65 : decode cX10_statesOf 65 = .ok (.iload_n 3, 1) := by decide +kernel
theorem dX10_statesOf_66 : decode cX10_statesOf 66 = .ok (.iadd, 1) := by decide +kernel
theorem dX10_statesOf_67 : decode cX10_statesOf 67 = .ok (.iaload, 1) := by decide +kernel
theorem dX10_statesOf_68 : decode cX10_statesOf 68 = .ok (.if_icmp .eq 7, 3) := by decide +kernel
theorem dX10_statesOf_71 : decode cX10_statesOf 71 = .ok (.iconst 1, 1) := by decide +kernel
theorem dX10_statesOf_72 : decode cX10_statesOf 72 = .ok (.goto 4, 3) := by decide +kernel
theorem dX10_statesOf_75 : decode cX10_statesOf 75 = .ok (.iconst 0, 1) := by decide +kernel
theorem dX10_statesOf_76 : decode cX10_statesOf 76 = .ok (.istore 4, 2) := by decide +kernel
theorem dX10_statesOf_78 : decode cX10_statesOf 78 = .ok (.iinc 5 1, 3) := by decide +kernel
theorem dX10_statesOf_81 : decode cX10_statesOf 81 = .ok (.goto (-47), 3) := by decide +kernel
theorem dX10_statesOf_84 : decode cX10_statesOf 84 = .ok (.iload_n 2, 1) := by decide +kernel
theorem dX10_statesOf_85 : decode cX10_statesOf 85 = .ok (.iload 4, 2) := by decide +kernel
theorem dX10_statesOf_87 : decode cX10_statesOf 87 = .ok (.ifCond .eq 7, 3) := by decide +kernel
theorem dX10_statesOf_90 : decode cX10_statesOf 90 = .ok (.iconst 1, 1) := by decide +kernel
theorem dX10_statesOf_91 : decode cX10_statesOf 91 = .ok (.goto 4, 3) := by decide +kernel
theorem dX10_statesOf_94 : decode cX10_statesOf 94 = .ok (.iconst 0, 1) := by decide +kernel
theorem dX10_statesOf_95 : decode cX10_statesOf 95 = .ok (.iadd, 1) := by decide +kernel
theorem dX10_statesOf_96 : decode cX10_statesOf 96 = .ok (.istore_n 2, 1) := by decide +kernel
theorem dX10_statesOf_97 : decode cX10_statesOf 97 = .ok (.iinc 3 1, 3) := by decide +kernel
theorem dX10_statesOf_100 : decode cX10_statesOf 100 = .ok (.goto (-96), 3) := by decide +kernel
theorem dX10_statesOf_103 : decode cX10_statesOf 103 = .ok (.iload_n 2, 1) := by decide +kernel
theorem dX10_statesOf_104 : decode cX10_statesOf 104 = .ok (.ireturn, 1) := by decide +kernel
def f_X10_statesOf_L34 (k84 : Nat → Int32 → Int32 → Int32 → Int32 → Int32 → Hp → Option (Int32 × Hp)) : Nat → Nat → Int32 → Int32 → Int32 → Int32 → Int32 → Hp → Option (Int32 × Hp)
  | 0, _, _, _, _, _, _, _ => none
  | n + 1, l0, l1, l2, l3, l4, l5, h =>
    if l3 ≤ l5 then (
    k84 l0 l1 l2 l3 l4 l5 h) else (
    if l4 = 0 then (
    vl (l5 + (1 : Int32)) fun x10 =>
    f_X10_statesOf_L34 k84 n l0 l1 l2 l3 (0 : Int32) x10 h) else (
    gd (okOb h l0 10) <|
    vl (gR h l0 28) fun r12 =>
    un r12 fun b13 =>
    gd (okAb h b13 11 (((60 : Int32) * l1) + l5)) <|
    vl (gI h b13 (((60 : Int32) * l1) + l5).toNatClampNeg) fun x15 =>
    vl (gR h l0 28) fun r16 =>
    un r16 fun b17 =>
    gd (okAb h b17 11 (((60 : Int32) * l1) + l3)) <|
    vl (gI h b17 (((60 : Int32) * l1) + l3).toNatClampNeg) fun x19 =>
    if x15 = x19 then (
    vl (l5 + (1 : Int32)) fun x21 =>
    f_X10_statesOf_L34 k84 n l0 l1 l2 l3 (0 : Int32) x21 h) else (
    vl (l5 + (1 : Int32)) fun x22 =>
    f_X10_statesOf_L34 k84 n l0 l1 l2 l3 (1 : Int32) x22 h)))
set_option maxHeartbeats 4000000 in
set_option maxRecDepth 100000 in
theorem t_X10_statesOf_L34 {X : Cx} {d : Nat} {h0 h' : Hp} {v : Int32} {k84 : Nat → Int32 → Int32 → Int32 → Int32 → Int32 → Hp → Option (Int32 × Hp)} (hD : 1 ≤ d) (hk84 : ∀ (z0 : Nat) (z1 : Int32) (z2 : Int32) (z3 : Int32) (z4 : Int32) (z5 : Int32) (h : Hp), k84 z0 z1 z2 z3 z4 z5 h = some (v, h') → EV X mX10_statesOf d h0 (some (.int v)) h' 84 [some (.ref z0), some (.int z1), some (.int z2), some (.int z3), some (.int z4), some (.int z5)] [] h) : ∀ (n : Nat) (l0 : Nat) (l1 : Int32) (l2 : Int32) (l3 : Int32) (l4 : Int32) (l5 : Int32) (h : Hp), f_X10_statesOf_L34 k84 n l0 l1 l2 l3 l4 l5 h = some (v, h') → EV X mX10_statesOf d h0 (some (.int v)) h' 34 [some (.ref l0), some (.int l1), some (.int l2), some (.int l3), some (.int l4), some (.int l5)] [] h := by
  intro n
  induction n with
  | zero => intro l0 l1 l2 l3 l4 l5 h H; simp [f_X10_statesOf_L34] at H
  | succ n ih =>
    intro l0 l1 l2 l3 l4 l5 h H
    rw [f_X10_statesOf_L34] at H
    refine ev_iload dX10_statesOf_34 rfl ?_
    refine ev_iload_n dX10_statesOf_36 rfl rfl ?_
    refine ev_icmp_ge (tgt := 84) dX10_statesOf_37 (by decide) (fun c8 => ?_) (fun c8 => ?_)
    · rw [if_pos c8] at H
      exact hk84 l0 l1 l2 l3 l4 l5 h H
    · rw [if_neg c8] at H
      refine ev_iload dX10_statesOf_40 rfl ?_
      refine ev_if_eq (tgt := 75) dX10_statesOf_42 (by decide) (fun c9 => ?_) (fun c9 => ?_)
      · rw [if_pos c9] at H
        refine ev_iconst (v := (0 : Int32)) dX10_statesOf_75 (by decide) ?_
        refine ev_istore (loc2 := [some (.ref l0), some (.int l1), some (.int l2), some (.int l3), some (.int (0 : Int32)), some (.int l5)]) dX10_statesOf_76 (by decide) rfl ?_
        replace H := vl_some H
        obtain ⟨x10, ex10, H⟩ := H
        refine ev_iincx (loc2 := [some (.ref l0), some (.int l1), some (.int l2), some (.int l3), some (.int (0 : Int32)), some (.int x10)]) dX10_statesOf_78 rfl (by decide) ex10 (by decide) rfl ?_
        refine ev_goto (tgt := 34) dX10_statesOf_81 (by decide) ?_
        exact ih l0 l1 l2 l3 (0 : Int32) x10 h H
      · rw [if_neg c9] at H
        refine ev_aload_n dX10_statesOf_45 rfl rfl rfl ?_
        replace H := gd_some H
        obtain ⟨g11, H⟩ := H
        replace H := vl_some H
        obtain ⟨r12, er12, H⟩ := H
        refine ev_getRx dX10_statesOf_46 fgX10_82 rfl (okOb.p g11) er12 ?_
        refine ev_bipush (v := (60 : Int32)) dX10_statesOf_49 (by decide) ?_
        refine ev_iload_n dX10_statesOf_51 rfl rfl ?_
        refine ev_imul dX10_statesOf_52 ?_
        refine ev_iload dX10_statesOf_53 rfl ?_
        refine ev_iadd dX10_statesOf_55 ?_
        replace H := un_some H
        obtain ⟨b13, eb13, H⟩ := H
        subst eb13
        replace H := gd_some H
        obtain ⟨g14, H⟩ := H
        replace H := vl_some H
        obtain ⟨x15, ex15, H⟩ := H
        refine ev_ialdx dX10_statesOf_56 (okAb.p g14) ex15 ?_
        refine ev_aload_n dX10_statesOf_57 rfl rfl rfl ?_
        replace H := vl_some H
        obtain ⟨r16, er16, H⟩ := H
        refine ev_getRx dX10_statesOf_58 fgX10_82 rfl (okOb.p g11) er16 ?_
        refine ev_bipush (v := (60 : Int32)) dX10_statesOf_61 (by decide) ?_
        refine ev_iload_n dX10_statesOf_63 rfl rfl ?_
        refine ev_imul dX10_statesOf_64 ?_
        refine ev_iload_n dX10_statesOf_65 rfl rfl ?_
        refine ev_iadd dX10_statesOf_66 ?_
        replace H := un_some H
        obtain ⟨b17, eb17, H⟩ := H
        subst eb17
        replace H := gd_some H
        obtain ⟨g18, H⟩ := H
        replace H := vl_some H
        obtain ⟨x19, ex19, H⟩ := H
        refine ev_ialdx dX10_statesOf_67 (okAb.p g18) ex19 ?_
        refine ev_icmp_eq (tgt := 75) dX10_statesOf_68 (by decide) (fun c20 => ?_) (fun c20 => ?_)
        · rw [if_pos c20] at H
          refine ev_iconst (v := (0 : Int32)) dX10_statesOf_75 (by decide) ?_
          refine ev_istore (loc2 := [some (.ref l0), some (.int l1), some (.int l2), some (.int l3), some (.int (0 : Int32)), some (.int l5)]) dX10_statesOf_76 (by decide) rfl ?_
          replace H := vl_some H
          obtain ⟨x21, ex21, H⟩ := H
          refine ev_iincx (loc2 := [some (.ref l0), some (.int l1), some (.int l2), some (.int l3), some (.int (0 : Int32)), some (.int x21)]) dX10_statesOf_78 rfl (by decide) ex21 (by decide) rfl ?_
          refine ev_goto (tgt := 34) dX10_statesOf_81 (by decide) ?_
          exact ih l0 l1 l2 l3 (0 : Int32) x21 h H
        · rw [if_neg c20] at H
          refine ev_iconst (v := (1 : Int32)) dX10_statesOf_71 (by decide) ?_
          refine ev_goto (tgt := 76) dX10_statesOf_72 (by decide) ?_
          refine ev_istore (loc2 := [some (.ref l0), some (.int l1), some (.int l2), some (.int l3), some (.int (1 : Int32)), some (.int l5)]) dX10_statesOf_76 (by decide) rfl ?_
          replace H := vl_some H
          obtain ⟨x22, ex22, H⟩ := H
          refine ev_iincx (loc2 := [some (.ref l0), some (.int l1), some (.int l2), some (.int l3), some (.int (1 : Int32)), some (.int x22)]) dX10_statesOf_78 rfl (by decide) ex22 (by decide) rfl ?_
          refine ev_goto (tgt := 34) dX10_statesOf_81 (by decide) ?_
          exact ih l0 l1 l2 l3 (1 : Int32) x22 h H
def f_X10_statesOf_J29 (k4 : Nat → Int32 → Int32 → Int32 → Hp → Option (Int32 × Hp)) (l0 : Nat) (l1 : Int32) (l2 : Int32) (l3 : Int32) (w0 : Int32) (h : Hp) : Option (Int32 × Hp) :=
f_X10_statesOf_L34 (fun y23 y24 y25 y26 y27 y28 h29 =>
if y27 = 0 then (
vl (y25 + (0 : Int32)) fun x31 =>
vl (y26 + (1 : Int32)) fun x32 =>
k4 y23 y24 x31 x32 h29) else (
vl (y25 + (1 : Int32)) fun x33 =>
vl (y26 + (1 : Int32)) fun x34 =>
k4 y23 y24 x33 x34 h29)) 6000 l0 l1 l2 l3 w0 (0 : Int32) h
set_option maxHeartbeats 4000000 in
set_option maxRecDepth 100000 in
theorem t_X10_statesOf_J29 {X : Cx} {d : Nat} {h0 h' : Hp} {v : Int32} {k4 : Nat → Int32 → Int32 → Int32 → Hp → Option (Int32 × Hp)} (hD : 1 ≤ d) (hk4 : ∀ (z0 : Nat) (z1 : Int32) (z2 : Int32) (z3 : Int32) (h : Hp), k4 z0 z1 z2 z3 h = some (v, h') → EV X mX10_statesOf d h0 (some (.int v)) h' 4 [some (.ref z0), some (.int z1), some (.int z2), some (.int z3), none, none] [] h) : ∀ (l0 : Nat) (l1 : Int32) (l2 : Int32) (l3 : Int32) (w0 : Int32) (h : Hp), f_X10_statesOf_J29 k4 l0 l1 l2 l3 w0 h = some (v, h') → EV X mX10_statesOf d h0 (some (.int v)) h' 29 [some (.ref l0), some (.int l1), some (.int l2), some (.int l3), none, none] [.int w0] h := by
  intro l0 l1 l2 l3 w0 h H
  unfold f_X10_statesOf_J29 at H
  refine ev_istore (loc2 := [some (.ref l0), some (.int l1), some (.int l2), some (.int l3), some (.int w0), none]) dX10_statesOf_29 (by decide) rfl ?_
  refine ev_iconst (v := (0 : Int32)) dX10_statesOf_31 (by decide) ?_
  refine ev_istore (loc2 := [some (.ref l0), some (.int l1), some (.int l2), some (.int l3), some (.int w0), some (.int (0 : Int32))]) dX10_statesOf_32 (by decide) rfl ?_
  refine t_X10_statesOf_L34 hD ?_ 6000 l0 l1 l2 l3 w0 (0 : Int32) h H
  · intro y23 y24 y25 y26 y27 y28 h29 H
    refine ev_iload_n dX10_statesOf_84 rfl rfl ?_
    refine ev_iload dX10_statesOf_85 rfl ?_
    refine ev_if_eq (tgt := 94) dX10_statesOf_87 (by decide) (fun c30 => ?_) (fun c30 => ?_)
    · rw [if_pos c30] at H
      refine ev_iconst (v := (0 : Int32)) dX10_statesOf_94 (by decide) ?_
      refine ev_iadd dX10_statesOf_95 ?_
      replace H := vl_some H
      obtain ⟨x31, ex31, H⟩ := H
      refine ev_istore_nx (loc2 := [some (.ref y23), some (.int y24), some (.int x31), some (.int y26), some (.int y27), some (.int y28)]) dX10_statesOf_96 rfl (by decide) ex31 rfl ?_
      replace H := vl_some H
      obtain ⟨x32, ex32, H⟩ := H
      refine ev_iincx (loc2 := [some (.ref y23), some (.int y24), some (.int x31), some (.int x32), some (.int y27), some (.int y28)]) dX10_statesOf_97 rfl (by decide) ex32 (by decide) rfl ?_
      refine ev_goto (tgt := 4) dX10_statesOf_100 (by decide) ?_
      refine ev_drop (loc2 := [some (.ref y23), some (.int y24), some (.int x31), some (.int x32), none, none]) [true, true, true, true, false, false] rfl ?_
      exact hk4 y23 y24 x31 x32 h29 H
    · rw [if_neg c30] at H
      refine ev_iconst (v := (1 : Int32)) dX10_statesOf_90 (by decide) ?_
      refine ev_goto (tgt := 95) dX10_statesOf_91 (by decide) ?_
      refine ev_iadd dX10_statesOf_95 ?_
      replace H := vl_some H
      obtain ⟨x33, ex33, H⟩ := H
      refine ev_istore_nx (loc2 := [some (.ref y23), some (.int y24), some (.int x33), some (.int y26), some (.int y27), some (.int y28)]) dX10_statesOf_96 rfl (by decide) ex33 rfl ?_
      replace H := vl_some H
      obtain ⟨x34, ex34, H⟩ := H
      refine ev_iincx (loc2 := [some (.ref y23), some (.int y24), some (.int x33), some (.int x34), some (.int y27), some (.int y28)]) dX10_statesOf_97 rfl (by decide) ex34 (by decide) rfl ?_
      refine ev_goto (tgt := 4) dX10_statesOf_100 (by decide) ?_
      refine ev_drop (loc2 := [some (.ref y23), some (.int y24), some (.int x33), some (.int x34), none, none]) [true, true, true, true, false, false] rfl ?_
      exact hk4 y23 y24 x33 x34 h29 H
def f_X10_statesOf_L4 : Nat → Nat → Int32 → Int32 → Int32 → Hp → Option (Int32 × Hp)
  | 0, _, _, _, _, _ => none
  | n + 1, l0, l1, l2, l3, h =>
    if (60 : Int32) ≤ l3 then (
    some (l2, h)) else (
    gd (okOb h l0 10) <|
    vl (gR h l0 28) fun r3 =>
    un r3 fun b4 =>
    gd (okAb h b4 11 (((60 : Int32) * l1) + l3)) <|
    vl (gI h b4 (((60 : Int32) * l1) + l3).toNatClampNeg) fun x6 =>
    if x6 < 0 then (
    f_X10_statesOf_J29 (f_X10_statesOf_L4 n) l0 l1 l2 l3 (0 : Int32) h) else (
    f_X10_statesOf_J29 (f_X10_statesOf_L4 n) l0 l1 l2 l3 (1 : Int32) h))
set_option maxHeartbeats 4000000 in
set_option maxRecDepth 100000 in
theorem t_X10_statesOf_L4 {X : Cx} {d : Nat} {h0 h' : Hp} {v : Int32} (hD : 1 ≤ d) : ∀ (n : Nat) (l0 : Nat) (l1 : Int32) (l2 : Int32) (l3 : Int32) (h : Hp), f_X10_statesOf_L4 n l0 l1 l2 l3 h = some (v, h') → EV X mX10_statesOf d h0 (some (.int v)) h' 4 [some (.ref l0), some (.int l1), some (.int l2), some (.int l3), none, none] [] h := by
  intro n
  induction n with
  | zero => intro l0 l1 l2 l3 h H; simp [f_X10_statesOf_L4] at H
  | succ n ih =>
    intro l0 l1 l2 l3 h H
    rw [f_X10_statesOf_L4] at H
    refine ev_iload_n dX10_statesOf_4 rfl rfl ?_
    refine ev_bipush (v := (60 : Int32)) dX10_statesOf_5 (by decide) ?_
    refine ev_icmp_ge (tgt := 103) dX10_statesOf_7 (by decide) (fun c1 => ?_) (fun c1 => ?_)
    · rw [if_pos c1] at H
      refine ev_iload_n dX10_statesOf_103 rfl rfl ?_
      exact ev_iretx dX10_statesOf_104 rfl rfl H
    · rw [if_neg c1] at H
      refine ev_aload_n dX10_statesOf_10 rfl rfl rfl ?_
      replace H := gd_some H
      obtain ⟨g2, H⟩ := H
      replace H := vl_some H
      obtain ⟨r3, er3, H⟩ := H
      refine ev_getRx dX10_statesOf_11 fgX10_82 rfl (okOb.p g2) er3 ?_
      refine ev_bipush (v := (60 : Int32)) dX10_statesOf_14 (by decide) ?_
      refine ev_iload_n dX10_statesOf_16 rfl rfl ?_
      refine ev_imul dX10_statesOf_17 ?_
      refine ev_iload_n dX10_statesOf_18 rfl rfl ?_
      refine ev_iadd dX10_statesOf_19 ?_
      replace H := un_some H
      obtain ⟨b4, eb4, H⟩ := H
      subst eb4
      replace H := gd_some H
      obtain ⟨g5, H⟩ := H
      replace H := vl_some H
      obtain ⟨x6, ex6, H⟩ := H
      refine ev_ialdx dX10_statesOf_20 (okAb.p g5) ex6 ?_
      refine ev_if_lt (tgt := 28) dX10_statesOf_21 (by decide) (fun c7 => ?_) (fun c7 => ?_)
      · rw [if_pos c7] at H
        refine ev_iconst (v := (0 : Int32)) dX10_statesOf_28 (by decide) ?_
        exact t_X10_statesOf_J29 hD ih l0 l1 l2 l3 (0 : Int32) h H
      · rw [if_neg c7] at H
        refine ev_iconst (v := (1 : Int32)) dX10_statesOf_24 (by decide) ?_
        refine ev_goto (tgt := 29) dX10_statesOf_25 (by decide) ?_
        exact t_X10_statesOf_J29 hD ih l0 l1 l2 l3 (1 : Int32) h H
def f_X10_statesOf (h : Hp) (a0 : Nat) (a1 : Int32) : Option (Int32 × Hp) :=
f_X10_statesOf_L4 6000 a0 a1 (0 : Int32) (0 : Int32) h
set_option maxHeartbeats 4000000 in
set_option maxRecDepth 100000 in
theorem t_X10_statesOf {X : Cx} {d : Nat} {h : Hp} {a0 : Nat} {a1 : Int32} {v : Int32} {h' : Hp} (hD : 1 ≤ d) (H : f_X10_statesOf h a0 a1 = some (v, h')) : PM X mX10_statesOf d [.ref a0, .int a1] h (some (.int v)) h' := by
  unfold f_X10_statesOf at H
  refine PM.of (loc := [some (.ref a0), some (.int a1), none, none, none, none]) (by decide) rfl (Nat.le_of_ble_eq_true rfl) ?_
  refine ev_iconst (v := (0 : Int32)) dX10_statesOf_0 (by decide) ?_
  refine ev_istore_n (loc2 := [some (.ref a0), some (.int a1), some (.int (0 : Int32)), none, none, none]) dX10_statesOf_1 rfl (by decide) rfl ?_
  refine ev_iconst (v := (0 : Int32)) dX10_statesOf_2 (by decide) ?_
  refine ev_istore_n (loc2 := [some (.ref a0), some (.int a1), some (.int (0 : Int32)), some (.int (0 : Int32)), none, none]) dX10_statesOf_3 rfl (by decide) rfl ?_
  refine t_X10_statesOf_L4 hD  6000 a0 a1 (0 : Int32) (0 : Int32) h H

theorem dX10_forme_0 : decode cX10_forme 0 = .ok (.aload_n 0, 1) := by decide +kernel
theorem dX10_forme_1 : decode cX10_forme 1 = .ok (.iload_n 1, 1) := by decide +kernel
theorem dX10_forme_2 : decode cX10_forme 2 = .ok (.invokevirtual 202, 3) := by decide +kernel
theorem dX10_forme_5 : decode cX10_forme 5 = .ok (.ifCond .ne 6, 3) := by decide +kernel
theorem dX10_forme_8 : decode cX10_forme 8 = .ok (.bipush (-5), 2) := by decide +kernel
theorem dX10_forme_10 : decode cX10_forme 10 = .ok (.ireturn, 1) := by decide +kernel
theorem dX10_forme_11 : decode cX10_forme 11 = .ok (.iload_n 2, 1) := by decide +kernel
theorem dX10_forme_12 : decode cX10_forme 12 = .ok (.tableswitch 102 0 5 #[40, 55, 62, 69, 76, 82], 40) := by decide +kernel
theorem dX10_forme_52 : decode cX10_forme 52 = .ok (.aload_n 0, 1) := by decide +kernel
theorem dX10_forme_53 : decode cX10_forme 53 = .ok (.getfield 73, 3) := by decide +kernel
theorem dX10_forme_56 : decode cX10_forme 56 = .ok (.iload_n 1, 1) := by decide +kernel
theorem dX10_forme_57 : decode cX10_forme 57 = .ok (.iaload, 1) := by decide +kernel
theorem dX10_forme_58 : decode cX10_forme 58 = .ok (.ifCond .lt 7, 3) := by decide +kernel
theorem dX10_forme_61 : decode cX10_forme 61 = .ok (.iconst 1, 1) := by decide +kernel
theorem dX10_forme_62 : decode cX10_forme 62 = .ok (.goto 4, 3) := by decide +kernel
theorem dX10_forme_65 : decode cX10_forme 65 = .ok (.iconst 0, 1) := by decide +kernel
theorem dX10_forme_66 : decode cX10_forme 66 = .ok (.ireturn, 1) := by decide +kernel
theorem dX10_forme_67 : decode cX10_forme 67 = .ok (.aload_n 0, 1) := by decide +kernel
theorem dX10_forme_68 : decode cX10_forme 68 = .ok (.getfield 73, 3) := by decide +kernel
theorem dX10_forme_71 : decode cX10_forme 71 = .ok (.iload_n 1, 1) := by decide +kernel
theorem dX10_forme_72 : decode cX10_forme 72 = .ok (.iaload, 1) := by decide +kernel
theorem dX10_forme_73 : decode cX10_forme 73 = .ok (.ireturn, 1) := by decide +kernel
theorem dX10_forme_74 : decode cX10_forme 74 = .ok (.aload_n 0, 1) := by decide +kernel
theorem dX10_forme_75 : decode cX10_forme 75 = .ok (.getfield 76, 3) := by decide +kernel
theorem dX10_forme_78 : decode cX10_forme 78 = .ok (.iload_n 1, 1) := by decide +kernel
theorem dX10_forme_79 : decode cX10_forme 79 = .ok (.iaload, 1) := by decide +kernel
theorem dX10_forme_80 : decode cX10_forme 80 = .ok (.ireturn, 1) := by decide +kernel
theorem dX10_forme_81 : decode cX10_forme 81 = .ok (.aload_n 0, 1) := by decide +kernel
theorem dX10_forme_82 : decode cX10_forme 82 = .ok (.getfield 79, 3) := by decide +kernel
theorem dX10_forme_85 : decode cX10_forme 85 = .ok (.iload_n 1, 1) := by decide +kernel
theorem dX10_forme_86 : decode cX10_forme 86 = .ok (.iaload, 1) := by decide +kernel
theorem dX10_forme_87 : decode cX10_forme 87 = .ok (.ireturn, 1) := by decide +kernel
theorem dX10_forme_88 : decode cX10_forme 88 = .ok (.aload_n 0, 1) := by decide +kernel
theorem dX10_forme_89 : decode cX10_forme 89 = .ok (.iload_n 1, 1) := by decide +kernel
theorem dX10_forme_90 : decode cX10_forme 90 = .ok (.invokevirtual 215, 3) := by decide +kernel
theorem dX10_forme_93 : decode cX10_forme 93 = .ok (.ireturn, 1) := by decide +kernel
theorem dX10_forme_94 : decode cX10_forme 94 = .ok (.aload_n 0, 1) := by decide +kernel
theorem dX10_forme_95 : decode cX10_forme 95 = .ok (.getfield 70, 3) := by decide +kernel
theorem dX10_forme_98 : decode cX10_forme 98 = .ok (.iload_n 1, 1) := by decide +kernel
theorem dX10_forme_99 : decode cX10_forme 99 = .ok (.iconst 2, 1) := by decide +kernel
theorem dX10_forme_100 : decode cX10_forme 100 = .ok (.idiv, 1) := by decide +kernel
theorem dX10_forme_101 : decode cX10_forme 101 = .ok (.iaload, 1) := by decide +kernel
theorem dX10_forme_102 : decode cX10_forme 102 = .ok (.iload_n 1, 1) := by decide +kernel
theorem dX10_forme_103 : decode cX10_forme 103 = .ok (.iconst 2, 1) := by decide +kernel
theorem dX10_forme_104 : decode cX10_forme 104 = .ok (.irem, 1) := by decide +kernel
theorem dX10_forme_105 : decode cX10_forme 105 = .ok (.if_icmp .ne 7, 3) := by decide +kernel
theorem dX10_forme_108 : decode cX10_forme 108 = .ok (.iconst 1, 1) := by decide +kernel
theorem dX10_forme_109 : decode cX10_forme 109 = .ok (.goto 4, 3) := by decide +kernel
theorem dX10_forme_112 : decode cX10_forme 112 = .ok (.iconst 0, 1) := by decide +kernel
theorem dX10_forme_113 : decode cX10_forme 113 = .ok (.ireturn, 1) := by decide +kernel
theorem dX10_forme_114 : decode cX10_forme 114 = .ok (.bipush (-5), 2) := by decide +kernel
theorem dX10_forme_116 : decode cX10_forme 116 = .ok (.ireturn, 1) := by decide +kernel
def f_X10_forme (h : Hp) (a0 : Nat) (a1 : Int32) (a2 : Int32) : Option (Int32 × Hp) :=
gd (okOb h a0 10) <|
bnd (f_X10_isForme h a0 a1) fun v2 h3 =>
if v2 = 0 then (
some ((-5 : Int32), h3)) else (
if a2 = (0 : Int32) then (
vl (gR h3 a0 25) fun r6 =>
un r6 fun b7 =>
gd (okAb h3 b7 11 a1) <|
vl (gI h3 b7 a1.toNatClampNeg) fun x9 =>
if x9 < 0 then (
some ((0 : Int32), h3)) else (
some ((1 : Int32), h3))) else if a2 = (1 : Int32) then (
vl (gR h3 a0 25) fun r12 =>
un r12 fun b13 =>
gd (okAb h3 b13 11 a1) <|
vl (gI h3 b13 a1.toNatClampNeg) fun x15 =>
some (x15, h3)) else if a2 = (2 : Int32) then (
vl (gR h3 a0 26) fun r17 =>
un r17 fun b18 =>
gd (okAb h3 b18 11 a1) <|
vl (gI h3 b18 a1.toNatClampNeg) fun x20 =>
some (x20, h3)) else if a2 = (3 : Int32) then (
vl (gR h3 a0 27) fun r22 =>
un r22 fun b23 =>
gd (okAb h3 b23 11 a1) <|
vl (gI h3 b23 a1.toNatClampNeg) fun x25 =>
some (x25, h3)) else if a2 = (4 : Int32) then (
bnd (f_X10_statesOf h3 a0 a1) fun v27 h28 =>
some (v27, h28)) else if a2 = (5 : Int32) then (
vl (gR h3 a0 22) fun r30 =>
un r30 fun b31 =>
gd (okAb h3 b31 11 (a1 / (2 : Int32))) <|
vl (gI h3 b31 (a1 / (2 : Int32)).toNatClampNeg) fun x33 =>
if x33 = (a1 - a1 / (2 : Int32) * (2 : Int32)) then (
some ((1 : Int32), h3)) else (
some ((0 : Int32), h3))) else (
some ((-5 : Int32), h3)))
set_option maxHeartbeats 4000000 in
set_option maxRecDepth 100000 in
theorem t_X10_forme {X : Cx} {d : Nat} {h : Hp} {a0 : Nat} {a1 : Int32} {a2 : Int32} {v : Int32} {h' : Hp} (hD : 2 ≤ d) (H : f_X10_forme h a0 a1 a2 = some (v, h')) : PM X mX10_forme d [.ref a0, .int a1, .int a2] h (some (.int v)) h' := by
  unfold f_X10_forme at H
  refine PM.of (loc := [some (.ref a0), some (.int a1), some (.int a2)]) (by decide) rfl (Nat.le_of_ble_eq_true rfl) ?_
  refine ev_aload_n dX10_forme_0 rfl rfl rfl ?_
  refine ev_iload_n dX10_forme_1 rfl rfl ?_
  replace H := gd_some H
  obtain ⟨g1, H⟩ := H
  replace H := bnd_some H
  obtain ⟨v2, h3, eh3, H⟩ := H
  have ph3 := (t_X10_isForme (X := X) (d := 1) (by omega) eh3)
  refine ev_callV (as := [.int a1]) dX10_forme_2 ph3 ok_X10_isForme (by omega) rfl k5_168 k5_170 ks_31 (ci := 10) (by decide) rfl rfl (okOb.p g1) rfl (Nat.le_of_ble_eq_true rfl) ?_
  refine ev_if_ne (tgt := 11) dX10_forme_5 (by decide) (fun c4 => ?_) (fun c4 => ?_)
  · rw [if_neg c4] at H
    refine ev_iload_n dX10_forme_11 rfl rfl ?_
    by_cases c5 : a2 = (0 : Int32)
    · rw [if_pos c5] at H
      refine ev_tsIn (tgt := 52) dX10_forme_12 (by rw [c5]; decide) (by rw [c5]; decide) (by rw [c5]; rfl) (by decide) ?_
      refine ev_aload_n dX10_forme_52 rfl rfl rfl ?_
      replace H := vl_some H
      obtain ⟨r6, er6, H⟩ := H
      refine ev_getRx dX10_forme_53 fgX10_73 rfl (okO_ext ph3.1 (okOb.p g1)) er6 ?_
      refine ev_iload_n dX10_forme_56 rfl rfl ?_
      replace H := un_some H
      obtain ⟨b7, eb7, H⟩ := H
      subst eb7
      replace H := gd_some H
      obtain ⟨g8, H⟩ := H
      replace H := vl_some H
      obtain ⟨x9, ex9, H⟩ := H
      refine ev_ialdx dX10_forme_57 (okAb.p g8) ex9 ?_
      refine ev_if_lt (tgt := 65) dX10_forme_58 (by decide) (fun c10 => ?_) (fun c10 => ?_)
      · rw [if_pos c10] at H
        refine ev_iconst (v := (0 : Int32)) dX10_forme_65 (by decide) ?_
        exact ev_iretx dX10_forme_66 rfl rfl H
      · rw [if_neg c10] at H
        refine ev_iconst (v := (1 : Int32)) dX10_forme_61 (by decide) ?_
        refine ev_goto (tgt := 66) dX10_forme_62 (by decide) ?_
        exact ev_iretx dX10_forme_66 rfl rfl H
    rw [if_neg c5] at H
    by_cases c11 : a2 = (1 : Int32)
    · rw [if_pos c11] at H
      refine ev_tsIn (tgt := 67) dX10_forme_12 (by rw [c11]; decide) (by rw [c11]; decide) (by rw [c11]; rfl) (by decide) ?_
      refine ev_aload_n dX10_forme_67 rfl rfl rfl ?_
      replace H := vl_some H
      obtain ⟨r12, er12, H⟩ := H
      refine ev_getRx dX10_forme_68 fgX10_73 rfl (okO_ext ph3.1 (okOb.p g1)) er12 ?_
      refine ev_iload_n dX10_forme_71 rfl rfl ?_
      replace H := un_some H
      obtain ⟨b13, eb13, H⟩ := H
      subst eb13
      replace H := gd_some H
      obtain ⟨g14, H⟩ := H
      replace H := vl_some H
      obtain ⟨x15, ex15, H⟩ := H
      refine ev_ialdx dX10_forme_72 (okAb.p g14) ex15 ?_
      exact ev_iretx dX10_forme_73 rfl rfl H
    rw [if_neg c11] at H
    by_cases c16 : a2 = (2 : Int32)
    · rw [if_pos c16] at H
      refine ev_tsIn (tgt := 74) dX10_forme_12 (by rw [c16]; decide) (by rw [c16]; decide) (by rw [c16]; rfl) (by decide) ?_
      refine ev_aload_n dX10_forme_74 rfl rfl rfl ?_
      replace H := vl_some H
      obtain ⟨r17, er17, H⟩ := H
      refine ev_getRx dX10_forme_75 fgX10_76 rfl (okO_ext ph3.1 (okOb.p g1)) er17 ?_
      refine ev_iload_n dX10_forme_78 rfl rfl ?_
      replace H := un_some H
      obtain ⟨b18, eb18, H⟩ := H
      subst eb18
      replace H := gd_some H
      obtain ⟨g19, H⟩ := H
      replace H := vl_some H
      obtain ⟨x20, ex20, H⟩ := H
      refine ev_ialdx dX10_forme_79 (okAb.p g19) ex20 ?_
      exact ev_iretx dX10_forme_80 rfl rfl H
    rw [if_neg c16] at H
    by_cases c21 : a2 = (3 : Int32)
    · rw [if_pos c21] at H
      refine ev_tsIn (tgt := 81) dX10_forme_12 (by rw [c21]; decide) (by rw [c21]; decide) (by rw [c21]; rfl) (by decide) ?_
      refine ev_aload_n dX10_forme_81 rfl rfl rfl ?_
      replace H := vl_some H
      obtain ⟨r22, er22, H⟩ := H
      refine ev_getRx dX10_forme_82 fgX10_79 rfl (okO_ext ph3.1 (okOb.p g1)) er22 ?_
      refine ev_iload_n dX10_forme_85 rfl rfl ?_
      replace H := un_some H
      obtain ⟨b23, eb23, H⟩ := H
      subst eb23
      replace H := gd_some H
      obtain ⟨g24, H⟩ := H
      replace H := vl_some H
      obtain ⟨x25, ex25, H⟩ := H
      refine ev_ialdx dX10_forme_86 (okAb.p g24) ex25 ?_
      exact ev_iretx dX10_forme_87 rfl rfl H
    rw [if_neg c21] at H
    by_cases c26 : a2 = (4 : Int32)
    · rw [if_pos c26] at H
      refine ev_tsIn (tgt := 88) dX10_forme_12 (by rw [c26]; decide) (by rw [c26]; decide) (by rw [c26]; rfl) (by decide) ?_
      refine ev_aload_n dX10_forme_88 rfl rfl rfl ?_
      refine ev_iload_n dX10_forme_89 rfl rfl ?_
      replace H := bnd_some H
      obtain ⟨v27, h28, eh28, H⟩ := H
      have ph28 := (t_X10_statesOf (X := X) (d := 1) (by omega) eh28)
      refine ev_callV (as := [.int a1]) dX10_forme_90 ph28 ok_X10_statesOf (by omega) rfl k5_196 k5_198 ks_34 (ci := 10) (by decide) rfl rfl (okO_ext ph3.1 (okOb.p g1)) rfl (Nat.le_of_ble_eq_true rfl) ?_
      exact ev_iretx dX10_forme_93 rfl rfl H
    rw [if_neg c26] at H
    by_cases c29 : a2 = (5 : Int32)
    · rw [if_pos c29] at H
      refine ev_tsIn (tgt := 94) dX10_forme_12 (by rw [c29]; decide) (by rw [c29]; decide) (by rw [c29]; rfl) (by decide) ?_
      refine ev_aload_n dX10_forme_94 rfl rfl rfl ?_
      replace H := vl_some H
      obtain ⟨r30, er30, H⟩ := H
      refine ev_getRx dX10_forme_95 fgX10_70 rfl (okO_ext ph3.1 (okOb.p g1)) er30 ?_
      refine ev_iload_n dX10_forme_98 rfl rfl ?_
      refine ev_iconst (v := (2 : Int32)) dX10_forme_99 (by decide) ?_
      refine ev_idiv dX10_forme_100 (by decide) ?_
      replace H := un_some H
      obtain ⟨b31, eb31, H⟩ := H
      subst eb31
      replace H := gd_some H
      obtain ⟨g32, H⟩ := H
      replace H := vl_some H
      obtain ⟨x33, ex33, H⟩ := H
      refine ev_ialdx dX10_forme_101 (okAb.p g32) ex33 ?_
      refine ev_iload_n dX10_forme_102 rfl rfl ?_
      refine ev_iconst (v := (2 : Int32)) dX10_forme_103 (by decide) ?_
      refine ev_irem dX10_forme_104 (by decide) ?_
      refine ev_icmp_ne (tgt := 112) dX10_forme_105 (by decide) (fun c34 => ?_) (fun c34 => ?_)
      · rw [if_neg c34] at H
        refine ev_iconst (v := (0 : Int32)) dX10_forme_112 (by decide) ?_
        exact ev_iretx dX10_forme_113 rfl rfl H
      · rw [if_pos c34] at H
        refine ev_iconst (v := (1 : Int32)) dX10_forme_108 (by decide) ?_
        refine ev_goto (tgt := 113) dX10_forme_109 (by decide) ?_
        exact ev_iretx dX10_forme_113 rfl rfl H
    rw [if_neg c29] at H
    refine ev_tsOut (tgt := 114) dX10_forme_12 (ts_out (n := 6) (by decide) (by decide) (fun j hj => ?_)) (by decide) ?_
    · match j, hj with
      | 0, _ => exact fun q => c5 (by rw [q]; decide)
      | 1, _ => exact fun q => c11 (by rw [q]; decide)
      | 2, _ => exact fun q => c16 (by rw [q]; decide)
      | 3, _ => exact fun q => c21 (by rw [q]; decide)
      | 4, _ => exact fun q => c26 (by rw [q]; decide)
      | 5, _ => exact fun q => c29 (by rw [q]; decide)
    refine ev_bipush (v := (-5 : Int32)) dX10_forme_114 (by decide) ?_
    exact ev_iretx dX10_forme_116 rfl rfl H
  · rw [if_pos c4] at H
    refine ev_bipush (v := (-5 : Int32)) dX10_forme_8 (by decide) ?_
    exact ev_iretx dX10_forme_10 rfl rfl H

theorem dX10_isCopy_0 : decode cX10_isCopy 0 = .ok (.aload_n 0, 1) := by decide +kernel
theorem dX10_isCopy_1 : decode cX10_isCopy 1 = .ok (.iload_n 1, 1) := by decide +kernel
theorem dX10_isCopy_2 : decode cX10_isCopy 2 = .ok (.invokevirtual 218, 3) := by decide +kernel
theorem dX10_isCopy_5 : decode cX10_isCopy 5 = .ok (.ifCond .eq 21, 3) := by decide +kernel
theorem dX10_isCopy_8 : decode cX10_isCopy 8 = .ok (.iload_n 2, 1) := by decide +kernel
theorem dX10_isCopy_9 : decode cX10_isCopy 9 = .ok (.ifCond .lt 17, 3) := by decide +kernel
theorem dX10_isCopy_12 : decode cX10_isCopy 12 = .ok (.iload_n 2, 1) := by decide +kernel
theorem dX10_isCopy_13 : decode cX10_isCopy 13 = .ok (.aload_n 0, 1) := by decide +kernel
theorem dX10_isCopy_14 : decode cX10_isCopy 14 = .ok (.getfield 67, 3) := by decide +kernel
theorem dX10_isCopy_17 : decode cX10_isCopy 17 = .ok (.iload_n 1, 1) := by decide +kernel
theorem dX10_isCopy_18 : decode cX10_isCopy 18 = .ok (.iaload, 1) := by decide +kernel
theorem dX10_isCopy_19 : decode cX10_isCopy 19 = .ok (.if_icmp .ge 7, 3) := by decide +kernel
theorem dX10_isCopy_22 : decode cX10_isCopy 22 = .ok (.iconst 1, 1) := by decide +kernel
theorem dX10_isCopy_23 : decode cX10_isCopy 23 = .ok (.goto 4, 3) := by decide +kernel
theorem dX10_isCopy_26 : decode cX10_isCopy 26 = .ok (.iconst 0, 1) := by decide +kernel
theorem dX10_isCopy_27 : decode cX10_isCopy 27 = .ok (.ireturn, 1) := by decide +kernel
def f_X10_isCopy (h : Hp) (a0 : Nat) (a1 : Int32) (a2 : Int32) : Option (Int32 × Hp) :=
gd (okOb h a0 10) <|
bnd (f_X10_isSheet h a0 a1) fun v2 h3 =>
if v2 = 0 then (
some ((0 : Int32), h3)) else (
if a2 < 0 then (
some ((0 : Int32), h3)) else (
vl (gR h3 a0 21) fun r6 =>
un r6 fun b7 =>
gd (okAb h3 b7 11 a1) <|
vl (gI h3 b7 a1.toNatClampNeg) fun x9 =>
if x9 ≤ a2 then (
some ((0 : Int32), h3)) else (
some ((1 : Int32), h3))))
set_option maxHeartbeats 4000000 in
set_option maxRecDepth 100000 in
theorem t_X10_isCopy {X : Cx} {d : Nat} {h : Hp} {a0 : Nat} {a1 : Int32} {a2 : Int32} {v : Int32} {h' : Hp} (hD : 2 ≤ d) (H : f_X10_isCopy h a0 a1 a2 = some (v, h')) : PM X mX10_isCopy d [.ref a0, .int a1, .int a2] h (some (.int v)) h' := by
  unfold f_X10_isCopy at H
  refine PM.of (loc := [some (.ref a0), some (.int a1), some (.int a2)]) (by decide) rfl (Nat.le_of_ble_eq_true rfl) ?_
  refine ev_aload_n dX10_isCopy_0 rfl rfl rfl ?_
  refine ev_iload_n dX10_isCopy_1 rfl rfl ?_
  replace H := gd_some H
  obtain ⟨g1, H⟩ := H
  replace H := bnd_some H
  obtain ⟨v2, h3, eh3, H⟩ := H
  have ph3 := (t_X10_isSheet (X := X) (d := 1) (by omega) eh3)
  refine ev_callV (as := [.int a1]) dX10_isCopy_2 ph3 ok_X10_isSheet (by omega) rfl k5_208 k5_210 ks_36 (ci := 10) (by decide) rfl rfl (okOb.p g1) rfl (Nat.le_of_ble_eq_true rfl) ?_
  refine ev_if_eq (tgt := 26) dX10_isCopy_5 (by decide) (fun c4 => ?_) (fun c4 => ?_)
  · rw [if_pos c4] at H
    refine ev_iconst (v := (0 : Int32)) dX10_isCopy_26 (by decide) ?_
    exact ev_iretx dX10_isCopy_27 rfl rfl H
  · rw [if_neg c4] at H
    refine ev_iload_n dX10_isCopy_8 rfl rfl ?_
    refine ev_if_lt (tgt := 26) dX10_isCopy_9 (by decide) (fun c5 => ?_) (fun c5 => ?_)
    · rw [if_pos c5] at H
      refine ev_iconst (v := (0 : Int32)) dX10_isCopy_26 (by decide) ?_
      exact ev_iretx dX10_isCopy_27 rfl rfl H
    · rw [if_neg c5] at H
      refine ev_iload_n dX10_isCopy_12 rfl rfl ?_
      refine ev_aload_n dX10_isCopy_13 rfl rfl rfl ?_
      replace H := vl_some H
      obtain ⟨r6, er6, H⟩ := H
      refine ev_getRx dX10_isCopy_14 fgX10_67 rfl (okO_ext ph3.1 (okOb.p g1)) er6 ?_
      refine ev_iload_n dX10_isCopy_17 rfl rfl ?_
      replace H := un_some H
      obtain ⟨b7, eb7, H⟩ := H
      subst eb7
      replace H := gd_some H
      obtain ⟨g8, H⟩ := H
      replace H := vl_some H
      obtain ⟨x9, ex9, H⟩ := H
      refine ev_ialdx dX10_isCopy_18 (okAb.p g8) ex9 ?_
      refine ev_icmp_ge (tgt := 26) dX10_isCopy_19 (by decide) (fun c10 => ?_) (fun c10 => ?_)
      · rw [if_pos c10] at H
        refine ev_iconst (v := (0 : Int32)) dX10_isCopy_26 (by decide) ?_
        exact ev_iretx dX10_isCopy_27 rfl rfl H
      · rw [if_neg c10] at H
        refine ev_iconst (v := (1 : Int32)) dX10_isCopy_22 (by decide) ?_
        refine ev_goto (tgt := 27) dX10_isCopy_23 (by decide) ?_
        exact ev_iretx dX10_isCopy_27 rfl rfl H

theorem dX10_state_0 : decode cX10_state 0 = .ok (.aload_n 0, 1) := by decide +kernel
theorem dX10_state_1 : decode cX10_state 1 = .ok (.iload_n 1, 1) := by decide +kernel
theorem dX10_state_2 : decode cX10_state 2 = .ok (.iload_n 2, 1) := by decide +kernel
theorem dX10_state_3 : decode cX10_state 3 = .ok (.invokevirtual 221, 3) := by decide +kernel
theorem dX10_state_6 : decode cX10_state 6 = .ok (.ifCond .eq 31, 3) := by decide +kernel
theorem dX10_state_9 : decode cX10_state 9 = .ok (.iload_n 3, 1) := by decide +kernel
theorem dX10_state_10 : decode cX10_state 10 = .ok (.i2l, 1) := by decide +kernel
theorem dX10_state_11 : decode cX10_state 11 = .ok (.lconst 0, 1) := by decide +kernel
theorem dX10_state_12 : decode cX10_state 12 = .ok (.lconst 1, 1) := by decide +kernel
theorem dX10_state_13 : decode cX10_state 13 = .ok (.invokestatic 151, 3) := by decide +kernel
theorem dX10_state_16 : decode cX10_state 16 = .ok (.ifCond .eq 21, 3) := by decide +kernel
theorem dX10_state_19 : decode cX10_state 19 = .ok (.aload_n 0, 1) := by decide +kernel
theorem dX10_state_20 : decode cX10_state 20 = .ok (.getfield 82, 3) := by decide +kernel
theorem dX10_state_23 : decode cX10_state 23 = .ok (.bipush 60, 2) := by decide +kernel
theorem dX10_state_25 : decode cX10_state 25 = .ok (.iconst 2, 1) := by decide +kernel
theorem dX10_state_26 : decode cX10_state 26 = .ok (.iload_n 1, 1) := by decide +kernel
theorem dX10_state_27 : decode cX10_state 27 = .ok (.imul, 1) := by decide +kernel
theorem dX10_state_28 : decode cX10_state 28 = .ok (.iload_n 3, 1) := by decide +kernel
theorem dX10_state_29 : decode cX10_state 29 = .ok (.iadd, 1) := by decide +kernel
theorem dX10_state_30 : decode cX10_state 30 = .ok (.imul, 1) := by decide +kernel
theorem dX10_state_31 : decode cX10_state 31 = .ok (.iload_n 2, 1) := by decide +kernel
theorem dX10_state_32 : decode cX10_state 32 = .ok (.iadd, 1) := by decide +kernel
theorem dX10_state_33 : decode cX10_state 33 = .ok (.iaload, 1) := by decide +kernel
theorem dX10_state_34 : decode cX10_state 34 = .ok (.goto 4, 3) := by decide +kernel
theorem dX10_state_37 : decode cX10_state 37 = .ok (.iconst (-1), 1) := by decide +kernel
theorem dX10_state_38 : decode cX10_state 38 = .ok (.ireturn, 1) := by decide +kernel
def f_X10_state (h : Hp) (a0 : Nat) (a1 : Int32) (a2 : Int32) (a3 : Int32) : Option (Int32 × Hp) :=
gd (okOb h a0 10) <|
bnd (f_X10_isCopy h a0 a1 a2) fun v2 h3 =>
if v2 = 0 then (
some ((-1 : Int32), h3)) else (
bnd (f_X10_isIn h3 (a3.toInt64) (0 : Int64) (1 : Int64)) fun v5 h6 =>
if v5 = 0 then (
some ((-1 : Int32), h6)) else (
vl (gR h6 a0 28) fun r8 =>
un r8 fun b9 =>
gd (okAb h6 b9 11 (((60 : Int32) * (((2 : Int32) * a1) + a3)) + a2)) <|
vl (gI h6 b9 (((60 : Int32) * (((2 : Int32) * a1) + a3)) + a2).toNatClampNeg) fun x11 =>
some (x11, h6)))
set_option maxHeartbeats 4000000 in
set_option maxRecDepth 100000 in
theorem t_X10_state {X : Cx} {d : Nat} {h : Hp} {a0 : Nat} {a1 : Int32} {a2 : Int32} {a3 : Int32} {v : Int32} {h' : Hp} (hD : 3 ≤ d) (H : f_X10_state h a0 a1 a2 a3 = some (v, h')) : PM X mX10_state d [.ref a0, .int a1, .int a2, .int a3] h (some (.int v)) h' := by
  unfold f_X10_state at H
  refine PM.of (loc := [some (.ref a0), some (.int a1), some (.int a2), some (.int a3)]) (by decide) rfl (Nat.le_of_ble_eq_true rfl) ?_
  refine ev_aload_n dX10_state_0 rfl rfl rfl ?_
  refine ev_iload_n dX10_state_1 rfl rfl ?_
  refine ev_iload_n dX10_state_2 rfl rfl ?_
  replace H := gd_some H
  obtain ⟨g1, H⟩ := H
  replace H := bnd_some H
  obtain ⟨v2, h3, eh3, H⟩ := H
  have ph3 := (t_X10_isCopy (X := X) (d := 2) (by omega) eh3)
  refine ev_callV (as := [.int a1, .int a2]) dX10_state_3 ph3 ok_X10_isCopy (by omega) rfl k5_204 k5_206 ks_35 (ci := 10) (by decide) rfl rfl (okOb.p g1) rfl (Nat.le_of_ble_eq_true rfl) ?_
  refine ev_if_eq (tgt := 37) dX10_state_6 (by decide) (fun c4 => ?_) (fun c4 => ?_)
  · rw [if_pos c4] at H
    refine ev_iconst (v := (-1 : Int32)) dX10_state_37 (by decide) ?_
    exact ev_iretx dX10_state_38 rfl rfl H
  · rw [if_neg c4] at H
    refine ev_iload_n dX10_state_9 rfl rfl ?_
    refine ev_i2l dX10_state_10 rfl ?_
    refine ev_lconst (v := (0 : Int64)) dX10_state_11 (by decide) ?_
    refine ev_lconst (v := (1 : Int64)) dX10_state_12 (by decide) ?_
    replace H := bnd_some H
    obtain ⟨v5, h6, eh6, H⟩ := H
    have ph6 := (t_X10_isIn (X := X) (d := 1) (by omega) eh6)
    refine ev_callS (as := [.long (a3.toInt64), .long (0 : Int64), .long (1 : Int64)]) dX10_state_13 ph6 ok_X10_isIn (by omega) rfl k5_88 k5_89 rfl (Nat.le_of_ble_eq_true rfl) ?_
    refine ev_if_eq (tgt := 37) dX10_state_16 (by decide) (fun c7 => ?_) (fun c7 => ?_)
    · rw [if_pos c7] at H
      refine ev_iconst (v := (-1 : Int32)) dX10_state_37 (by decide) ?_
      exact ev_iretx dX10_state_38 rfl rfl H
    · rw [if_neg c7] at H
      refine ev_aload_n dX10_state_19 rfl rfl rfl ?_
      replace H := vl_some H
      obtain ⟨r8, er8, H⟩ := H
      refine ev_getRx dX10_state_20 fgX10_82 rfl (okO_ext ph6.1 (okO_ext ph3.1 (okOb.p g1))) er8 ?_
      refine ev_bipush (v := (60 : Int32)) dX10_state_23 (by decide) ?_
      refine ev_iconst (v := (2 : Int32)) dX10_state_25 (by decide) ?_
      refine ev_iload_n dX10_state_26 rfl rfl ?_
      refine ev_imul dX10_state_27 ?_
      refine ev_iload_n dX10_state_28 rfl rfl ?_
      refine ev_iadd dX10_state_29 ?_
      refine ev_imul dX10_state_30 ?_
      refine ev_iload_n dX10_state_31 rfl rfl ?_
      refine ev_iadd dX10_state_32 ?_
      replace H := un_some H
      obtain ⟨b9, eb9, H⟩ := H
      subst eb9
      replace H := gd_some H
      obtain ⟨g10, H⟩ := H
      replace H := vl_some H
      obtain ⟨x11, ex11, H⟩ := H
      refine ev_ialdx dX10_state_33 (okAb.p g10) ex11 ?_
      refine ev_goto (tgt := 38) dX10_state_34 (by decide) ?_
      exact ev_iretx dX10_state_38 rfl rfl H

theorem dX10_read_0 : decode cX10_read 0 = .ok (.aload_n 0, 1) := by decide +kernel
theorem dX10_read_1 : decode cX10_read 1 = .ok (.iload_n 1, 1) := by decide +kernel
theorem dX10_read_2 : decode cX10_read 2 = .ok (.iload_n 2, 1) := by decide +kernel
theorem dX10_read_3 : decode cX10_read 3 = .ok (.invokevirtual 221, 3) := by decide +kernel
theorem dX10_read_6 : decode cX10_read 6 = .ok (.ifCond .eq 23, 3) := by decide +kernel
theorem dX10_read_9 : decode cX10_read 9 = .ok (.aload_n 0, 1) := by decide +kernel
theorem dX10_read_10 : decode cX10_read 10 = .ok (.iload_n 3, 1) := by decide +kernel
theorem dX10_read_11 : decode cX10_read 11 = .ok (.iload 4, 2) := by decide +kernel
theorem dX10_read_13 : decode cX10_read 13 = .ok (.invokevirtual 175, 3) := by decide +kernel
theorem dX10_read_16 : decode cX10_read 16 = .ok (.ifCond .eq 13, 3) := by decide +kernel
theorem dX10_read_19 : decode cX10_read 19 = .ok (.aload_n 0, 1) := by decide +kernel
theorem dX10_read_20 : decode cX10_read 20 = .ok (.getfield 34, 3) := by decide +kernel
theorem dX10_read_23 : decode cX10_read 23 = .ok (.iload_n 3, 1) := by decide +kernel
theorem dX10_read_24 : decode cX10_read 24 = .ok (.iaload, 1) := by decide +kernel
theorem dX10_read_25 : decode cX10_read 25 = .ok (.iload_n 1, 1) := by decide +kernel
theorem dX10_read_26 : decode cX10_read 26 = .ok (.if_icmp .eq 5, 3) := by decide +kernel
theorem dX10_read_29 : decode cX10_read 29 = .ok (.iconst (-1), 1) := by decide +kernel
theorem dX10_read_30 : decode cX10_read 30 = .ok (.ireturn, 1) := by decide +kernel
theorem dX10_read_31 : decode cX10_read 31 = .ok (.iconst 2, 1) := by decide +kernel
theorem dX10_read_32 : decode cX10_read 32 = .ok (.iload_n 1, 1) := by decide +kernel
theorem dX10_read_33 : decode cX10_read 33 = .ok (.imul, 1) := by decide +kernel
theorem dX10_read_34 : decode cX10_read 34 = .ok (.aload_n 0, 1) := by decide +kernel
theorem dX10_read_35 : decode cX10_read 35 = .ok (.getfield 37, 3) := by decide +kernel
theorem dX10_read_38 : decode cX10_read 38 = .ok (.iload_n 3, 1) := by decide +kernel
theorem dX10_read_39 : decode cX10_read 39 = .ok (.iaload, 1) := by decide +kernel
theorem dX10_read_40 : decode cX10_read 40 = .ok (.iconst 2, 1) := by decide +kernel
theorem dX10_read_41 : decode cX10_read 41 = .ok (.irem, 1) := by decide +kernel
theorem dX10_read_42 : decode cX10_read 42 = .ok (.iadd, 1) := by decide +kernel
theorem dX10_read_43 : decode cX10_read 43 = .ok (.istore 5, 2) := by decide +kernel
theorem dX10_read_45 : decode cX10_read 45 = .ok (.aload_n 0, 1) := by decide +kernel
theorem dX10_read_46 : decode cX10_read 46 = .ok (.getfield 82, 3) := by decide +kernel
theorem dX10_read_49 : decode cX10_read 49 = .ok (.bipush 60, 2) := by decide +kernel
theorem dX10_read_51 : decode cX10_read 51 = .ok (.iload 5, 2) := by decide +kernel
theorem dX10_read_53 : decode cX10_read 53 = .ok (.imul, 1) := by decide +kernel
theorem dX10_read_54 : decode cX10_read 54 = .ok (.iload_n 2, 1) := by decide +kernel
theorem dX10_read_55 : decode cX10_read 55 = .ok (.iadd, 1) := by decide +kernel
theorem dX10_read_56 : decode cX10_read 56 = .ok (.iaload, 1) := by decide +kernel
theorem dX10_read_57 : decode cX10_read 57 = .ok (.istore 6, 2) := by decide +kernel
theorem dX10_read_59 : decode cX10_read 59 = .ok (.iload 6, 2) := by decide +kernel
theorem dX10_read_61 : decode cX10_read 61 = .ok (.ifCond .ge 5, 3) := by decide +kernel
theorem dX10_read_64 : decode cX10_read 64 = .ok (.iconst (-1), 1) := by decide +kernel
theorem dX10_read_65 : decode cX10_read 65 = .ok (.ireturn, 1) := by decide +kernel
theorem dX10_read_66 : decode cX10_read 66 = .ok (.aload_n 0, 1) := by decide +kernel
theorem dX10_read_67 : decode cX10_read 67 = .ok (.getfield 25, 3) := by decide +kernel
theorem dX10_read_70 : decode cX10_read 70 = .ok (.bipush 120, 2) := by decide +kernel
theorem dX10_read_72 : decode cX10_read 72 = .ok (.iload_n 3, 1) := by decide +kernel
theorem dX10_read_73 : decode cX10_read 73 = .ok (.imul, 1) := by decide +kernel
theorem dX10_read_74 : decode cX10_read 74 = .ok (.iload 4, 2) := by decide +kernel
theorem dX10_read_76 : decode cX10_read 76 = .ok (.iadd, 1) := by decide +kernel
theorem dX10_read_77 : decode cX10_read 77 = .ok (.iaload, 1) := by decide +kernel
theorem dX10_read_78 : decode cX10_read 78 = .ok (.istore 7, 2) := by decide +kernel
theorem dX10_read_80 : decode cX10_read 80 = .ok (.bipush 30, 2) := by decide +kernel
theorem dX10_read_82 : decode cX10_read 82 = .ok (.iload 5, 2) := by decide +kernel
theorem dX10_read_84 : decode cX10_read 84 = .ok (.imul, 1) := by decide +kernel
theorem dX10_read_85 : decode cX10_read 85 = .ok (.istore 8, 2) := by decide +kernel
theorem dX10_read_87 : decode cX10_read 87 = .ok (.iload 8, 2) := by decide +kernel
theorem dX10_read_89 : decode cX10_read 89 = .ok (.bipush 30, 2) := by decide +kernel
theorem dX10_read_91 : decode cX10_read 91 = .ok (.iload 5, 2) := by decide +kernel
theorem dX10_read_93 : decode cX10_read 93 = .ok (.imul, 1) := by decide +kernel
theorem dX10_read_94 : decode cX10_read 94 = .ok (.iload 6, 2) := by decide +kernel
theorem dX10_read_96 : decode cX10_read 96 = .ok (.iadd, 1) := by decide +kernel
theorem dX10_read_97 : decode cX10_read 97 = .ok (.if_icmp .ge 41, 3) := by decide +kernel
theorem dX10_read_100 : decode cX10_read 100 = .ok (.aload_n 0, 1) := by decide +kernel
theorem dX10_read_101 : decode cX10_read 101 = .ok (.getfield 85, 3) := by decide +kernel
theorem dX10_read_104 : decode cX10_read 104 = .ok (.iload 8, 2) := by decide +kernel
theorem dX10_read_106 : decode cX10_read 106 = .ok (.iaload, 1) := by decide +kernel
theorem dX10_read_107 : decode cX10_read 107 = .ok (.iload_n 3, 1) := by decide +kernel
theorem dX10_read_108 : decode cX10_read 108 = .ok (.if_icmp .ne 24, 3) := by decide +kernel
theorem dX10_read_111 : decode cX10_read 111 = .ok (.aload_n 0, 1) := by decide +kernel
theorem dX10_read_112 : decode cX10_read 112 = .ok (.getfield 88, 3) := by decide +kernel
theorem dX10_read_115 : decode cX10_read 115 = .ok (.iload 8, 2) := by decide +kernel
theorem dX10_read_117 : decode cX10_read 117 = .ok (.iaload, 1) := by decide +kernel
theorem dX10_read_118 : decode cX10_read 118 = .ok (.iload 4, 2) := by decide +kernel
theorem dX10_read_120 : decode cX10_read 120 = .ok (.if_icmp .ne 12, 3) := by decide +kernel
theorem dX10_read_123 : decode cX10_read 123 = .ok (.aload_n 0, 1) := by decide +kernel
theorem dX10_read_124 : decode cX10_read 124 = .ok (.getfield 91, 3) := by decide +kernel
theorem dX10_read_127 : decode cX10_read 127 = .ok (.iload 8, 2) := by decide +kernel
theorem dX10_read_129 : decode cX10_read 129 = .ok (.iaload, 1) := by decide +kernel
theorem dX10_read_130 : decode cX10_read 130 = .ok (.istore 7, 2) := by decide +kernel
theorem dX10_read_132 : decode cX10_read 132 = .ok (.iinc 8 1, 3) := by decide +kernel
theorem dX10_read_135 : decode cX10_read 135 = .ok (.goto (-48), 3) := by decide +kernel
theorem dX10_read_138 : decode cX10_read 138 = .ok (.iload 7, 2) := by decide +kernel
theorem dX10_read_140 : decode cX10_read 140 = .ok (.ireturn, 1) := by decide +kernel
def f_X10_read_L87 : Nat → Nat → Int32 → Int32 → Int32 → Int32 → Int32 → Int32 → Int32 → Int32 → Hp → Option (Int32 × Hp)
  | 0, _, _, _, _, _, _, _, _, _, _ => none
  | n + 1, l0, l1, l2, l3, l4, l5, l6, l7, l8, h =>
    if (((30 : Int32) * l5) + l6) ≤ l8 then (
    some (l7, h)) else (
    gd (okOb h l0 10) <|
    vl (gR h l0 29) fun r30 =>
    un r30 fun b31 =>
    gd (okAb h b31 11 l8) <|
    vl (gI h b31 l8.toNatClampNeg) fun x33 =>
    if x33 = l3 then (
    vl (gR h l0 30) fun r36 =>
    un r36 fun b37 =>
    gd (okAb h b37 11 l8) <|
    vl (gI h b37 l8.toNatClampNeg) fun x39 =>
    if x39 = l4 then (
    vl (gR h l0 31) fun r42 =>
    un r42 fun b43 =>
    gd (okAb h b43 11 l8) <|
    vl (gI h b43 l8.toNatClampNeg) fun x45 =>
    vl (l8 + (1 : Int32)) fun x46 =>
    f_X10_read_L87 n l0 l1 l2 l3 l4 l5 l6 x45 x46 h) else (
    vl (l8 + (1 : Int32)) fun x41 =>
    f_X10_read_L87 n l0 l1 l2 l3 l4 l5 l6 l7 x41 h)) else (
    vl (l8 + (1 : Int32)) fun x35 =>
    f_X10_read_L87 n l0 l1 l2 l3 l4 l5 l6 l7 x35 h))
set_option maxHeartbeats 4000000 in
set_option maxRecDepth 100000 in
theorem t_X10_read_L87 {X : Cx} {d : Nat} {h0 h' : Hp} {v : Int32} (hD : 3 ≤ d) : ∀ (n : Nat) (l0 : Nat) (l1 : Int32) (l2 : Int32) (l3 : Int32) (l4 : Int32) (l5 : Int32) (l6 : Int32) (l7 : Int32) (l8 : Int32) (h : Hp), f_X10_read_L87 n l0 l1 l2 l3 l4 l5 l6 l7 l8 h = some (v, h') → EV X mX10_read d h0 (some (.int v)) h' 87 [some (.ref l0), some (.int l1), some (.int l2), some (.int l3), some (.int l4), some (.int l5), some (.int l6), some (.int l7), some (.int l8)] [] h := by
  intro n
  induction n with
  | zero => intro l0 l1 l2 l3 l4 l5 l6 l7 l8 h H; simp [f_X10_read_L87] at H
  | succ n ih =>
    intro l0 l1 l2 l3 l4 l5 l6 l7 l8 h H
    rw [f_X10_read_L87] at H
    refine ev_iload dX10_read_87 rfl ?_
    refine ev_bipush (v := (30 : Int32)) dX10_read_89 (by decide) ?_
    refine ev_iload dX10_read_91 rfl ?_
    refine ev_imul dX10_read_93 ?_
    refine ev_iload dX10_read_94 rfl ?_
    refine ev_iadd dX10_read_96 ?_
    refine ev_icmp_ge (tgt := 138) dX10_read_97 (by decide) (fun c28 => ?_) (fun c28 => ?_)
    · rw [if_pos c28] at H
      refine ev_iload dX10_read_138 rfl ?_
      exact ev_iretx dX10_read_140 rfl rfl H
    · rw [if_neg c28] at H
      refine ev_aload_n dX10_read_100 rfl rfl rfl ?_
      replace H := gd_some H
      obtain ⟨g29, H⟩ := H
      replace H := vl_some H
      obtain ⟨r30, er30, H⟩ := H
      refine ev_getRx dX10_read_101 fgX10_85 rfl (okOb.p g29) er30 ?_
      refine ev_iload dX10_read_104 rfl ?_
      replace H := un_some H
      obtain ⟨b31, eb31, H⟩ := H
      subst eb31
      replace H := gd_some H
      obtain ⟨g32, H⟩ := H
      replace H := vl_some H
      obtain ⟨x33, ex33, H⟩ := H
      refine ev_ialdx dX10_read_106 (okAb.p g32) ex33 ?_
      refine ev_iload_n dX10_read_107 rfl rfl ?_
      refine ev_icmp_ne (tgt := 132) dX10_read_108 (by decide) (fun c34 => ?_) (fun c34 => ?_)
      · rw [if_neg c34] at H
        replace H := vl_some H
        obtain ⟨x35, ex35, H⟩ := H
        refine ev_iincx (loc2 := [some (.ref l0), some (.int l1), some (.int l2), some (.int l3), some (.int l4), some (.int l5), some (.int l6), some (.int l7), some (.int x35)]) dX10_read_132 rfl (by decide) ex35 (by decide) rfl ?_
        refine ev_goto (tgt := 87) dX10_read_135 (by decide) ?_
        exact ih l0 l1 l2 l3 l4 l5 l6 l7 x35 h H
      · rw [if_pos c34] at H
        refine ev_aload_n dX10_read_111 rfl rfl rfl ?_
        replace H := vl_some H
        obtain ⟨r36, er36, H⟩ := H
        refine ev_getRx dX10_read_112 fgX10_88 rfl (okOb.p g29) er36 ?_
        refine ev_iload dX10_read_115 rfl ?_
        replace H := un_some H
        obtain ⟨b37, eb37, H⟩ := H
        subst eb37
        replace H := gd_some H
        obtain ⟨g38, H⟩ := H
        replace H := vl_some H
        obtain ⟨x39, ex39, H⟩ := H
        refine ev_ialdx dX10_read_117 (okAb.p g38) ex39 ?_
        refine ev_iload dX10_read_118 rfl ?_
        refine ev_icmp_ne (tgt := 132) dX10_read_120 (by decide) (fun c40 => ?_) (fun c40 => ?_)
        · rw [if_neg c40] at H
          replace H := vl_some H
          obtain ⟨x41, ex41, H⟩ := H
          refine ev_iincx (loc2 := [some (.ref l0), some (.int l1), some (.int l2), some (.int l3), some (.int l4), some (.int l5), some (.int l6), some (.int l7), some (.int x41)]) dX10_read_132 rfl (by decide) ex41 (by decide) rfl ?_
          refine ev_goto (tgt := 87) dX10_read_135 (by decide) ?_
          exact ih l0 l1 l2 l3 l4 l5 l6 l7 x41 h H
        · rw [if_pos c40] at H
          refine ev_aload_n dX10_read_123 rfl rfl rfl ?_
          replace H := vl_some H
          obtain ⟨r42, er42, H⟩ := H
          refine ev_getRx dX10_read_124 fgX10_91 rfl (okOb.p g29) er42 ?_
          refine ev_iload dX10_read_127 rfl ?_
          replace H := un_some H
          obtain ⟨b43, eb43, H⟩ := H
          subst eb43
          replace H := gd_some H
          obtain ⟨g44, H⟩ := H
          replace H := vl_some H
          obtain ⟨x45, ex45, H⟩ := H
          refine ev_ialdx dX10_read_129 (okAb.p g44) ex45 ?_
          refine ev_istore (loc2 := [some (.ref l0), some (.int l1), some (.int l2), some (.int l3), some (.int l4), some (.int l5), some (.int l6), some (.int x45), some (.int l8)]) dX10_read_130 (by decide) rfl ?_
          replace H := vl_some H
          obtain ⟨x46, ex46, H⟩ := H
          refine ev_iincx (loc2 := [some (.ref l0), some (.int l1), some (.int l2), some (.int l3), some (.int l4), some (.int l5), some (.int l6), some (.int x45), some (.int x46)]) dX10_read_132 rfl (by decide) ex46 (by decide) rfl ?_
          refine ev_goto (tgt := 87) dX10_read_135 (by decide) ?_
          exact ih l0 l1 l2 l3 l4 l5 l6 x45 x46 h H
def f_X10_read (h : Hp) (a0 : Nat) (a1 : Int32) (a2 : Int32) (a3 : Int32) (a4 : Int32) : Option (Int32 × Hp) :=
gd (okOb h a0 10) <|
bnd (f_X10_isCopy h a0 a1 a2) fun v2 h3 =>
if v2 = 0 then (
some ((-1 : Int32), h3)) else (
bnd (f_X10_isPlace h3 a0 a3 a4) fun v5 h6 =>
if v5 = 0 then (
some ((-1 : Int32), h6)) else (
vl (gR h6 a0 9) fun r8 =>
un r8 fun b9 =>
gd (okAb h6 b9 11 a3) <|
vl (gI h6 b9 a3.toNatClampNeg) fun x11 =>
if x11 = a1 then (
vl (gR h6 a0 10) fun r13 =>
un r13 fun b14 =>
gd (okAb h6 b14 11 a3) <|
vl (gI h6 b14 a3.toNatClampNeg) fun x16 =>
vl (((2 : Int32) * a1) + (x16 - x16 / (2 : Int32) * (2 : Int32))) fun x17 =>
vl (gR h6 a0 28) fun r18 =>
un r18 fun b19 =>
gd (okAb h6 b19 11 (((60 : Int32) * x17) + a2)) <|
vl (gI h6 b19 (((60 : Int32) * x17) + a2).toNatClampNeg) fun x21 =>
if 0 ≤ x21 then (
vl (gR h6 a0 6) fun r23 =>
un r23 fun b24 =>
gd (okAb h6 b24 11 (((120 : Int32) * a3) + a4)) <|
vl (gI h6 b24 (((120 : Int32) * a3) + a4).toNatClampNeg) fun x26 =>
vl ((30 : Int32) * x17) fun x27 =>
f_X10_read_L87 6000 a0 a1 a2 a3 a4 x17 x21 x26 x27 h6) else (
some ((-1 : Int32), h6))) else (
some ((-1 : Int32), h6))))
set_option maxHeartbeats 4000000 in
set_option maxRecDepth 100000 in
theorem t_X10_read {X : Cx} {d : Nat} {h : Hp} {a0 : Nat} {a1 : Int32} {a2 : Int32} {a3 : Int32} {a4 : Int32} {v : Int32} {h' : Hp} (hD : 3 ≤ d) (H : f_X10_read h a0 a1 a2 a3 a4 = some (v, h')) : PM X mX10_read d [.ref a0, .int a1, .int a2, .int a3, .int a4] h (some (.int v)) h' := by
  unfold f_X10_read at H
  refine PM.of (loc := [some (.ref a0), some (.int a1), some (.int a2), some (.int a3), some (.int a4), none, none, none, none]) (by decide) rfl (Nat.le_of_ble_eq_true rfl) ?_
  refine ev_aload_n dX10_read_0 rfl rfl rfl ?_
  refine ev_iload_n dX10_read_1 rfl rfl ?_
  refine ev_iload_n dX10_read_2 rfl rfl ?_
  replace H := gd_some H
  obtain ⟨g1, H⟩ := H
  replace H := bnd_some H
  obtain ⟨v2, h3, eh3, H⟩ := H
  have ph3 := (t_X10_isCopy (X := X) (d := 2) (by omega) eh3)
  refine ev_callV (as := [.int a1, .int a2]) dX10_read_3 ph3 ok_X10_isCopy (by omega) rfl k5_204 k5_206 ks_35 (ci := 10) (by decide) rfl rfl (okOb.p g1) rfl (Nat.le_of_ble_eq_true rfl) ?_
  refine ev_if_eq (tgt := 29) dX10_read_6 (by decide) (fun c4 => ?_) (fun c4 => ?_)
  · rw [if_pos c4] at H
    refine ev_iconst (v := (-1 : Int32)) dX10_read_29 (by decide) ?_
    exact ev_iretx dX10_read_30 rfl rfl H
  · rw [if_neg c4] at H
    refine ev_aload_n dX10_read_9 rfl rfl rfl ?_
    refine ev_iload_n dX10_read_10 rfl rfl ?_
    refine ev_iload dX10_read_11 rfl ?_
    replace H := bnd_some H
    obtain ⟨v5, h6, eh6, H⟩ := H
    have ph6 := (t_X10_isPlace (X := X) (d := 2) (by omega) eh6)
    refine ev_callV (as := [.int a3, .int a4]) dX10_read_13 ph6 ok_X10_isPlace (by omega) rfl k5_130 k5_132 ks_29 (ci := 10) (by decide) rfl rfl (okO_ext ph3.1 (okOb.p g1)) rfl (Nat.le_of_ble_eq_true rfl) ?_
    refine ev_if_eq (tgt := 29) dX10_read_16 (by decide) (fun c7 => ?_) (fun c7 => ?_)
    · rw [if_pos c7] at H
      refine ev_iconst (v := (-1 : Int32)) dX10_read_29 (by decide) ?_
      exact ev_iretx dX10_read_30 rfl rfl H
    · rw [if_neg c7] at H
      refine ev_aload_n dX10_read_19 rfl rfl rfl ?_
      replace H := vl_some H
      obtain ⟨r8, er8, H⟩ := H
      refine ev_getRx dX10_read_20 fgX10_34 rfl (okO_ext ph6.1 (okO_ext ph3.1 (okOb.p g1))) er8 ?_
      refine ev_iload_n dX10_read_23 rfl rfl ?_
      replace H := un_some H
      obtain ⟨b9, eb9, H⟩ := H
      subst eb9
      replace H := gd_some H
      obtain ⟨g10, H⟩ := H
      replace H := vl_some H
      obtain ⟨x11, ex11, H⟩ := H
      refine ev_ialdx dX10_read_24 (okAb.p g10) ex11 ?_
      refine ev_iload_n dX10_read_25 rfl rfl ?_
      refine ev_icmp_eq (tgt := 31) dX10_read_26 (by decide) (fun c12 => ?_) (fun c12 => ?_)
      · rw [if_pos c12] at H
        refine ev_iconst (v := (2 : Int32)) dX10_read_31 (by decide) ?_
        refine ev_iload_n dX10_read_32 rfl rfl ?_
        refine ev_imul dX10_read_33 ?_
        refine ev_aload_n dX10_read_34 rfl rfl rfl ?_
        replace H := vl_some H
        obtain ⟨r13, er13, H⟩ := H
        refine ev_getRx dX10_read_35 fgX10_37 rfl (okO_ext ph6.1 (okO_ext ph3.1 (okOb.p g1))) er13 ?_
        refine ev_iload_n dX10_read_38 rfl rfl ?_
        replace H := un_some H
        obtain ⟨b14, eb14, H⟩ := H
        subst eb14
        replace H := gd_some H
        obtain ⟨g15, H⟩ := H
        replace H := vl_some H
        obtain ⟨x16, ex16, H⟩ := H
        refine ev_ialdx dX10_read_39 (okAb.p g15) ex16 ?_
        refine ev_iconst (v := (2 : Int32)) dX10_read_40 (by decide) ?_
        refine ev_irem dX10_read_41 (by decide) ?_
        refine ev_iadd dX10_read_42 ?_
        replace H := vl_some H
        obtain ⟨x17, ex17, H⟩ := H
        refine ev_istorex (loc2 := [some (.ref a0), some (.int a1), some (.int a2), some (.int a3), some (.int a4), some (.int x17), none, none, none]) dX10_read_43 (by decide) ex17 rfl ?_
        refine ev_aload_n dX10_read_45 rfl rfl rfl ?_
        replace H := vl_some H
        obtain ⟨r18, er18, H⟩ := H
        refine ev_getRx dX10_read_46 fgX10_82 rfl (okO_ext ph6.1 (okO_ext ph3.1 (okOb.p g1))) er18 ?_
        refine ev_bipush (v := (60 : Int32)) dX10_read_49 (by decide) ?_
        refine ev_iload dX10_read_51 rfl ?_
        refine ev_imul dX10_read_53 ?_
        refine ev_iload_n dX10_read_54 rfl rfl ?_
        refine ev_iadd dX10_read_55 ?_
        replace H := un_some H
        obtain ⟨b19, eb19, H⟩ := H
        subst eb19
        replace H := gd_some H
        obtain ⟨g20, H⟩ := H
        replace H := vl_some H
        obtain ⟨x21, ex21, H⟩ := H
        refine ev_ialdx dX10_read_56 (okAb.p g20) ex21 ?_
        refine ev_istore (loc2 := [some (.ref a0), some (.int a1), some (.int a2), some (.int a3), some (.int a4), some (.int x17), some (.int x21), none, none]) dX10_read_57 (by decide) rfl ?_
        refine ev_iload dX10_read_59 rfl ?_
        refine ev_if_ge (tgt := 66) dX10_read_61 (by decide) (fun c22 => ?_) (fun c22 => ?_)
        · rw [if_pos c22] at H
          refine ev_aload_n dX10_read_66 rfl rfl rfl ?_
          replace H := vl_some H
          obtain ⟨r23, er23, H⟩ := H
          refine ev_getRx dX10_read_67 fgX10_25 rfl (okO_ext ph6.1 (okO_ext ph3.1 (okOb.p g1))) er23 ?_
          refine ev_bipush (v := (120 : Int32)) dX10_read_70 (by decide) ?_
          refine ev_iload_n dX10_read_72 rfl rfl ?_
          refine ev_imul dX10_read_73 ?_
          refine ev_iload dX10_read_74 rfl ?_
          refine ev_iadd dX10_read_76 ?_
          replace H := un_some H
          obtain ⟨b24, eb24, H⟩ := H
          subst eb24
          replace H := gd_some H
          obtain ⟨g25, H⟩ := H
          replace H := vl_some H
          obtain ⟨x26, ex26, H⟩ := H
          refine ev_ialdx dX10_read_77 (okAb.p g25) ex26 ?_
          refine ev_istore (loc2 := [some (.ref a0), some (.int a1), some (.int a2), some (.int a3), some (.int a4), some (.int x17), some (.int x21), some (.int x26), none]) dX10_read_78 (by decide) rfl ?_
          refine ev_bipush (v := (30 : Int32)) dX10_read_80 (by decide) ?_
          refine ev_iload dX10_read_82 rfl ?_
          refine ev_imul dX10_read_84 ?_
          replace H := vl_some H
          obtain ⟨x27, ex27, H⟩ := H
          refine ev_istorex (loc2 := [some (.ref a0), some (.int a1), some (.int a2), some (.int a3), some (.int a4), some (.int x17), some (.int x21), some (.int x26), some (.int x27)]) dX10_read_85 (by decide) ex27 rfl ?_
          refine t_X10_read_L87 hD  6000 a0 a1 a2 a3 a4 x17 x21 x26 x27 h6 H
        · rw [if_neg c22] at H
          refine ev_iconst (v := (-1 : Int32)) dX10_read_64 (by decide) ?_
          exact ev_iretx dX10_read_65 rfl rfl H
      · rw [if_neg c12] at H
        refine ev_iconst (v := (-1 : Int32)) dX10_read_29 (by decide) ?_
        exact ev_iretx dX10_read_30 rfl rfl H

theorem dX10_isPrinted_0 : decode cX10_isPrinted 0 = .ok (.aload_n 0, 1) := by decide +kernel
theorem dX10_isPrinted_1 : decode cX10_isPrinted 1 = .ok (.getfield 82, 3) := by decide +kernel
theorem dX10_isPrinted_4 : decode cX10_isPrinted 4 = .ok (.bipush 60, 2) := by decide +kernel
theorem dX10_isPrinted_6 : decode cX10_isPrinted 6 = .ok (.iconst 2, 1) := by decide +kernel
theorem dX10_isPrinted_7 : decode cX10_isPrinted 7 = .ok (.iload_n 1, 1) := by decide +kernel
theorem dX10_isPrinted_8 : decode cX10_isPrinted 8 = .ok (.imul, 1) := by decide +kernel
theorem dX10_isPrinted_9 : decode cX10_isPrinted 9 = .ok (.iload_n 3, 1) := by decide +kernel
theorem dX10_isPrinted_10 : decode cX10_isPrinted 10 = .ok (.iadd, 1) := by decide +kernel
theorem dX10_isPrinted_11 : decode cX10_isPrinted 11 = .ok (.imul, 1) := by decide +kernel
theorem dX10_isPrinted_12 : decode cX10_isPrinted 12 = .ok (.iload_n 2, 1) := by decide +kernel
theorem dX10_isPrinted_13 : decode cX10_isPrinted 13 = .ok (.iadd, 1) := by decide +kernel
theorem dX10_isPrinted_14 : decode cX10_isPrinted 14 = .ok (.iaload, 1) := by decide +kernel
theorem dX10_isPrinted_15 : decode cX10_isPrinted 15 = .ok (.ifCond .lt 7, 3) := by decide +kernel
theorem dX10_isPrinted_18 : decode cX10_isPrinted 18 = .ok (.iconst 1, 1) := by decide +kernel
theorem dX10_isPrinted_19 : decode cX10_isPrinted 19 = .ok (.goto 4, 3) := by decide +kernel
theorem dX10_isPrinted_22 : decode cX10_isPrinted 22 = .ok (.iconst 0, 1) := by decide +kernel
theorem dX10_isPrinted_23 : decode cX10_isPrinted 23 = .ok (.ireturn, 1) := by decide +kernel
def f_X10_isPrinted (h : Hp) (a0 : Nat) (a1 : Int32) (a2 : Int32) (a3 : Int32) : Option (Int32 × Hp) :=
gd (okOb h a0 10) <|
vl (gR h a0 28) fun r2 =>
un r2 fun b3 =>
gd (okAb h b3 11 (((60 : Int32) * (((2 : Int32) * a1) + a3)) + a2)) <|
vl (gI h b3 (((60 : Int32) * (((2 : Int32) * a1) + a3)) + a2).toNatClampNeg) fun x5 =>
if x5 < 0 then (
some ((0 : Int32), h)) else (
some ((1 : Int32), h))
set_option maxHeartbeats 4000000 in
set_option maxRecDepth 100000 in
theorem t_X10_isPrinted {X : Cx} {d : Nat} {h : Hp} {a0 : Nat} {a1 : Int32} {a2 : Int32} {a3 : Int32} {v : Int32} {h' : Hp} (hD : 1 ≤ d) (H : f_X10_isPrinted h a0 a1 a2 a3 = some (v, h')) : PM X mX10_isPrinted d [.ref a0, .int a1, .int a2, .int a3] h (some (.int v)) h' := by
  unfold f_X10_isPrinted at H
  refine PM.of (loc := [some (.ref a0), some (.int a1), some (.int a2), some (.int a3)]) (by decide) rfl (Nat.le_of_ble_eq_true rfl) ?_
  refine ev_aload_n dX10_isPrinted_0 rfl rfl rfl ?_
  replace H := gd_some H
  obtain ⟨g1, H⟩ := H
  replace H := vl_some H
  obtain ⟨r2, er2, H⟩ := H
  refine ev_getRx dX10_isPrinted_1 fgX10_82 rfl (okOb.p g1) er2 ?_
  refine ev_bipush (v := (60 : Int32)) dX10_isPrinted_4 (by decide) ?_
  refine ev_iconst (v := (2 : Int32)) dX10_isPrinted_6 (by decide) ?_
  refine ev_iload_n dX10_isPrinted_7 rfl rfl ?_
  refine ev_imul dX10_isPrinted_8 ?_
  refine ev_iload_n dX10_isPrinted_9 rfl rfl ?_
  refine ev_iadd dX10_isPrinted_10 ?_
  refine ev_imul dX10_isPrinted_11 ?_
  refine ev_iload_n dX10_isPrinted_12 rfl rfl ?_
  refine ev_iadd dX10_isPrinted_13 ?_
  replace H := un_some H
  obtain ⟨b3, eb3, H⟩ := H
  subst eb3
  replace H := gd_some H
  obtain ⟨g4, H⟩ := H
  replace H := vl_some H
  obtain ⟨x5, ex5, H⟩ := H
  refine ev_ialdx dX10_isPrinted_14 (okAb.p g4) ex5 ?_
  refine ev_if_lt (tgt := 22) dX10_isPrinted_15 (by decide) (fun c6 => ?_) (fun c6 => ?_)
  · rw [if_pos c6] at H
    refine ev_iconst (v := (0 : Int32)) dX10_isPrinted_22 (by decide) ?_
    exact ev_iretx dX10_isPrinted_23 rfl rfl H
  · rw [if_neg c6] at H
    refine ev_iconst (v := (1 : Int32)) dX10_isPrinted_18 (by decide) ?_
    refine ev_goto (tgt := 23) dX10_isPrinted_19 (by decide) ?_
    exact ev_iretx dX10_isPrinted_23 rfl rfl H

theorem dX10_spoiltOf_0 : decode cX10_spoiltOf 0 = .ok (.iconst 0, 1) := by decide +kernel
theorem dX10_spoiltOf_1 : decode cX10_spoiltOf 1 = .ok (.istore_n 2, 1) := by decide +kernel
theorem dX10_spoiltOf_2 : decode cX10_spoiltOf 2 = .ok (.iconst 0, 1) := by decide +kernel
theorem dX10_spoiltOf_3 : decode cX10_spoiltOf 3 = .ok (.istore_n 3, 1) := by decide +kernel
theorem dX10_spoiltOf_4 : decode cX10_spoiltOf 4 = .ok (.iload_n 3, 1) := by decide +kernel
theorem dX10_spoiltOf_5 : decode cX10_spoiltOf 5 = .ok (.bipush 60, 2) := by decide +kernel
theorem dX10_spoiltOf_7 : decode cX10_spoiltOf 7 = .ok (.if_icmp .ge 31, 3) := by decide +kernel
theorem dX10_spoiltOf_10 : decode cX10_spoiltOf 10 = .ok (.iload_n 2, 1) := by decide +kernel
theorem dX10_spoiltOf_11 : decode cX10_spoiltOf 11 = .ok (.aload_n 0, 1) := by decide +kernel
theorem dX10_spoiltOf_12 : decode cX10_spoiltOf 12 = .ok (.getfield 94, 3) := by decide +kernel
theorem dX10_spoiltOf_15 : decode cX10_spoiltOf 15 = .ok (.bipush 60, 2) := by decide +kernel
theorem dX10_spoiltOf_17 : decode cX10_spoiltOf 17 = .ok (.iload_n 1, 1) := by decide +kernel
theorem dX10_spoiltOf_18 : decode cX10_spoiltOf 18 = .ok (.imul, 1) := by decide +kernel
theorem dX10_spoiltOf_19 : decode cX10_spoiltOf 19 = .ok (.iload_n 3, 1) := by decide +kernel
theorem dX10_spoiltOf_20 : decode cX10_spoiltOf 20 = .ok (.iadd, 1) := by decide +kernel
theorem dX10_spoiltOf_21 : decode cX10_spoiltOf 21 = .ok (.baload, 1) := by decide +kernel
theorem dX10_spoiltOf_22 : decode cX10_spoiltOf 22 = .ok (.ifCond .eq 7, 3) := by decide +kernel
theorem dX10_spoiltOf_25 : decode cX10_spoiltOf 25 = .ok (.iconst 1, 1) := by decide +kernel
theorem dX10_spoiltOf_26 : decode cX10_spoiltOf 26 = .ok (.goto 4, 3) := by decide +kernel
theorem dX10_spoiltOf_29 : decode cX10_spoiltOf 29 = .ok (.iconst 0, 1) := by decide +kernel
theorem dX10_spoiltOf_30 : decode cX10_spoiltOf 30 = .ok (.iadd, 1) := by decide +kernel
theorem dX10_spoiltOf_31 : decode cX10_spoiltOf 31 = .ok (.istore_n 2, 1) := by decide +kernel
theorem dX10_spoiltOf_32 : decode cX10_spoiltOf 32 = .ok (.iinc 3 1, 3) := by decide +kernel
theorem dX10_spoiltOf_35 : decode cX10_spoiltOf 35 = .ok (.goto (-31), 3) := by decide +kernel
theorem dX10_spoiltOf_38 : decode cX10_spoiltOf 38 = .ok (.iload_n 2, 1) := by decide +kernel
theorem dX10_spoiltOf_39 : decode cX10_spoiltOf 39 = .ok (.ireturn, 1) := by decide +kernel
def f_X10_spoiltOf_L4 : Nat → Nat → Int32 → Int32 → Int32 → Hp → Option (Int32 × Hp)
  | 0, _, _, _, _, _ => none
  | n + 1, l0, l1, l2, l3, h =>
    if (60 : Int32) ≤ l3 then (
    some (l2, h)) else (
    gd (okOb h l0 10) <|
    vl (gR h l0 32) fun r3 =>
    un r3 fun b4 =>
    gd (okAb h b4 12 (((60 : Int32) * l1) + l3)) <|
    vl (gI h b4 (((60 : Int32) * l1) + l3).toNatClampNeg) fun x6 =>
    if x6 = 0 then (
    vl (l2 + (0 : Int32)) fun x8 =>
    vl (l3 + (1 : Int32)) fun x9 =>
    f_X10_spoiltOf_L4 n l0 l1 x8 x9 h) else (
    vl (l2 + (1 : Int32)) fun x10 =>
    vl (l3 + (1 : Int32)) fun x11 =>
    f_X10_spoiltOf_L4 n l0 l1 x10 x11 h))
set_option maxHeartbeats 4000000 in
set_option maxRecDepth 100000 in
theorem t_X10_spoiltOf_L4 {X : Cx} {d : Nat} {h0 h' : Hp} {v : Int32} (hD : 1 ≤ d) : ∀ (n : Nat) (l0 : Nat) (l1 : Int32) (l2 : Int32) (l3 : Int32) (h : Hp), f_X10_spoiltOf_L4 n l0 l1 l2 l3 h = some (v, h') → EV X mX10_spoiltOf d h0 (some (.int v)) h' 4 [some (.ref l0), some (.int l1), some (.int l2), some (.int l3)] [] h := by
  intro n
  induction n with
  | zero => intro l0 l1 l2 l3 h H; simp [f_X10_spoiltOf_L4] at H
  | succ n ih =>
    intro l0 l1 l2 l3 h H
    rw [f_X10_spoiltOf_L4] at H
    refine ev_iload_n dX10_spoiltOf_4 rfl rfl ?_
    refine ev_bipush (v := (60 : Int32)) dX10_spoiltOf_5 (by decide) ?_
    refine ev_icmp_ge (tgt := 38) dX10_spoiltOf_7 (by decide) (fun c1 => ?_) (fun c1 => ?_)
    · rw [if_pos c1] at H
      refine ev_iload_n dX10_spoiltOf_38 rfl rfl ?_
      exact ev_iretx dX10_spoiltOf_39 rfl rfl H
    · rw [if_neg c1] at H
      refine ev_iload_n dX10_spoiltOf_10 rfl rfl ?_
      refine ev_aload_n dX10_spoiltOf_11 rfl rfl rfl ?_
      replace H := gd_some H
      obtain ⟨g2, H⟩ := H
      replace H := vl_some H
      obtain ⟨r3, er3, H⟩ := H
      refine ev_getRx dX10_spoiltOf_12 fgX10_94 rfl (okOb.p g2) er3 ?_
      refine ev_bipush (v := (60 : Int32)) dX10_spoiltOf_15 (by decide) ?_
      refine ev_iload_n dX10_spoiltOf_17 rfl rfl ?_
      refine ev_imul dX10_spoiltOf_18 ?_
      refine ev_iload_n dX10_spoiltOf_19 rfl rfl ?_
      refine ev_iadd dX10_spoiltOf_20 ?_
      replace H := un_some H
      obtain ⟨b4, eb4, H⟩ := H
      subst eb4
      replace H := gd_some H
      obtain ⟨g5, H⟩ := H
      replace H := vl_some H
      obtain ⟨x6, ex6, H⟩ := H
      refine ev_zaldx dX10_spoiltOf_21 (okAb.p g5) ex6 ?_
      refine ev_if_eq (tgt := 29) dX10_spoiltOf_22 (by decide) (fun c7 => ?_) (fun c7 => ?_)
      · rw [if_pos c7] at H
        refine ev_iconst (v := (0 : Int32)) dX10_spoiltOf_29 (by decide) ?_
        refine ev_iadd dX10_spoiltOf_30 ?_
        replace H := vl_some H
        obtain ⟨x8, ex8, H⟩ := H
        refine ev_istore_nx (loc2 := [some (.ref l0), some (.int l1), some (.int x8), some (.int l3)]) dX10_spoiltOf_31 rfl (by decide) ex8 rfl ?_
        replace H := vl_some H
        obtain ⟨x9, ex9, H⟩ := H
        refine ev_iincx (loc2 := [some (.ref l0), some (.int l1), some (.int x8), some (.int x9)]) dX10_spoiltOf_32 rfl (by decide) ex9 (by decide) rfl ?_
        refine ev_goto (tgt := 4) dX10_spoiltOf_35 (by decide) ?_
        exact ih l0 l1 x8 x9 h H
      · rw [if_neg c7] at H
        refine ev_iconst (v := (1 : Int32)) dX10_spoiltOf_25 (by decide) ?_
        refine ev_goto (tgt := 30) dX10_spoiltOf_26 (by decide) ?_
        refine ev_iadd dX10_spoiltOf_30 ?_
        replace H := vl_some H
        obtain ⟨x10, ex10, H⟩ := H
        refine ev_istore_nx (loc2 := [some (.ref l0), some (.int l1), some (.int x10), some (.int l3)]) dX10_spoiltOf_31 rfl (by decide) ex10 rfl ?_
        replace H := vl_some H
        obtain ⟨x11, ex11, H⟩ := H
        refine ev_iincx (loc2 := [some (.ref l0), some (.int l1), some (.int x10), some (.int x11)]) dX10_spoiltOf_32 rfl (by decide) ex11 (by decide) rfl ?_
        refine ev_goto (tgt := 4) dX10_spoiltOf_35 (by decide) ?_
        exact ih l0 l1 x10 x11 h H
def f_X10_spoiltOf (h : Hp) (a0 : Nat) (a1 : Int32) : Option (Int32 × Hp) :=
f_X10_spoiltOf_L4 6000 a0 a1 (0 : Int32) (0 : Int32) h
set_option maxHeartbeats 4000000 in
set_option maxRecDepth 100000 in
theorem t_X10_spoiltOf {X : Cx} {d : Nat} {h : Hp} {a0 : Nat} {a1 : Int32} {v : Int32} {h' : Hp} (hD : 1 ≤ d) (H : f_X10_spoiltOf h a0 a1 = some (v, h')) : PM X mX10_spoiltOf d [.ref a0, .int a1] h (some (.int v)) h' := by
  unfold f_X10_spoiltOf at H
  refine PM.of (loc := [some (.ref a0), some (.int a1), none, none]) (by decide) rfl (Nat.le_of_ble_eq_true rfl) ?_
  refine ev_iconst (v := (0 : Int32)) dX10_spoiltOf_0 (by decide) ?_
  refine ev_istore_n (loc2 := [some (.ref a0), some (.int a1), some (.int (0 : Int32)), none]) dX10_spoiltOf_1 rfl (by decide) rfl ?_
  refine ev_iconst (v := (0 : Int32)) dX10_spoiltOf_2 (by decide) ?_
  refine ev_istore_n (loc2 := [some (.ref a0), some (.int a1), some (.int (0 : Int32)), some (.int (0 : Int32))]) dX10_spoiltOf_3 rfl (by decide) rfl ?_
  refine t_X10_spoiltOf_L4 hD  6000 a0 a1 (0 : Int32) (0 : Int32) h H

theorem dX10_spoil_0 : decode cX10_spoil 0 = .ok (.aload_n 0, 1) := by decide +kernel
theorem dX10_spoil_1 : decode cX10_spoil 1 = .ok (.iload_n 1, 1) := by decide +kernel
theorem dX10_spoil_2 : decode cX10_spoil 2 = .ok (.iload_n 2, 1) := by decide +kernel
theorem dX10_spoil_3 : decode cX10_spoil 3 = .ok (.invokevirtual 221, 3) := by decide +kernel
theorem dX10_spoil_6 : decode cX10_spoil 6 = .ok (.ifCond .eq 10, 3) := by decide +kernel
theorem dX10_spoil_9 : decode cX10_spoil 9 = .ok (.iload_n 3, 1) := by decide +kernel
theorem dX10_spoil_10 : decode cX10_spoil 10 = .ok (.invokestatic 169, 3) := by decide +kernel
theorem dX10_spoil_13 : decode cX10_spoil 13 = .ok (.ifCond .ne 5, 3) := by decide +kernel
theorem dX10_spoil_16 : decode cX10_spoil 16 = .ok (.iconst (-1), 1) := by decide +kernel
theorem dX10_spoil_17 : decode cX10_spoil 17 = .ok (.ireturn, 1) := by decide +kernel
theorem dX10_spoil_18 : decode cX10_spoil 18 = .ok (.aload_n 0, 1) := by decide +kernel
theorem dX10_spoil_19 : decode cX10_spoil 19 = .ok (.getfield 94, 3) := by decide +kernel
theorem dX10_spoil_22 : decode cX10_spoil 22 = .ok (.bipush 60, 2) := by decide +kernel
theorem dX10_spoil_24 : decode cX10_spoil 24 = .ok (.iload_n 1, 1) := by decide +kernel
theorem dX10_spoil_25 : decode cX10_spoil 25 = .ok (.imul, 1) := by decide +kernel
theorem dX10_spoil_26 : decode cX10_spoil 26 = .ok (.iload_n 2, 1) := by decide +kernel
theorem dX10_spoil_27 : decode cX10_spoil 27 = .ok (.iadd, 1) := by decide +kernel
theorem dX10_spoil_28 : decode cX10_spoil 28 = .ok (.baload, 1) := by decide +kernel
theorem dX10_spoil_29 : decode cX10_spoil 29 = .ok (.ifCond .ne 23, 3) := by decide +kernel
theorem dX10_spoil_32 : decode cX10_spoil 32 = .ok (.aload_n 0, 1) := by decide +kernel
theorem dX10_spoil_33 : decode cX10_spoil 33 = .ok (.iload_n 1, 1) := by decide +kernel
theorem dX10_spoil_34 : decode cX10_spoil 34 = .ok (.iload_n 2, 1) := by decide +kernel
theorem dX10_spoil_35 : decode cX10_spoil 35 = .ok (.iconst 0, 1) := by decide +kernel
theorem dX10_spoil_36 : decode cX10_spoil 36 = .ok (.invokevirtual 224, 3) := by decide +kernel
theorem dX10_spoil_39 : decode cX10_spoil 39 = .ok (.ifCond .ne 16, 3) := by decide +kernel
theorem dX10_spoil_42 : decode cX10_spoil 42 = .ok (.aload_n 0, 1) := by decide +kernel
theorem dX10_spoil_43 : decode cX10_spoil 43 = .ok (.iload_n 1, 1) := by decide +kernel
theorem dX10_spoil_44 : decode cX10_spoil 44 = .ok (.iload_n 2, 1) := by decide +kernel
theorem dX10_spoil_45 : decode cX10_spoil 45 = .ok (.iconst 1, 1) := by decide +kernel
theorem dX10_spoil_46 : decode cX10_spoil 46 = .ok (.invokevirtual 224, 3) := by decide +kernel
theorem dX10_spoil_49 : decode cX10_spoil 49 = .ok (.ifCond .ne 6, 3) := by decide +kernel
theorem dX10_spoil_52 : decode cX10_spoil 52 = .ok (.bipush (-3), 2) := by decide +kernel
theorem dX10_spoil_54 : decode cX10_spoil 54 = .ok (.ireturn, 1) := by decide +kernel
theorem dX10_spoil_55 : decode cX10_spoil 55 = .ok (.aload_n 0, 1) := by decide +kernel
theorem dX10_spoil_56 : decode cX10_spoil 56 = .ok (.getfield 94, 3) := by decide +kernel
theorem dX10_spoil_59 : decode cX10_spoil 59 = .ok (.bipush 60, 2) := by decide +kernel
theorem dX10_spoil_61 : decode cX10_spoil 61 = .ok (.iload_n 1, 1) := by decide +kernel
theorem dX10_spoil_62 : decode cX10_spoil 62 = .ok (.imul, 1) := by decide +kernel
theorem dX10_spoil_63 : decode cX10_spoil 63 = .ok (.iload_n 2, 1) := by decide +kernel
theorem dX10_spoil_64 : decode cX10_spoil 64 = .ok (.iadd, 1) := by decide +kernel
theorem dX10_spoil_65 : decode cX10_spoil 65 = .ok (.iconst 1, 1) := by decide +kernel
theorem dX10_spoil_66 : decode cX10_spoil 66 = .ok (.bastore, 1) := by decide +kernel
theorem dX10_spoil_67 : decode cX10_spoil 67 = .ok (.aload_n 0, 1) := by decide +kernel
theorem dX10_spoil_68 : decode cX10_spoil 68 = .ok (.getfield 46, 3) := by decide +kernel
theorem dX10_spoil_71 : decode cX10_spoil 71 = .ok (.iload_n 3, 1) := by decide +kernel
theorem dX10_spoil_72 : decode cX10_spoil 72 = .ok (.dup2, 1) := by decide +kernel
theorem dX10_spoil_73 : decode cX10_spoil 73 = .ok (.iaload, 1) := by decide +kernel
theorem dX10_spoil_74 : decode cX10_spoil 74 = .ok (.iconst 1, 1) := by decide +kernel
theorem dX10_spoil_75 : decode cX10_spoil 75 = .ok (.iadd, 1) := by decide +kernel
theorem dX10_spoil_76 : decode cX10_spoil 76 = .ok (.iastore, 1) := by decide +kernel
theorem dX10_spoil_77 : decode cX10_spoil 77 = .ok (.aload_n 0, 1) := by decide +kernel
theorem dX10_spoil_78 : decode cX10_spoil 78 = .ok (.iload_n 1, 1) := by decide +kernel
theorem dX10_spoil_79 : decode cX10_spoil 79 = .ok (.invokevirtual 228, 3) := by decide +kernel
theorem dX10_spoil_82 : decode cX10_spoil 82 = .ok (.ireturn, 1) := by decide +kernel
def f_X10_spoil_J55 (l0 : Nat) (l1 : Int32) (l2 : Int32) (l3 : Int32) (h : Hp) : Option (Int32 × Hp) :=
gd (okOb h l0 10) <|
vl (gR h l0 32) fun r17 =>
un r17 fun b18 =>
gd (okAb h b18 12 (((60 : Int32) * l1) + l2)) <|
vl (sI h b18 (((60 : Int32) * l1) + l2).toNatClampNeg (1 : Int32)) fun h20 =>
vl (gR h20 l0 14) fun r21 =>
un r21 fun b22 =>
gd (okAb h20 b22 11 l3) <|
vl (gI h20 b22 l3.toNatClampNeg) fun x24 =>
gd (okAb h20 b22 11 l3) <|
vl (sI h20 b22 l3.toNatClampNeg (x24 + (1 : Int32))) fun h26 =>
bnd (f_X10_spoiltOf h26 l0 l1) fun v27 h28 =>
some (v27, h28)
set_option maxHeartbeats 4000000 in
set_option maxRecDepth 100000 in
theorem t_X10_spoil_J55 {X : Cx} {d : Nat} {h0 h' : Hp} {v : Int32} (hD : 3 ≤ d) : ∀ (l0 : Nat) (l1 : Int32) (l2 : Int32) (l3 : Int32) (h : Hp), f_X10_spoil_J55 l0 l1 l2 l3 h = some (v, h') → EV X mX10_spoil d h0 (some (.int v)) h' 55 [some (.ref l0), some (.int l1), some (.int l2), some (.int l3)] [] h := by
  intro l0 l1 l2 l3 h H
  unfold f_X10_spoil_J55 at H
  refine ev_aload_n dX10_spoil_55 rfl rfl rfl ?_
  replace H := gd_some H
  obtain ⟨g16, H⟩ := H
  replace H := vl_some H
  obtain ⟨r17, er17, H⟩ := H
  refine ev_getRx dX10_spoil_56 fgX10_94 rfl (okOb.p g16) er17 ?_
  refine ev_bipush (v := (60 : Int32)) dX10_spoil_59 (by decide) ?_
  refine ev_iload_n dX10_spoil_61 rfl rfl ?_
  refine ev_imul dX10_spoil_62 ?_
  refine ev_iload_n dX10_spoil_63 rfl rfl ?_
  refine ev_iadd dX10_spoil_64 ?_
  refine ev_iconst (v := (1 : Int32)) dX10_spoil_65 (by decide) ?_
  replace H := un_some H
  obtain ⟨b18, eb18, H⟩ := H
  subst eb18
  replace H := gd_some H
  obtain ⟨g19, H⟩ := H
  replace H := vl_some H
  obtain ⟨h20, eh20, H⟩ := H
  refine ev_zast dX10_spoil_66 rfl (okAb.p g19) eh20 ?_
  refine ev_aload_n dX10_spoil_67 rfl rfl rfl ?_
  replace H := vl_some H
  obtain ⟨r21, er21, H⟩ := H
  refine ev_getRx dX10_spoil_68 fgX10_46 rfl (okO_sI eh20 (okOb.p g16)) er21 ?_
  refine ev_iload_n dX10_spoil_71 rfl rfl ?_
  refine ev_dup2 dX10_spoil_72 rfl (rv_cat _) ?_
  replace H := un_some H
  obtain ⟨b22, eb22, H⟩ := H
  subst eb22
  replace H := gd_some H
  obtain ⟨g23, H⟩ := H
  replace H := vl_some H
  obtain ⟨x24, ex24, H⟩ := H
  refine ev_ialdx dX10_spoil_73 (okAb.p g23) ex24 ?_
  refine ev_iconst (v := (1 : Int32)) dX10_spoil_74 (by decide) ?_
  refine ev_iadd dX10_spoil_75 ?_
  replace H := gd_some H
  obtain ⟨g25, H⟩ := H
  replace H := vl_some H
  obtain ⟨h26, eh26, H⟩ := H
  refine ev_iast dX10_spoil_76 (okAb.p g25) eh26 ?_
  refine ev_aload_n dX10_spoil_77 rfl rfl rfl ?_
  refine ev_iload_n dX10_spoil_78 rfl rfl ?_
  replace H := bnd_some H
  obtain ⟨v27, h28, eh28, H⟩ := H
  have ph28 := (t_X10_spoiltOf (X := X) (d := 1) (by omega) eh28)
  refine ev_callV (as := [.int l1]) dX10_spoil_79 ph28 ok_X10_spoiltOf (by omega) rfl k5_224 k5_226 ks_38 (ci := 10) (by decide) rfl rfl (okO_sI eh26 (okO_sI eh20 (okOb.p g16))) rfl (Nat.le_of_ble_eq_true rfl) ?_
  exact ev_iretx dX10_spoil_82 rfl rfl H
def f_X10_spoil (h : Hp) (a0 : Nat) (a1 : Int32) (a2 : Int32) (a3 : Int32) : Option (Int32 × Hp) :=
gd (okOb h a0 10) <|
bnd (f_X10_isCopy h a0 a1 a2) fun v2 h3 =>
if v2 = 0 then (
some ((-1 : Int32), h3)) else (
bnd (f_X10_isHand h3 a3) fun v5 h6 =>
if v5 = 0 then (
some ((-1 : Int32), h6)) else (
vl (gR h6 a0 32) fun r8 =>
un r8 fun b9 =>
gd (okAb h6 b9 12 (((60 : Int32) * a1) + a2)) <|
vl (gI h6 b9 (((60 : Int32) * a1) + a2).toNatClampNeg) fun x11 =>
if x11 = 0 then (
bnd (f_X10_isPrinted h6 a0 a1 a2 (0 : Int32)) fun v13 h14 =>
if v13 = 0 then (
bnd (f_X10_isPrinted h14 a0 a1 a2 (1 : Int32)) fun v29 h30 =>
if v29 = 0 then (
some ((-3 : Int32), h30)) else (
f_X10_spoil_J55 a0 a1 a2 a3 h30)) else (
f_X10_spoil_J55 a0 a1 a2 a3 h14)) else (
some ((-3 : Int32), h6))))
set_option maxHeartbeats 4000000 in
set_option maxRecDepth 100000 in
theorem t_X10_spoil {X : Cx} {d : Nat} {h : Hp} {a0 : Nat} {a1 : Int32} {a2 : Int32} {a3 : Int32} {v : Int32} {h' : Hp} (hD : 3 ≤ d) (H : f_X10_spoil h a0 a1 a2 a3 = some (v, h')) : PM X mX10_spoil d [.ref a0, .int a1, .int a2, .int a3] h (some (.int v)) h' := by
  unfold f_X10_spoil at H
  refine PM.of (loc := [some (.ref a0), some (.int a1), some (.int a2), some (.int a3)]) (by decide) rfl (Nat.le_of_ble_eq_true rfl) ?_
  refine ev_aload_n dX10_spoil_0 rfl rfl rfl ?_
  refine ev_iload_n dX10_spoil_1 rfl rfl ?_
  refine ev_iload_n dX10_spoil_2 rfl rfl ?_
  replace H := gd_some H
  obtain ⟨g1, H⟩ := H
  replace H := bnd_some H
  obtain ⟨v2, h3, eh3, H⟩ := H
  have ph3 := (t_X10_isCopy (X := X) (d := 2) (by omega) eh3)
  refine ev_callV (as := [.int a1, .int a2]) dX10_spoil_3 ph3 ok_X10_isCopy (by omega) rfl k5_204 k5_206 ks_35 (ci := 10) (by decide) rfl rfl (okOb.p g1) rfl (Nat.le_of_ble_eq_true rfl) ?_
  refine ev_if_eq (tgt := 16) dX10_spoil_6 (by decide) (fun c4 => ?_) (fun c4 => ?_)
  · rw [if_pos c4] at H
    refine ev_iconst (v := (-1 : Int32)) dX10_spoil_16 (by decide) ?_
    exact ev_iretx dX10_spoil_17 rfl rfl H
  · rw [if_neg c4] at H
    refine ev_iload_n dX10_spoil_9 rfl rfl ?_
    replace H := bnd_some H
    obtain ⟨v5, h6, eh6, H⟩ := H
    have ph6 := (t_X10_isHand (X := X) (d := 1) (by omega) eh6)
    refine ev_callS (as := [.int a3]) dX10_spoil_10 ph6 ok_X10_isHand (by omega) rfl k5_119 k5_120 rfl (Nat.le_of_ble_eq_true rfl) ?_
    refine ev_if_ne (tgt := 18) dX10_spoil_13 (by decide) (fun c7 => ?_) (fun c7 => ?_)
    · rw [if_neg c7] at H
      refine ev_aload_n dX10_spoil_18 rfl rfl rfl ?_
      replace H := vl_some H
      obtain ⟨r8, er8, H⟩ := H
      refine ev_getRx dX10_spoil_19 fgX10_94 rfl (okO_ext ph6.1 (okO_ext ph3.1 (okOb.p g1))) er8 ?_
      refine ev_bipush (v := (60 : Int32)) dX10_spoil_22 (by decide) ?_
      refine ev_iload_n dX10_spoil_24 rfl rfl ?_
      refine ev_imul dX10_spoil_25 ?_
      refine ev_iload_n dX10_spoil_26 rfl rfl ?_
      refine ev_iadd dX10_spoil_27 ?_
      replace H := un_some H
      obtain ⟨b9, eb9, H⟩ := H
      subst eb9
      replace H := gd_some H
      obtain ⟨g10, H⟩ := H
      replace H := vl_some H
      obtain ⟨x11, ex11, H⟩ := H
      refine ev_zaldx dX10_spoil_28 (okAb.p g10) ex11 ?_
      refine ev_if_ne (tgt := 52) dX10_spoil_29 (by decide) (fun c12 => ?_) (fun c12 => ?_)
      · rw [if_neg c12] at H
        refine ev_bipush (v := (-3 : Int32)) dX10_spoil_52 (by decide) ?_
        exact ev_iretx dX10_spoil_54 rfl rfl H
      · rw [if_pos c12] at H
        refine ev_aload_n dX10_spoil_32 rfl rfl rfl ?_
        refine ev_iload_n dX10_spoil_33 rfl rfl ?_
        refine ev_iload_n dX10_spoil_34 rfl rfl ?_
        refine ev_iconst (v := (0 : Int32)) dX10_spoil_35 (by decide) ?_
        replace H := bnd_some H
        obtain ⟨v13, h14, eh14, H⟩ := H
        have ph14 := (t_X10_isPrinted (X := X) (d := 1) (by omega) eh14)
        refine ev_callV (as := [.int a1, .int a2, .int (0 : Int32)]) dX10_spoil_36 ph14 ok_X10_isPrinted (by omega) rfl k5_220 k5_222 ks_37 (ci := 10) (by decide) rfl rfl (okO_ext ph6.1 (okO_ext ph3.1 (okOb.p g1))) rfl (Nat.le_of_ble_eq_true rfl) ?_
        refine ev_if_ne (tgt := 55) dX10_spoil_39 (by decide) (fun c15 => ?_) (fun c15 => ?_)
        · rw [if_neg c15] at H
          exact t_X10_spoil_J55 hD a0 a1 a2 a3 h14 H
        · rw [if_pos c15] at H
          refine ev_aload_n dX10_spoil_42 rfl rfl rfl ?_
          refine ev_iload_n dX10_spoil_43 rfl rfl ?_
          refine ev_iload_n dX10_spoil_44 rfl rfl ?_
          refine ev_iconst (v := (1 : Int32)) dX10_spoil_45 (by decide) ?_
          replace H := bnd_some H
          obtain ⟨v29, h30, eh30, H⟩ := H
          have ph30 := (t_X10_isPrinted (X := X) (d := 1) (by omega) eh30)
          refine ev_callV (as := [.int a1, .int a2, .int (1 : Int32)]) dX10_spoil_46 ph30 ok_X10_isPrinted (by omega) rfl k5_220 k5_222 ks_37 (ci := 10) (by decide) rfl rfl (okO_ext ph14.1 (okO_ext ph6.1 (okO_ext ph3.1 (okOb.p g1)))) rfl (Nat.le_of_ble_eq_true rfl) ?_
          refine ev_if_ne (tgt := 55) dX10_spoil_49 (by decide) (fun c31 => ?_) (fun c31 => ?_)
          · rw [if_neg c31] at H
            exact t_X10_spoil_J55 hD a0 a1 a2 a3 h30 H
          · rw [if_pos c31] at H
            refine ev_bipush (v := (-3 : Int32)) dX10_spoil_52 (by decide) ?_
            exact ev_iretx dX10_spoil_54 rfl rfl H
    · rw [if_pos c7] at H
      refine ev_iconst (v := (-1 : Int32)) dX10_spoil_16 (by decide) ?_
      exact ev_iretx dX10_spoil_17 rfl rfl H

theorem dX10_copyIn_0 : decode cX10_copyIn 0 = .ok (.iload_n 1, 1) := by decide +kernel
theorem dX10_copyIn_1 : decode cX10_copyIn 1 = .ok (.istore_n 3, 1) := by decide +kernel
theorem dX10_copyIn_2 : decode cX10_copyIn 2 = .ok (.iconst 0, 1) := by decide +kernel
theorem dX10_copyIn_3 : decode cX10_copyIn 3 = .ok (.istore 4, 2) := by decide +kernel
theorem dX10_copyIn_5 : decode cX10_copyIn 5 = .ok (.iload 4, 2) := by decide +kernel
theorem dX10_copyIn_7 : decode cX10_copyIn 7 = .ok (.aload_n 0, 1) := by decide +kernel
theorem dX10_copyIn_8 : decode cX10_copyIn 8 = .ok (.getfield 67, 3) := by decide +kernel
theorem dX10_copyIn_11 : decode cX10_copyIn 11 = .ok (.iload_n 2, 1) := by decide +kernel
theorem dX10_copyIn_12 : decode cX10_copyIn 12 = .ok (.iaload, 1) := by decide +kernel
theorem dX10_copyIn_13 : decode cX10_copyIn 13 = .ok (.if_icmp .ge 63, 3) := by decide +kernel
theorem dX10_copyIn_16 : decode cX10_copyIn 16 = .ok (.aload_n 0, 1) := by decide +kernel
theorem dX10_copyIn_17 : decode cX10_copyIn 17 = .ok (.getfield 94, 3) := by decide +kernel
theorem dX10_copyIn_20 : decode cX10_copyIn 20 = .ok (.bipush 60, 2) := by decide +kernel
theorem dX10_copyIn_22 : decode cX10_copyIn 22 = .ok (.iload_n 2, 1) := by decide +kernel
theorem dX10_copyIn_23 : decode cX10_copyIn 23 = .ok (.imul, 1) := by decide +kernel
theorem dX10_copyIn_24 : decode cX10_copyIn 24 = .ok (.iload 4, 2) := by decide +kernel
theorem dX10_copyIn_26 : decode cX10_copyIn 26 = .ok (.iadd, 1) := by decide +kernel
theorem dX10_copyIn_27 : decode cX10_copyIn 27 = .ok (.baload, 1) := by decide +kernel
theorem dX10_copyIn_28 : decode cX10_copyIn 28 = .ok (.ifCond .eq 6, 3) := by decide +kernel
theorem dX10_copyIn_31 : decode cX10_copyIn 31 = .ok (.goto 39, 3) := by decide +kernel
theorem dX10_copyIn_34 : decode cX10_copyIn 34 = .ok (.iload_n 3, 1) := by decide +kernel
theorem dX10_copyIn_35 : decode cX10_copyIn 35 = .ok (.ifCond .ne 32, 3) := by decide +kernel
theorem dX10_copyIn_38 : decode cX10_copyIn 38 = .ok (.aload_n 0, 1) := by decide +kernel
theorem dX10_copyIn_39 : decode cX10_copyIn 39 = .ok (.iload_n 2, 1) := by decide +kernel
theorem dX10_copyIn_40 : decode cX10_copyIn 40 = .ok (.iload 4, 2) := by decide +kernel
theorem dX10_copyIn_42 : decode cX10_copyIn 42 = .ok (.iconst 0, 1) := by decide +kernel
theorem dX10_copyIn_43 : decode cX10_copyIn 43 = .ok (.invokevirtual 224, 3) := by decide +kernel
theorem dX10_copyIn_46 : decode cX10_copyIn 46 = .ok (.ifCond .eq 19, 3) := by decide +kernel
theorem dX10_copyIn_49 : decode cX10_copyIn 49 = .ok (.aload_n 0, 1) := by decide +kernel
theorem dX10_copyIn_50 : decode cX10_copyIn 50 = .ok (.iload_n 2, 1) := by decide +kernel
theorem dX10_copyIn_51 : decode cX10_copyIn 51 = .ok (.iload 4, 2) := by decide +kernel
theorem dX10_copyIn_53 : decode cX10_copyIn 53 = .ok (.iconst 1, 1) := by decide +kernel
theorem dX10_copyIn_54 : decode cX10_copyIn 54 = .ok (.invokevirtual 224, 3) := by decide +kernel
theorem dX10_copyIn_57 : decode cX10_copyIn 57 = .ok (.ifCond .eq 8, 3) := by decide +kernel
theorem dX10_copyIn_60 : decode cX10_copyIn 60 = .ok (.iload 4, 2) := by decide +kernel
theorem dX10_copyIn_62 : decode cX10_copyIn 62 = .ok (.goto 4, 3) := by decide +kernel
theorem dX10_copyIn_65 : decode cX10_copyIn 65 = .ok (.iconst (-1), 1) := by decide +kernel
theorem dX10_copyIn_66 : decode cX10_copyIn 66 = .ok (.ireturn, 1) := by decide +kernel
theorem dX10_copyIn_67 : decode cX10_copyIn 67 = .ok (.iinc 3 (-1), 3) := by decide +kernel
theorem dX10_copyIn_70 : decode cX10_copyIn 70 = .ok (.iinc 4 1, 3) := by decide +kernel
theorem dX10_copyIn_73 : decode cX10_copyIn 73 = .ok (.goto (-68), 3) := by decide +kernel
theorem dX10_copyIn_76 : decode cX10_copyIn 76 = .ok (.iconst (-1), 1) := by decide +kernel
theorem dX10_copyIn_77 : decode cX10_copyIn 77 = .ok (.ireturn, 1) := by decide +kernel
def f_X10_copyIn_L5 (k38 : Nat → Int32 → Int32 → Int32 → Int32 → Hp → Option (Int32 × Hp)) : Nat → Nat → Int32 → Int32 → Int32 → Int32 → Hp → Option (Int32 × Hp)
  | 0, _, _, _, _, _, _ => none
  | n + 1, l0, l1, l2, l3, l4, h =>
    gd (okOb h l0 10) <|
    vl (gR h l0 21) fun r2 =>
    un r2 fun b3 =>
    gd (okAb h b3 11 l2) <|
    vl (gI h b3 l2.toNatClampNeg) fun x5 =>
    if x5 ≤ l4 then (
    some ((-1 : Int32), h)) else (
    vl (gR h l0 32) fun r7 =>
    un r7 fun b8 =>
    gd (okAb h b8 12 (((60 : Int32) * l2) + l4)) <|
    vl (gI h b8 (((60 : Int32) * l2) + l4).toNatClampNeg) fun x10 =>
    if x10 = 0 then (
    if l3 = 0 then (
    k38 l0 l1 l2 l3 l4 h) else (
    vl (l3 + (-1 : Int32)) fun x13 =>
    vl (l4 + (1 : Int32)) fun x14 =>
    f_X10_copyIn_L5 k38 n l0 l1 l2 x13 x14 h)) else (
    vl (l4 + (1 : Int32)) fun x15 =>
    f_X10_copyIn_L5 k38 n l0 l1 l2 l3 x15 h))
set_option maxHeartbeats 4000000 in
set_option maxRecDepth 100000 in
theorem t_X10_copyIn_L5 {X : Cx} {d : Nat} {h0 h' : Hp} {v : Int32} {k38 : Nat → Int32 → Int32 → Int32 → Int32 → Hp → Option (Int32 × Hp)} (hD : 2 ≤ d) (hk38 : ∀ (z0 : Nat) (z1 : Int32) (z2 : Int32) (z3 : Int32) (z4 : Int32) (h : Hp), k38 z0 z1 z2 z3 z4 h = some (v, h') → EV X mX10_copyIn d h0 (some (.int v)) h' 38 [some (.ref z0), some (.int z1), some (.int z2), some (.int z3), some (.int z4)] [] h) : ∀ (n : Nat) (l0 : Nat) (l1 : Int32) (l2 : Int32) (l3 : Int32) (l4 : Int32) (h : Hp), f_X10_copyIn_L5 k38 n l0 l1 l2 l3 l4 h = some (v, h') → EV X mX10_copyIn d h0 (some (.int v)) h' 5 [some (.ref l0), some (.int l1), some (.int l2), some (.int l3), some (.int l4)] [] h := by
  intro n
  induction n with
  | zero => intro l0 l1 l2 l3 l4 h H; simp [f_X10_copyIn_L5] at H
  | succ n ih =>
    intro l0 l1 l2 l3 l4 h H
    rw [f_X10_copyIn_L5] at H
    refine ev_iload dX10_copyIn_5 rfl ?_
    refine ev_aload_n dX10_copyIn_7 rfl rfl rfl ?_
    replace H := gd_some H
    obtain ⟨g1, H⟩ := H
    replace H := vl_some H
    obtain ⟨r2, er2, H⟩ := H
    refine ev_getRx dX10_copyIn_8 fgX10_67 rfl (okOb.p g1) er2 ?_
    refine ev_iload_n dX10_copyIn_11 rfl rfl ?_
    replace H := un_some H
    obtain ⟨b3, eb3, H⟩ := H
    subst eb3
    replace H := gd_some H
    obtain ⟨g4, H⟩ := H
    replace H := vl_some H
    obtain ⟨x5, ex5, H⟩ := H
    refine ev_ialdx dX10_copyIn_12 (okAb.p g4) ex5 ?_
    refine ev_icmp_ge (tgt := 76) dX10_copyIn_13 (by decide) (fun c6 => ?_) (fun c6 => ?_)
    · rw [if_pos c6] at H
      refine ev_iconst (v := (-1 : Int32)) dX10_copyIn_76 (by decide) ?_
      exact ev_iretx dX10_copyIn_77 rfl rfl H
    · rw [if_neg c6] at H
      refine ev_aload_n dX10_copyIn_16 rfl rfl rfl ?_
      replace H := vl_some H
      obtain ⟨r7, er7, H⟩ := H
      refine ev_getRx dX10_copyIn_17 fgX10_94 rfl (okOb.p g1) er7 ?_
      refine ev_bipush (v := (60 : Int32)) dX10_copyIn_20 (by decide) ?_
      refine ev_iload_n dX10_copyIn_22 rfl rfl ?_
      refine ev_imul dX10_copyIn_23 ?_
      refine ev_iload dX10_copyIn_24 rfl ?_
      refine ev_iadd dX10_copyIn_26 ?_
      replace H := un_some H
      obtain ⟨b8, eb8, H⟩ := H
      subst eb8
      replace H := gd_some H
      obtain ⟨g9, H⟩ := H
      replace H := vl_some H
      obtain ⟨x10, ex10, H⟩ := H
      refine ev_zaldx dX10_copyIn_27 (okAb.p g9) ex10 ?_
      refine ev_if_eq (tgt := 34) dX10_copyIn_28 (by decide) (fun c11 => ?_) (fun c11 => ?_)
      · rw [if_pos c11] at H
        refine ev_iload_n dX10_copyIn_34 rfl rfl ?_
        refine ev_if_ne (tgt := 67) dX10_copyIn_35 (by decide) (fun c12 => ?_) (fun c12 => ?_)
        · rw [if_neg c12] at H
          replace H := vl_some H
          obtain ⟨x13, ex13, H⟩ := H
          refine ev_iincx (loc2 := [some (.ref l0), some (.int l1), some (.int l2), some (.int x13), some (.int l4)]) dX10_copyIn_67 rfl (by decide) ex13 (by decide) rfl ?_
          replace H := vl_some H
          obtain ⟨x14, ex14, H⟩ := H
          refine ev_iincx (loc2 := [some (.ref l0), some (.int l1), some (.int l2), some (.int x13), some (.int x14)]) dX10_copyIn_70 rfl (by decide) ex14 (by decide) rfl ?_
          refine ev_goto (tgt := 5) dX10_copyIn_73 (by decide) ?_
          exact ih l0 l1 l2 x13 x14 h H
        · rw [if_pos c12] at H
          exact hk38 l0 l1 l2 l3 l4 h H
      · rw [if_neg c11] at H
        refine ev_goto (tgt := 70) dX10_copyIn_31 (by decide) ?_
        replace H := vl_some H
        obtain ⟨x15, ex15, H⟩ := H
        refine ev_iincx (loc2 := [some (.ref l0), some (.int l1), some (.int l2), some (.int l3), some (.int x15)]) dX10_copyIn_70 rfl (by decide) ex15 (by decide) rfl ?_
        refine ev_goto (tgt := 5) dX10_copyIn_73 (by decide) ?_
        exact ih l0 l1 l2 l3 x15 h H
def f_X10_copyIn (h : Hp) (a0 : Nat) (a1 : Int32) (a2 : Int32) : Option (Int32 × Hp) :=
f_X10_copyIn_L5 (fun y16 y17 y18 y19 y20 h21 =>
gd (okOb h21 y16 10) <|
bnd (f_X10_isPrinted h21 y16 y18 y20 (0 : Int32)) fun v23 h24 =>
if v23 = 0 then (
some ((-1 : Int32), h24)) else (
bnd (f_X10_isPrinted h24 y16 y18 y20 (1 : Int32)) fun v26 h27 =>
if v26 = 0 then (
some ((-1 : Int32), h27)) else (
some (y20, h27)))) 6000 a0 a1 a2 a1 (0 : Int32) h
set_option maxHeartbeats 4000000 in
set_option maxRecDepth 100000 in
theorem t_X10_copyIn {X : Cx} {d : Nat} {h : Hp} {a0 : Nat} {a1 : Int32} {a2 : Int32} {v : Int32} {h' : Hp} (hD : 2 ≤ d) (H : f_X10_copyIn h a0 a1 a2 = some (v, h')) : PM X mX10_copyIn d [.ref a0, .int a1, .int a2] h (some (.int v)) h' := by
  unfold f_X10_copyIn at H
  refine PM.of (loc := [some (.ref a0), some (.int a1), some (.int a2), none, none]) (by decide) rfl (Nat.le_of_ble_eq_true rfl) ?_
  refine ev_iload_n dX10_copyIn_0 rfl rfl ?_
  refine ev_istore_n (loc2 := [some (.ref a0), some (.int a1), some (.int a2), some (.int a1), none]) dX10_copyIn_1 rfl (by decide) rfl ?_
  refine ev_iconst (v := (0 : Int32)) dX10_copyIn_2 (by decide) ?_
  refine ev_istore (loc2 := [some (.ref a0), some (.int a1), some (.int a2), some (.int a1), some (.int (0 : Int32))]) dX10_copyIn_3 (by decide) rfl ?_
  refine t_X10_copyIn_L5 hD ?_ 6000 a0 a1 a2 a1 (0 : Int32) h H
  · intro y16 y17 y18 y19 y20 h21 H
    refine ev_aload_n dX10_copyIn_38 rfl rfl rfl ?_
    refine ev_iload_n dX10_copyIn_39 rfl rfl ?_
    refine ev_iload dX10_copyIn_40 rfl ?_
    refine ev_iconst (v := (0 : Int32)) dX10_copyIn_42 (by decide) ?_
    replace H := gd_some H
    obtain ⟨g22, H⟩ := H
    replace H := bnd_some H
    obtain ⟨v23, h24, eh24, H⟩ := H
    have ph24 := (t_X10_isPrinted (X := X) (d := 1) (by omega) eh24)
    refine ev_callV (as := [.int y18, .int y20, .int (0 : Int32)]) dX10_copyIn_43 ph24 ok_X10_isPrinted (by omega) rfl k5_220 k5_222 ks_37 (ci := 10) (by decide) rfl rfl (okOb.p g22) rfl (Nat.le_of_ble_eq_true rfl) ?_
    refine ev_if_eq (tgt := 65) dX10_copyIn_46 (by decide) (fun c25 => ?_) (fun c25 => ?_)
    · rw [if_pos c25] at H
      refine ev_iconst (v := (-1 : Int32)) dX10_copyIn_65 (by decide) ?_
      exact ev_iretx dX10_copyIn_66 rfl rfl H
    · rw [if_neg c25] at H
      refine ev_aload_n dX10_copyIn_49 rfl rfl rfl ?_
      refine ev_iload_n dX10_copyIn_50 rfl rfl ?_
      refine ev_iload dX10_copyIn_51 rfl ?_
      refine ev_iconst (v := (1 : Int32)) dX10_copyIn_53 (by decide) ?_
      replace H := bnd_some H
      obtain ⟨v26, h27, eh27, H⟩ := H
      have ph27 := (t_X10_isPrinted (X := X) (d := 1) (by omega) eh27)
      refine ev_callV (as := [.int y18, .int y20, .int (1 : Int32)]) dX10_copyIn_54 ph27 ok_X10_isPrinted (by omega) rfl k5_220 k5_222 ks_37 (ci := 10) (by decide) rfl rfl (okO_ext ph24.1 (okOb.p g22)) rfl (Nat.le_of_ble_eq_true rfl) ?_
      refine ev_if_eq (tgt := 65) dX10_copyIn_57 (by decide) (fun c28 => ?_) (fun c28 => ?_)
      · rw [if_pos c28] at H
        refine ev_iconst (v := (-1 : Int32)) dX10_copyIn_65 (by decide) ?_
        exact ev_iretx dX10_copyIn_66 rfl rfl H
      · rw [if_neg c28] at H
        refine ev_iload dX10_copyIn_60 rfl ?_
        refine ev_goto (tgt := 66) dX10_copyIn_62 (by decide) ?_
        exact ev_iretx dX10_copyIn_66 rfl rfl H

theorem dX10_isBook_0 : decode cX10_isBook 0 = .ok (.iload_n 1, 1) := by decide +kernel
theorem dX10_isBook_1 : decode cX10_isBook 1 = .ok (.ifCond .lt 14, 3) := by decide +kernel
theorem dX10_isBook_4 : decode cX10_isBook 4 = .ok (.aload_n 0, 1) := by decide +kernel
theorem dX10_isBook_5 : decode cX10_isBook 5 = .ok (.getfield 199, 3) := by decide +kernel
theorem dX10_isBook_8 : decode cX10_isBook 8 = .ok (.ifCond .le 7, 3) := by decide +kernel
theorem dX10_isBook_11 : decode cX10_isBook 11 = .ok (.iconst 1, 1) := by decide +kernel
theorem dX10_isBook_12 : decode cX10_isBook 12 = .ok (.goto 4, 3) := by decide +kernel
theorem dX10_isBook_15 : decode cX10_isBook 15 = .ok (.iconst 0, 1) := by decide +kernel
theorem dX10_isBook_16 : decode cX10_isBook 16 = .ok (.istore_n 2, 1) := by decide +kernel
theorem dX10_isBook_17 : decode cX10_isBook 17 = .ok (.iconst 0, 1) := by decide +kernel
theorem dX10_isBook_18 : decode cX10_isBook 18 = .ok (.istore_n 3, 1) := by decide +kernel
theorem dX10_isBook_19 : decode cX10_isBook 19 = .ok (.iload_n 3, 1) := by decide +kernel
theorem dX10_isBook_20 : decode cX10_isBook 20 = .ok (.aload_n 0, 1) := by decide +kernel
theorem dX10_isBook_21 : decode cX10_isBook 21 = .ok (.getfield 199, 3) := by decide +kernel
theorem dX10_isBook_24 : decode cX10_isBook 24 = .ok (.if_icmp .ge 28, 3) := by decide +kernel
theorem dX10_isBook_27 : decode cX10_isBook 27 = .ok (.iload_n 2, 1) := by decide +kernel
theorem dX10_isBook_28 : decode cX10_isBook 28 = .ok (.ifCond .eq 24, 3) := by decide +kernel
theorem dX10_isBook_31 : decode cX10_isBook 31 = .ok (.aload_n 0, 1) := by decide +kernel
theorem dX10_isBook_32 : decode cX10_isBook 32 = .ok (.iload_n 1, 1) := by decide +kernel
theorem dX10_isBook_33 : decode cX10_isBook 33 = .ok (.iload_n 3, 1) := by decide +kernel
theorem dX10_isBook_34 : decode cX10_isBook 34 = .ok (.invokevirtual 231, 3) := by decide +kernel
theorem dX10_isBook_37 : decode cX10_isBook 37 = .ok (.ifCond .lt 7, 3) := by decide +kernel
theorem dX10_isBook_40 : decode cX10_isBook 40 = .ok (.iconst 1, 1) := by decide +kernel
theorem dX10_isBook_41 : decode cX10_isBook 41 = .ok (.goto 4, 3) := by decide +kernel
theorem dX10_isBook_44 : decode cX10_isBook 44 = .ok (.iconst 0, 1) := by decide +kernel
theorem dX10_isBook_45 : decode cX10_isBook 45 = .ok (.istore_n 2, 1) := by decide +kernel
theorem dX10_isBook_46 : decode cX10_isBook 46 = .ok (.iinc 3 1, 3) := by decide +kernel
theorem dX10_isBook_49 : decode cX10_isBook 49 = .ok (.goto (-30), 3) := by decide +kernel
theorem dX10_isBook_52 : decode cX10_isBook 52 = .ok (.iload_n 2, 1) := by decide +kernel
theorem dX10_isBook_53 : decode cX10_isBook 53 = .ok (.ireturn, 1) := by decide +kernel
def f_X10_isBook_L19 : Nat → Nat → Int32 → Int32 → Int32 → Hp → Option (Int32 × Hp)
  | 0, _, _, _, _, _ => none
  | n + 1, l0, l1, l2, l3, h =>
    gd (okOb h l0 10) <|
    vl (gI h l0 23) fun x3 =>
    if x3 ≤ l3 then (
    gd (boOk l2) <|
    some (l2, h)) else (
    if l2 = 0 then (
    gd (boOk l2) <|
    some (l2, h)) else (
    bnd (f_X10_copyIn h l0 l1 l3) fun v8 h9 =>
    if v8 < 0 then (
    vl (l3 + (1 : Int32)) fun x11 =>
    f_X10_isBook_L19 n l0 l1 (0 : Int32) x11 h9) else (
    vl (l3 + (1 : Int32)) fun x12 =>
    f_X10_isBook_L19 n l0 l1 (1 : Int32) x12 h9)))
set_option maxHeartbeats 4000000 in
set_option maxRecDepth 100000 in
theorem t_X10_isBook_L19 {X : Cx} {d : Nat} {h0 h' : Hp} {v : Int32} (hD : 3 ≤ d) : ∀ (n : Nat) (l0 : Nat) (l1 : Int32) (l2 : Int32) (l3 : Int32) (h : Hp), f_X10_isBook_L19 n l0 l1 l2 l3 h = some (v, h') → EV X mX10_isBook d h0 (some (.int v)) h' 19 [some (.ref l0), some (.int l1), some (.int l2), some (.int l3)] [] h := by
  intro n
  induction n with
  | zero => intro l0 l1 l2 l3 h H; simp [f_X10_isBook_L19] at H
  | succ n ih =>
    intro l0 l1 l2 l3 h H
    rw [f_X10_isBook_L19] at H
    refine ev_iload_n dX10_isBook_19 rfl rfl ?_
    refine ev_aload_n dX10_isBook_20 rfl rfl rfl ?_
    replace H := gd_some H
    obtain ⟨g2, H⟩ := H
    replace H := vl_some H
    obtain ⟨x3, ex3, H⟩ := H
    refine ev_getIx dX10_isBook_21 fgX10_199 rfl (okOb.p g2) ex3 ?_
    refine ev_icmp_ge (tgt := 52) dX10_isBook_24 (by decide) (fun c4 => ?_) (fun c4 => ?_)
    · rw [if_pos c4] at H
      refine ev_iload_n dX10_isBook_52 rfl rfl ?_
      replace H := gd_some H
      obtain ⟨g5, H⟩ := H
      exact ev_iretx dX10_isBook_53 rfl (of_decide_eq_true g5) H
    · rw [if_neg c4] at H
      refine ev_iload_n dX10_isBook_27 rfl rfl ?_
      refine ev_if_eq (tgt := 52) dX10_isBook_28 (by decide) (fun c6 => ?_) (fun c6 => ?_)
      · rw [if_pos c6] at H
        refine ev_iload_n dX10_isBook_52 rfl rfl ?_
        replace H := gd_some H
        obtain ⟨g7, H⟩ := H
        exact ev_iretx dX10_isBook_53 rfl (of_decide_eq_true g7) H
      · rw [if_neg c6] at H
        refine ev_aload_n dX10_isBook_31 rfl rfl rfl ?_
        refine ev_iload_n dX10_isBook_32 rfl rfl ?_
        refine ev_iload_n dX10_isBook_33 rfl rfl ?_
        replace H := bnd_some H
        obtain ⟨v8, h9, eh9, H⟩ := H
        have ph9 := (t_X10_copyIn (X := X) (d := 2) (by omega) eh9)
        refine ev_callV (as := [.int l1, .int l3]) dX10_isBook_34 ph9 ok_X10_copyIn (by omega) rfl k5_236 k5_238 ks_40 (ci := 10) (by decide) rfl rfl (okOb.p g2) rfl (Nat.le_of_ble_eq_true rfl) ?_
        refine ev_if_lt (tgt := 44) dX10_isBook_37 (by decide) (fun c10 => ?_) (fun c10 => ?_)
        · rw [if_pos c10] at H
          refine ev_iconst (v := (0 : Int32)) dX10_isBook_44 (by decide) ?_
          refine ev_istore_n (loc2 := [some (.ref l0), some (.int l1), some (.int (0 : Int32)), some (.int l3)]) dX10_isBook_45 rfl (by decide) rfl ?_
          replace H := vl_some H
          obtain ⟨x11, ex11, H⟩ := H
          refine ev_iincx (loc2 := [some (.ref l0), some (.int l1), some (.int (0 : Int32)), some (.int x11)]) dX10_isBook_46 rfl (by decide) ex11 (by decide) rfl ?_
          refine ev_goto (tgt := 19) dX10_isBook_49 (by decide) ?_
          exact ih l0 l1 (0 : Int32) x11 h9 H
        · rw [if_neg c10] at H
          refine ev_iconst (v := (1 : Int32)) dX10_isBook_40 (by decide) ?_
          refine ev_goto (tgt := 45) dX10_isBook_41 (by decide) ?_
          refine ev_istore_n (loc2 := [some (.ref l0), some (.int l1), some (.int (1 : Int32)), some (.int l3)]) dX10_isBook_45 rfl (by decide) rfl ?_
          replace H := vl_some H
          obtain ⟨x12, ex12, H⟩ := H
          refine ev_iincx (loc2 := [some (.ref l0), some (.int l1), some (.int (1 : Int32)), some (.int x12)]) dX10_isBook_46 rfl (by decide) ex12 (by decide) rfl ?_
          refine ev_goto (tgt := 19) dX10_isBook_49 (by decide) ?_
          exact ih l0 l1 (1 : Int32) x12 h9 H
def f_X10_isBook_J16 (l0 : Nat) (l1 : Int32) (w0 : Int32) (h : Hp) : Option (Int32 × Hp) :=
f_X10_isBook_L19 6000 l0 l1 w0 (0 : Int32) h
set_option maxHeartbeats 4000000 in
set_option maxRecDepth 100000 in
theorem t_X10_isBook_J16 {X : Cx} {d : Nat} {h0 h' : Hp} {v : Int32} (hD : 3 ≤ d) : ∀ (l0 : Nat) (l1 : Int32) (w0 : Int32) (h : Hp), f_X10_isBook_J16 l0 l1 w0 h = some (v, h') → EV X mX10_isBook d h0 (some (.int v)) h' 16 [some (.ref l0), some (.int l1), none, none] [.int w0] h := by
  intro l0 l1 w0 h H
  unfold f_X10_isBook_J16 at H
  refine ev_istore_n (loc2 := [some (.ref l0), some (.int l1), some (.int w0), none]) dX10_isBook_16 rfl (by decide) rfl ?_
  refine ev_iconst (v := (0 : Int32)) dX10_isBook_17 (by decide) ?_
  refine ev_istore_n (loc2 := [some (.ref l0), some (.int l1), some (.int w0), some (.int (0 : Int32))]) dX10_isBook_18 rfl (by decide) rfl ?_
  refine t_X10_isBook_L19 hD  6000 l0 l1 w0 (0 : Int32) h H
def f_X10_isBook_J15 (l0 : Nat) (l1 : Int32) (h : Hp) : Option (Int32 × Hp) :=
f_X10_isBook_J16 l0 l1 (0 : Int32) h
set_option maxHeartbeats 4000000 in
set_option maxRecDepth 100000 in
theorem t_X10_isBook_J15 {X : Cx} {d : Nat} {h0 h' : Hp} {v : Int32} (hD : 3 ≤ d) : ∀ (l0 : Nat) (l1 : Int32) (h : Hp), f_X10_isBook_J15 l0 l1 h = some (v, h') → EV X mX10_isBook d h0 (some (.int v)) h' 15 [some (.ref l0), some (.int l1), none, none] [] h := by
  intro l0 l1 h H
  unfold f_X10_isBook_J15 at H
  refine ev_iconst (v := (0 : Int32)) dX10_isBook_15 (by decide) ?_
  exact t_X10_isBook_J16 hD l0 l1 (0 : Int32) h H
def f_X10_isBook_J16_2 (l0 : Nat) (l1 : Int32) (w0 : Int32) (h : Hp) : Option (Int32 × Hp) :=
f_X10_isBook_L19 6000 l0 l1 w0 (0 : Int32) h
set_option maxHeartbeats 4000000 in
set_option maxRecDepth 100000 in
theorem t_X10_isBook_J16_2 {X : Cx} {d : Nat} {h0 h' : Hp} {v : Int32} (hD : 3 ≤ d) : ∀ (l0 : Nat) (l1 : Int32) (w0 : Int32) (h : Hp), f_X10_isBook_J16_2 l0 l1 w0 h = some (v, h') → EV X mX10_isBook d h0 (some (.int v)) h' 16 [some (.ref l0), some (.int l1), none, none] [.int w0] h := by
  intro l0 l1 w0 h H
  unfold f_X10_isBook_J16_2 at H
  refine ev_istore_n (loc2 := [some (.ref l0), some (.int l1), some (.int w0), none]) dX10_isBook_16 rfl (by decide) rfl ?_
  refine ev_iconst (v := (0 : Int32)) dX10_isBook_17 (by decide) ?_
  refine ev_istore_n (loc2 := [some (.ref l0), some (.int l1), some (.int w0), some (.int (0 : Int32))]) dX10_isBook_18 rfl (by decide) rfl ?_
  refine t_X10_isBook_L19 hD  6000 l0 l1 w0 (0 : Int32) h H
def f_X10_isBook (h : Hp) (a0 : Nat) (a1 : Int32) : Option (Int32 × Hp) :=
if a1 < 0 then (
f_X10_isBook_J15 a0 a1 h) else (
gd (okOb h a0 10) <|
vl (gI h a0 23) fun x14 =>
if x14 ≤ 0 then (
f_X10_isBook_J15 a0 a1 h) else (
f_X10_isBook_J16_2 a0 a1 (1 : Int32) h))
set_option maxHeartbeats 4000000 in
set_option maxRecDepth 100000 in
theorem t_X10_isBook {X : Cx} {d : Nat} {h : Hp} {a0 : Nat} {a1 : Int32} {v : Int32} {h' : Hp} (hD : 3 ≤ d) (H : f_X10_isBook h a0 a1 = some (v, h')) : PM X mX10_isBook d [.ref a0, .int a1] h (some (.int v)) h' := by
  unfold f_X10_isBook at H
  refine PM.of (loc := [some (.ref a0), some (.int a1), none, none]) (by decide) rfl (Nat.le_of_ble_eq_true rfl) ?_
  refine ev_iload_n dX10_isBook_0 rfl rfl ?_
  refine ev_if_lt (tgt := 15) dX10_isBook_1 (by decide) (fun c1 => ?_) (fun c1 => ?_)
  · rw [if_pos c1] at H
    exact t_X10_isBook_J15 hD a0 a1 h H
  · rw [if_neg c1] at H
    refine ev_aload_n dX10_isBook_4 rfl rfl rfl ?_
    replace H := gd_some H
    obtain ⟨g13, H⟩ := H
    replace H := vl_some H
    obtain ⟨x14, ex14, H⟩ := H
    refine ev_getIx dX10_isBook_5 fgX10_199 rfl (okOb.p g13) ex14 ?_
    refine ev_if_le (tgt := 15) dX10_isBook_8 (by decide) (fun c15 => ?_) (fun c15 => ?_)
    · rw [if_pos c15] at H
      exact t_X10_isBook_J15 hD a0 a1 h H
    · rw [if_neg c15] at H
      refine ev_iconst (v := (1 : Int32)) dX10_isBook_11 (by decide) ?_
      refine ev_goto (tgt := 16) dX10_isBook_12 (by decide) ?_
      exact t_X10_isBook_J16_2 hD a0 a1 (1 : Int32) h H

theorem dX10_books_0 : decode cX10_books 0 = .ok (.iconst 0, 1) := by decide +kernel
theorem dX10_books_1 : decode cX10_books 1 = .ok (.istore_n 1, 1) := by decide +kernel
theorem dX10_books_2 : decode cX10_books 2 = .ok (.iconst 0, 1) := by decide +kernel
theorem dX10_books_3 : decode cX10_books 3 = .ok (.istore_n 2, 1) := by decide +kernel
theorem dX10_books_4 : decode cX10_books 4 = .ok (.iload_n 2, 1) := by decide +kernel
theorem dX10_books_5 : decode cX10_books 5 = .ok (.bipush 60, 2) := by decide +kernel
theorem dX10_books_7 : decode cX10_books 7 = .ok (.if_icmp .ge 25, 3) := by decide +kernel
theorem dX10_books_10 : decode cX10_books 10 = .ok (.iload_n 1, 1) := by decide +kernel
theorem dX10_books_11 : decode cX10_books 11 = .ok (.aload_n 0, 1) := by decide +kernel
theorem dX10_books_12 : decode cX10_books 12 = .ok (.iload_n 2, 1) := by decide +kernel
theorem dX10_books_13 : decode cX10_books 13 = .ok (.invokevirtual 234, 3) := by decide +kernel
theorem dX10_books_16 : decode cX10_books 16 = .ok (.ifCond .eq 7, 3) := by decide +kernel
theorem dX10_books_19 : decode cX10_books 19 = .ok (.iconst 1, 1) := by decide +kernel
theorem dX10_books_20 : decode cX10_books 20 = .ok (.goto 4, 3) := by decide +kernel
theorem dX10_books_23 : decode cX10_books 23 = .ok (.iconst 0, 1) := by decide +kernel
theorem dX10_books_24 : decode cX10_books 24 = .ok (.iadd, 1) := by decide +kernel
theorem dX10_books_25 : decode cX10_books 25 = .ok (.istore_n 1, 1) := by decide +kernel
theorem dX10_books_26 : decode cX10_books 26 = .ok (.iinc 2 1, 3) := by decide +kernel
theorem dX10_books_29 : decode cX10_books 29 = .ok (.goto (-25), 3) := by decide +kernel
theorem dX10_books_32 : decode cX10_books 32 = .ok (.iload_n 1, 1) := by decide +kernel
theorem dX10_books_33 : decode cX10_books 33 = .ok (.ireturn, 1) := by decide +kernel
def f_X10_books_L4 : Nat → Nat → Int32 → Int32 → Hp → Option (Int32 × Hp)
  | 0, _, _, _, _ => none
  | n + 1, l0, l1, l2, h =>
    if (60 : Int32) ≤ l2 then (
    some (l1, h)) else (
    gd (okOb h l0 10) <|
    bnd (f_X10_isBook h l0 l2) fun v3 h4 =>
    if v3 = 0 then (
    vl (l1 + (0 : Int32)) fun x6 =>
    vl (l2 + (1 : Int32)) fun x7 =>
    f_X10_books_L4 n l0 x6 x7 h4) else (
    vl (l1 + (1 : Int32)) fun x8 =>
    vl (l2 + (1 : Int32)) fun x9 =>
    f_X10_books_L4 n l0 x8 x9 h4))
set_option maxHeartbeats 4000000 in
set_option maxRecDepth 100000 in
theorem t_X10_books_L4 {X : Cx} {d : Nat} {h0 h' : Hp} {v : Int32} (hD : 4 ≤ d) : ∀ (n : Nat) (l0 : Nat) (l1 : Int32) (l2 : Int32) (h : Hp), f_X10_books_L4 n l0 l1 l2 h = some (v, h') → EV X mX10_books d h0 (some (.int v)) h' 4 [some (.ref l0), some (.int l1), some (.int l2)] [] h := by
  intro n
  induction n with
  | zero => intro l0 l1 l2 h H; simp [f_X10_books_L4] at H
  | succ n ih =>
    intro l0 l1 l2 h H
    rw [f_X10_books_L4] at H
    refine ev_iload_n dX10_books_4 rfl rfl ?_
    refine ev_bipush (v := (60 : Int32)) dX10_books_5 (by decide) ?_
    refine ev_icmp_ge (tgt := 32) dX10_books_7 (by decide) (fun c1 => ?_) (fun c1 => ?_)
    · rw [if_pos c1] at H
      refine ev_iload_n dX10_books_32 rfl rfl ?_
      exact ev_iretx dX10_books_33 rfl rfl H
    · rw [if_neg c1] at H
      refine ev_iload_n dX10_books_10 rfl rfl ?_
      refine ev_aload_n dX10_books_11 rfl rfl rfl ?_
      refine ev_iload_n dX10_books_12 rfl rfl ?_
      replace H := gd_some H
      obtain ⟨g2, H⟩ := H
      replace H := bnd_some H
      obtain ⟨v3, h4, eh4, H⟩ := H
      have ph4 := (t_X10_isBook (X := X) (d := 3) (by omega) eh4)
      refine ev_callV (as := [.int l2]) dX10_books_13 ph4 ok_X10_isBook (by omega) rfl k5_232 k5_234 ks_39 (ci := 10) (by decide) rfl rfl (okOb.p g2) rfl (Nat.le_of_ble_eq_true rfl) ?_
      refine ev_if_eq (tgt := 23) dX10_books_16 (by decide) (fun c5 => ?_) (fun c5 => ?_)
      · rw [if_pos c5] at H
        refine ev_iconst (v := (0 : Int32)) dX10_books_23 (by decide) ?_
        refine ev_iadd dX10_books_24 ?_
        replace H := vl_some H
        obtain ⟨x6, ex6, H⟩ := H
        refine ev_istore_nx (loc2 := [some (.ref l0), some (.int x6), some (.int l2)]) dX10_books_25 rfl (by decide) ex6 rfl ?_
        replace H := vl_some H
        obtain ⟨x7, ex7, H⟩ := H
        refine ev_iincx (loc2 := [some (.ref l0), some (.int x6), some (.int x7)]) dX10_books_26 rfl (by decide) ex7 (by decide) rfl ?_
        refine ev_goto (tgt := 4) dX10_books_29 (by decide) ?_
        exact ih l0 x6 x7 h4 H
      · rw [if_neg c5] at H
        refine ev_iconst (v := (1 : Int32)) dX10_books_19 (by decide) ?_
        refine ev_goto (tgt := 24) dX10_books_20 (by decide) ?_
        refine ev_iadd dX10_books_24 ?_
        replace H := vl_some H
        obtain ⟨x8, ex8, H⟩ := H
        refine ev_istore_nx (loc2 := [some (.ref l0), some (.int x8), some (.int l2)]) dX10_books_25 rfl (by decide) ex8 rfl ?_
        replace H := vl_some H
        obtain ⟨x9, ex9, H⟩ := H
        refine ev_iincx (loc2 := [some (.ref l0), some (.int x8), some (.int x9)]) dX10_books_26 rfl (by decide) ex9 (by decide) rfl ?_
        refine ev_goto (tgt := 4) dX10_books_29 (by decide) ?_
        exact ih l0 x8 x9 h4 H
def f_X10_books (h : Hp) (a0 : Nat) : Option (Int32 × Hp) :=
f_X10_books_L4 6000 a0 (0 : Int32) (0 : Int32) h
set_option maxHeartbeats 4000000 in
set_option maxRecDepth 100000 in
theorem t_X10_books {X : Cx} {d : Nat} {h : Hp} {a0 : Nat} {v : Int32} {h' : Hp} (hD : 4 ≤ d) (H : f_X10_books h a0 = some (v, h')) : PM X mX10_books d [.ref a0] h (some (.int v)) h' := by
  unfold f_X10_books at H
  refine PM.of (loc := [some (.ref a0), none, none]) (by decide) rfl (Nat.le_of_ble_eq_true rfl) ?_
  refine ev_iconst (v := (0 : Int32)) dX10_books_0 (by decide) ?_
  refine ev_istore_n (loc2 := [some (.ref a0), some (.int (0 : Int32)), none]) dX10_books_1 rfl (by decide) rfl ?_
  refine ev_iconst (v := (0 : Int32)) dX10_books_2 (by decide) ?_
  refine ev_istore_n (loc2 := [some (.ref a0), some (.int (0 : Int32)), some (.int (0 : Int32))]) dX10_books_3 rfl (by decide) rfl ?_
  refine t_X10_books_L4 hD  6000 a0 (0 : Int32) (0 : Int32) h H

theorem dX10_inBook_0 : decode cX10_inBook 0 = .ok (.aload_n 0, 1) := by decide +kernel
theorem dX10_inBook_1 : decode cX10_inBook 1 = .ok (.iload_n 2, 1) := by decide +kernel
theorem dX10_inBook_2 : decode cX10_inBook 2 = .ok (.invokevirtual 218, 3) := by decide +kernel
theorem dX10_inBook_5 : decode cX10_inBook 5 = .ok (.ifCond .eq 20, 3) := by decide +kernel
theorem dX10_inBook_8 : decode cX10_inBook 8 = .ok (.aload_n 0, 1) := by decide +kernel
theorem dX10_inBook_9 : decode cX10_inBook 9 = .ok (.iload_n 1, 1) := by decide +kernel
theorem dX10_inBook_10 : decode cX10_inBook 10 = .ok (.invokevirtual 234, 3) := by decide +kernel
theorem dX10_inBook_13 : decode cX10_inBook 13 = .ok (.ifCond .eq 12, 3) := by decide +kernel
theorem dX10_inBook_16 : decode cX10_inBook 16 = .ok (.aload_n 0, 1) := by decide +kernel
theorem dX10_inBook_17 : decode cX10_inBook 17 = .ok (.iload_n 1, 1) := by decide +kernel
theorem dX10_inBook_18 : decode cX10_inBook 18 = .ok (.iload_n 2, 1) := by decide +kernel
theorem dX10_inBook_19 : decode cX10_inBook 19 = .ok (.invokevirtual 231, 3) := by decide +kernel
theorem dX10_inBook_22 : decode cX10_inBook 22 = .ok (.goto 4, 3) := by decide +kernel
theorem dX10_inBook_25 : decode cX10_inBook 25 = .ok (.iconst (-1), 1) := by decide +kernel
theorem dX10_inBook_26 : decode cX10_inBook 26 = .ok (.ireturn, 1) := by decide +kernel
def f_X10_inBook (h : Hp) (a0 : Nat) (a1 : Int32) (a2 : Int32) : Option (Int32 × Hp) :=
gd (okOb h a0 10) <|
bnd (f_X10_isSheet h a0 a2) fun v2 h3 =>
if v2 = 0 then (
some ((-1 : Int32), h3)) else (
bnd (f_X10_isBook h3 a0 a1) fun v5 h6 =>
if v5 = 0 then (
some ((-1 : Int32), h6)) else (
bnd (f_X10_copyIn h6 a0 a1 a2) fun v8 h9 =>
some (v8, h9)))
set_option maxHeartbeats 4000000 in
set_option maxRecDepth 100000 in
theorem t_X10_inBook {X : Cx} {d : Nat} {h : Hp} {a0 : Nat} {a1 : Int32} {a2 : Int32} {v : Int32} {h' : Hp} (hD : 4 ≤ d) (H : f_X10_inBook h a0 a1 a2 = some (v, h')) : PM X mX10_inBook d [.ref a0, .int a1, .int a2] h (some (.int v)) h' := by
  unfold f_X10_inBook at H
  refine PM.of (loc := [some (.ref a0), some (.int a1), some (.int a2)]) (by decide) rfl (Nat.le_of_ble_eq_true rfl) ?_
  refine ev_aload_n dX10_inBook_0 rfl rfl rfl ?_
  refine ev_iload_n dX10_inBook_1 rfl rfl ?_
  replace H := gd_some H
  obtain ⟨g1, H⟩ := H
  replace H := bnd_some H
  obtain ⟨v2, h3, eh3, H⟩ := H
  have ph3 := (t_X10_isSheet (X := X) (d := 1) (by omega) eh3)
  refine ev_callV (as := [.int a2]) dX10_inBook_2 ph3 ok_X10_isSheet (by omega) rfl k5_208 k5_210 ks_36 (ci := 10) (by decide) rfl rfl (okOb.p g1) rfl (Nat.le_of_ble_eq_true rfl) ?_
  refine ev_if_eq (tgt := 25) dX10_inBook_5 (by decide) (fun c4 => ?_) (fun c4 => ?_)
  · rw [if_pos c4] at H
    refine ev_iconst (v := (-1 : Int32)) dX10_inBook_25 (by decide) ?_
    exact ev_iretx dX10_inBook_26 rfl rfl H
  · rw [if_neg c4] at H
    refine ev_aload_n dX10_inBook_8 rfl rfl rfl ?_
    refine ev_iload_n dX10_inBook_9 rfl rfl ?_
    replace H := bnd_some H
    obtain ⟨v5, h6, eh6, H⟩ := H
    have ph6 := (t_X10_isBook (X := X) (d := 3) (by omega) eh6)
    refine ev_callV (as := [.int a1]) dX10_inBook_10 ph6 ok_X10_isBook (by omega) rfl k5_232 k5_234 ks_39 (ci := 10) (by decide) rfl rfl (okO_ext ph3.1 (okOb.p g1)) rfl (Nat.le_of_ble_eq_true rfl) ?_
    refine ev_if_eq (tgt := 25) dX10_inBook_13 (by decide) (fun c7 => ?_) (fun c7 => ?_)
    · rw [if_pos c7] at H
      refine ev_iconst (v := (-1 : Int32)) dX10_inBook_25 (by decide) ?_
      exact ev_iretx dX10_inBook_26 rfl rfl H
    · rw [if_neg c7] at H
      refine ev_aload_n dX10_inBook_16 rfl rfl rfl ?_
      refine ev_iload_n dX10_inBook_17 rfl rfl ?_
      refine ev_iload_n dX10_inBook_18 rfl rfl ?_
      replace H := bnd_some H
      obtain ⟨v8, h9, eh9, H⟩ := H
      have ph9 := (t_X10_copyIn (X := X) (d := 2) (by omega) eh9)
      refine ev_callV (as := [.int a1, .int a2]) dX10_inBook_19 ph9 ok_X10_copyIn (by omega) rfl k5_236 k5_238 ks_40 (ci := 10) (by decide) rfl rfl (okO_ext ph6.1 (okO_ext ph3.1 (okOb.p g1))) rfl (Nat.le_of_ble_eq_true rfl) ?_
      refine ev_goto (tgt := 26) dX10_inBook_22 (by decide) ?_
      exact ev_iretx dX10_inBook_26 rfl rfl H

theorem dX10_apart_0 : decode cX10_apart 0 = .ok (.iconst 0, 1) := by decide +kernel
theorem dX10_apart_1 : decode cX10_apart 1 = .ok (.istore_n 3, 1) := by decide +kernel
theorem dX10_apart_2 : decode cX10_apart 2 = .ok (.iconst 0, 1) := by decide +kernel
theorem dX10_apart_3 : decode cX10_apart 3 = .ok (.istore 4, 2) := by decide +kernel
theorem dX10_apart_5 : decode cX10_apart 5 = .ok (.iload 4, 2) := by decide +kernel
theorem dX10_apart_7 : decode cX10_apart 7 = .ok (.iconst 2, 1) := by decide +kernel
theorem dX10_apart_8 : decode cX10_apart 8 = .ok (.aload_n 0, 1) := by decide +kernel
theorem dX10_apart_9 : decode cX10_apart 9 = .ok (.getfield 199, 3) := by decide +kernel
theorem dX10_apart_12 : decode cX10_apart 12 = .ok (.imul, 1) := by decide +kernel
theorem dX10_apart_13 : decode cX10_apart 13 = .ok (.if_icmp .ge 60, 3) := by decide +kernel
theorem dX10_apart_16 : decode cX10_apart 16 = .ok (.iload_n 3, 1) := by decide +kernel
theorem dX10_apart_17 : decode cX10_apart 17 = .ok (.aload_n 0, 1) := by decide +kernel
theorem dX10_apart_18 : decode cX10_apart 18 = .ok (.getfield 82, 3) := by decide +kernel
theorem dX10_apart_21 : decode cX10_apart 21 = .ok (.bipush 60, 2) := by decide +kernel
theorem dX10_apart_23 : decode cX10_apart 23 = .ok (.iload 4, 2) := by decide +kernel
theorem dX10_apart_25 : decode cX10_apart 25 = .ok (.imul, 1) := by decide +kernel
theorem dX10_apart_26 : decode cX10_apart 26 = .ok (.aload_n 0, 1) := by decide +kernel
theorem dX10_apart_27 : decode cX10_apart 27 = .ok (.iload_n 1, 1) := by decide +kernel
theorem dX10_apart_28 : decode cX10_apart 28 = .ok (.iload 4, 2) := by decide +kernel
theorem dX10_apart_30 : decode cX10_apart 30 = .ok (.iconst 2, 1) := by decide +kernel
theorem dX10_apart_31 : decode cX10_apart 31 = .ok (.idiv, 1) := by decide +kernel
theorem dX10_apart_32 : decode cX10_apart 32 = .ok (.invokevirtual 231, 3) := by decide +kernel
theorem dX10_apart_35 : decode cX10_apart 35 = .ok (.iadd, 1) := by decide +kernel
theorem dX10_apart_36 : decode cX10_apart 36 = .ok (.iaload, 1) := by decide +kernel
theorem dX10_apart_37 : decode cX10_apart 37 = .ok (.aload_n 0, 1) := by decide +kernel
theorem dX10_apart_38 : decode cX10_apart 38 = .ok (.getfield 82, 3) := by decide +kernel
theorem dX10_apart_41 : decode cX10_apart 41 = .ok (.bipush 60, 2) := by decide +kernel
theorem dX10_apart_43 : decode cX10_apart 43 = .ok (.iload 4, 2) := by decide +kernel
theorem dX10_apart_45 : decode cX10_apart 45 = .ok (.imul, 1) := by decide +kernel
theorem dX10_apart_46 : decode cX10_apart 46 = .ok (.aload_n 0, 1) := by decide +kernel
theorem dX10_apart_47 : decode cX10_apart 47 = .ok (.iload_n 2, 1) := by decide +kernel
theorem dX10_apart_48 : decode cX10_apart 48 = .ok (.iload 4, 2) := by decide +kernel
theorem dX10_apart_50 : decode cX10_apart 50 = .ok (.iconst 2, 1) := by decide +kernel
theorem dX10_apart_51 : decode cX10_apart 51 = .ok (.idiv, 1) := by decide +kernel
theorem dX10_apart_52 : decode cX10_apart 52 = .ok (.invokevirtual 231, 3) := by decide +kernel
theorem dX10_apart_55 : decode cX10_apart 55 = .ok (.iadd, 1) := by decide +kernel
theorem dX10_apart_56 : decode cX10_apart 56 = .ok (.iaload, 1) := by decide +kernel
theorem dX10_apart_57 : decode cX10_apart 57 = .ok (.if_icmp .eq 7, 3) := by decide +kernel
theorem dX10_apart_60 : decode cX10_apart 60 = .ok (.iconst 1, 1) := by decide +kernel
theorem dX10_apart_61 : decode cX10_apart 61 = .ok (.goto 4, 3) := by decide +kernel
theorem dX10_apart_64 : decode cX10_apart 64 = .ok (.iconst 0, 1) := by decide +kernel
theorem dX10_apart_65 : decode cX10_apart 65 = .ok (.iadd, 1) := by decide +kernel
theorem dX10_apart_66 : decode cX10_apart 66 = .ok (.istore_n 3, 1) := by decide +kernel
theorem dX10_apart_67 : decode cX10_apart 67 = .ok (.iinc 4 1, 3) := by decide +kernel
theorem dX10_apart_70 : decode cX10_apart 70 = .ok (.goto (-65), 3) := by decide +kernel
theorem dX10_apart_73 : decode cX10_apart 73 = .ok (.iload_n 3, 1) := by decide +kernel
theorem dX10_apart_74 : decode cX10_apart 74 = .ok (.ireturn, 1) := by decide +kernel
def f_X10_apart_L5 : Nat → Nat → Int32 → Int32 → Int32 → Int32 → Hp → Option (Int32 × Hp)
  | 0, _, _, _, _, _, _ => none
  | n + 1, l0, l1, l2, l3, l4, h =>
    gd (okOb h l0 10) <|
    vl (gI h l0 23) fun x2 =>
    if ((2 : Int32) * x2) ≤ l4 then (
    some (l3, h)) else (
    vl (gR h l0 28) fun r4 =>
    bnd (f_X10_copyIn h l0 l1 (l4 / (2 : Int32))) fun v5 h6 =>
    un r4 fun b7 =>
    gd (okAb h6 b7 11 (((60 : Int32) * l4) + v5)) <|
    vl (gI h6 b7 (((60 : Int32) * l4) + v5).toNatClampNeg) fun x9 =>
    vl (gR h6 l0 28) fun r10 =>
    bnd (f_X10_copyIn h6 l0 l2 (l4 / (2 : Int32))) fun v11 h12 =>
    un r10 fun b13 =>
    gd (okAb h12 b13 11 (((60 : Int32) * l4) + v11)) <|
    vl (gI h12 b13 (((60 : Int32) * l4) + v11).toNatClampNeg) fun x15 =>
    if x9 = x15 then (
    vl (l3 + (0 : Int32)) fun x17 =>
    vl (l4 + (1 : Int32)) fun x18 =>
    f_X10_apart_L5 n l0 l1 l2 x17 x18 h12) else (
    vl (l3 + (1 : Int32)) fun x19 =>
    vl (l4 + (1 : Int32)) fun x20 =>
    f_X10_apart_L5 n l0 l1 l2 x19 x20 h12))
set_option maxHeartbeats 4000000 in
set_option maxRecDepth 100000 in
theorem t_X10_apart_L5 {X : Cx} {d : Nat} {h0 h' : Hp} {v : Int32} (hD : 3 ≤ d) : ∀ (n : Nat) (l0 : Nat) (l1 : Int32) (l2 : Int32) (l3 : Int32) (l4 : Int32) (h : Hp), f_X10_apart_L5 n l0 l1 l2 l3 l4 h = some (v, h') → EV X mX10_apart d h0 (some (.int v)) h' 5 [some (.ref l0), some (.int l1), some (.int l2), some (.int l3), some (.int l4)] [] h := by
  intro n
  induction n with
  | zero => intro l0 l1 l2 l3 l4 h H; simp [f_X10_apart_L5] at H
  | succ n ih =>
    intro l0 l1 l2 l3 l4 h H
    rw [f_X10_apart_L5] at H
    refine ev_iload dX10_apart_5 rfl ?_
    refine ev_iconst (v := (2 : Int32)) dX10_apart_7 (by decide) ?_
    refine ev_aload_n dX10_apart_8 rfl rfl rfl ?_
    replace H := gd_some H
    obtain ⟨g1, H⟩ := H
    replace H := vl_some H
    obtain ⟨x2, ex2, H⟩ := H
    refine ev_getIx dX10_apart_9 fgX10_199 rfl (okOb.p g1) ex2 ?_
    refine ev_imul dX10_apart_12 ?_
    refine ev_icmp_ge (tgt := 73) dX10_apart_13 (by decide) (fun c3 => ?_) (fun c3 => ?_)
    · rw [if_pos c3] at H
      refine ev_iload_n dX10_apart_73 rfl rfl ?_
      exact ev_iretx dX10_apart_74 rfl rfl H
    · rw [if_neg c3] at H
      refine ev_iload_n dX10_apart_16 rfl rfl ?_
      refine ev_aload_n dX10_apart_17 rfl rfl rfl ?_
      replace H := vl_some H
      obtain ⟨r4, er4, H⟩ := H
      refine ev_getRx dX10_apart_18 fgX10_82 rfl (okOb.p g1) er4 ?_
      refine ev_bipush (v := (60 : Int32)) dX10_apart_21 (by decide) ?_
      refine ev_iload dX10_apart_23 rfl ?_
      refine ev_imul dX10_apart_25 ?_
      refine ev_aload_n dX10_apart_26 rfl rfl rfl ?_
      refine ev_iload_n dX10_apart_27 rfl rfl ?_
      refine ev_iload dX10_apart_28 rfl ?_
      refine ev_iconst (v := (2 : Int32)) dX10_apart_30 (by decide) ?_
      refine ev_idiv dX10_apart_31 (by decide) ?_
      replace H := bnd_some H
      obtain ⟨v5, h6, eh6, H⟩ := H
      have ph6 := (t_X10_copyIn (X := X) (d := 2) (by omega) eh6)
      refine ev_callV (as := [.int l1, .int (l4 / (2 : Int32))]) dX10_apart_32 ph6 ok_X10_copyIn (by omega) rfl k5_236 k5_238 ks_40 (ci := 10) (by decide) rfl rfl (okOb.p g1) rfl (by simp only [List.map_cons, List.map_nil, rv_cat]; exact Nat.le_of_ble_eq_true rfl) ?_
      refine ev_iadd dX10_apart_35 ?_
      replace H := un_some H
      obtain ⟨b7, eb7, H⟩ := H
      subst eb7
      replace H := gd_some H
      obtain ⟨g8, H⟩ := H
      replace H := vl_some H
      obtain ⟨x9, ex9, H⟩ := H
      refine ev_ialdx dX10_apart_36 (okAb.p g8) ex9 ?_
      refine ev_aload_n dX10_apart_37 rfl rfl rfl ?_
      replace H := vl_some H
      obtain ⟨r10, er10, H⟩ := H
      refine ev_getRx dX10_apart_38 fgX10_82 rfl (okO_ext ph6.1 (okOb.p g1)) er10 ?_
      refine ev_bipush (v := (60 : Int32)) dX10_apart_41 (by decide) ?_
      refine ev_iload dX10_apart_43 rfl ?_
      refine ev_imul dX10_apart_45 ?_
      refine ev_aload_n dX10_apart_46 rfl rfl rfl ?_
      refine ev_iload_n dX10_apart_47 rfl rfl ?_
      refine ev_iload dX10_apart_48 rfl ?_
      refine ev_iconst (v := (2 : Int32)) dX10_apart_50 (by decide) ?_
      refine ev_idiv dX10_apart_51 (by decide) ?_
      replace H := bnd_some H
      obtain ⟨v11, h12, eh12, H⟩ := H
      have ph12 := (t_X10_copyIn (X := X) (d := 2) (by omega) eh12)
      refine ev_callV (as := [.int l2, .int (l4 / (2 : Int32))]) dX10_apart_52 ph12 ok_X10_copyIn (by omega) rfl k5_236 k5_238 ks_40 (ci := 10) (by decide) rfl rfl (okO_ext ph6.1 (okOb.p g1)) rfl (by simp only [List.map_cons, List.map_nil, rv_cat]; exact Nat.le_of_ble_eq_true rfl) ?_
      refine ev_iadd dX10_apart_55 ?_
      replace H := un_some H
      obtain ⟨b13, eb13, H⟩ := H
      subst eb13
      replace H := gd_some H
      obtain ⟨g14, H⟩ := H
      replace H := vl_some H
      obtain ⟨x15, ex15, H⟩ := H
      refine ev_ialdx dX10_apart_56 (okAb.p g14) ex15 ?_
      refine ev_icmp_eq (tgt := 64) dX10_apart_57 (by decide) (fun c16 => ?_) (fun c16 => ?_)
      · rw [if_pos c16] at H
        refine ev_iconst (v := (0 : Int32)) dX10_apart_64 (by decide) ?_
        refine ev_iadd dX10_apart_65 ?_
        replace H := vl_some H
        obtain ⟨x17, ex17, H⟩ := H
        refine ev_istore_nx (loc2 := [some (.ref l0), some (.int l1), some (.int l2), some (.int x17), some (.int l4)]) dX10_apart_66 rfl (by decide) ex17 rfl ?_
        replace H := vl_some H
        obtain ⟨x18, ex18, H⟩ := H
        refine ev_iincx (loc2 := [some (.ref l0), some (.int l1), some (.int l2), some (.int x17), some (.int x18)]) dX10_apart_67 rfl (by decide) ex18 (by decide) rfl ?_
        refine ev_goto (tgt := 5) dX10_apart_70 (by decide) ?_
        exact ih l0 l1 l2 x17 x18 h12 H
      · rw [if_neg c16] at H
        refine ev_iconst (v := (1 : Int32)) dX10_apart_60 (by decide) ?_
        refine ev_goto (tgt := 65) dX10_apart_61 (by decide) ?_
        refine ev_iadd dX10_apart_65 ?_
        replace H := vl_some H
        obtain ⟨x19, ex19, H⟩ := H
        refine ev_istore_nx (loc2 := [some (.ref l0), some (.int l1), some (.int l2), some (.int x19), some (.int l4)]) dX10_apart_66 rfl (by decide) ex19 rfl ?_
        replace H := vl_some H
        obtain ⟨x20, ex20, H⟩ := H
        refine ev_iincx (loc2 := [some (.ref l0), some (.int l1), some (.int l2), some (.int x19), some (.int x20)]) dX10_apart_67 rfl (by decide) ex20 (by decide) rfl ?_
        refine ev_goto (tgt := 5) dX10_apart_70 (by decide) ?_
        exact ih l0 l1 l2 x19 x20 h12 H
def f_X10_apart (h : Hp) (a0 : Nat) (a1 : Int32) (a2 : Int32) : Option (Int32 × Hp) :=
f_X10_apart_L5 6000 a0 a1 a2 (0 : Int32) (0 : Int32) h
set_option maxHeartbeats 4000000 in
set_option maxRecDepth 100000 in
theorem t_X10_apart {X : Cx} {d : Nat} {h : Hp} {a0 : Nat} {a1 : Int32} {a2 : Int32} {v : Int32} {h' : Hp} (hD : 3 ≤ d) (H : f_X10_apart h a0 a1 a2 = some (v, h')) : PM X mX10_apart d [.ref a0, .int a1, .int a2] h (some (.int v)) h' := by
  unfold f_X10_apart at H
  refine PM.of (loc := [some (.ref a0), some (.int a1), some (.int a2), none, none]) (by decide) rfl (Nat.le_of_ble_eq_true rfl) ?_
  refine ev_iconst (v := (0 : Int32)) dX10_apart_0 (by decide) ?_
  refine ev_istore_n (loc2 := [some (.ref a0), some (.int a1), some (.int a2), some (.int (0 : Int32)), none]) dX10_apart_1 rfl (by decide) rfl ?_
  refine ev_iconst (v := (0 : Int32)) dX10_apart_2 (by decide) ?_
  refine ev_istore (loc2 := [some (.ref a0), some (.int a1), some (.int a2), some (.int (0 : Int32)), some (.int (0 : Int32))]) dX10_apart_3 (by decide) rfl ?_
  refine t_X10_apart_L5 hD  6000 a0 a1 a2 (0 : Int32) (0 : Int32) h H

theorem dX10_unlike_0 : decode cX10_unlike 0 = .ok (.aload_n 0, 1) := by decide +kernel
theorem dX10_unlike_1 : decode cX10_unlike 1 = .ok (.iload_n 1, 1) := by decide +kernel
theorem dX10_unlike_2 : decode cX10_unlike 2 = .ok (.invokevirtual 234, 3) := by decide +kernel
theorem dX10_unlike_5 : decode cX10_unlike 5 = .ok (.ifCond .eq 20, 3) := by decide +kernel
theorem dX10_unlike_8 : decode cX10_unlike 8 = .ok (.aload_n 0, 1) := by decide +kernel
theorem dX10_unlike_9 : decode cX10_unlike 9 = .ok (.iload_n 2, 1) := by decide +kernel
theorem dX10_unlike_10 : decode cX10_unlike 10 = .ok (.invokevirtual 234, 3) := by decide +kernel
theorem dX10_unlike_13 : decode cX10_unlike 13 = .ok (.ifCond .eq 12, 3) := by decide +kernel
theorem dX10_unlike_16 : decode cX10_unlike 16 = .ok (.aload_n 0, 1) := by decide +kernel
theorem dX10_unlike_17 : decode cX10_unlike 17 = .ok (.iload_n 1, 1) := by decide +kernel
theorem dX10_unlike_18 : decode cX10_unlike 18 = .ok (.iload_n 2, 1) := by decide +kernel
theorem dX10_unlike_19 : decode cX10_unlike 19 = .ok (.invokevirtual 237, 3) := by decide +kernel
theorem dX10_unlike_22 : decode cX10_unlike 22 = .ok (.goto 4, 3) := by decide +kernel
theorem dX10_unlike_25 : decode cX10_unlike 25 = .ok (.iconst (-1), 1) := by decide +kernel
theorem dX10_unlike_26 : decode cX10_unlike 26 = .ok (.ireturn, 1) := by decide +kernel
def f_X10_unlike (h : Hp) (a0 : Nat) (a1 : Int32) (a2 : Int32) : Option (Int32 × Hp) :=
gd (okOb h a0 10) <|
bnd (f_X10_isBook h a0 a1) fun v2 h3 =>
if v2 = 0 then (
some ((-1 : Int32), h3)) else (
bnd (f_X10_isBook h3 a0 a2) fun v5 h6 =>
if v5 = 0 then (
some ((-1 : Int32), h6)) else (
bnd (f_X10_apart h6 a0 a1 a2) fun v8 h9 =>
some (v8, h9)))
set_option maxHeartbeats 4000000 in
set_option maxRecDepth 100000 in
theorem t_X10_unlike {X : Cx} {d : Nat} {h : Hp} {a0 : Nat} {a1 : Int32} {a2 : Int32} {v : Int32} {h' : Hp} (hD : 4 ≤ d) (H : f_X10_unlike h a0 a1 a2 = some (v, h')) : PM X mX10_unlike d [.ref a0, .int a1, .int a2] h (some (.int v)) h' := by
  unfold f_X10_unlike at H
  refine PM.of (loc := [some (.ref a0), some (.int a1), some (.int a2)]) (by decide) rfl (Nat.le_of_ble_eq_true rfl) ?_
  refine ev_aload_n dX10_unlike_0 rfl rfl rfl ?_
  refine ev_iload_n dX10_unlike_1 rfl rfl ?_
  replace H := gd_some H
  obtain ⟨g1, H⟩ := H
  replace H := bnd_some H
  obtain ⟨v2, h3, eh3, H⟩ := H
  have ph3 := (t_X10_isBook (X := X) (d := 3) (by omega) eh3)
  refine ev_callV (as := [.int a1]) dX10_unlike_2 ph3 ok_X10_isBook (by omega) rfl k5_232 k5_234 ks_39 (ci := 10) (by decide) rfl rfl (okOb.p g1) rfl (Nat.le_of_ble_eq_true rfl) ?_
  refine ev_if_eq (tgt := 25) dX10_unlike_5 (by decide) (fun c4 => ?_) (fun c4 => ?_)
  · rw [if_pos c4] at H
    refine ev_iconst (v := (-1 : Int32)) dX10_unlike_25 (by decide) ?_
    exact ev_iretx dX10_unlike_26 rfl rfl H
  · rw [if_neg c4] at H
    refine ev_aload_n dX10_unlike_8 rfl rfl rfl ?_
    refine ev_iload_n dX10_unlike_9 rfl rfl ?_
    replace H := bnd_some H
    obtain ⟨v5, h6, eh6, H⟩ := H
    have ph6 := (t_X10_isBook (X := X) (d := 3) (by omega) eh6)
    refine ev_callV (as := [.int a2]) dX10_unlike_10 ph6 ok_X10_isBook (by omega) rfl k5_232 k5_234 ks_39 (ci := 10) (by decide) rfl rfl (okO_ext ph3.1 (okOb.p g1)) rfl (Nat.le_of_ble_eq_true rfl) ?_
    refine ev_if_eq (tgt := 25) dX10_unlike_13 (by decide) (fun c7 => ?_) (fun c7 => ?_)
    · rw [if_pos c7] at H
      refine ev_iconst (v := (-1 : Int32)) dX10_unlike_25 (by decide) ?_
      exact ev_iretx dX10_unlike_26 rfl rfl H
    · rw [if_neg c7] at H
      refine ev_aload_n dX10_unlike_16 rfl rfl rfl ?_
      refine ev_iload_n dX10_unlike_17 rfl rfl ?_
      refine ev_iload_n dX10_unlike_18 rfl rfl ?_
      replace H := bnd_some H
      obtain ⟨v8, h9, eh9, H⟩ := H
      have ph9 := (t_X10_apart (X := X) (d := 3) (by omega) eh9)
      refine ev_callV (as := [.int a1, .int a2]) dX10_unlike_19 ph9 ok_X10_apart (by omega) rfl k6_8 k6_10 ks_41 (ci := 10) (by decide) rfl rfl (okO_ext ph6.1 (okO_ext ph3.1 (okOb.p g1))) rfl (Nat.le_of_ble_eq_true rfl) ?_
      refine ev_goto (tgt := 26) dX10_unlike_22 (by decide) ?_
      exact ev_iretx dX10_unlike_26 rfl rfl H

theorem dX10_kinds_0 : decode cX10_kinds 0 = .ok (.iconst 0, 1) := by decide +kernel
theorem dX10_kinds_1 : decode cX10_kinds 1 = .ok (.istore_n 1, 1) := by decide +kernel
theorem dX10_kinds_2 : decode cX10_kinds 2 = .ok (.iconst 0, 1) := by decide +kernel
theorem dX10_kinds_3 : decode cX10_kinds 3 = .ok (.istore_n 2, 1) := by decide +kernel
theorem dX10_kinds_4 : decode cX10_kinds 4 = .ok (.iload_n 2, 1) := by decide +kernel
theorem dX10_kinds_5 : decode cX10_kinds 5 = .ok (.bipush 60, 2) := by decide +kernel
theorem dX10_kinds_7 : decode cX10_kinds 7 = .ok (.if_icmp .ge 71, 3) := by decide +kernel
theorem dX10_kinds_10 : decode cX10_kinds 10 = .ok (.aload_n 0, 1) := by decide +kernel
theorem dX10_kinds_11 : decode cX10_kinds 11 = .ok (.iload_n 2, 1) := by decide +kernel
theorem dX10_kinds_12 : decode cX10_kinds 12 = .ok (.invokevirtual 234, 3) := by decide +kernel
theorem dX10_kinds_15 : decode cX10_kinds 15 = .ok (.istore_n 3, 1) := by decide +kernel
theorem dX10_kinds_16 : decode cX10_kinds 16 = .ok (.iconst 0, 1) := by decide +kernel
theorem dX10_kinds_17 : decode cX10_kinds 17 = .ok (.istore 4, 2) := by decide +kernel
theorem dX10_kinds_19 : decode cX10_kinds 19 = .ok (.iload 4, 2) := by decide +kernel
theorem dX10_kinds_21 : decode cX10_kinds 21 = .ok (.iload_n 2, 1) := by decide +kernel
theorem dX10_kinds_22 : decode cX10_kinds 22 = .ok (.if_icmp .ge 38, 3) := by decide +kernel
theorem dX10_kinds_25 : decode cX10_kinds 25 = .ok (.iload_n 3, 1) := by decide +kernel
theorem dX10_kinds_26 : decode cX10_kinds 26 = .ok (.ifCond .eq 34, 3) := by decide +kernel
theorem dX10_kinds_29 : decode cX10_kinds 29 = .ok (.aload_n 0, 1) := by decide +kernel
theorem dX10_kinds_30 : decode cX10_kinds 30 = .ok (.iload 4, 2) := by decide +kernel
theorem dX10_kinds_32 : decode cX10_kinds 32 = .ok (.invokevirtual 234, 3) := by decide +kernel
theorem dX10_kinds_35 : decode cX10_kinds 35 = .ok (.ifCond .eq 13, 3) := by decide +kernel
theorem dX10_kinds_38 : decode cX10_kinds 38 = .ok (.aload_n 0, 1) := by decide +kernel
theorem dX10_kinds_39 : decode cX10_kinds 39 = .ok (.iload_n 2, 1) := by decide +kernel
theorem dX10_kinds_40 : decode cX10_kinds 40 = .ok (.iload 4, 2) := by decide +kernel
theorem dX10_kinds_42 : decode cX10_kinds 42 = .ok (.invokevirtual 237, 3) := by decide +kernel
theorem dX10_kinds_45 : decode cX10_kinds 45 = .ok (.ifCond .le 7, 3) := by decide +kernel
theorem dX10_kinds_48 : decode cX10_kinds 48 = .ok (.iconst 1, 1) := by decide +kernel
theorem dX10_kinds_49 : decode cX10_kinds 49 = .ok (.goto 4, 3) := by decide +kernel
theorem dX10_kinds_52 : decode cX10_kinds 52 = .ok (.iconst 0, 1) := by decide +kernel
theorem dX10_kinds_53 : decode cX10_kinds 53 = .ok (.istore_n 3, 1) := by decide +kernel
theorem dX10_kinds_54 : decode cX10_kinds 54 = .ok (.iinc 4 1, 3) := by decide +kernel
theorem dX10_kinds_57 : decode cX10_kinds 57 = .ok (.goto (-38), 3) := by decide +kernel
theorem dX10_kinds_60 : decode cX10_kinds 60 = .ok (.iload_n 1, 1) := by decide +kernel
theorem dX10_kinds_61 : decode cX10_kinds 61 = .ok (.iload_n 3, 1) := by decide +kernel
theorem dX10_kinds_62 : decode cX10_kinds 62 = .ok (.ifCond .eq 7, 3) := by decide +kernel
theorem dX10_kinds_65 : decode cX10_kinds 65 = .ok (.iconst 1, 1) := by decide +kernel
theorem dX10_kinds_66 : decode cX10_kinds 66 = .ok (.goto 4, 3) := by decide +kernel
theorem dX10_kinds_69 : decode cX10_kinds 69 = .ok (.iconst 0, 1) := by decide +kernel
theorem dX10_kinds_70 : decode cX10_kinds 70 = .ok (.iadd, 1) := by decide +kernel
theorem dX10_kinds_71 : decode cX10_kinds 71 = .ok (.istore_n 1, 1) := by decide +kernel
theorem dX10_kinds_72 : decode cX10_kinds 72 = .ok (.iinc 2 1, 3) := by decide +kernel
theorem dX10_kinds_75 : decode cX10_kinds 75 = .ok (.goto (-71), 3) := by decide +kernel
theorem dX10_kinds_78 : decode cX10_kinds 78 = .ok (.iload_n 1, 1) := by decide +kernel
theorem dX10_kinds_79 : decode cX10_kinds 79 = .ok (.ireturn, 1) := by decide +kernel
def f_X10_kinds_L19 (k60 : Nat → Int32 → Int32 → Int32 → Int32 → Hp → Option (Int32 × Hp)) : Nat → Nat → Int32 → Int32 → Int32 → Int32 → Hp → Option (Int32 × Hp)
  | 0, _, _, _, _, _, _ => none
  | n + 1, l0, l1, l2, l3, l4, h =>
    if l2 ≤ l4 then (
    k60 l0 l1 l2 l3 l4 h) else (
    if l3 = 0 then (
    k60 l0 l1 l2 l3 l4 h) else (
    gd (okOb h l0 10) <|
    bnd (f_X10_isBook h l0 l4) fun v8 h9 =>
    if v8 = 0 then (
    vl (l4 + (1 : Int32)) fun x11 =>
    f_X10_kinds_L19 k60 n l0 l1 l2 (1 : Int32) x11 h9) else (
    bnd (f_X10_apart h9 l0 l2 l4) fun v12 h13 =>
    if v12 ≤ 0 then (
    vl (l4 + (1 : Int32)) fun x15 =>
    f_X10_kinds_L19 k60 n l0 l1 l2 (0 : Int32) x15 h13) else (
    vl (l4 + (1 : Int32)) fun x16 =>
    f_X10_kinds_L19 k60 n l0 l1 l2 (1 : Int32) x16 h13))))
set_option maxHeartbeats 4000000 in
set_option maxRecDepth 100000 in
theorem t_X10_kinds_L19 {X : Cx} {d : Nat} {h0 h' : Hp} {v : Int32} {k60 : Nat → Int32 → Int32 → Int32 → Int32 → Hp → Option (Int32 × Hp)} (hD : 4 ≤ d) (hk60 : ∀ (z0 : Nat) (z1 : Int32) (z2 : Int32) (z3 : Int32) (z4 : Int32) (h : Hp), k60 z0 z1 z2 z3 z4 h = some (v, h') → EV X mX10_kinds d h0 (some (.int v)) h' 60 [some (.ref z0), some (.int z1), some (.int z2), some (.int z3), some (.int z4)] [] h) : ∀ (n : Nat) (l0 : Nat) (l1 : Int32) (l2 : Int32) (l3 : Int32) (l4 : Int32) (h : Hp), f_X10_kinds_L19 k60 n l0 l1 l2 l3 l4 h = some (v, h') → EV X mX10_kinds d h0 (some (.int v)) h' 19 [some (.ref l0), some (.int l1), some (.int l2), some (.int l3), some (.int l4)] [] h := by
  intro n
  induction n with
  | zero => intro l0 l1 l2 l3 l4 h H; simp [f_X10_kinds_L19] at H
  | succ n ih =>
    intro l0 l1 l2 l3 l4 h H
    rw [f_X10_kinds_L19] at H
    refine ev_iload dX10_kinds_19 rfl ?_
    refine ev_iload_n dX10_kinds_21 rfl rfl ?_
    refine ev_icmp_ge (tgt := 60) dX10_kinds_22 (by decide) (fun c5 => ?_) (fun c5 => ?_)
    · rw [if_pos c5] at H
      exact hk60 l0 l1 l2 l3 l4 h H
    · rw [if_neg c5] at H
      refine ev_iload_n dX10_kinds_25 rfl rfl ?_
      refine ev_if_eq (tgt := 60) dX10_kinds_26 (by decide) (fun c6 => ?_) (fun c6 => ?_)
      · rw [if_pos c6] at H
        exact hk60 l0 l1 l2 l3 l4 h H
      · rw [if_neg c6] at H
        refine ev_aload_n dX10_kinds_29 rfl rfl rfl ?_
        refine ev_iload dX10_kinds_30 rfl ?_
        replace H := gd_some H
        obtain ⟨g7, H⟩ := H
        replace H := bnd_some H
        obtain ⟨v8, h9, eh9, H⟩ := H
        have ph9 := (t_X10_isBook (X := X) (d := 3) (by omega) eh9)
        refine ev_callV (as := [.int l4]) dX10_kinds_32 ph9 ok_X10_isBook (by omega) rfl k5_232 k5_234 ks_39 (ci := 10) (by decide) rfl rfl (okOb.p g7) rfl (Nat.le_of_ble_eq_true rfl) ?_
        refine ev_if_eq (tgt := 48) dX10_kinds_35 (by decide) (fun c10 => ?_) (fun c10 => ?_)
        · rw [if_pos c10] at H
          refine ev_iconst (v := (1 : Int32)) dX10_kinds_48 (by decide) ?_
          refine ev_goto (tgt := 53) dX10_kinds_49 (by decide) ?_
          refine ev_istore_n (loc2 := [some (.ref l0), some (.int l1), some (.int l2), some (.int (1 : Int32)), some (.int l4)]) dX10_kinds_53 rfl (by decide) rfl ?_
          replace H := vl_some H
          obtain ⟨x11, ex11, H⟩ := H
          refine ev_iincx (loc2 := [some (.ref l0), some (.int l1), some (.int l2), some (.int (1 : Int32)), some (.int x11)]) dX10_kinds_54 rfl (by decide) ex11 (by decide) rfl ?_
          refine ev_goto (tgt := 19) dX10_kinds_57 (by decide) ?_
          exact ih l0 l1 l2 (1 : Int32) x11 h9 H
        · rw [if_neg c10] at H
          refine ev_aload_n dX10_kinds_38 rfl rfl rfl ?_
          refine ev_iload_n dX10_kinds_39 rfl rfl ?_
          refine ev_iload dX10_kinds_40 rfl ?_
          replace H := bnd_some H
          obtain ⟨v12, h13, eh13, H⟩ := H
          have ph13 := (t_X10_apart (X := X) (d := 3) (by omega) eh13)
          refine ev_callV (as := [.int l2, .int l4]) dX10_kinds_42 ph13 ok_X10_apart (by omega) rfl k6_8 k6_10 ks_41 (ci := 10) (by decide) rfl rfl (okO_ext ph9.1 (okOb.p g7)) rfl (Nat.le_of_ble_eq_true rfl) ?_
          refine ev_if_le (tgt := 52) dX10_kinds_45 (by decide) (fun c14 => ?_) (fun c14 => ?_)
          · rw [if_pos c14] at H
            refine ev_iconst (v := (0 : Int32)) dX10_kinds_52 (by decide) ?_
            refine ev_istore_n (loc2 := [some (.ref l0), some (.int l1), some (.int l2), some (.int (0 : Int32)), some (.int l4)]) dX10_kinds_53 rfl (by decide) rfl ?_
            replace H := vl_some H
            obtain ⟨x15, ex15, H⟩ := H
            refine ev_iincx (loc2 := [some (.ref l0), some (.int l1), some (.int l2), some (.int (0 : Int32)), some (.int x15)]) dX10_kinds_54 rfl (by decide) ex15 (by decide) rfl ?_
            refine ev_goto (tgt := 19) dX10_kinds_57 (by decide) ?_
            exact ih l0 l1 l2 (0 : Int32) x15 h13 H
          · rw [if_neg c14] at H
            refine ev_iconst (v := (1 : Int32)) dX10_kinds_48 (by decide) ?_
            refine ev_goto (tgt := 53) dX10_kinds_49 (by decide) ?_
            refine ev_istore_n (loc2 := [some (.ref l0), some (.int l1), some (.int l2), some (.int (1 : Int32)), some (.int l4)]) dX10_kinds_53 rfl (by decide) rfl ?_
            replace H := vl_some H
            obtain ⟨x16, ex16, H⟩ := H
            refine ev_iincx (loc2 := [some (.ref l0), some (.int l1), some (.int l2), some (.int (1 : Int32)), some (.int x16)]) dX10_kinds_54 rfl (by decide) ex16 (by decide) rfl ?_
            refine ev_goto (tgt := 19) dX10_kinds_57 (by decide) ?_
            exact ih l0 l1 l2 (1 : Int32) x16 h13 H
def f_X10_kinds_L4 : Nat → Nat → Int32 → Int32 → Hp → Option (Int32 × Hp)
  | 0, _, _, _, _ => none
  | n + 1, l0, l1, l2, h =>
    if (60 : Int32) ≤ l2 then (
    some (l1, h)) else (
    gd (okOb h l0 10) <|
    bnd (f_X10_isBook h l0 l2) fun v3 h4 =>
    f_X10_kinds_L19 (fun y17 y18 y19 y20 y21 h22 =>
    if y20 = 0 then (
    vl (y18 + (0 : Int32)) fun x24 =>
    vl (y19 + (1 : Int32)) fun x25 =>
    f_X10_kinds_L4 n y17 x24 x25 h22) else (
    vl (y18 + (1 : Int32)) fun x26 =>
    vl (y19 + (1 : Int32)) fun x27 =>
    f_X10_kinds_L4 n y17 x26 x27 h22)) 6000 l0 l1 l2 v3 (0 : Int32) h4)
set_option maxHeartbeats 4000000 in
set_option maxRecDepth 100000 in
theorem t_X10_kinds_L4 {X : Cx} {d : Nat} {h0 h' : Hp} {v : Int32} (hD : 4 ≤ d) : ∀ (n : Nat) (l0 : Nat) (l1 : Int32) (l2 : Int32) (h : Hp), f_X10_kinds_L4 n l0 l1 l2 h = some (v, h') → EV X mX10_kinds d h0 (some (.int v)) h' 4 [some (.ref l0), some (.int l1), some (.int l2), none, none] [] h := by
  intro n
  induction n with
  | zero => intro l0 l1 l2 h H; simp [f_X10_kinds_L4] at H
  | succ n ih =>
    intro l0 l1 l2 h H
    rw [f_X10_kinds_L4] at H
    refine ev_iload_n dX10_kinds_4 rfl rfl ?_
    refine ev_bipush (v := (60 : Int32)) dX10_kinds_5 (by decide) ?_
    refine ev_icmp_ge (tgt := 78) dX10_kinds_7 (by decide) (fun c1 => ?_) (fun c1 => ?_)
    · rw [if_pos c1] at H
      refine ev_iload_n dX10_kinds_78 rfl rfl ?_
      exact ev_iretx dX10_kinds_79 rfl rfl H
    · rw [if_neg c1] at H
      refine ev_aload_n dX10_kinds_10 rfl rfl rfl ?_
      refine ev_iload_n dX10_kinds_11 rfl rfl ?_
      replace H := gd_some H
      obtain ⟨g2, H⟩ := H
      replace H := bnd_some H
      obtain ⟨v3, h4, eh4, H⟩ := H
      have ph4 := (t_X10_isBook (X := X) (d := 3) (by omega) eh4)
      refine ev_callV (as := [.int l2]) dX10_kinds_12 ph4 ok_X10_isBook (by omega) rfl k5_232 k5_234 ks_39 (ci := 10) (by decide) rfl rfl (okOb.p g2) rfl (Nat.le_of_ble_eq_true rfl) ?_
      refine ev_istore_n (loc2 := [some (.ref l0), some (.int l1), some (.int l2), some (.int v3), none]) dX10_kinds_15 rfl (by decide) rfl ?_
      refine ev_iconst (v := (0 : Int32)) dX10_kinds_16 (by decide) ?_
      refine ev_istore (loc2 := [some (.ref l0), some (.int l1), some (.int l2), some (.int v3), some (.int (0 : Int32))]) dX10_kinds_17 (by decide) rfl ?_
      refine t_X10_kinds_L19 hD ?_ 6000 l0 l1 l2 v3 (0 : Int32) h4 H
      · intro y17 y18 y19 y20 y21 h22 H
        refine ev_iload_n dX10_kinds_60 rfl rfl ?_
        refine ev_iload_n dX10_kinds_61 rfl rfl ?_
        refine ev_if_eq (tgt := 69) dX10_kinds_62 (by decide) (fun c23 => ?_) (fun c23 => ?_)
        · rw [if_pos c23] at H
          refine ev_iconst (v := (0 : Int32)) dX10_kinds_69 (by decide) ?_
          refine ev_iadd dX10_kinds_70 ?_
          replace H := vl_some H
          obtain ⟨x24, ex24, H⟩ := H
          refine ev_istore_nx (loc2 := [some (.ref y17), some (.int x24), some (.int y19), some (.int y20), some (.int y21)]) dX10_kinds_71 rfl (by decide) ex24 rfl ?_
          replace H := vl_some H
          obtain ⟨x25, ex25, H⟩ := H
          refine ev_iincx (loc2 := [some (.ref y17), some (.int x24), some (.int x25), some (.int y20), some (.int y21)]) dX10_kinds_72 rfl (by decide) ex25 (by decide) rfl ?_
          refine ev_goto (tgt := 4) dX10_kinds_75 (by decide) ?_
          refine ev_drop (loc2 := [some (.ref y17), some (.int x24), some (.int x25), none, none]) [true, true, true, false, false] rfl ?_
          exact ih y17 x24 x25 h22 H
        · rw [if_neg c23] at H
          refine ev_iconst (v := (1 : Int32)) dX10_kinds_65 (by decide) ?_
          refine ev_goto (tgt := 70) dX10_kinds_66 (by decide) ?_
          refine ev_iadd dX10_kinds_70 ?_
          replace H := vl_some H
          obtain ⟨x26, ex26, H⟩ := H
          refine ev_istore_nx (loc2 := [some (.ref y17), some (.int x26), some (.int y19), some (.int y20), some (.int y21)]) dX10_kinds_71 rfl (by decide) ex26 rfl ?_
          replace H := vl_some H
          obtain ⟨x27, ex27, H⟩ := H
          refine ev_iincx (loc2 := [some (.ref y17), some (.int x26), some (.int x27), some (.int y20), some (.int y21)]) dX10_kinds_72 rfl (by decide) ex27 (by decide) rfl ?_
          refine ev_goto (tgt := 4) dX10_kinds_75 (by decide) ?_
          refine ev_drop (loc2 := [some (.ref y17), some (.int x26), some (.int x27), none, none]) [true, true, true, false, false] rfl ?_
          exact ih y17 x26 x27 h22 H
def f_X10_kinds (h : Hp) (a0 : Nat) : Option (Int32 × Hp) :=
f_X10_kinds_L4 6000 a0 (0 : Int32) (0 : Int32) h
set_option maxHeartbeats 4000000 in
set_option maxRecDepth 100000 in
theorem t_X10_kinds {X : Cx} {d : Nat} {h : Hp} {a0 : Nat} {v : Int32} {h' : Hp} (hD : 4 ≤ d) (H : f_X10_kinds h a0 = some (v, h')) : PM X mX10_kinds d [.ref a0] h (some (.int v)) h' := by
  unfold f_X10_kinds at H
  refine PM.of (loc := [some (.ref a0), none, none, none, none]) (by decide) rfl (Nat.le_of_ble_eq_true rfl) ?_
  refine ev_iconst (v := (0 : Int32)) dX10_kinds_0 (by decide) ?_
  refine ev_istore_n (loc2 := [some (.ref a0), some (.int (0 : Int32)), none, none, none]) dX10_kinds_1 rfl (by decide) rfl ?_
  refine ev_iconst (v := (0 : Int32)) dX10_kinds_2 (by decide) ?_
  refine ev_istore_n (loc2 := [some (.ref a0), some (.int (0 : Int32)), some (.int (0 : Int32)), none, none]) dX10_kinds_3 rfl (by decide) rfl ?_
  refine t_X10_kinds_L4 hD  6000 a0 (0 : Int32) (0 : Int32) h H

theorem dX10_exchanges_0 : decode cX10_exchanges 0 = .ok (.aload_n 0, 1) := by decide +kernel
theorem dX10_exchanges_1 : decode cX10_exchanges 1 = .ok (.getfield 98, 3) := by decide +kernel
theorem dX10_exchanges_4 : decode cX10_exchanges 4 = .ok (.iload_n 1, 1) := by decide +kernel
theorem dX10_exchanges_5 : decode cX10_exchanges 5 = .ok (.iaload, 1) := by decide +kernel
theorem dX10_exchanges_6 : decode cX10_exchanges 6 = .ok (.istore_n 3, 1) := by decide +kernel
theorem dX10_exchanges_7 : decode cX10_exchanges 7 = .ok (.aload_n 0, 1) := by decide +kernel
theorem dX10_exchanges_8 : decode cX10_exchanges 8 = .ok (.getfield 98, 3) := by decide +kernel
theorem dX10_exchanges_11 : decode cX10_exchanges 11 = .ok (.iload_n 1, 1) := by decide +kernel
theorem dX10_exchanges_12 : decode cX10_exchanges 12 = .ok (.aload_n 0, 1) := by decide +kernel
theorem dX10_exchanges_13 : decode cX10_exchanges 13 = .ok (.getfield 98, 3) := by decide +kernel
theorem dX10_exchanges_16 : decode cX10_exchanges 16 = .ok (.iload_n 2, 1) := by decide +kernel
theorem dX10_exchanges_17 : decode cX10_exchanges 17 = .ok (.iaload, 1) := by decide +kernel
theorem dX10_exchanges_18 : decode cX10_exchanges 18 = .ok (.iastore, 1) := by decide +kernel
theorem dX10_exchanges_19 : decode cX10_exchanges 19 = .ok (.aload_n 0, 1) := by decide +kernel
theorem dX10_exchanges_20 : decode cX10_exchanges 20 = .ok (.getfield 98, 3) := by decide +kernel
theorem dX10_exchanges_23 : decode cX10_exchanges 23 = .ok (.iload_n 2, 1) := by decide +kernel
theorem dX10_exchanges_24 : decode cX10_exchanges 24 = .ok (.iload_n 3, 1) := by decide +kernel
theorem dX10_exchanges_25 : decode cX10_exchanges 25 = .ok (.iastore, 1) := by decide +kernel
theorem dX10_exchanges_26 : decode cX10_exchanges 26 = .ok (.return_, 1) := by decide +kernel
def f_X10_exchanges (h : Hp) (a0 : Nat) (a1 : Int32) (a2 : Int32) : Option (Unit × Hp) :=
gd (okOb h a0 10) <|
vl (gR h a0 33) fun r2 =>
un r2 fun b3 =>
gd (okAb h b3 11 a1) <|
vl (gI h b3 a1.toNatClampNeg) fun x5 =>
vl (gR h a0 33) fun r6 =>
vl (gR h a0 33) fun r7 =>
un r7 fun b8 =>
gd (okAb h b8 11 a2) <|
vl (gI h b8 a2.toNatClampNeg) fun x10 =>
un r6 fun b11 =>
gd (okAb h b11 11 a1) <|
vl (sI h b11 a1.toNatClampNeg x10) fun h13 =>
vl (gR h13 a0 33) fun r14 =>
un r14 fun b15 =>
gd (okAb h13 b15 11 a2) <|
vl (sI h13 b15 a2.toNatClampNeg x5) fun h17 =>
some ((), h17)
set_option maxHeartbeats 4000000 in
set_option maxRecDepth 100000 in
theorem t_X10_exchanges {X : Cx} {d : Nat} {h : Hp} {a0 : Nat} {a1 : Int32} {a2 : Int32} {v : Unit} {h' : Hp} (hD : 1 ≤ d) (H : f_X10_exchanges h a0 a1 a2 = some (v, h')) : PM X mX10_exchanges d [.ref a0, .int a1, .int a2] h (none) h' := by
  unfold f_X10_exchanges at H
  refine PM.of (loc := [some (.ref a0), some (.int a1), some (.int a2), none]) (by decide) rfl (Nat.le_of_ble_eq_true rfl) ?_
  refine ev_aload_n dX10_exchanges_0 rfl rfl rfl ?_
  replace H := gd_some H
  obtain ⟨g1, H⟩ := H
  replace H := vl_some H
  obtain ⟨r2, er2, H⟩ := H
  refine ev_getRx dX10_exchanges_1 fgX10_98 rfl (okOb.p g1) er2 ?_
  refine ev_iload_n dX10_exchanges_4 rfl rfl ?_
  replace H := un_some H
  obtain ⟨b3, eb3, H⟩ := H
  subst eb3
  replace H := gd_some H
  obtain ⟨g4, H⟩ := H
  replace H := vl_some H
  obtain ⟨x5, ex5, H⟩ := H
  refine ev_ialdx dX10_exchanges_5 (okAb.p g4) ex5 ?_
  refine ev_istore_n (loc2 := [some (.ref a0), some (.int a1), some (.int a2), some (.int x5)]) dX10_exchanges_6 rfl (by decide) rfl ?_
  refine ev_aload_n dX10_exchanges_7 rfl rfl rfl ?_
  replace H := vl_some H
  obtain ⟨r6, er6, H⟩ := H
  refine ev_getRx dX10_exchanges_8 fgX10_98 rfl (okOb.p g1) er6 ?_
  refine ev_iload_n dX10_exchanges_11 rfl rfl ?_
  refine ev_aload_n dX10_exchanges_12 rfl rfl rfl ?_
  replace H := vl_some H
  obtain ⟨r7, er7, H⟩ := H
  refine ev_getRx dX10_exchanges_13 fgX10_98 rfl (okOb.p g1) er7 ?_
  refine ev_iload_n dX10_exchanges_16 rfl rfl ?_
  replace H := un_some H
  obtain ⟨b8, eb8, H⟩ := H
  subst eb8
  replace H := gd_some H
  obtain ⟨g9, H⟩ := H
  replace H := vl_some H
  obtain ⟨x10, ex10, H⟩ := H
  refine ev_ialdx dX10_exchanges_17 (okAb.p g9) ex10 ?_
  replace H := un_some H
  obtain ⟨b11, eb11, H⟩ := H
  subst eb11
  replace H := gd_some H
  obtain ⟨g12, H⟩ := H
  replace H := vl_some H
  obtain ⟨h13, eh13, H⟩ := H
  refine ev_iast dX10_exchanges_18 (okAb.p g12) eh13 ?_
  refine ev_aload_n dX10_exchanges_19 rfl rfl rfl ?_
  replace H := vl_some H
  obtain ⟨r14, er14, H⟩ := H
  refine ev_getRx dX10_exchanges_20 fgX10_98 rfl (okO_sI eh13 (okOb.p g1)) er14 ?_
  refine ev_iload_n dX10_exchanges_23 rfl rfl ?_
  refine ev_iload_n dX10_exchanges_24 rfl rfl ?_
  replace H := un_some H
  obtain ⟨b15, eb15, H⟩ := H
  subst eb15
  replace H := gd_some H
  obtain ⟨g16, H⟩ := H
  replace H := vl_some H
  obtain ⟨h17, eh17, H⟩ := H
  refine ev_iast dX10_exchanges_25 (okAb.p g16) eh17 ?_
  exact ev_vretx dX10_exchanges_26 rfl H

theorem dX10_next_0 : decode cX10_next 0 = .ok (.iload_n 1, 1) := by decide +kernel
theorem dX10_next_1 : decode cX10_next 1 = .ok (.iconst 2, 1) := by decide +kernel
theorem dX10_next_2 : decode cX10_next 2 = .ok (.isub, 1) := by decide +kernel
theorem dX10_next_3 : decode cX10_next 3 = .ok (.istore_n 2, 1) := by decide +kernel
theorem dX10_next_4 : decode cX10_next 4 = .ok (.iload_n 2, 1) := by decide +kernel
theorem dX10_next_5 : decode cX10_next 5 = .ok (.ifCond .lt 26, 3) := by decide +kernel
theorem dX10_next_8 : decode cX10_next 8 = .ok (.aload_n 0, 1) := by decide +kernel
theorem dX10_next_9 : decode cX10_next 9 = .ok (.getfield 98, 3) := by decide +kernel
theorem dX10_next_12 : decode cX10_next 12 = .ok (.iload_n 2, 1) := by decide +kernel
theorem dX10_next_13 : decode cX10_next 13 = .ok (.iaload, 1) := by decide +kernel
theorem dX10_next_14 : decode cX10_next 14 = .ok (.aload_n 0, 1) := by decide +kernel
theorem dX10_next_15 : decode cX10_next 15 = .ok (.getfield 98, 3) := by decide +kernel
theorem dX10_next_18 : decode cX10_next 18 = .ok (.iload_n 2, 1) := by decide +kernel
theorem dX10_next_19 : decode cX10_next 19 = .ok (.iconst 1, 1) := by decide +kernel
theorem dX10_next_20 : decode cX10_next 20 = .ok (.iadd, 1) := by decide +kernel
theorem dX10_next_21 : decode cX10_next 21 = .ok (.iaload, 1) := by decide +kernel
theorem dX10_next_22 : decode cX10_next 22 = .ok (.if_icmp .le 9, 3) := by decide +kernel
theorem dX10_next_25 : decode cX10_next 25 = .ok (.iinc 2 (-1), 3) := by decide +kernel
theorem dX10_next_28 : decode cX10_next 28 = .ok (.goto (-24), 3) := by decide +kernel
theorem dX10_next_31 : decode cX10_next 31 = .ok (.iload_n 2, 1) := by decide +kernel
theorem dX10_next_32 : decode cX10_next 32 = .ok (.ifCond .ge 5, 3) := by decide +kernel
theorem dX10_next_35 : decode cX10_next 35 = .ok (.iconst 0, 1) := by decide +kernel
theorem dX10_next_36 : decode cX10_next 36 = .ok (.ireturn, 1) := by decide +kernel
theorem dX10_next_37 : decode cX10_next 37 = .ok (.iload_n 1, 1) := by decide +kernel
theorem dX10_next_38 : decode cX10_next 38 = .ok (.iconst 1, 1) := by decide +kernel
theorem dX10_next_39 : decode cX10_next 39 = .ok (.isub, 1) := by decide +kernel
theorem dX10_next_40 : decode cX10_next 40 = .ok (.istore_n 3, 1) := by decide +kernel
theorem dX10_next_41 : decode cX10_next 41 = .ok (.aload_n 0, 1) := by decide +kernel
theorem dX10_next_42 : decode cX10_next 42 = .ok (.getfield 98, 3) := by decide +kernel
theorem dX10_next_45 : decode cX10_next 45 = .ok (.iload_n 3, 1) := by decide +kernel
theorem dX10_next_46 : decode cX10_next 46 = .ok (.iaload, 1) := by decide +kernel
theorem dX10_next_47 : decode cX10_next 47 = .ok (.aload_n 0, 1) := by decide +kernel
theorem dX10_next_48 : decode cX10_next 48 = .ok (.getfield 98, 3) := by decide +kernel
theorem dX10_next_51 : decode cX10_next 51 = .ok (.iload_n 2, 1) := by decide +kernel
theorem dX10_next_52 : decode cX10_next 52 = .ok (.iaload, 1) := by decide +kernel
theorem dX10_next_53 : decode cX10_next 53 = .ok (.if_icmp .ge 9, 3) := by decide +kernel
theorem dX10_next_56 : decode cX10_next 56 = .ok (.iinc 3 (-1), 3) := by decide +kernel
theorem dX10_next_59 : decode cX10_next 59 = .ok (.goto (-18), 3) := by decide +kernel
theorem dX10_next_62 : decode cX10_next 62 = .ok (.aload_n 0, 1) := by decide +kernel
theorem dX10_next_63 : decode cX10_next 63 = .ok (.iload_n 2, 1) := by decide +kernel
theorem dX10_next_64 : decode cX10_next 64 = .ok (.iload_n 3, 1) := by decide +kernel
theorem dX10_next_65 : decode cX10_next 65 = .ok (.invokevirtual 240, 3) := by decide +kernel
theorem dX10_next_68 : decode cX10_next 68 = .ok (.iload_n 1, 1) := by decide +kernel
theorem dX10_next_69 : decode cX10_next 69 = .ok (.iconst 1, 1) := by decide +kernel
theorem dX10_next_70 : decode cX10_next 70 = .ok (.isub, 1) := by decide +kernel
theorem dX10_next_71 : decode cX10_next 71 = .ok (.istore 4, 2) := by decide +kernel
theorem dX10_next_73 : decode cX10_next 73 = .ok (.iload_n 2, 1) := by decide +kernel
theorem dX10_next_74 : decode cX10_next 74 = .ok (.iconst 1, 1) := by decide +kernel
theorem dX10_next_75 : decode cX10_next 75 = .ok (.iadd, 1) := by decide +kernel
theorem dX10_next_76 : decode cX10_next 76 = .ok (.istore 5, 2) := by decide +kernel
theorem dX10_next_78 : decode cX10_next 78 = .ok (.iload 5, 2) := by decide +kernel
theorem dX10_next_80 : decode cX10_next 80 = .ok (.iload 4, 2) := by decide +kernel
theorem dX10_next_82 : decode cX10_next 82 = .ok (.if_icmp .ge 20, 3) := by decide +kernel
theorem dX10_next_85 : decode cX10_next 85 = .ok (.aload_n 0, 1) := by decide +kernel
theorem dX10_next_86 : decode cX10_next 86 = .ok (.iload 5, 2) := by decide +kernel
theorem dX10_next_88 : decode cX10_next 88 = .ok (.iload 4, 2) := by decide +kernel
theorem dX10_next_90 : decode cX10_next 90 = .ok (.invokevirtual 240, 3) := by decide +kernel
theorem dX10_next_93 : decode cX10_next 93 = .ok (.iinc 4 (-1), 3) := by decide +kernel
theorem dX10_next_96 : decode cX10_next 96 = .ok (.iinc 5 1, 3) := by decide +kernel
theorem dX10_next_99 : decode cX10_next 99 = .ok (.goto (-21), 3) := by decide +kernel
theorem dX10_next_102 : decode cX10_next 102 = .ok (.iconst 1, 1) := by decide +kernel
theorem dX10_next_103 : decode cX10_next 103 = .ok (.ireturn, 1) := by decide +kernel
def f_X10_next_L4 (k31 : Nat → Int32 → Int32 → Hp → Option (Int32 × Hp)) : Nat → Nat → Int32 → Int32 → Hp → Option (Int32 × Hp)
  | 0, _, _, _, _ => none
  | n + 1, l0, l1, l2, h =>
    if l2 < 0 then (
    k31 l0 l1 l2 h) else (
    gd (okOb h l0 10) <|
    vl (gR h l0 33) fun r4 =>
    un r4 fun b5 =>
    gd (okAb h b5 11 l2) <|
    vl (gI h b5 l2.toNatClampNeg) fun x7 =>
    vl (gR h l0 33) fun r8 =>
    un r8 fun b9 =>
    gd (okAb h b9 11 (l2 + (1 : Int32))) <|
    vl (gI h b9 (l2 + (1 : Int32)).toNatClampNeg) fun x11 =>
    if x7 ≤ x11 then (
    k31 l0 l1 l2 h) else (
    vl (l2 + (-1 : Int32)) fun x13 =>
    f_X10_next_L4 k31 n l0 l1 x13 h))
set_option maxHeartbeats 4000000 in
set_option maxRecDepth 100000 in
theorem t_X10_next_L4 {X : Cx} {d : Nat} {h0 h' : Hp} {v : Int32} {k31 : Nat → Int32 → Int32 → Hp → Option (Int32 × Hp)} (hD : 2 ≤ d) (hk31 : ∀ (z0 : Nat) (z1 : Int32) (z2 : Int32) (h : Hp), k31 z0 z1 z2 h = some (v, h') → EV X mX10_next d h0 (some (.int v)) h' 31 [some (.ref z0), some (.int z1), some (.int z2), none, none, none] [] h) : ∀ (n : Nat) (l0 : Nat) (l1 : Int32) (l2 : Int32) (h : Hp), f_X10_next_L4 k31 n l0 l1 l2 h = some (v, h') → EV X mX10_next d h0 (some (.int v)) h' 4 [some (.ref l0), some (.int l1), some (.int l2), none, none, none] [] h := by
  intro n
  induction n with
  | zero => intro l0 l1 l2 h H; simp [f_X10_next_L4] at H
  | succ n ih =>
    intro l0 l1 l2 h H
    rw [f_X10_next_L4] at H
    refine ev_iload_n dX10_next_4 rfl rfl ?_
    refine ev_if_lt (tgt := 31) dX10_next_5 (by decide) (fun c2 => ?_) (fun c2 => ?_)
    · rw [if_pos c2] at H
      exact hk31 l0 l1 l2 h H
    · rw [if_neg c2] at H
      refine ev_aload_n dX10_next_8 rfl rfl rfl ?_
      replace H := gd_some H
      obtain ⟨g3, H⟩ := H
      replace H := vl_some H
      obtain ⟨r4, er4, H⟩ := H
      refine ev_getRx dX10_next_9 fgX10_98 rfl (okOb.p g3) er4 ?_
      refine ev_iload_n dX10_next_12 rfl rfl ?_
      replace H := un_some H
      obtain ⟨b5, eb5, H⟩ := H
      subst eb5
      replace H := gd_some H
      obtain ⟨g6, H⟩ := H
      replace H := vl_some H
      obtain ⟨x7, ex7, H⟩ := H
      refine ev_ialdx dX10_next_13 (okAb.p g6) ex7 ?_
      refine ev_aload_n dX10_next_14 rfl rfl rfl ?_
      replace H := vl_some H
      obtain ⟨r8, er8, H⟩ := H
      refine ev_getRx dX10_next_15 fgX10_98 rfl (okOb.p g3) er8 ?_
      refine ev_iload_n dX10_next_18 rfl rfl ?_
      refine ev_iconst (v := (1 : Int32)) dX10_next_19 (by decide) ?_
      refine ev_iadd dX10_next_20 ?_
      replace H := un_some H
      obtain ⟨b9, eb9, H⟩ := H
      subst eb9
      replace H := gd_some H
      obtain ⟨g10, H⟩ := H
      replace H := vl_some H
      obtain ⟨x11, ex11, H⟩ := H
      refine ev_ialdx dX10_next_21 (okAb.p g10) ex11 ?_
      refine ev_icmp_le (tgt := 31) dX10_next_22 (by decide) (fun c12 => ?_) (fun c12 => ?_)
      · rw [if_pos c12] at H
        exact hk31 l0 l1 l2 h H
      · rw [if_neg c12] at H
        replace H := vl_some H
        obtain ⟨x13, ex13, H⟩ := H
        refine ev_iincx (loc2 := [some (.ref l0), some (.int l1), some (.int x13), none, none, none]) dX10_next_25 rfl (by decide) ex13 (by decide) rfl ?_
        refine ev_goto (tgt := 4) dX10_next_28 (by decide) ?_
        exact ih l0 l1 x13 h H
def f_X10_next_L41 (k62 : Nat → Int32 → Int32 → Int32 → Hp → Option (Int32 × Hp)) : Nat → Nat → Int32 → Int32 → Int32 → Hp → Option (Int32 × Hp)
  | 0, _, _, _, _, _ => none
  | n + 1, l0, l1, l2, l3, h =>
    gd (okOb h l0 10) <|
    vl (gR h l0 33) fun r21 =>
    un r21 fun b22 =>
    gd (okAb h b22 11 l3) <|
    vl (gI h b22 l3.toNatClampNeg) fun x24 =>
    vl (gR h l0 33) fun r25 =>
    un r25 fun b26 =>
    gd (okAb h b26 11 l2) <|
    vl (gI h b26 l2.toNatClampNeg) fun x28 =>
    if x28 ≤ x24 then (
    k62 l0 l1 l2 l3 h) else (
    vl (l3 + (-1 : Int32)) fun x30 =>
    f_X10_next_L41 k62 n l0 l1 l2 x30 h)
set_option maxHeartbeats 4000000 in
set_option maxRecDepth 100000 in
theorem t_X10_next_L41 {X : Cx} {d : Nat} {h0 h' : Hp} {v : Int32} {k62 : Nat → Int32 → Int32 → Int32 → Hp → Option (Int32 × Hp)} (hD : 2 ≤ d) (hk62 : ∀ (z0 : Nat) (z1 : Int32) (z2 : Int32) (z3 : Int32) (h : Hp), k62 z0 z1 z2 z3 h = some (v, h') → EV X mX10_next d h0 (some (.int v)) h' 62 [some (.ref z0), some (.int z1), some (.int z2), some (.int z3), none, none] [] h) : ∀ (n : Nat) (l0 : Nat) (l1 : Int32) (l2 : Int32) (l3 : Int32) (h : Hp), f_X10_next_L41 k62 n l0 l1 l2 l3 h = some (v, h') → EV X mX10_next d h0 (some (.int v)) h' 41 [some (.ref l0), some (.int l1), some (.int l2), some (.int l3), none, none] [] h := by
  intro n
  induction n with
  | zero => intro l0 l1 l2 l3 h H; simp [f_X10_next_L41] at H
  | succ n ih =>
    intro l0 l1 l2 l3 h H
    rw [f_X10_next_L41] at H
    refine ev_aload_n dX10_next_41 rfl rfl rfl ?_
    replace H := gd_some H
    obtain ⟨g20, H⟩ := H
    replace H := vl_some H
    obtain ⟨r21, er21, H⟩ := H
    refine ev_getRx dX10_next_42 fgX10_98 rfl (okOb.p g20) er21 ?_
    refine ev_iload_n dX10_next_45 rfl rfl ?_
    replace H := un_some H
    obtain ⟨b22, eb22, H⟩ := H
    subst eb22
    replace H := gd_some H
    obtain ⟨g23, H⟩ := H
    replace H := vl_some H
    obtain ⟨x24, ex24, H⟩ := H
    refine ev_ialdx dX10_next_46 (okAb.p g23) ex24 ?_
    refine ev_aload_n dX10_next_47 rfl rfl rfl ?_
    replace H := vl_some H
    obtain ⟨r25, er25, H⟩ := H
    refine ev_getRx dX10_next_48 fgX10_98 rfl (okOb.p g20) er25 ?_
    refine ev_iload_n dX10_next_51 rfl rfl ?_
    replace H := un_some H
    obtain ⟨b26, eb26, H⟩ := H
    subst eb26
    replace H := gd_some H
    obtain ⟨g27, H⟩ := H
    replace H := vl_some H
    obtain ⟨x28, ex28, H⟩ := H
    refine ev_ialdx dX10_next_52 (okAb.p g27) ex28 ?_
    refine ev_icmp_ge (tgt := 62) dX10_next_53 (by decide) (fun c29 => ?_) (fun c29 => ?_)
    · rw [if_pos c29] at H
      exact hk62 l0 l1 l2 l3 h H
    · rw [if_neg c29] at H
      replace H := vl_some H
      obtain ⟨x30, ex30, H⟩ := H
      refine ev_iincx (loc2 := [some (.ref l0), some (.int l1), some (.int l2), some (.int x30), none, none]) dX10_next_56 rfl (by decide) ex30 (by decide) rfl ?_
      refine ev_goto (tgt := 41) dX10_next_59 (by decide) ?_
      exact ih l0 l1 l2 x30 h H
def f_X10_next_L78 : Nat → Nat → Int32 → Int32 → Int32 → Int32 → Int32 → Hp → Option (Int32 × Hp)
  | 0, _, _, _, _, _, _, _ => none
  | n + 1, l0, l1, l2, l3, l4, l5, h =>
    if l4 ≤ l5 then (
    some ((1 : Int32), h)) else (
    gd (okOb h l0 10) <|
    bnd (f_X10_exchanges h l0 l5 l4) fun u43 h44 =>
    vl (l4 + (-1 : Int32)) fun x45 =>
    vl (l5 + (1 : Int32)) fun x46 =>
    f_X10_next_L78 n l0 l1 l2 l3 x45 x46 h44)
set_option maxHeartbeats 4000000 in
set_option maxRecDepth 100000 in
theorem t_X10_next_L78 {X : Cx} {d : Nat} {h0 h' : Hp} {v : Int32} (hD : 2 ≤ d) : ∀ (n : Nat) (l0 : Nat) (l1 : Int32) (l2 : Int32) (l3 : Int32) (l4 : Int32) (l5 : Int32) (h : Hp), f_X10_next_L78 n l0 l1 l2 l3 l4 l5 h = some (v, h') → EV X mX10_next d h0 (some (.int v)) h' 78 [some (.ref l0), some (.int l1), some (.int l2), some (.int l3), some (.int l4), some (.int l5)] [] h := by
  intro n
  induction n with
  | zero => intro l0 l1 l2 l3 l4 l5 h H; simp [f_X10_next_L78] at H
  | succ n ih =>
    intro l0 l1 l2 l3 l4 l5 h H
    rw [f_X10_next_L78] at H
    refine ev_iload dX10_next_78 rfl ?_
    refine ev_iload dX10_next_80 rfl ?_
    refine ev_icmp_ge (tgt := 102) dX10_next_82 (by decide) (fun c41 => ?_) (fun c41 => ?_)
    · rw [if_pos c41] at H
      refine ev_iconst (v := (1 : Int32)) dX10_next_102 (by decide) ?_
      exact ev_iretx dX10_next_103 rfl rfl H
    · rw [if_neg c41] at H
      refine ev_aload_n dX10_next_85 rfl rfl rfl ?_
      refine ev_iload dX10_next_86 rfl ?_
      refine ev_iload dX10_next_88 rfl ?_
      replace H := gd_some H
      obtain ⟨g42, H⟩ := H
      replace H := bnd_some H
      obtain ⟨u43, h44, eh44, H⟩ := H
      have ph44 := (t_X10_exchanges (X := X) (d := 1) (by omega) eh44)
      refine ev_callV (as := [.int l5, .int l4]) dX10_next_90 ph44 ok_X10_exchanges (by omega) rfl k6_38 k6_40 ks_44 (ci := 10) (by decide) rfl rfl (okOb.p g42) rfl (Nat.le_of_ble_eq_true rfl) ?_
      replace H := vl_some H
      obtain ⟨x45, ex45, H⟩ := H
      refine ev_iincx (loc2 := [some (.ref l0), some (.int l1), some (.int l2), some (.int l3), some (.int x45), some (.int l5)]) dX10_next_93 rfl (by decide) ex45 (by decide) rfl ?_
      replace H := vl_some H
      obtain ⟨x46, ex46, H⟩ := H
      refine ev_iincx (loc2 := [some (.ref l0), some (.int l1), some (.int l2), some (.int l3), some (.int x45), some (.int x46)]) dX10_next_96 rfl (by decide) ex46 (by decide) rfl ?_
      refine ev_goto (tgt := 78) dX10_next_99 (by decide) ?_
      exact ih l0 l1 l2 l3 x45 x46 h44 H
def f_X10_next_J31 (l0 : Nat) (l1 : Int32) (l2 : Int32) (h : Hp) : Option (Int32 × Hp) :=
if 0 ≤ l2 then (
vl (l1 - (1 : Int32)) fun x19 =>
f_X10_next_L41 (fun y31 y32 y33 y34 h35 =>
gd (okOb h35 y31 10) <|
bnd (f_X10_exchanges h35 y31 y33 y34) fun u37 h38 =>
vl (y32 - (1 : Int32)) fun x39 =>
vl (y33 + (1 : Int32)) fun x40 =>
f_X10_next_L78 6000 y31 y32 y33 y34 x39 x40 h38) 6000 l0 l1 l2 x19 h) else (
some ((0 : Int32), h))
set_option maxHeartbeats 4000000 in
set_option maxRecDepth 100000 in
theorem t_X10_next_J31 {X : Cx} {d : Nat} {h0 h' : Hp} {v : Int32} (hD : 2 ≤ d) : ∀ (l0 : Nat) (l1 : Int32) (l2 : Int32) (h : Hp), f_X10_next_J31 l0 l1 l2 h = some (v, h') → EV X mX10_next d h0 (some (.int v)) h' 31 [some (.ref l0), some (.int l1), some (.int l2), none, none, none] [] h := by
  intro l0 l1 l2 h H
  unfold f_X10_next_J31 at H
  refine ev_iload_n dX10_next_31 rfl rfl ?_
  refine ev_if_ge (tgt := 37) dX10_next_32 (by decide) (fun c18 => ?_) (fun c18 => ?_)
  · rw [if_pos c18] at H
    refine ev_iload_n dX10_next_37 rfl rfl ?_
    refine ev_iconst (v := (1 : Int32)) dX10_next_38 (by decide) ?_
    refine ev_isub dX10_next_39 ?_
    replace H := vl_some H
    obtain ⟨x19, ex19, H⟩ := H
    refine ev_istore_nx (loc2 := [some (.ref l0), some (.int l1), some (.int l2), some (.int x19), none, none]) dX10_next_40 rfl (by decide) ex19 rfl ?_
    refine t_X10_next_L41 hD ?_ 6000 l0 l1 l2 x19 h H
    · intro y31 y32 y33 y34 h35 H
      refine ev_aload_n dX10_next_62 rfl rfl rfl ?_
      refine ev_iload_n dX10_next_63 rfl rfl ?_
      refine ev_iload_n dX10_next_64 rfl rfl ?_
      replace H := gd_some H
      obtain ⟨g36, H⟩ := H
      replace H := bnd_some H
      obtain ⟨u37, h38, eh38, H⟩ := H
      have ph38 := (t_X10_exchanges (X := X) (d := 1) (by omega) eh38)
      refine ev_callV (as := [.int y33, .int y34]) dX10_next_65 ph38 ok_X10_exchanges (by omega) rfl k6_38 k6_40 ks_44 (ci := 10) (by decide) rfl rfl (okOb.p g36) rfl (Nat.le_of_ble_eq_true rfl) ?_
      refine ev_iload_n dX10_next_68 rfl rfl ?_
      refine ev_iconst (v := (1 : Int32)) dX10_next_69 (by decide) ?_
      refine ev_isub dX10_next_70 ?_
      replace H := vl_some H
      obtain ⟨x39, ex39, H⟩ := H
      refine ev_istorex (loc2 := [some (.ref y31), some (.int y32), some (.int y33), some (.int y34), some (.int x39), none]) dX10_next_71 (by decide) ex39 rfl ?_
      refine ev_iload_n dX10_next_73 rfl rfl ?_
      refine ev_iconst (v := (1 : Int32)) dX10_next_74 (by decide) ?_
      refine ev_iadd dX10_next_75 ?_
      replace H := vl_some H
      obtain ⟨x40, ex40, H⟩ := H
      refine ev_istorex (loc2 := [some (.ref y31), some (.int y32), some (.int y33), some (.int y34), some (.int x39), some (.int x40)]) dX10_next_76 (by decide) ex40 rfl ?_
      refine t_X10_next_L78 hD  6000 y31 y32 y33 y34 x39 x40 h38 H
  · rw [if_neg c18] at H
    refine ev_iconst (v := (0 : Int32)) dX10_next_35 (by decide) ?_
    exact ev_iretx dX10_next_36 rfl rfl H
def f_X10_next (h : Hp) (a0 : Nat) (a1 : Int32) : Option (Int32 × Hp) :=
vl (a1 - (2 : Int32)) fun x1 =>
f_X10_next_L4 (fun y14 y15 y16 h17 =>
f_X10_next_J31 y14 y15 y16 h17) 6000 a0 a1 x1 h
set_option maxHeartbeats 4000000 in
set_option maxRecDepth 100000 in
theorem t_X10_next {X : Cx} {d : Nat} {h : Hp} {a0 : Nat} {a1 : Int32} {v : Int32} {h' : Hp} (hD : 2 ≤ d) (H : f_X10_next h a0 a1 = some (v, h')) : PM X mX10_next d [.ref a0, .int a1] h (some (.int v)) h' := by
  unfold f_X10_next at H
  refine PM.of (loc := [some (.ref a0), some (.int a1), none, none, none, none]) (by decide) rfl (Nat.le_of_ble_eq_true rfl) ?_
  refine ev_iload_n dX10_next_0 rfl rfl ?_
  refine ev_iconst (v := (2 : Int32)) dX10_next_1 (by decide) ?_
  refine ev_isub dX10_next_2 ?_
  replace H := vl_some H
  obtain ⟨x1, ex1, H⟩ := H
  refine ev_istore_nx (loc2 := [some (.ref a0), some (.int a1), some (.int x1), none, none, none]) dX10_next_3 rfl (by decide) ex1 rfl ?_
  refine t_X10_next_L4 hD ?_ 6000 a0 a1 x1 h H
  · intro y14 y15 y16 h17 H
    exact t_X10_next_J31 hD y14 y15 y16 h17 H
