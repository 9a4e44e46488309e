theorem dX10_law_0 : decode cX10_law 0 = .ok (.aload_n 0, 1) := by decide +kernel
theorem dX10_law_1 : decode cX10_law 1 = .ok (.invokevirtual 290, 3) := by decide +kernel
theorem dX10_law_4 : decode cX10_law 4 = .ok (.istore_n 1, 1) := by decide +kernel
theorem dX10_law_5 : decode cX10_law 5 = .ok (.aload_n 0, 1) := by decide +kernel
theorem dX10_law_6 : decode cX10_law 6 = .ok (.iconst 0, 1) := by decide +kernel
theorem dX10_law_7 : decode cX10_law 7 = .ok (.putfield 155, 3) := by decide +kernel
theorem dX10_law_10 : decode cX10_law 10 = .ok (.iload_n 1, 1) := by decide +kernel
theorem dX10_law_11 : decode cX10_law 11 = .ok (.ifCond .ge 11, 3) := by decide +kernel
theorem dX10_law_14 : decode cX10_law 14 = .ok (.bipush (-10), 2) := by decide +kernel
theorem dX10_law_16 : decode cX10_law 16 = .ok (.aload_n 0, 1) := by decide +kernel
theorem dX10_law_17 : decode cX10_law 17 = .ok (.getfield 271, 3) := by decide +kernel
theorem dX10_law_20 : decode cX10_law 20 = .ok (.isub, 1) := by decide +kernel
theorem dX10_law_21 : decode cX10_law 21 = .ok (.ireturn, 1) := by decide +kernel
theorem dX10_law_22 : decode cX10_law 22 = .ok (.iconst 0, 1) := by decide +kernel
theorem dX10_law_23 : decode cX10_law 23 = .ok (.istore_n 2, 1) := by decide +kernel
theorem dX10_law_24 : decode cX10_law 24 = .ok (.iload_n 2, 1) := by decide +kernel
theorem dX10_law_25 : decode cX10_law 25 = .ok (.iconst 4, 1) := by decide +kernel
theorem dX10_law_26 : decode cX10_law 26 = .ok (.if_icmp .ge 33, 3) := by decide +kernel
theorem dX10_law_29 : decode cX10_law 29 = .ok (.aload_n 0, 1) := by decide +kernel
theorem dX10_law_30 : decode cX10_law 30 = .ok (.getfield 110, 3) := by decide +kernel
theorem dX10_law_33 : decode cX10_law 33 = .ok (.iload_n 2, 1) := by decide +kernel
theorem dX10_law_34 : decode cX10_law 34 = .ok (.aload_n 0, 1) := by decide +kernel
theorem dX10_law_35 : decode cX10_law 35 = .ok (.getfield 116, 3) := by decide +kernel
theorem dX10_law_38 : decode cX10_law 38 = .ok (.iload_n 2, 1) := by decide +kernel
theorem dX10_law_39 : decode cX10_law 39 = .ok (.iaload, 1) := by decide +kernel
theorem dX10_law_40 : decode cX10_law 40 = .ok (.iastore, 1) := by decide +kernel
theorem dX10_law_41 : decode cX10_law 41 = .ok (.aload_n 0, 1) := by decide +kernel
theorem dX10_law_42 : decode cX10_law 42 = .ok (.getfield 113, 3) := by decide +kernel
theorem dX10_law_45 : decode cX10_law 45 = .ok (.iload_n 2, 1) := by decide +kernel
theorem dX10_law_46 : decode cX10_law 46 = .ok (.aload_n 0, 1) := by decide +kernel
theorem dX10_law_47 : decode cX10_law 47 = .ok (.getfield 119, 3) := by decide +kernel
theorem dX10_law_50 : decode cX10_law 50 = .ok (.iload_n 2, 1) := by decide +kernel
theorem dX10_law_51 : decode cX10_law 51 = .ok (.iaload, 1) := by decide +kernel
theorem dX10_law_52 : decode cX10_law 52 = .ok (.iastore, 1) := by decide +kernel
theorem dX10_law_53 : decode cX10_law 53 = .ok (.iinc 2 1, 3) := by decide +kernel
theorem dX10_law_56 : decode cX10_law 56 = .ok (.goto (-32), 3) := by decide +kernel
theorem dX10_law_59 : decode cX10_law 59 = .ok (.iload_n 1, 1) := by decide +kernel
theorem dX10_law_60 : decode cX10_law 60 = .ok (.ireturn, 1) := by decide +kernel
def f_X10_law_L24 : Nat → Nat → Int32 → Int32 → Hp → Option (Int32 × Hp)
  | 0, _, _, _, _ => none
  | n + 1, l0, l1, l2, h =>
    if (4 : Int32) ≤ l2 then (
    some (l1, h)) else (
    gd (okOb h l0 10) <|
    vl (gR h l0 40) fun r8 =>
    vl (gR h l0 42) fun r9 =>
    un r9 fun b10 =>
    gd (okAb h b10 11 l2) <|
    vl (gI h b10 l2.toNatClampNeg) fun x12 =>
    un r8 fun b13 =>
    gd (okAb h b13 11 l2) <|
    vl (sI h b13 l2.toNatClampNeg x12) fun h15 =>
    vl (gR h15 l0 41) fun r16 =>
    vl (gR h15 l0 43) fun r17 =>
    un r17 fun b18 =>
    gd (okAb h15 b18 11 l2) <|
    vl (gI h15 b18 l2.toNatClampNeg) fun x20 =>
    un r16 fun b21 =>
    gd (okAb h15 b21 11 l2) <|
    vl (sI h15 b21 l2.toNatClampNeg x20) fun h23 =>
    vl (l2 + (1 : Int32)) fun x24 =>
    f_X10_law_L24 n l0 l1 x24 h23)
set_option maxHeartbeats 4000000 in
set_option maxRecDepth 100000 in
theorem t_X10_law_L24 {X : Cx} {d : Nat} {h0 h' : Hp} {v : Int32} (hD : 4 ≤ d) : ∀ (n : Nat) (l0 : Nat) (l1 : Int32) (l2 : Int32) (h : Hp), f_X10_law_L24 n l0 l1 l2 h = some (v, h') → EV X mX10_law d h0 (some (.int v)) h' 24 [some (.ref l0), some (.int l1), some (.int l2)] [] h := by
  intro n
  induction n with
  | zero => intro l0 l1 l2 h H; simp [f_X10_law_L24] at H
  | succ n ih =>
    intro l0 l1 l2 h H
    rw [f_X10_law_L24] at H
    refine ev_iload_n dX10_law_24 rfl rfl ?_
    refine ev_iconst (v := (4 : Int32)) dX10_law_25 (by decide) ?_
    refine ev_icmp_ge (tgt := 59) dX10_law_26 (by decide) (fun c6 => ?_) (fun c6 => ?_)
    · rw [if_pos c6] at H
      refine ev_iload_n dX10_law_59 rfl rfl ?_
      exact ev_iretx dX10_law_60 rfl rfl H
    · rw [if_neg c6] at H
      refine ev_aload_n dX10_law_29 rfl rfl rfl ?_
      replace H := gd_some H
      obtain ⟨g7, H⟩ := H
      replace H := vl_some H
      obtain ⟨r8, er8, H⟩ := H
      refine ev_getRx dX10_law_30 fgX10_110 rfl (okOb.p g7) er8 ?_
      refine ev_iload_n dX10_law_33 rfl rfl ?_
      refine ev_aload_n dX10_law_34 rfl rfl rfl ?_
      replace H := vl_some H
      obtain ⟨r9, er9, H⟩ := H
      refine ev_getRx dX10_law_35 fgX10_116 rfl (okOb.p g7) er9 ?_
      refine ev_iload_n dX10_law_38 rfl rfl ?_
      replace H := un_some H
      obtain ⟨b10, eb10, H⟩ := H
      subst eb10
      replace H := gd_some H
      obtain ⟨g11, H⟩ := H
      replace H := vl_some H
      obtain ⟨x12, ex12, H⟩ := H
      refine ev_ialdx dX10_law_39 (okAb.p g11) ex12 ?_
      replace H := un_some H
      obtain ⟨b13, eb13, H⟩ := H
      subst eb13
      replace H := gd_some H
      obtain ⟨g14, H⟩ := H
      replace H := vl_some H
      obtain ⟨h15, eh15, H⟩ := H
      refine ev_iast dX10_law_40 (okAb.p g14) eh15 ?_
      refine ev_aload_n dX10_law_41 rfl rfl rfl ?_
      replace H := vl_some H
      obtain ⟨r16, er16, H⟩ := H
      refine ev_getRx dX10_law_42 fgX10_113 rfl (okO_sI eh15 (okOb.p g7)) er16 ?_
      refine ev_iload_n dX10_law_45 rfl rfl ?_
      refine ev_aload_n dX10_law_46 rfl rfl rfl ?_
      replace H := vl_some H
      obtain ⟨r17, er17, H⟩ := H
      refine ev_getRx dX10_law_47 fgX10_119 rfl (okO_sI eh15 (okOb.p g7)) er17 ?_
      refine ev_iload_n dX10_law_50 rfl rfl ?_
      replace H := un_some H
      obtain ⟨b18, eb18, H⟩ := H
      subst eb18
      replace H := gd_some H
      obtain ⟨g19, H⟩ := H
      replace H := vl_some H
      obtain ⟨x20, ex20, H⟩ := H
      refine ev_ialdx dX10_law_51 (okAb.p g19) ex20 ?_
      replace H := un_some H
      obtain ⟨b21, eb21, H⟩ := H
      subst eb21
      replace H := gd_some H
      obtain ⟨g22, H⟩ := H
      replace H := vl_some H
      obtain ⟨h23, eh23, H⟩ := H
      refine ev_iast dX10_law_52 (okAb.p g22) eh23 ?_
      replace H := vl_some H
      obtain ⟨x24, ex24, H⟩ := H
      refine ev_iincx (loc2 := [some (.ref l0), some (.int l1), some (.int x24)]) dX10_law_53 rfl (by decide) ex24 (by decide) rfl ?_
      refine ev_goto (tgt := 24) dX10_law_56 (by decide) ?_
      exact ih l0 l1 x24 h23 H
def f_X10_law (h : Hp) (a0 : Nat) : Option (Int32 × Hp) :=
gd (okOb h a0 10) <|
bnd (f_X10_clauses h a0) fun v2 h3 =>
vl (sI h3 a0 2 (0 : Int32)) fun h4 =>
if 0 ≤ v2 then (
f_X10_law_L24 6000 a0 v2 (0 : Int32) h4) else (
vl (gI h4 a0 44) fun x25 =>
some ((-10 : Int32) - x25, h4))
set_option maxHeartbeats 4000000 in
set_option maxRecDepth 100000 in
theorem t_X10_law {X : Cx} {d : Nat} {h : Hp} {a0 : Nat} {v : Int32} {h' : Hp} (hD : 4 ≤ d) (H : f_X10_law h a0 = some (v, h')) : PM X mX10_law d [.ref a0] h (some (.int v)) h' := by
  unfold f_X10_law at H
  refine PM.of (loc := [some (.ref a0), none, none]) (by decide) rfl (Nat.le_of_ble_eq_true rfl) ?_
  refine ev_aload_n dX10_law_0 rfl rfl rfl ?_
  replace H := gd_some H
  obtain ⟨g1, H⟩ := H
  replace H := bnd_some H
  obtain ⟨v2, h3, eh3, H⟩ := H
  have ph3 := (t_X10_clauses (X := X) (d := 3) (by omega) eh3)
  refine ev_callV (as := []) dX10_law_1 ph3 ok_X10_clauses (by omega) rfl k6_54 k6_56 ks_45 (ci := 10) (by decide) rfl rfl (okOb.p g1) rfl (Nat.le_of_ble_eq_true rfl) ?_
  refine ev_istore_n (loc2 := [some (.ref a0), some (.int v2), none]) dX10_law_4 rfl (by decide) rfl ?_
  refine ev_aload_n dX10_law_5 rfl rfl rfl ?_
  refine ev_iconst (v := (0 : Int32)) dX10_law_6 (by decide) ?_
  replace H := vl_some H
  obtain ⟨h4, eh4, H⟩ := H
  refine ev_putI dX10_law_7 fdX10_155 rfl rfl rfl (okO_ext ph3.1 (okOb.p g1)) eh4 ?_
  refine ev_iload_n dX10_law_10 rfl rfl ?_
  refine ev_if_ge (tgt := 22) dX10_law_11 (by decide) (fun c5 => ?_) (fun c5 => ?_)
  · rw [if_pos c5] at H
    refine ev_iconst (v := (0 : Int32)) dX10_law_22 (by decide) ?_
    refine ev_istore_n (loc2 := [some (.ref a0), some (.int v2), some (.int (0 : Int32))]) dX10_law_23 rfl (by decide) rfl ?_
    refine t_X10_law_L24 hD  6000 a0 v2 (0 : Int32) h4 H
  · rw [if_neg c5] at H
    refine ev_bipush (v := (-10 : Int32)) dX10_law_14 (by decide) ?_
    refine ev_aload_n dX10_law_16 rfl rfl rfl ?_
    replace H := vl_some H
    obtain ⟨x25, ex25, H⟩ := H
    refine ev_getIx dX10_law_17 fgX10_271 rfl (okO_sI eh4 (okO_ext ph3.1 (okOb.p g1))) ex25 ?_
    refine ev_isub dX10_law_20 ?_
    exact ev_iretx dX10_law_21 rfl rfl H

theorem dX10_faultsBy_0 : decode cX10_faultsBy 0 = .ok (.iconst 0, 1) := by decide +kernel
theorem dX10_faultsBy_1 : decode cX10_faultsBy 1 = .ok (.istore_n 2, 1) := by decide +kernel
theorem dX10_faultsBy_2 : decode cX10_faultsBy 2 = .ok (.iconst 0, 1) := by decide +kernel
theorem dX10_faultsBy_3 : decode cX10_faultsBy 3 = .ok (.istore_n 3, 1) := by decide +kernel
theorem dX10_faultsBy_4 : decode cX10_faultsBy 4 = .ok (.iload_n 3, 1) := by decide +kernel
theorem dX10_faultsBy_5 : decode cX10_faultsBy 5 = .ok (.aload_n 0, 1) := by decide +kernel
theorem dX10_faultsBy_6 : decode cX10_faultsBy 6 = .ok (.getfield 141, 3) := by decide +kernel
theorem dX10_faultsBy_9 : decode cX10_faultsBy 9 = .ok (.if_icmp .ge 31, 3) := by decide +kernel
theorem dX10_faultsBy_12 : decode cX10_faultsBy 12 = .ok (.iload_n 2, 1) := by decide +kernel
theorem dX10_faultsBy_13 : decode cX10_faultsBy 13 = .ok (.aload_n 0, 1) := by decide +kernel
theorem dX10_faultsBy_14 : decode cX10_faultsBy 14 = .ok (.getfield 28, 3) := by decide +kernel
theorem dX10_faultsBy_17 : decode cX10_faultsBy 17 = .ok (.iload_n 3, 1) := by decide +kernel
theorem dX10_faultsBy_18 : decode cX10_faultsBy 18 = .ok (.iaload, 1) := by decide +kernel
theorem dX10_faultsBy_19 : decode cX10_faultsBy 19 = .ok (.iload_n 1, 1) := by decide +kernel
theorem dX10_faultsBy_20 : decode cX10_faultsBy 20 = .ok (.if_icmp .ne 11, 3) := by decide +kernel
theorem dX10_faultsBy_23 : decode cX10_faultsBy 23 = .ok (.aload_n 0, 1) := by decide +kernel
theorem dX10_faultsBy_24 : decode cX10_faultsBy 24 = .ok (.iload_n 3, 1) := by decide +kernel
theorem dX10_faultsBy_25 : decode cX10_faultsBy 25 = .ok (.invokevirtual 179, 3) := by decide +kernel
theorem dX10_faultsBy_28 : decode cX10_faultsBy 28 = .ok (.goto 4, 3) := by decide +kernel
theorem dX10_faultsBy_31 : decode cX10_faultsBy 31 = .ok (.iconst 0, 1) := by decide +kernel
theorem dX10_faultsBy_32 : decode cX10_faultsBy 32 = .ok (.iadd, 1) := by decide +kernel
theorem dX10_faultsBy_33 : decode cX10_faultsBy 33 = .ok (.istore_n 2, 1) := by decide +kernel
theorem dX10_faultsBy_34 : decode cX10_faultsBy 34 = .ok (.iinc 3 1, 3) := by decide +kernel
theorem dX10_faultsBy_37 : decode cX10_faultsBy 37 = .ok (.goto (-33), 3) := by decide +kernel
theorem dX10_faultsBy_40 : decode cX10_faultsBy 40 = .ok (.iload_n 2, 1) := by decide +kernel
theorem dX10_faultsBy_41 : decode cX10_faultsBy 41 = .ok (.ireturn, 1) := by decide +kernel
def f_X10_faultsBy_L4 : Nat → Nat → Int32 → Int32 → Int32 → Hp → Option (Int32 × Hp)
  | 0, _, _, _, _, _ => none
  | n + 1, l0, l1, l2, l3, h =>
    gd (okOb h l0 10) <|
    vl (gI h l0 11) fun x2 =>
    if x2 ≤ l3 then (
    some (l2, h)) else (
    vl (gR h l0 7) fun r4 =>
    un r4 fun b5 =>
    gd (okAb h b5 11 l3) <|
    vl (gI h b5 l3.toNatClampNeg) fun x7 =>
    if x7 = l1 then (
    bnd (f_X10_faultsOf h l0 l3) fun v11 h12 =>
    vl (l2 + v11) fun x13 =>
    vl (l3 + (1 : Int32)) fun x14 =>
    f_X10_faultsBy_L4 n l0 l1 x13 x14 h12) else (
    vl (l2 + (0 : Int32)) fun x9 =>
    vl (l3 + (1 : Int32)) fun x10 =>
    f_X10_faultsBy_L4 n l0 l1 x9 x10 h))
set_option maxHeartbeats 4000000 in
set_option maxRecDepth 100000 in
theorem t_X10_faultsBy_L4 {X : Cx} {d : Nat} {h0 h' : Hp} {v : Int32} (hD : 2 ≤ d) : ∀ (n : Nat) (l0 : Nat) (l1 : Int32) (l2 : Int32) (l3 : Int32) (h : Hp), f_X10_faultsBy_L4 n l0 l1 l2 l3 h = some (v, h') → EV X mX10_faultsBy d h0 (some (.int v)) h' 4 [some (.ref l0), some (.int l1), some (.int l2), some (.int l3)] [] h := by
  intro n
  induction n with
  | zero => intro l0 l1 l2 l3 h H; simp [f_X10_faultsBy_L4] at H
  | succ n ih =>
    intro l0 l1 l2 l3 h H
    rw [f_X10_faultsBy_L4] at H
    refine ev_iload_n dX10_faultsBy_4 rfl rfl ?_
    refine ev_aload_n dX10_faultsBy_5 rfl rfl rfl ?_
    replace H := gd_some H
    obtain ⟨g1, H⟩ := H
    replace H := vl_some H
    obtain ⟨x2, ex2, H⟩ := H
    refine ev_getIx dX10_faultsBy_6 fgX10_141 rfl (okOb.p g1) ex2 ?_
    refine ev_icmp_ge (tgt := 40) dX10_faultsBy_9 (by decide) (fun c3 => ?_) (fun c3 => ?_)
    · rw [if_pos c3] at H
      refine ev_iload_n dX10_faultsBy_40 rfl rfl ?_
      exact ev_iretx dX10_faultsBy_41 rfl rfl H
    · rw [if_neg c3] at H
      refine ev_iload_n dX10_faultsBy_12 rfl rfl ?_
      refine ev_aload_n dX10_faultsBy_13 rfl rfl rfl ?_
      replace H := vl_some H
      obtain ⟨r4, er4, H⟩ := H
      refine ev_getRx dX10_faultsBy_14 fgX10_28 rfl (okOb.p g1) er4 ?_
      refine ev_iload_n dX10_faultsBy_17 rfl rfl ?_
      replace H := un_some H
      obtain ⟨b5, eb5, H⟩ := H
      subst eb5
      replace H := gd_some H
      obtain ⟨g6, H⟩ := H
      replace H := vl_some H
      obtain ⟨x7, ex7, H⟩ := H
      refine ev_ialdx dX10_faultsBy_18 (okAb.p g6) ex7 ?_
      refine ev_iload_n dX10_faultsBy_19 rfl rfl ?_
      refine ev_icmp_ne (tgt := 31) dX10_faultsBy_20 (by decide) (fun c8 => ?_) (fun c8 => ?_)
      · rw [if_neg c8] at H
        refine ev_iconst (v := (0 : Int32)) dX10_faultsBy_31 (by decide) ?_
        refine ev_iadd dX10_faultsBy_32 ?_
        replace H := vl_some H
        obtain ⟨x9, ex9, H⟩ := H
        refine ev_istore_nx (loc2 := [some (.ref l0), some (.int l1), some (.int x9), some (.int l3)]) dX10_faultsBy_33 rfl (by decide) ex9 rfl ?_
        replace H := vl_some H
        obtain ⟨x10, ex10, H⟩ := H
        refine ev_iincx (loc2 := [some (.ref l0), some (.int l1), some (.int x9), some (.int x10)]) dX10_faultsBy_34 rfl (by decide) ex10 (by decide) rfl ?_
        refine ev_goto (tgt := 4) dX10_faultsBy_37 (by decide) ?_
        exact ih l0 l1 x9 x10 h H
      · rw [if_pos c8] at H
        refine ev_aload_n dX10_faultsBy_23 rfl rfl rfl ?_
        refine ev_iload_n dX10_faultsBy_24 rfl rfl ?_
        replace H := bnd_some H
        obtain ⟨v11, h12, eh12, H⟩ := H
        have ph12 := (t_X10_faultsOf (X := X) (d := 1) (by omega) eh12)
        refine ev_callV (as := [.int l3]) dX10_faultsBy_25 ph12 ok_X10_faultsOf (by omega) rfl k5_146 k5_148 ks_30 (ci := 10) (by decide) rfl rfl (okOb.p g1) rfl (Nat.le_of_ble_eq_true rfl) ?_
        refine ev_goto (tgt := 32) dX10_faultsBy_28 (by decide) ?_
        refine ev_iadd dX10_faultsBy_32 ?_
        replace H := vl_some H
        obtain ⟨x13, ex13, H⟩ := H
        refine ev_istore_nx (loc2 := [some (.ref l0), some (.int l1), some (.int x13), some (.int l3)]) dX10_faultsBy_33 rfl (by decide) ex13 rfl ?_
        replace H := vl_some H
        obtain ⟨x14, ex14, H⟩ := H
        refine ev_iincx (loc2 := [some (.ref l0), some (.int l1), some (.int x13), some (.int x14)]) dX10_faultsBy_34 rfl (by decide) ex14 (by decide) rfl ?_
        refine ev_goto (tgt := 4) dX10_faultsBy_37 (by decide) ?_
        exact ih l0 l1 x13 x14 h12 H
def f_X10_faultsBy (h : Hp) (a0 : Nat) (a1 : Int32) : Option (Int32 × Hp) :=
f_X10_faultsBy_L4 6000 a0 a1 (0 : Int32) (0 : Int32) h
set_option maxHeartbeats 4000000 in
set_option maxRecDepth 100000 in
theorem t_X10_faultsBy {X : Cx} {d : Nat} {h : Hp} {a0 : Nat} {a1 : Int32} {v : Int32} {h' : Hp} (hD : 2 ≤ d) (H : f_X10_faultsBy h a0 a1 = some (v, h')) : PM X mX10_faultsBy d [.ref a0, .int a1] h (some (.int v)) h' := by
  unfold f_X10_faultsBy at H
  refine PM.of (loc := [some (.ref a0), some (.int a1), none, none]) (by decide) rfl (Nat.le_of_ble_eq_true rfl) ?_
  refine ev_iconst (v := (0 : Int32)) dX10_faultsBy_0 (by decide) ?_
  refine ev_istore_n (loc2 := [some (.ref a0), some (.int a1), some (.int (0 : Int32)), none]) dX10_faultsBy_1 rfl (by decide) rfl ?_
  refine ev_iconst (v := (0 : Int32)) dX10_faultsBy_2 (by decide) ?_
  refine ev_istore_n (loc2 := [some (.ref a0), some (.int a1), some (.int (0 : Int32)), some (.int (0 : Int32))]) dX10_faultsBy_3 rfl (by decide) rfl ?_
  refine t_X10_faultsBy_L4 hD  6000 a0 a1 (0 : Int32) (0 : Int32) h H

theorem dX10_part_0 : decode cX10_part 0 = .ok (.lload_n 2, 1) := by decide +kernel
theorem dX10_part_1 : decode cX10_part 1 = .ok (.aload_n 0, 1) := by decide +kernel
theorem dX10_part_2 : decode cX10_part 2 = .ok (.getfield 110, 3) := by decide +kernel
theorem dX10_part_5 : decode cX10_part 5 = .ok (.iload_n 1, 1) := by decide +kernel
theorem dX10_part_6 : decode cX10_part 6 = .ok (.iaload, 1) := by decide +kernel
theorem dX10_part_7 : decode cX10_part 7 = .ok (.i2l, 1) := by decide +kernel
theorem dX10_part_8 : decode cX10_part 8 = .ok (.lmul, 1) := by decide +kernel
theorem dX10_part_9 : decode cX10_part 9 = .ok (.aload_n 0, 1) := by decide +kernel
theorem dX10_part_10 : decode cX10_part 10 = .ok (.getfield 113, 3) := by decide +kernel
theorem dX10_part_13 : decode cX10_part 13 = .ok (.iload_n 1, 1) := by decide +kernel
theorem dX10_part_14 : decode cX10_part 14 = .ok (.iaload, 1) := by decide +kernel
theorem dX10_part_15 : decode cX10_part 15 = .ok (.i2l, 1) := by decide +kernel
theorem dX10_part_16 : decode cX10_part 16 = .ok (.ldiv, 1) := by decide +kernel
theorem dX10_part_17 : decode cX10_part 17 = .ok (.lreturn, 1) := by decide +kernel
def f_X10_part (h : Hp) (a0 : Nat) (a1 : Int32) (a2 : Int64) : Option (Int64 × Hp) :=
gd (okOb h a0 10) <|
vl (gR h a0 40) fun r2 =>
un r2 fun b3 =>
gd (okAb h b3 11 a1) <|
vl (gI h b3 a1.toNatClampNeg) fun x5 =>
vl (gR h a0 41) fun r6 =>
un r6 fun b7 =>
gd (okAb h b7 11 a1) <|
vl (gI h b7 a1.toNatClampNeg) fun x9 =>
gd (decide (¬ (x9.toInt64) = 0)) <|
some ((a2 * (x5.toInt64)) / (x9.toInt64), h)
set_option maxHeartbeats 4000000 in
set_option maxRecDepth 100000 in
theorem t_X10_part {X : Cx} {d : Nat} {h : Hp} {a0 : Nat} {a1 : Int32} {a2 : Int64} {v : Int64} {h' : Hp} (hD : 1 ≤ d) (H : f_X10_part h a0 a1 a2 = some (v, h')) : PM X mX10_part d [.ref a0, .int a1, .long a2] h (some (.long v)) h' := by
  unfold f_X10_part at H
  refine PM.of (loc := [some (.ref a0), some (.int a1), some (.long a2), none]) (by decide) rfl (Nat.le_of_ble_eq_true rfl) ?_
  refine ev_lload_n dX10_part_0 rfl rfl ?_
  refine ev_aload_n dX10_part_1 rfl rfl rfl ?_
  replace H := gd_some H
  obtain ⟨g1, H⟩ := H
  replace H := vl_some H
  obtain ⟨r2, er2, H⟩ := H
  refine ev_getRx dX10_part_2 fgX10_110 rfl (okOb.p g1) er2 ?_
  refine ev_iload_n dX10_part_5 rfl rfl ?_
  replace H := un_some H
  obtain ⟨b3, eb3, H⟩ := H
  subst eb3
  replace H := gd_some H
  obtain ⟨g4, H⟩ := H
  replace H := vl_some H
  obtain ⟨x5, ex5, H⟩ := H
  refine ev_ialdx dX10_part_6 (okAb.p g4) ex5 ?_
  refine ev_i2l dX10_part_7 rfl ?_
  refine ev_lmul dX10_part_8 ?_
  refine ev_aload_n dX10_part_9 rfl rfl rfl ?_
  replace H := vl_some H
  obtain ⟨r6, er6, H⟩ := H
  refine ev_getRx dX10_part_10 fgX10_113 rfl (okOb.p g1) er6 ?_
  refine ev_iload_n dX10_part_13 rfl rfl ?_
  replace H := un_some H
  obtain ⟨b7, eb7, H⟩ := H
  subst eb7
  replace H := gd_some H
  obtain ⟨g8, H⟩ := H
  replace H := vl_some H
  obtain ⟨x9, ex9, H⟩ := H
  refine ev_ialdx dX10_part_14 (okAb.p g8) ex9 ?_
  refine ev_i2l dX10_part_15 rfl ?_
  replace H := gd_some H
  obtain ⟨g10, H⟩ := H
  refine ev_ldiv dX10_part_16 (of_decide_eq_true g10) ?_
  exact ev_lretx dX10_part_17 rfl H

theorem dX10_wages_0 : decode cX10_wages 0 = .ok (.iload_n 1, 1) := by decide +kernel
theorem dX10_wages_1 : decode cX10_wages 1 = .ok (.invokestatic 169, 3) := by decide +kernel
theorem dX10_wages_4 : decode cX10_wages 4 = .ok (.ifCond .ne 5, 3) := by decide +kernel
theorem dX10_wages_7 : decode cX10_wages 7 = .ok (.iconst (-1), 1) := by decide +kernel
theorem dX10_wages_8 : decode cX10_wages 8 = .ok (.ireturn, 1) := by decide +kernel
theorem dX10_wages_9 : decode cX10_wages 9 = .ok (.aload_n 0, 1) := by decide +kernel
theorem dX10_wages_10 : decode cX10_wages 10 = .ok (.iconst 0, 1) := by decide +kernel
theorem dX10_wages_11 : decode cX10_wages 11 = .ok (.aload_n 0, 1) := by decide +kernel
theorem dX10_wages_12 : decode cX10_wages 12 = .ok (.getfield 40, 3) := by decide +kernel
theorem dX10_wages_15 : decode cX10_wages 15 = .ok (.iload_n 1, 1) := by decide +kernel
theorem dX10_wages_16 : decode cX10_wages 16 = .ok (.iaload, 1) := by decide +kernel
theorem dX10_wages_17 : decode cX10_wages 17 = .ok (.i2l, 1) := by decide +kernel
theorem dX10_wages_18 : decode cX10_wages 18 = .ok (.invokevirtual 293, 3) := by decide +kernel
theorem dX10_wages_21 : decode cX10_wages 21 = .ok (.aload_n 0, 1) := by decide +kernel
theorem dX10_wages_22 : decode cX10_wages 22 = .ok (.iconst 2, 1) := by decide +kernel
theorem dX10_wages_23 : decode cX10_wages 23 = .ok (.aload_n 0, 1) := by decide +kernel
theorem dX10_wages_24 : decode cX10_wages 24 = .ok (.getfield 43, 3) := by decide +kernel
theorem dX10_wages_27 : decode cX10_wages 27 = .ok (.iload_n 1, 1) := by decide +kernel
theorem dX10_wages_28 : decode cX10_wages 28 = .ok (.iaload, 1) := by decide +kernel
theorem dX10_wages_29 : decode cX10_wages 29 = .ok (.i2l, 1) := by decide +kernel
theorem dX10_wages_30 : decode cX10_wages 30 = .ok (.invokevirtual 293, 3) := by decide +kernel
theorem dX10_wages_33 : decode cX10_wages 33 = .ok (.ladd, 1) := by decide +kernel
theorem dX10_wages_34 : decode cX10_wages 34 = .ok (.aload_n 0, 1) := by decide +kernel
theorem dX10_wages_35 : decode cX10_wages 35 = .ok (.iconst 1, 1) := by decide +kernel
theorem dX10_wages_36 : decode cX10_wages 36 = .ok (.aload_n 0, 1) := by decide +kernel
theorem dX10_wages_37 : decode cX10_wages 37 = .ok (.iload_n 1, 1) := by decide +kernel
theorem dX10_wages_38 : decode cX10_wages 38 = .ok (.invokevirtual 297, 3) := by decide +kernel
theorem dX10_wages_41 : decode cX10_wages 41 = .ok (.i2l, 1) := by decide +kernel
theorem dX10_wages_42 : decode cX10_wages 42 = .ok (.invokevirtual 293, 3) := by decide +kernel
theorem dX10_wages_45 : decode cX10_wages 45 = .ok (.lsub, 1) := by decide +kernel
theorem dX10_wages_46 : decode cX10_wages 46 = .ok (.aload_n 0, 1) := by decide +kernel
theorem dX10_wages_47 : decode cX10_wages 47 = .ok (.iconst 3, 1) := by decide +kernel
theorem dX10_wages_48 : decode cX10_wages 48 = .ok (.aload_n 0, 1) := by decide +kernel
theorem dX10_wages_49 : decode cX10_wages 49 = .ok (.getfield 46, 3) := by decide +kernel
theorem dX10_wages_52 : decode cX10_wages 52 = .ok (.iload_n 1, 1) := by decide +kernel
theorem dX10_wages_53 : decode cX10_wages 53 = .ok (.iaload, 1) := by decide +kernel
theorem dX10_wages_54 : decode cX10_wages 54 = .ok (.i2l, 1) := by decide +kernel
theorem dX10_wages_55 : decode cX10_wages 55 = .ok (.invokevirtual 293, 3) := by decide +kernel
theorem dX10_wages_58 : decode cX10_wages 58 = .ok (.lsub, 1) := by decide +kernel
theorem dX10_wages_59 : decode cX10_wages 59 = .ok (.lstore_n 2, 1) := by decide +kernel
theorem dX10_wages_60 : decode cX10_wages 60 = .ok (.lload_n 2, 1) := by decide +kernel
theorem dX10_wages_61 : decode cX10_wages 61 = .ok (.lconst 0, 1) := by decide +kernel
theorem dX10_wages_62 : decode cX10_wages 62 = .ok (.lcmp, 1) := by decide +kernel
theorem dX10_wages_63 : decode cX10_wages 63 = .ok (.ifCond .ge 7, 3) := by decide +kernel
theorem dX10_wages_66 : decode cX10_wages 66 = .ok (.iconst 0, 1) := by decide +kernel
theorem dX10_wages_67 : decode cX10_wages 67 = .ok (.goto 5, 3) := by decide +kernel
theorem dX10_wages_70 : decode cX10_wages 70 = .ok (.lload_n 2, 1) := by decide +kernel
theorem dX10_wages_71 : decode cX10_wages 71 = .ok (.l2i, 1) := by decide +kernel
theorem dX10_wages_72 : decode cX10_wages 72 = .ok (.ireturn, 1) := by decide +kernel
def f_X10_wages (h : Hp) (a0 : Nat) (a1 : Int32) : Option (Int32 × Hp) :=
bnd (f_X10_isHand h a1) fun v1 h2 =>
if v1 = 0 then (
some ((-1 : Int32), h2)) else (
gd (okOb h2 a0 10) <|
vl (gR h2 a0 12) fun r5 =>
un r5 fun b6 =>
gd (okAb h2 b6 11 a1) <|
vl (gI h2 b6 a1.toNatClampNeg) fun x8 =>
bnd (f_X10_part h2 a0 (0 : Int32) (x8.toInt64)) fun v9 h10 =>
vl (gR h10 a0 13) fun r11 =>
un r11 fun b12 =>
gd (okAb h10 b12 11 a1) <|
vl (gI h10 b12 a1.toNatClampNeg) fun x14 =>
bnd (f_X10_part h10 a0 (2 : Int32) (x14.toInt64)) fun v15 h16 =>
bnd (f_X10_faultsBy h16 a0 a1) fun v17 h18 =>
bnd (f_X10_part h18 a0 (1 : Int32) (v17.toInt64)) fun v19 h20 =>
vl (gR h20 a0 14) fun r21 =>
un r21 fun b22 =>
gd (okAb h20 b22 11 a1) <|
vl (gI h20 b22 a1.toNatClampNeg) fun x24 =>
bnd (f_X10_part h20 a0 (3 : Int32) (x24.toInt64)) fun v25 h26 =>
vl (((v9 + v15) - v19) - v25) fun x27 =>
if 0 ≤ (lg_cmp x27 (0 : Int64)) then (
some (x27.toInt32, h26)) else (
some ((0 : Int32), h26)))
set_option maxHeartbeats 4000000 in
set_option maxRecDepth 100000 in
theorem t_X10_wages {X : Cx} {d : Nat} {h : Hp} {a0 : Nat} {a1 : Int32} {v : Int32} {h' : Hp} (hD : 3 ≤ d) (H : f_X10_wages h a0 a1 = some (v, h')) : PM X mX10_wages d [.ref a0, .int a1] h (some (.int v)) h' := by
  unfold f_X10_wages at H
  refine PM.of (loc := [some (.ref a0), some (.int a1), none, none]) (by decide) rfl (Nat.le_of_ble_eq_true rfl) ?_
  refine ev_iload_n dX10_wages_0 rfl rfl ?_
  replace H := bnd_some H
  obtain ⟨v1, h2, eh2, H⟩ := H
  have ph2 := (t_X10_isHand (X := X) (d := 1) (by omega) eh2)
  refine ev_callS (as := [.int a1]) dX10_wages_1 ph2 ok_X10_isHand (by omega) rfl k5_119 k5_120 rfl (Nat.le_of_ble_eq_true rfl) ?_
  refine ev_if_ne (tgt := 9) dX10_wages_4 (by decide) (fun c3 => ?_) (fun c3 => ?_)
  · rw [if_neg c3] at H
    refine ev_aload_n dX10_wages_9 rfl rfl rfl ?_
    refine ev_iconst (v := (0 : Int32)) dX10_wages_10 (by decide) ?_
    refine ev_aload_n dX10_wages_11 rfl rfl rfl ?_
    replace H := gd_some H
    obtain ⟨g4, H⟩ := H
    replace H := vl_some H
    obtain ⟨r5, er5, H⟩ := H
    refine ev_getRx dX10_wages_12 fgX10_40 rfl (okOb.p g4) er5 ?_
    refine ev_iload_n dX10_wages_15 rfl rfl ?_
    replace H := un_some H
    obtain ⟨b6, eb6, H⟩ := H
    subst eb6
    replace H := gd_some H
    obtain ⟨g7, H⟩ := H
    replace H := vl_some H
    obtain ⟨x8, ex8, H⟩ := H
    refine ev_ialdx dX10_wages_16 (okAb.p g7) ex8 ?_
    refine ev_i2l dX10_wages_17 rfl ?_
    replace H := bnd_some H
    obtain ⟨v9, h10, eh10, H⟩ := H
    have ph10 := (t_X10_part (X := X) (d := 1) (by omega) eh10)
    refine ev_callV (as := [.int (0 : Int32), .long (x8.toInt64)]) dX10_wages_18 ph10 ok_X10_part (by omega) rfl k6_80 k6_82 ks_49 (ci := 10) (by decide) rfl rfl (okOb.p g4) rfl (Nat.le_of_ble_eq_true rfl) ?_
    refine ev_aload_n dX10_wages_21 rfl rfl rfl ?_
    refine ev_iconst (v := (2 : Int32)) dX10_wages_22 (by decide) ?_
    refine ev_aload_n dX10_wages_23 rfl rfl rfl ?_
    replace H := vl_some H
    obtain ⟨r11, er11, H⟩ := H
    refine ev_getRx dX10_wages_24 fgX10_43 rfl (okO_ext ph10.1 (okOb.p g4)) er11 ?_
    refine ev_iload_n dX10_wages_27 rfl rfl ?_
    replace H := un_some H
    obtain ⟨b12, eb12, H⟩ := H
    subst eb12
    replace H := gd_some H
    obtain ⟨g13, H⟩ := H
    replace H := vl_some H
    obtain ⟨x14, ex14, H⟩ := H
    refine ev_ialdx dX10_wages_28 (okAb.p g13) ex14 ?_
    refine ev_i2l dX10_wages_29 rfl ?_
    replace H := bnd_some H
    obtain ⟨v15, h16, eh16, H⟩ := H
    have ph16 := (t_X10_part (X := X) (d := 1) (by omega) eh16)
    refine ev_callV (as := [.int (2 : Int32), .long (x14.toInt64)]) dX10_wages_30 ph16 ok_X10_part (by omega) rfl k6_80 k6_82 ks_49 (ci := 10) (by decide) rfl rfl (okO_ext ph10.1 (okOb.p g4)) rfl (Nat.le_of_ble_eq_true rfl) ?_
    refine ev_ladd dX10_wages_33 ?_
    refine ev_aload_n dX10_wages_34 rfl rfl rfl ?_
    refine ev_iconst (v := (1 : Int32)) dX10_wages_35 (by decide) ?_
    refine ev_aload_n dX10_wages_36 rfl rfl rfl ?_
    refine ev_iload_n dX10_wages_37 rfl rfl ?_
    replace H := bnd_some H
    obtain ⟨v17, h18, eh18, H⟩ := H
    have ph18 := (t_X10_faultsBy (X := X) (d := 2) (by omega) eh18)
    refine ev_callV (as := [.int a1]) dX10_wages_38 ph18 ok_X10_faultsBy (by omega) rfl k6_84 k6_86 ks_50 (ci := 10) (by decide) rfl rfl (okO_ext ph16.1 (okO_ext ph10.1 (okOb.p g4))) rfl (Nat.le_of_ble_eq_true rfl) ?_
    refine ev_i2l dX10_wages_41 rfl ?_
    replace H := bnd_some H
    obtain ⟨v19, h20, eh20, H⟩ := H
    have ph20 := (t_X10_part (X := X) (d := 1) (by omega) eh20)
    refine ev_callV (as := [.int (1 : Int32), .long (v17.toInt64)]) dX10_wages_42 ph20 ok_X10_part (by omega) rfl k6_80 k6_82 ks_49 (ci := 10) (by decide) rfl rfl (okO_ext ph18.1 (okO_ext ph16.1 (okO_ext ph10.1 (okOb.p g4)))) rfl (Nat.le_of_ble_eq_true rfl) ?_
    refine ev_lsub dX10_wages_45 ?_
    refine ev_aload_n dX10_wages_46 rfl rfl rfl ?_
    refine ev_iconst (v := (3 : Int32)) dX10_wages_47 (by decide) ?_
    refine ev_aload_n dX10_wages_48 rfl rfl rfl ?_
    replace H := vl_some H
    obtain ⟨r21, er21, H⟩ := H
    refine ev_getRx dX10_wages_49 fgX10_46 rfl (okO_ext ph20.1 (okO_ext ph18.1 (okO_ext ph16.1 (okO_ext ph10.1 (okOb.p g4))))) er21 ?_
    refine ev_iload_n dX10_wages_52 rfl rfl ?_
    replace H := un_some H
    obtain ⟨b22, eb22, H⟩ := H
    subst eb22
    replace H := gd_some H
    obtain ⟨g23, H⟩ := H
    replace H := vl_some H
    obtain ⟨x24, ex24, H⟩ := H
    refine ev_ialdx dX10_wages_53 (okAb.p g23) ex24 ?_
    refine ev_i2l dX10_wages_54 rfl ?_
    replace H := bnd_some H
    obtain ⟨v25, h26, eh26, H⟩ := H
    have ph26 := (t_X10_part (X := X) (d := 1) (by omega) eh26)
    refine ev_callV (as := [.int (3 : Int32), .long (x24.toInt64)]) dX10_wages_55 ph26 ok_X10_part (by omega) rfl k6_80 k6_82 ks_49 (ci := 10) (by decide) rfl rfl (okO_ext ph20.1 (okO_ext ph18.1 (okO_ext ph16.1 (okO_ext ph10.1 (okOb.p g4))))) rfl (Nat.le_of_ble_eq_true rfl) ?_
    refine ev_lsub dX10_wages_58 ?_
    replace H := vl_some H
    obtain ⟨x27, ex27, H⟩ := H
    refine ev_lstore_nx (loc2 := [some (.ref a0), some (.int a1), some (.long x27), none]) dX10_wages_59 rfl (by decide) ex27 rfl ?_
    refine ev_lload_n dX10_wages_60 rfl rfl ?_
    refine ev_lconst (v := (0 : Int64)) dX10_wages_61 (by decide) ?_
    refine ev_lcmp dX10_wages_62 ?_
    refine ev_if_ge (tgt := 70) dX10_wages_63 (by decide) (fun c28 => ?_) (fun c28 => ?_)
    · rw [if_pos c28] at H
      refine ev_lload_n dX10_wages_70 rfl rfl ?_
      refine ev_l2i dX10_wages_71 rfl ?_
      exact ev_iretx dX10_wages_72 rfl rfl H
    · rw [if_neg c28] at H
      refine ev_iconst (v := (0 : Int32)) dX10_wages_66 (by decide) ?_
      refine ev_goto (tgt := 72) dX10_wages_67 (by decide) ?_
      exact ev_iretx dX10_wages_72 rfl rfl H
  · rw [if_pos c3] at H
    refine ev_iconst (v := (-1 : Int32)) dX10_wages_7 (by decide) ?_
    exact ev_iretx dX10_wages_8 rfl rfl H

theorem dX10_did_0 : decode cX10_did 0 = .ok (.iload_n 1, 1) := by decide +kernel
theorem dX10_did_1 : decode cX10_did 1 = .ok (.invokestatic 169, 3) := by decide +kernel
theorem dX10_did_4 : decode cX10_did 4 = .ok (.ifCond .ne 5, 3) := by decide +kernel
theorem dX10_did_7 : decode cX10_did 7 = .ok (.iconst (-1), 1) := by decide +kernel
theorem dX10_did_8 : decode cX10_did 8 = .ok (.ireturn, 1) := by decide +kernel
theorem dX10_did_9 : decode cX10_did 9 = .ok (.iload_n 2, 1) := by decide +kernel
theorem dX10_did_10 : decode cX10_did 10 = .ok (.tableswitch 57 0 3 #[30, 37, 44, 51], 30) := by decide +kernel
theorem dX10_did_40 : decode cX10_did 40 = .ok (.aload_n 0, 1) := by decide +kernel
theorem dX10_did_41 : decode cX10_did 41 = .ok (.getfield 40, 3) := by decide +kernel
theorem dX10_did_44 : decode cX10_did 44 = .ok (.iload_n 1, 1) := by decide +kernel
theorem dX10_did_45 : decode cX10_did 45 = .ok (.iaload, 1) := by decide +kernel
theorem dX10_did_46 : decode cX10_did 46 = .ok (.ireturn, 1) := by decide +kernel
theorem dX10_did_47 : decode cX10_did 47 = .ok (.aload_n 0, 1) := by decide +kernel
theorem dX10_did_48 : decode cX10_did 48 = .ok (.getfield 43, 3) := by decide +kernel
theorem dX10_did_51 : decode cX10_did 51 = .ok (.iload_n 1, 1) := by decide +kernel
theorem dX10_did_52 : decode cX10_did 52 = .ok (.iaload, 1) := by decide +kernel
theorem dX10_did_53 : decode cX10_did 53 = .ok (.ireturn, 1) := by decide +kernel
theorem dX10_did_54 : decode cX10_did 54 = .ok (.aload_n 0, 1) := by decide +kernel
theorem dX10_did_55 : decode cX10_did 55 = .ok (.getfield 46, 3) := by decide +kernel
theorem dX10_did_58 : decode cX10_did 58 = .ok (.iload_n 1, 1) := by decide +kernel
theorem dX10_did_59 : decode cX10_did 59 = .ok (.iaload, 1) := by decide +kernel
theorem dX10_did_60 : decode cX10_did 60 = .ok (.ireturn, 1) := by decide +kernel
theorem dX10_did_61 : decode cX10_did 61 = .ok (.aload_n 0, 1) := by decide +kernel
theorem dX10_did_62 : decode cX10_did 62 = .ok (.iload_n 1, 1) := by decide +kernel
theorem dX10_did_63 : decode cX10_did 63 = .ok (.invokevirtual 297, 3) := by decide +kernel
theorem dX10_did_66 : decode cX10_did 66 = .ok (.ireturn, 1) := by decide +kernel
theorem dX10_did_67 : decode cX10_did 67 = .ok (.iconst (-1), 1) := by decide +kernel
theorem dX10_did_68 : decode cX10_did 68 = .ok (.ireturn, 1) := by decide +kernel
def f_X10_did (h : Hp) (a0 : Nat) (a1 : Int32) (a2 : Int32) : Option (Int32 × Hp) :=
bnd (f_X10_isHand h a1) fun v1 h2 =>
if v1 = 0 then (
some ((-1 : Int32), h2)) else (
if a2 = (0 : Int32) then (
gd (okOb h2 a0 10) <|
vl (gR h2 a0 12) fun r6 =>
un r6 fun b7 =>
gd (okAb h2 b7 11 a1) <|
vl (gI h2 b7 a1.toNatClampNeg) fun x9 =>
some (x9, h2)) else if a2 = (1 : Int32) then (
gd (okOb h2 a0 10) <|
vl (gR h2 a0 13) fun r12 =>
un r12 fun b13 =>
gd (okAb h2 b13 11 a1) <|
vl (gI h2 b13 a1.toNatClampNeg) fun x15 =>
some (x15, h2)) else if a2 = (2 : Int32) then (
gd (okOb h2 a0 10) <|
vl (gR h2 a0 14) fun r18 =>
un r18 fun b19 =>
gd (okAb h2 b19 11 a1) <|
vl (gI h2 b19 a1.toNatClampNeg) fun x21 =>
some (x21, h2)) else if a2 = (3 : Int32) then (
gd (okOb h2 a0 10) <|
bnd (f_X10_faultsBy h2 a0 a1) fun v24 h25 =>
some (v24, h25)) else (
some ((-1 : Int32), h2)))
set_option maxHeartbeats 4000000 in
set_option maxRecDepth 100000 in
theorem t_X10_did {X : Cx} {d : Nat} {h : Hp} {a0 : Nat} {a1 : Int32} {a2 : Int32} {v : Int32} {h' : Hp} (hD : 3 ≤ d) (H : f_X10_did h a0 a1 a2 = some (v, h')) : PM X mX10_did d [.ref a0, .int a1, .int a2] h (some (.int v)) h' := by
  unfold f_X10_did at H
  refine PM.of (loc := [some (.ref a0), some (.int a1), some (.int a2)]) (by decide) rfl (Nat.le_of_ble_eq_true rfl) ?_
  refine ev_iload_n dX10_did_0 rfl rfl ?_
  replace H := bnd_some H
  obtain ⟨v1, h2, eh2, H⟩ := H
  have ph2 := (t_X10_isHand (X := X) (d := 1) (by omega) eh2)
  refine ev_callS (as := [.int a1]) dX10_did_1 ph2 ok_X10_isHand (by omega) rfl k5_119 k5_120 rfl (Nat.le_of_ble_eq_true rfl) ?_
  refine ev_if_ne (tgt := 9) dX10_did_4 (by decide) (fun c3 => ?_) (fun c3 => ?_)
  · rw [if_neg c3] at H
    refine ev_iload_n dX10_did_9 rfl rfl ?_
    by_cases c4 : a2 = (0 : Int32)
    · rw [if_pos c4] at H
      refine ev_tsIn (tgt := 40) dX10_did_10 (by rw [c4]; decide) (by rw [c4]; decide) (by rw [c4]; rfl) (by decide) ?_
      refine ev_aload_n dX10_did_40 rfl rfl rfl ?_
      replace H := gd_some H
      obtain ⟨g5, H⟩ := H
      replace H := vl_some H
      obtain ⟨r6, er6, H⟩ := H
      refine ev_getRx dX10_did_41 fgX10_40 rfl (okOb.p g5) er6 ?_
      refine ev_iload_n dX10_did_44 rfl rfl ?_
      replace H := un_some H
      obtain ⟨b7, eb7, H⟩ := H
      subst eb7
      replace H := gd_some H
      obtain ⟨g8, H⟩ := H
      replace H := vl_some H
      obtain ⟨x9, ex9, H⟩ := H
      refine ev_ialdx dX10_did_45 (okAb.p g8) ex9 ?_
      exact ev_iretx dX10_did_46 rfl rfl H
    rw [if_neg c4] at H
    by_cases c10 : a2 = (1 : Int32)
    · rw [if_pos c10] at H
      refine ev_tsIn (tgt := 47) dX10_did_10 (by rw [c10]; decide) (by rw [c10]; decide) (by rw [c10]; rfl) (by decide) ?_
      refine ev_aload_n dX10_did_47 rfl rfl rfl ?_
      replace H := gd_some H
      obtain ⟨g11, H⟩ := H
      replace H := vl_some H
      obtain ⟨r12, er12, H⟩ := H
      refine ev_getRx dX10_did_48 fgX10_43 rfl (okOb.p g11) er12 ?_
      refine ev_iload_n dX10_did_51 rfl rfl ?_
      replace H := un_some H
      obtain ⟨b13, eb13, H⟩ := H
      subst eb13
      replace H := gd_some H
      obtain ⟨g14, H⟩ := H
      replace H := vl_some H
      obtain ⟨x15, ex15, H⟩ := H
      refine ev_ialdx dX10_did_52 (okAb.p g14) ex15 ?_
      exact ev_iretx dX10_did_53 rfl rfl H
    rw [if_neg c10] at H
    by_cases c16 : a2 = (2 : Int32)
    · rw [if_pos c16] at H
      refine ev_tsIn (tgt := 54) dX10_did_10 (by rw [c16]; decide) (by rw [c16]; decide) (by rw [c16]; rfl) (by decide) ?_
      refine ev_aload_n dX10_did_54 rfl rfl rfl ?_
      replace H := gd_some H
      obtain ⟨g17, H⟩ := H
      replace H := vl_some H
      obtain ⟨r18, er18, H⟩ := H
      refine ev_getRx dX10_did_55 fgX10_46 rfl (okOb.p g17) er18 ?_
      refine ev_iload_n dX10_did_58 rfl rfl ?_
      replace H := un_some H
      obtain ⟨b19, eb19, H⟩ := H
      subst eb19
      replace H := gd_some H
      obtain ⟨g20, H⟩ := H
      replace H := vl_some H
      obtain ⟨x21, ex21, H⟩ := H
      refine ev_ialdx dX10_did_59 (okAb.p g20) ex21 ?_
      exact ev_iretx dX10_did_60 rfl rfl H
    rw [if_neg c16] at H
    by_cases c22 : a2 = (3 : Int32)
    · rw [if_pos c22] at H
      refine ev_tsIn (tgt := 61) dX10_did_10 (by rw [c22]; decide) (by rw [c22]; decide) (by rw [c22]; rfl) (by decide) ?_
      refine ev_aload_n dX10_did_61 rfl rfl rfl ?_
      refine ev_iload_n dX10_did_62 rfl rfl ?_
      replace H := gd_some H
      obtain ⟨g23, H⟩ := H
      replace H := bnd_some H
      obtain ⟨v24, h25, eh25, H⟩ := H
      have ph25 := (t_X10_faultsBy (X := X) (d := 2) (by omega) eh25)
      refine ev_callV (as := [.int a1]) dX10_did_63 ph25 ok_X10_faultsBy (by omega) rfl k6_84 k6_86 ks_50 (ci := 10) (by decide) rfl rfl (okOb.p g23) rfl (Nat.le_of_ble_eq_true rfl) ?_
      exact ev_iretx dX10_did_66 rfl rfl H
    rw [if_neg c22] at H
    refine ev_tsOut (tgt := 67) dX10_did_10 (ts_out (n := 4) (by decide) (by decide) (fun j hj => ?_)) (by decide) ?_
    · match j, hj with
      | 0, _ => exact fun q => c4 (by rw [q]; decide)
      | 1, _ => exact fun q => c10 (by rw [q]; decide)
      | 2, _ => exact fun q => c16 (by rw [q]; decide)
      | 3, _ => exact fun q => c22 (by rw [q]; decide)
    refine ev_iconst (v := (-1 : Int32)) dX10_did_67 (by decide) ?_
    exact ev_iretx dX10_did_68 rfl rfl H
  · rw [if_pos c3] at H
    refine ev_iconst (v := (-1 : Int32)) dX10_did_7 (by decide) ?_
    exact ev_iretx dX10_did_8 rfl rfl H

theorem dX10_job_0 : decode cX10_job 0 = .ok (.iload_n 1, 1) := by decide +kernel
theorem dX10_job_1 : decode cX10_job 1 = .ok (.i2l, 1) := by decide +kernel
theorem dX10_job_2 : decode cX10_job 2 = .ok (.lconst 0, 1) := by decide +kernel
theorem dX10_job_3 : decode cX10_job 3 = .ok (.ldc2_w 300, 3) := by decide +kernel
theorem dX10_job_6 : decode cX10_job 6 = .ok (.invokestatic 151, 3) := by decide +kernel
theorem dX10_job_9 : decode cX10_job 9 = .ok (.ifCond .eq 27, 3) := by decide +kernel
theorem dX10_job_12 : decode cX10_job 12 = .ok (.iload_n 2, 1) := by decide +kernel
theorem dX10_job_13 : decode cX10_job 13 = .ok (.i2l, 1) := by decide +kernel
theorem dX10_job_14 : decode cX10_job 14 = .ok (.lconst 0, 1) := by decide +kernel
theorem dX10_job_15 : decode cX10_job 15 = .ok (.ldc2_w 300, 3) := by decide +kernel
theorem dX10_job_18 : decode cX10_job 18 = .ok (.invokestatic 151, 3) := by decide +kernel
theorem dX10_job_21 : decode cX10_job 21 = .ok (.ifCond .eq 15, 3) := by decide +kernel
theorem dX10_job_24 : decode cX10_job 24 = .ok (.iload_n 3, 1) := by decide +kernel
theorem dX10_job_25 : decode cX10_job 25 = .ok (.i2l, 1) := by decide +kernel
theorem dX10_job_26 : decode cX10_job 26 = .ok (.lconst 0, 1) := by decide +kernel
theorem dX10_job_27 : decode cX10_job 27 = .ok (.ldc2_w 302, 3) := by decide +kernel
theorem dX10_job_30 : decode cX10_job 30 = .ok (.invokestatic 151, 3) := by decide +kernel
theorem dX10_job_33 : decode cX10_job 33 = .ok (.ifCond .ne 6, 3) := by decide +kernel
theorem dX10_job_36 : decode cX10_job 36 = .ok (.bipush (-2), 2) := by decide +kernel
theorem dX10_job_38 : decode cX10_job 38 = .ok (.ireturn, 1) := by decide +kernel
theorem dX10_job_39 : decode cX10_job 39 = .ok (.aload_n 0, 1) := by decide +kernel
theorem dX10_job_40 : decode cX10_job 40 = .ok (.getfield 304, 3) := by decide +kernel
theorem dX10_job_43 : decode cX10_job 43 = .ok (.bipush 7, 2) := by decide +kernel
theorem dX10_job_45 : decode cX10_job 45 = .ok (.if_icmp .ne 6, 3) := by decide +kernel
theorem dX10_job_48 : decode cX10_job 48 = .ok (.bipush (-4), 2) := by decide +kernel
theorem dX10_job_50 : decode cX10_job 50 = .ok (.ireturn, 1) := by decide +kernel
theorem dX10_job_51 : decode cX10_job 51 = .ok (.aload_n 0, 1) := by decide +kernel
theorem dX10_job_52 : decode cX10_job 52 = .ok (.getfield 122, 3) := by decide +kernel
theorem dX10_job_55 : decode cX10_job 55 = .ok (.aload_n 0, 1) := by decide +kernel
theorem dX10_job_56 : decode cX10_job 56 = .ok (.getfield 304, 3) := by decide +kernel
theorem dX10_job_59 : decode cX10_job 59 = .ok (.iload_n 1, 1) := by decide +kernel
theorem dX10_job_60 : decode cX10_job 60 = .ok (.iastore, 1) := by decide +kernel
theorem dX10_job_61 : decode cX10_job 61 = .ok (.aload_n 0, 1) := by decide +kernel
theorem dX10_job_62 : decode cX10_job 62 = .ok (.getfield 125, 3) := by decide +kernel
theorem dX10_job_65 : decode cX10_job 65 = .ok (.aload_n 0, 1) := by decide +kernel
theorem dX10_job_66 : decode cX10_job 66 = .ok (.getfield 304, 3) := by decide +kernel
theorem dX10_job_69 : decode cX10_job 69 = .ok (.iload_n 2, 1) := by decide +kernel
theorem dX10_job_70 : decode cX10_job 70 = .ok (.iastore, 1) := by decide +kernel
theorem dX10_job_71 : decode cX10_job 71 = .ok (.aload_n 0, 1) := by decide +kernel
theorem dX10_job_72 : decode cX10_job 72 = .ok (.getfield 128, 3) := by decide +kernel
theorem dX10_job_75 : decode cX10_job 75 = .ok (.aload_n 0, 1) := by decide +kernel
theorem dX10_job_76 : decode cX10_job 76 = .ok (.getfield 304, 3) := by decide +kernel
theorem dX10_job_79 : decode cX10_job 79 = .ok (.iload_n 3, 1) := by decide +kernel
theorem dX10_job_80 : decode cX10_job 80 = .ok (.iastore, 1) := by decide +kernel
theorem dX10_job_81 : decode cX10_job 81 = .ok (.aload_n 0, 1) := by decide +kernel
theorem dX10_job_82 : decode cX10_job 82 = .ok (.dup, 1) := by decide +kernel
theorem dX10_job_83 : decode cX10_job 83 = .ok (.getfield 304, 3) := by decide +kernel
theorem dX10_job_86 : decode cX10_job 86 = .ok (.iconst 1, 1) := by decide +kernel
theorem dX10_job_87 : decode cX10_job 87 = .ok (.iadd, 1) := by decide +kernel
theorem dX10_job_88 : decode cX10_job 88 = .ok (.putfield 304, 3) := by decide +kernel
theorem dX10_job_91 : decode cX10_job 91 = .ok (.aload_n 0, 1) := by decide +kernel
theorem dX10_job_92 : decode cX10_job 92 = .ok (.getfield 304, 3) := by decide +kernel
theorem dX10_job_95 : decode cX10_job 95 = .ok (.iconst 1, 1) := by decide +kernel
theorem dX10_job_96 : decode cX10_job 96 = .ok (.isub, 1) := by decide +kernel
theorem dX10_job_97 : decode cX10_job 97 = .ok (.ireturn, 1) := by decide +kernel
def f_X10_job (h : Hp) (a0 : Nat) (a1 : Int32) (a2 : Int32) (a3 : Int32) : Option (Int32 × Hp) :=
bnd (f_X10_isIn h (a1.toInt64) (0 : Int64) (50 : Int64)) fun v1 h2 =>
if v1 = 0 then (
some ((-2 : Int32), h2)) else (
bnd (f_X10_isIn h2 (a2.toInt64) (0 : Int64) (50 : Int64)) fun v4 h5 =>
if v4 = 0 then (
some ((-2 : Int32), h5)) else (
bnd (f_X10_isIn h5 (a3.toInt64) (0 : Int64) (500 : Int64)) fun v7 h8 =>
if v7 = 0 then (
some ((-2 : Int32), h8)) else (
gd (okOb h8 a0 10) <|
vl (gI h8 a0 50) fun x11 =>
if x11 = (7 : Int32) then (
some ((-4 : Int32), h8)) else (
vl (gR h8 a0 45) fun r13 =>
vl (gI h8 a0 50) fun x14 =>
un r13 fun b15 =>
gd (okAb h8 b15 11 x14) <|
vl (sI h8 b15 x14.toNatClampNeg a1) fun h17 =>
vl (gR h17 a0 46) fun r18 =>
vl (gI h17 a0 50) fun x19 =>
un r18 fun b20 =>
gd (okAb h17 b20 11 x19) <|
vl (sI h17 b20 x19.toNatClampNeg a2) fun h22 =>
vl (gR h22 a0 47) fun r23 =>
vl (gI h22 a0 50) fun x24 =>
un r23 fun b25 =>
gd (okAb h22 b25 11 x24) <|
vl (sI h22 b25 x24.toNatClampNeg a3) fun h27 =>
vl (gI h27 a0 50) fun x28 =>
vl (sI h27 a0 50 (x28 + (1 : Int32))) fun h29 =>
vl (gI h29 a0 50) fun x30 =>
some (x30 - (1 : Int32), h29)))))
set_option maxHeartbeats 4000000 in
set_option maxRecDepth 100000 in
theorem t_X10_job {X : Cx} {d : Nat} {h : Hp} {a0 : Nat} {a1 : Int32} {a2 : Int32} {a3 : Int32} {v : Int32} {h' : Hp} (hD : 2 ≤ d) (H : f_X10_job h a0 a1 a2 a3 = some (v, h')) : PM X mX10_job d [.ref a0, .int a1, .int a2, .int a3] h (some (.int v)) h' := by
  unfold f_X10_job at H
  refine PM.of (loc := [some (.ref a0), some (.int a1), some (.int a2), some (.int a3)]) (by decide) rfl (Nat.le_of_ble_eq_true rfl) ?_
  refine ev_iload_n dX10_job_0 rfl rfl ?_
  refine ev_i2l dX10_job_1 rfl ?_
  refine ev_lconst (v := (0 : Int64)) dX10_job_2 (by decide) ?_
  refine ev_ldc2 (v := (50 : Int64)) dX10_job_3 k6_96 ?_
  replace H := bnd_some H
  obtain ⟨v1, h2, eh2, H⟩ := H
  have ph2 := (t_X10_isIn (X := X) (d := 1) (by omega) eh2)
  refine ev_callS (as := [.long (a1.toInt64), .long (0 : Int64), .long (50 : Int64)]) dX10_job_6 ph2 ok_X10_isIn (by omega) rfl k5_88 k5_89 rfl (Nat.le_of_ble_eq_true rfl) ?_
  refine ev_if_eq (tgt := 36) dX10_job_9 (by decide) (fun c3 => ?_) (fun c3 => ?_)
  · rw [if_pos c3] at H
    refine ev_bipush (v := (-2 : Int32)) dX10_job_36 (by decide) ?_
    exact ev_iretx dX10_job_38 rfl rfl H
  · rw [if_neg c3] at H
    refine ev_iload_n dX10_job_12 rfl rfl ?_
    refine ev_i2l dX10_job_13 rfl ?_
    refine ev_lconst (v := (0 : Int64)) dX10_job_14 (by decide) ?_
    refine ev_ldc2 (v := (50 : Int64)) dX10_job_15 k6_96 ?_
    replace H := bnd_some H
    obtain ⟨v4, h5, eh5, H⟩ := H
    have ph5 := (t_X10_isIn (X := X) (d := 1) (by omega) eh5)
    refine ev_callS (as := [.long (a2.toInt64), .long (0 : Int64), .long (50 : Int64)]) dX10_job_18 ph5 ok_X10_isIn (by omega) rfl k5_88 k5_89 rfl (Nat.le_of_ble_eq_true rfl) ?_
    refine ev_if_eq (tgt := 36) dX10_job_21 (by decide) (fun c6 => ?_) (fun c6 => ?_)
    · rw [if_pos c6] at H
      refine ev_bipush (v := (-2 : Int32)) dX10_job_36 (by decide) ?_
      exact ev_iretx dX10_job_38 rfl rfl H
    · rw [if_neg c6] at H
      refine ev_iload_n dX10_job_24 rfl rfl ?_
      refine ev_i2l dX10_job_25 rfl ?_
      refine ev_lconst (v := (0 : Int64)) dX10_job_26 (by decide) ?_
      refine ev_ldc2 (v := (500 : Int64)) dX10_job_27 k6_97 ?_
      replace H := bnd_some H
      obtain ⟨v7, h8, eh8, H⟩ := H
      have ph8 := (t_X10_isIn (X := X) (d := 1) (by omega) eh8)
      refine ev_callS (as := [.long (a3.toInt64), .long (0 : Int64), .long (500 : Int64)]) dX10_job_30 ph8 ok_X10_isIn (by omega) rfl k5_88 k5_89 rfl (Nat.le_of_ble_eq_true rfl) ?_
      refine ev_if_ne (tgt := 39) dX10_job_33 (by decide) (fun c9 => ?_) (fun c9 => ?_)
      · rw [if_neg c9] at H
        refine ev_aload_n dX10_job_39 rfl rfl rfl ?_
        replace H := gd_some H
        obtain ⟨g10, H⟩ := H
        replace H := vl_some H
        obtain ⟨x11, ex11, H⟩ := H
        refine ev_getIx dX10_job_40 fgX10_304 rfl (okOb.p g10) ex11 ?_
        refine ev_bipush (v := (7 : Int32)) dX10_job_43 (by decide) ?_
        refine ev_icmp_ne (tgt := 51) dX10_job_45 (by decide) (fun c12 => ?_) (fun c12 => ?_)
        · rw [if_neg c12] at H
          refine ev_aload_n dX10_job_51 rfl rfl rfl ?_
          replace H := vl_some H
          obtain ⟨r13, er13, H⟩ := H
          refine ev_getRx dX10_job_52 fgX10_122 rfl (okOb.p g10) er13 ?_
          refine ev_aload_n dX10_job_55 rfl rfl rfl ?_
          replace H := vl_some H
          obtain ⟨x14, ex14, H⟩ := H
          refine ev_getIx dX10_job_56 fgX10_304 rfl (okOb.p g10) ex14 ?_
          refine ev_iload_n dX10_job_59 rfl rfl ?_
          replace H := un_some H
          obtain ⟨b15, eb15, H⟩ := H
          subst eb15
          replace H := gd_some H
          obtain ⟨g16, H⟩ := H
          replace H := vl_some H
          obtain ⟨h17, eh17, H⟩ := H
          refine ev_iast dX10_job_60 (okAb.p g16) eh17 ?_
          refine ev_aload_n dX10_job_61 rfl rfl rfl ?_
          replace H := vl_some H
          obtain ⟨r18, er18, H⟩ := H
          refine ev_getRx dX10_job_62 fgX10_125 rfl (okO_sI eh17 (okOb.p g10)) er18 ?_
          refine ev_aload_n dX10_job_65 rfl rfl rfl ?_
          replace H := vl_some H
          obtain ⟨x19, ex19, H⟩ := H
          refine ev_getIx dX10_job_66 fgX10_304 rfl (okO_sI eh17 (okOb.p g10)) ex19 ?_
          refine ev_iload_n dX10_job_69 rfl rfl ?_
          replace H := un_some H
          obtain ⟨b20, eb20, H⟩ := H
          subst eb20
          replace H := gd_some H
          obtain ⟨g21, H⟩ := H
          replace H := vl_some H
          obtain ⟨h22, eh22, H⟩ := H
          refine ev_iast dX10_job_70 (okAb.p g21) eh22 ?_
          refine ev_aload_n dX10_job_71 rfl rfl rfl ?_
          replace H := vl_some H
          obtain ⟨r23, er23, H⟩ := H
          refine ev_getRx dX10_job_72 fgX10_128 rfl (okO_sI eh22 (okO_sI eh17 (okOb.p g10))) er23 ?_
          refine ev_aload_n dX10_job_75 rfl rfl rfl ?_
          replace H := vl_some H
          obtain ⟨x24, ex24, H⟩ := H
          refine ev_getIx dX10_job_76 fgX10_304 rfl (okO_sI eh22 (okO_sI eh17 (okOb.p g10))) ex24 ?_
          refine ev_iload_n dX10_job_79 rfl rfl ?_
          replace H := un_some H
          obtain ⟨b25, eb25, H⟩ := H
          subst eb25
          replace H := gd_some H
          obtain ⟨g26, H⟩ := H
          replace H := vl_some H
          obtain ⟨h27, eh27, H⟩ := H
          refine ev_iast dX10_job_80 (okAb.p g26) eh27 ?_
          refine ev_aload_n dX10_job_81 rfl rfl rfl ?_
          refine ev_dup dX10_job_82 rfl ?_
          replace H := vl_some H
          obtain ⟨x28, ex28, H⟩ := H
          refine ev_getIx dX10_job_83 fgX10_304 rfl (okO_sI eh27 (okO_sI eh22 (okO_sI eh17 (okOb.p g10)))) ex28 ?_
          refine ev_iconst (v := (1 : Int32)) dX10_job_86 (by decide) ?_
          refine ev_iadd dX10_job_87 ?_
          replace H := vl_some H
          obtain ⟨h29, eh29, H⟩ := H
          refine ev_putI dX10_job_88 fdX10_304 rfl rfl rfl (okO_sI eh27 (okO_sI eh22 (okO_sI eh17 (okOb.p g10)))) eh29 ?_
          refine ev_aload_n dX10_job_91 rfl rfl rfl ?_
          replace H := vl_some H
          obtain ⟨x30, ex30, H⟩ := H
          refine ev_getIx dX10_job_92 fgX10_304 rfl (okO_sI eh29 (okO_sI eh27 (okO_sI eh22 (okO_sI eh17 (okOb.p g10))))) ex30 ?_
          refine ev_iconst (v := (1 : Int32)) dX10_job_95 (by decide) ?_
          refine ev_isub dX10_job_96 ?_
          exact ev_iretx dX10_job_97 rfl rfl H
        · rw [if_pos c12] at H
          refine ev_bipush (v := (-4 : Int32)) dX10_job_48 (by decide) ?_
          exact ev_iretx dX10_job_50 rfl rfl H
      · rw [if_pos c9] at H
        refine ev_bipush (v := (-2 : Int32)) dX10_job_36 (by decide) ?_
        exact ev_iretx dX10_job_38 rfl rfl H

theorem dX10_late_0 : decode cX10_late 0 = .ok (.iconst 0, 1) := by decide +kernel
theorem dX10_late_1 : decode cX10_late 1 = .ok (.istore_n 1, 1) := by decide +kernel
theorem dX10_late_2 : decode cX10_late 2 = .ok (.iconst 0, 1) := by decide +kernel
theorem dX10_late_3 : decode cX10_late 3 = .ok (.istore_n 2, 1) := by decide +kernel
theorem dX10_late_4 : decode cX10_late 4 = .ok (.aload_n 0, 1) := by decide +kernel
theorem dX10_late_5 : decode cX10_late 5 = .ok (.iconst 0, 1) := by decide +kernel
theorem dX10_late_6 : decode cX10_late 6 = .ok (.putfield 307, 3) := by decide +kernel
theorem dX10_late_9 : decode cX10_late 9 = .ok (.iconst 0, 1) := by decide +kernel
theorem dX10_late_10 : decode cX10_late 10 = .ok (.istore_n 3, 1) := by decide +kernel
theorem dX10_late_11 : decode cX10_late 11 = .ok (.iload_n 3, 1) := by decide +kernel
theorem dX10_late_12 : decode cX10_late 12 = .ok (.aload_n 0, 1) := by decide +kernel
theorem dX10_late_13 : decode cX10_late 13 = .ok (.getfield 304, 3) := by decide +kernel
theorem dX10_late_16 : decode cX10_late 16 = .ok (.if_icmp .ge 96, 3) := by decide +kernel
theorem dX10_late_19 : decode cX10_late 19 = .ok (.iload_n 1, 1) := by decide +kernel
theorem dX10_late_20 : decode cX10_late 20 = .ok (.aload_n 0, 1) := by decide +kernel
theorem dX10_late_21 : decode cX10_late 21 = .ok (.getfield 122, 3) := by decide +kernel
theorem dX10_late_24 : decode cX10_late 24 = .ok (.aload_n 0, 1) := by decide +kernel
theorem dX10_late_25 : decode cX10_late 25 = .ok (.getfield 98, 3) := by decide +kernel
theorem dX10_late_28 : decode cX10_late 28 = .ok (.iload_n 3, 1) := by decide +kernel
theorem dX10_late_29 : decode cX10_late 29 = .ok (.iaload, 1) := by decide +kernel
theorem dX10_late_30 : decode cX10_late 30 = .ok (.iaload, 1) := by decide +kernel
theorem dX10_late_31 : decode cX10_late 31 = .ok (.iadd, 1) := by decide +kernel
theorem dX10_late_32 : decode cX10_late 32 = .ok (.istore_n 1, 1) := by decide +kernel
theorem dX10_late_33 : decode cX10_late 33 = .ok (.aload_n 0, 1) := by decide +kernel
theorem dX10_late_34 : decode cX10_late 34 = .ok (.iload_n 1, 1) := by decide +kernel
theorem dX10_late_35 : decode cX10_late 35 = .ok (.aload_n 0, 1) := by decide +kernel
theorem dX10_late_36 : decode cX10_late 36 = .ok (.getfield 307, 3) := by decide +kernel
theorem dX10_late_39 : decode cX10_late 39 = .ok (.if_icmp .le 7, 3) := by decide +kernel
theorem dX10_late_42 : decode cX10_late 42 = .ok (.iload_n 1, 1) := by decide +kernel
theorem dX10_late_43 : decode cX10_late 43 = .ok (.goto 7, 3) := by decide +kernel
theorem dX10_late_46 : decode cX10_late 46 = .ok (.aload_n 0, 1) := by decide +kernel
theorem dX10_late_47 : decode cX10_late 47 = .ok (.getfield 307, 3) := by decide +kernel
theorem dX10_late_50 : decode cX10_late 50 = .ok (.aload_n 0, 1) := by decide +kernel
theorem dX10_late_51 : decode cX10_late 51 = .ok (.getfield 125, 3) := by decide +kernel
theorem dX10_late_54 : decode cX10_late 54 = .ok (.aload_n 0, 1) := by decide +kernel
theorem dX10_late_55 : decode cX10_late 55 = .ok (.getfield 98, 3) := by decide +kernel
theorem dX10_late_58 : decode cX10_late 58 = .ok (.iload_n 3, 1) := by decide +kernel
theorem dX10_late_59 : decode cX10_late 59 = .ok (.iaload, 1) := by decide +kernel
theorem dX10_late_60 : decode cX10_late 60 = .ok (.iaload, 1) := by decide +kernel
theorem dX10_late_61 : decode cX10_late 61 = .ok (.iadd, 1) := by decide +kernel
theorem dX10_late_62 : decode cX10_late 62 = .ok (.putfield 307, 3) := by decide +kernel
theorem dX10_late_65 : decode cX10_late 65 = .ok (.iload_n 2, 1) := by decide +kernel
theorem dX10_late_66 : decode cX10_late 66 = .ok (.aload_n 0, 1) := by decide +kernel
theorem dX10_late_67 : decode cX10_late 67 = .ok (.getfield 307, 3) := by decide +kernel
theorem dX10_late_70 : decode cX10_late 70 = .ok (.aload_n 0, 1) := by decide +kernel
theorem dX10_late_71 : decode cX10_late 71 = .ok (.getfield 128, 3) := by decide +kernel
theorem dX10_late_74 : decode cX10_late 74 = .ok (.aload_n 0, 1) := by decide +kernel
theorem dX10_late_75 : decode cX10_late 75 = .ok (.getfield 98, 3) := by decide +kernel
theorem dX10_late_78 : decode cX10_late 78 = .ok (.iload_n 3, 1) := by decide +kernel
theorem dX10_late_79 : decode cX10_late 79 = .ok (.iaload, 1) := by decide +kernel
theorem dX10_late_80 : decode cX10_late 80 = .ok (.iaload, 1) := by decide +kernel
theorem dX10_late_81 : decode cX10_late 81 = .ok (.if_icmp .le 22, 3) := by decide +kernel
theorem dX10_late_84 : decode cX10_late 84 = .ok (.aload_n 0, 1) := by decide +kernel
theorem dX10_late_85 : decode cX10_late 85 = .ok (.getfield 307, 3) := by decide +kernel
theorem dX10_late_88 : decode cX10_late 88 = .ok (.aload_n 0, 1) := by decide +kernel
theorem dX10_late_89 : decode cX10_late 89 = .ok (.getfield 128, 3) := by decide +kernel
theorem dX10_late_92 : decode cX10_late 92 = .ok (.aload_n 0, 1) := by decide +kernel
theorem dX10_late_93 : decode cX10_late 93 = .ok (.getfield 98, 3) := by decide +kernel
theorem dX10_late_96 : decode cX10_late 96 = .ok (.iload_n 3, 1) := by decide +kernel
theorem dX10_late_97 : decode cX10_late 97 = .ok (.iaload, 1) := by decide +kernel
theorem dX10_late_98 : decode cX10_late 98 = .ok (.iaload, 1) := by decide +kernel
theorem dX10_late_99 : decode cX10_late 99 = .ok (.isub, 1) := by decide +kernel
theorem dX10_late_100 : decode cX10_late 100 = .ok (.goto 4, 3) := by decide +kernel
theorem dX10_late_103 : decode cX10_late 103 = .ok (.iconst 0, 1) := by decide +kernel
theorem dX10_late_104 : decode cX10_late 104 = .ok (.iadd, 1) := by decide +kernel
theorem dX10_late_105 : decode cX10_late 105 = .ok (.istore_n 2, 1) := by decide +kernel
theorem dX10_late_106 : decode cX10_late 106 = .ok (.iinc 3 1, 3) := by decide +kernel
theorem dX10_late_109 : decode cX10_late 109 = .ok (.goto (-98), 3) := by decide +kernel
theorem dX10_late_112 : decode cX10_late 112 = .ok (.iload_n 2, 1) := by decide +kernel
theorem dX10_late_113 : decode cX10_late 113 = .ok (.ireturn, 1) := by decide +kernel
def f_X10_late_J50 (k11 : Nat → Int32 → Int32 → Int32 → Hp → Option (Int32 × Hp)) (l0 : Nat) (l1 : Int32) (l2 : Int32) (l3 : Int32) (w0 : Int32) (w1 : Nat) (h : Hp) : Option (Int32 × Hp) :=
gd (okOb h l0 10) <|
vl (gR h l0 46) fun r19 =>
vl (gR h l0 33) fun r20 =>
un r20 fun b21 =>
gd (okAb h b21 11 l3) <|
vl (gI h b21 l3.toNatClampNeg) fun x23 =>
un r19 fun b24 =>
gd (okAb h b24 11 x23) <|
vl (gI h b24 x23.toNatClampNeg) fun x26 =>
gd (okOb h w1 10) <|
vl (sI h w1 52 (w0 + x26)) fun h28 =>
vl (gI h28 l0 52) fun x29 =>
vl (gR h28 l0 47) fun r30 =>
vl (gR h28 l0 33) fun r31 =>
un r31 fun b32 =>
gd (okAb h28 b32 11 l3) <|
vl (gI h28 b32 l3.toNatClampNeg) fun x34 =>
un r30 fun b35 =>
gd (okAb h28 b35 11 x34) <|
vl (gI h28 b35 x34.toNatClampNeg) fun x37 =>
if x29 ≤ x37 then (
vl (l2 + (0 : Int32)) fun x39 =>
vl (l3 + (1 : Int32)) fun x40 =>
k11 l0 l1 x39 x40 h28) else (
vl (gI h28 l0 52) fun x41 =>
vl (gR h28 l0 47) fun r42 =>
vl (gR h28 l0 33) fun r43 =>
un r43 fun b44 =>
gd (okAb h28 b44 11 l3) <|
vl (gI h28 b44 l3.toNatClampNeg) fun x46 =>
un r42 fun b47 =>
gd (okAb h28 b47 11 x46) <|
vl (gI h28 b47 x46.toNatClampNeg) fun x49 =>
vl (l2 + (x41 - x49)) fun x50 =>
vl (l3 + (1 : Int32)) fun x51 =>
k11 l0 l1 x50 x51 h28)
set_option maxHeartbeats 4000000 in
set_option maxRecDepth 100000 in
theorem t_X10_late_J50 {X : Cx} {d : Nat} {h0 h' : Hp} {v : Int32} {k11 : Nat → Int32 → Int32 → Int32 → Hp → Option (Int32 × Hp)} (hD : 1 ≤ d) (hk11 : ∀ (z0 : Nat) (z1 : Int32) (z2 : Int32) (z3 : Int32) (h : Hp), k11 z0 z1 z2 z3 h = some (v, h') → EV X mX10_late d h0 (some (.int v)) h' 11 [some (.ref z0), some (.int z1), some (.int z2), some (.int z3)] [] h) : ∀ (l0 : Nat) (l1 : Int32) (l2 : Int32) (l3 : Int32) (w0 : Int32) (w1 : Nat) (h : Hp), f_X10_late_J50 k11 l0 l1 l2 l3 w0 w1 h = some (v, h') → EV X mX10_late d h0 (some (.int v)) h' 50 [some (.ref l0), some (.int l1), some (.int l2), some (.int l3)] [.int w0, .ref w1] h := by
  intro l0 l1 l2 l3 w0 w1 h H
  unfold f_X10_late_J50 at H
  refine ev_aload_n dX10_late_50 rfl rfl rfl ?_
  replace H := gd_some H
  obtain ⟨g18, H⟩ := H
  replace H := vl_some H
  obtain ⟨r19, er19, H⟩ := H
  refine ev_getRx dX10_late_51 fgX10_125 rfl (okOb.p g18) er19 ?_
  refine ev_aload_n dX10_late_54 rfl rfl rfl ?_
  replace H := vl_some H
  obtain ⟨r20, er20, H⟩ := H
  refine ev_getRx dX10_late_55 fgX10_98 rfl (okOb.p g18) er20 ?_
  refine ev_iload_n dX10_late_58 rfl rfl ?_
  replace H := un_some H
  obtain ⟨b21, eb21, H⟩ := H
  subst eb21
  replace H := gd_some H
  obtain ⟨g22, H⟩ := H
  replace H := vl_some H
  obtain ⟨x23, ex23, H⟩ := H
  refine ev_ialdx dX10_late_59 (okAb.p g22) ex23 ?_
  replace H := un_some H
  obtain ⟨b24, eb24, H⟩ := H
  subst eb24
  replace H := gd_some H
  obtain ⟨g25, H⟩ := H
  replace H := vl_some H
  obtain ⟨x26, ex26, H⟩ := H
  refine ev_ialdx dX10_late_60 (okAb.p g25) ex26 ?_
  refine ev_iadd dX10_late_61 ?_
  replace H := gd_some H
  obtain ⟨g27, H⟩ := H
  replace H := vl_some H
  obtain ⟨h28, eh28, H⟩ := H
  refine ev_putI dX10_late_62 fdX10_307 rfl rfl rfl (okOb.p g27) eh28 ?_
  refine ev_iload_n dX10_late_65 rfl rfl ?_
  refine ev_aload_n dX10_late_66 rfl rfl rfl ?_
  replace H := vl_some H
  obtain ⟨x29, ex29, H⟩ := H
  refine ev_getIx dX10_late_67 fgX10_307 rfl (okO_sI eh28 (okOb.p g18)) ex29 ?_
  refine ev_aload_n dX10_late_70 rfl rfl rfl ?_
  replace H := vl_some H
  obtain ⟨r30, er30, H⟩ := H
  refine ev_getRx dX10_late_71 fgX10_128 rfl (okO_sI eh28 (okOb.p g18)) er30 ?_
  refine ev_aload_n dX10_late_74 rfl rfl rfl ?_
  replace H := vl_some H
  obtain ⟨r31, er31, H⟩ := H
  refine ev_getRx dX10_late_75 fgX10_98 rfl (okO_sI eh28 (okOb.p g18)) er31 ?_
  refine ev_iload_n dX10_late_78 rfl rfl ?_
  replace H := un_some H
  obtain ⟨b32, eb32, H⟩ := H
  subst eb32
  replace H := gd_some H
  obtain ⟨g33, H⟩ := H
  replace H := vl_some H
  obtain ⟨x34, ex34, H⟩ := H
  refine ev_ialdx dX10_late_79 (okAb.p g33) ex34 ?_
  replace H := un_some H
  obtain ⟨b35, eb35, H⟩ := H
  subst eb35
  replace H := gd_some H
  obtain ⟨g36, H⟩ := H
  replace H := vl_some H
  obtain ⟨x37, ex37, H⟩ := H
  refine ev_ialdx dX10_late_80 (okAb.p g36) ex37 ?_
  refine ev_icmp_le (tgt := 103) dX10_late_81 (by decide) (fun c38 => ?_) (fun c38 => ?_)
  · rw [if_pos c38] at H
    refine ev_iconst (v := (0 : Int32)) dX10_late_103 (by decide) ?_
    refine ev_iadd dX10_late_104 ?_
    replace H := vl_some H
    obtain ⟨x39, ex39, H⟩ := H
    refine ev_istore_nx (loc2 := [some (.ref l0), some (.int l1), some (.int x39), some (.int l3)]) dX10_late_105 rfl (by decide) ex39 rfl ?_
    replace H := vl_some H
    obtain ⟨x40, ex40, H⟩ := H
    refine ev_iincx (loc2 := [some (.ref l0), some (.int l1), some (.int x39), some (.int x40)]) dX10_late_106 rfl (by decide) ex40 (by decide) rfl ?_
    refine ev_goto (tgt := 11) dX10_late_109 (by decide) ?_
    exact hk11 l0 l1 x39 x40 h28 H
  · rw [if_neg c38] at H
    refine ev_aload_n dX10_late_84 rfl rfl rfl ?_
    replace H := vl_some H
    obtain ⟨x41, ex41, H⟩ := H
    refine ev_getIx dX10_late_85 fgX10_307 rfl (okO_sI eh28 (okOb.p g18)) ex41 ?_
    refine ev_aload_n dX10_late_88 rfl rfl rfl ?_
    replace H := vl_some H
    obtain ⟨r42, er42, H⟩ := H
    refine ev_getRx dX10_late_89 fgX10_128 rfl (okO_sI eh28 (okOb.p g18)) er42 ?_
    refine ev_aload_n dX10_late_92 rfl rfl rfl ?_
    replace H := vl_some H
    obtain ⟨r43, er43, H⟩ := H
    refine ev_getRx dX10_late_93 fgX10_98 rfl (okO_sI eh28 (okOb.p g18)) er43 ?_
    refine ev_iload_n dX10_late_96 rfl rfl ?_
    replace H := un_some H
    obtain ⟨b44, eb44, H⟩ := H
    subst eb44
    replace H := gd_some H
    obtain ⟨g45, H⟩ := H
    replace H := vl_some H
    obtain ⟨x46, ex46, H⟩ := H
    refine ev_ialdx dX10_late_97 (okAb.p g45) ex46 ?_
    replace H := un_some H
    obtain ⟨b47, eb47, H⟩ := H
    subst eb47
    replace H := gd_some H
    obtain ⟨g48, H⟩ := H
    replace H := vl_some H
    obtain ⟨x49, ex49, H⟩ := H
    refine ev_ialdx dX10_late_98 (okAb.p g48) ex49 ?_
    refine ev_isub dX10_late_99 ?_
    refine ev_goto (tgt := 104) dX10_late_100 (by decide) ?_
    refine ev_iadd dX10_late_104 ?_
    replace H := vl_some H
    obtain ⟨x50, ex50, H⟩ := H
    refine ev_istore_nx (loc2 := [some (.ref l0), some (.int l1), some (.int x50), some (.int l3)]) dX10_late_105 rfl (by decide) ex50 rfl ?_
    replace H := vl_some H
    obtain ⟨x51, ex51, H⟩ := H
    refine ev_iincx (loc2 := [some (.ref l0), some (.int l1), some (.int x50), some (.int x51)]) dX10_late_106 rfl (by decide) ex51 (by decide) rfl ?_
    refine ev_goto (tgt := 11) dX10_late_109 (by decide) ?_
    exact hk11 l0 l1 x50 x51 h28 H
def f_X10_late_L11 : Nat → Nat → Int32 → Int32 → Int32 → Hp → Option (Int32 × Hp)
  | 0, _, _, _, _, _ => none
  | n + 1, l0, l1, l2, l3, h =>
    gd (okOb h l0 10) <|
    vl (gI h l0 50) fun x4 =>
    if x4 ≤ l3 then (
    some (l2, h)) else (
    vl (gR h l0 45) fun r6 =>
    vl (gR h l0 33) fun r7 =>
    un r7 fun b8 =>
    gd (okAb h b8 11 l3) <|
    vl (gI h b8 l3.toNatClampNeg) fun x10 =>
    un r6 fun b11 =>
    gd (okAb h b11 11 x10) <|
    vl (gI h b11 x10.toNatClampNeg) fun x13 =>
    vl (l1 + x13) fun x14 =>
    vl (gI h l0 52) fun x15 =>
    if x14 ≤ x15 then (
    vl (gI h l0 52) fun x17 =>
    f_X10_late_J50 (f_X10_late_L11 n) l0 x14 l2 l3 x17 l0 h) else (
    f_X10_late_J50 (f_X10_late_L11 n) l0 x14 l2 l3 x14 l0 h))
set_option maxHeartbeats 4000000 in
set_option maxRecDepth 100000 in
theorem t_X10_late_L11 {X : Cx} {d : Nat} {h0 h' : Hp} {v : Int32} (hD : 1 ≤ d) : ∀ (n : Nat) (l0 : Nat) (l1 : Int32) (l2 : Int32) (l3 : Int32) (h : Hp), f_X10_late_L11 n l0 l1 l2 l3 h = some (v, h') → EV X mX10_late d h0 (some (.int v)) h' 11 [some (.ref l0), some (.int l1), some (.int l2), some (.int l3)] [] h := by
  intro n
  induction n with
  | zero => intro l0 l1 l2 l3 h H; simp [f_X10_late_L11] at H
  | succ n ih =>
    intro l0 l1 l2 l3 h H
    rw [f_X10_late_L11] at H
    refine ev_iload_n dX10_late_11 rfl rfl ?_
    refine ev_aload_n dX10_late_12 rfl rfl rfl ?_
    replace H := gd_some H
    obtain ⟨g3, H⟩ := H
    replace H := vl_some H
    obtain ⟨x4, ex4, H⟩ := H
    refine ev_getIx dX10_late_13 fgX10_304 rfl (okOb.p g3) ex4 ?_
    refine ev_icmp_ge (tgt := 112) dX10_late_16 (by decide) (fun c5 => ?_) (fun c5 => ?_)
    · rw [if_pos c5] at H
      refine ev_iload_n dX10_late_112 rfl rfl ?_
      exact ev_iretx dX10_late_113 rfl rfl H
    · rw [if_neg c5] at H
      refine ev_iload_n dX10_late_19 rfl rfl ?_
      refine ev_aload_n dX10_late_20 rfl rfl rfl ?_
      replace H := vl_some H
      obtain ⟨r6, er6, H⟩ := H
      refine ev_getRx dX10_late_21 fgX10_122 rfl (okOb.p g3) er6 ?_
      refine ev_aload_n dX10_late_24 rfl rfl rfl ?_
      replace H := vl_some H
      obtain ⟨r7, er7, H⟩ := H
      refine ev_getRx dX10_late_25 fgX10_98 rfl (okOb.p g3) er7 ?_
      refine ev_iload_n dX10_late_28 rfl rfl ?_
      replace H := un_some H
      obtain ⟨b8, eb8, H⟩ := H
      subst eb8
      replace H := gd_some H
      obtain ⟨g9, H⟩ := H
      replace H := vl_some H
      obtain ⟨x10, ex10, H⟩ := H
      refine ev_ialdx dX10_late_29 (okAb.p g9) ex10 ?_
      replace H := un_some H
      obtain ⟨b11, eb11, H⟩ := H
      subst eb11
      replace H := gd_some H
      obtain ⟨g12, H⟩ := H
      replace H := vl_some H
      obtain ⟨x13, ex13, H⟩ := H
      refine ev_ialdx dX10_late_30 (okAb.p g12) ex13 ?_
      refine ev_iadd dX10_late_31 ?_
      replace H := vl_some H
      obtain ⟨x14, ex14, H⟩ := H
      refine ev_istore_nx (loc2 := [some (.ref l0), some (.int x14), some (.int l2), some (.int l3)]) dX10_late_32 rfl (by decide) ex14 rfl ?_
      refine ev_aload_n dX10_late_33 rfl rfl rfl ?_
      refine ev_iload_n dX10_late_34 rfl rfl ?_
      refine ev_aload_n dX10_late_35 rfl rfl rfl ?_
      replace H := vl_some H
      obtain ⟨x15, ex15, H⟩ := H
      refine ev_getIx dX10_late_36 fgX10_307 rfl (okOb.p g3) ex15 ?_
      refine ev_icmp_le (tgt := 46) dX10_late_39 (by decide) (fun c16 => ?_) (fun c16 => ?_)
      · rw [if_pos c16] at H
        refine ev_aload_n dX10_late_46 rfl rfl rfl ?_
        replace H := vl_some H
        obtain ⟨x17, ex17, H⟩ := H
        refine ev_getIx dX10_late_47 fgX10_307 rfl (okOb.p g3) ex17 ?_
        exact t_X10_late_J50 hD ih l0 x14 l2 l3 x17 l0 h H
      · rw [if_neg c16] at H
        refine ev_iload_n dX10_late_42 rfl rfl ?_
        refine ev_goto (tgt := 50) dX10_late_43 (by decide) ?_
        exact t_X10_late_J50 hD ih l0 x14 l2 l3 x14 l0 h H
def f_X10_late (h : Hp) (a0 : Nat) : Option (Int32 × Hp) :=
gd (okOb h a0 10) <|
vl (sI h a0 52 (0 : Int32)) fun h2 =>
f_X10_late_L11 6000 a0 (0 : Int32) (0 : Int32) (0 : Int32) h2
set_option maxHeartbeats 4000000 in
set_option maxRecDepth 100000 in
theorem t_X10_late {X : Cx} {d : Nat} {h : Hp} {a0 : Nat} {v : Int32} {h' : Hp} (hD : 1 ≤ d) (H : f_X10_late h a0 = some (v, h')) : PM X mX10_late d [.ref a0] h (some (.int v)) h' := by
  unfold f_X10_late at H
  refine PM.of (loc := [some (.ref a0), none, none, none]) (by decide) rfl (Nat.le_of_ble_eq_true rfl) ?_
  refine ev_iconst (v := (0 : Int32)) dX10_late_0 (by decide) ?_
  refine ev_istore_n (loc2 := [some (.ref a0), some (.int (0 : Int32)), none, none]) dX10_late_1 rfl (by decide) rfl ?_
  refine ev_iconst (v := (0 : Int32)) dX10_late_2 (by decide) ?_
  refine ev_istore_n (loc2 := [some (.ref a0), some (.int (0 : Int32)), some (.int (0 : Int32)), none]) dX10_late_3 rfl (by decide) rfl ?_
  refine ev_aload_n dX10_late_4 rfl rfl rfl ?_
  refine ev_iconst (v := (0 : Int32)) dX10_late_5 (by decide) ?_
  replace H := gd_some H
  obtain ⟨g1, H⟩ := H
  replace H := vl_some H
  obtain ⟨h2, eh2, H⟩ := H
  refine ev_putI dX10_late_6 fdX10_307 rfl rfl rfl (okOb.p g1) eh2 ?_
  refine ev_iconst (v := (0 : Int32)) dX10_late_9 (by decide) ?_
  refine ev_istore_n (loc2 := [some (.ref a0), some (.int (0 : Int32)), some (.int (0 : Int32)), some (.int (0 : Int32))]) dX10_late_10 rfl (by decide) rfl ?_
  refine t_X10_late_L11 hD  6000 a0 (0 : Int32) (0 : Int32) (0 : Int32) h2 H

theorem dX10_plan_0 : decode cX10_plan 0 = .ok (.aload_n 0, 1) := by decide +kernel
theorem dX10_plan_1 : decode cX10_plan 1 = .ok (.aload_n 0, 1) := by decide +kernel
theorem dX10_plan_2 : decode cX10_plan 2 = .ok (.getfield 304, 3) := by decide +kernel
theorem dX10_plan_5 : decode cX10_plan 5 = .ok (.putfield 310, 3) := by decide +kernel
theorem dX10_plan_8 : decode cX10_plan 8 = .ok (.aload_n 0, 1) := by decide +kernel
theorem dX10_plan_9 : decode cX10_plan 9 = .ok (.getfield 304, 3) := by decide +kernel
theorem dX10_plan_12 : decode cX10_plan 12 = .ok (.ifCond .ne 5, 3) := by decide +kernel
theorem dX10_plan_15 : decode cX10_plan 15 = .ok (.iconst 0, 1) := by decide +kernel
theorem dX10_plan_16 : decode cX10_plan 16 = .ok (.ireturn, 1) := by decide +kernel
theorem dX10_plan_17 : decode cX10_plan 17 = .ok (.iconst 0, 1) := by decide +kernel
theorem dX10_plan_18 : decode cX10_plan 18 = .ok (.istore_n 1, 1) := by decide +kernel
theorem dX10_plan_19 : decode cX10_plan 19 = .ok (.iload_n 1, 1) := by decide +kernel
theorem dX10_plan_20 : decode cX10_plan 20 = .ok (.aload_n 0, 1) := by decide +kernel
theorem dX10_plan_21 : decode cX10_plan 21 = .ok (.getfield 304, 3) := by decide +kernel
theorem dX10_plan_24 : decode cX10_plan 24 = .ok (.if_icmp .ge 16, 3) := by decide +kernel
theorem dX10_plan_27 : decode cX10_plan 27 = .ok (.aload_n 0, 1) := by decide +kernel
theorem dX10_plan_28 : decode cX10_plan 28 = .ok (.getfield 98, 3) := by decide +kernel
theorem dX10_plan_31 : decode cX10_plan 31 = .ok (.iload_n 1, 1) := by decide +kernel
theorem dX10_plan_32 : decode cX10_plan 32 = .ok (.iload_n 1, 1) := by decide +kernel
theorem dX10_plan_33 : decode cX10_plan 33 = .ok (.iastore, 1) := by decide +kernel
theorem dX10_plan_34 : decode cX10_plan 34 = .ok (.iinc 1 1, 3) := by decide +kernel
theorem dX10_plan_37 : decode cX10_plan 37 = .ok (.goto (-18), 3) := by decide +kernel
theorem dX10_plan_40 : decode cX10_plan 40 = .ok (.iconst (-1), 1) := by decide +kernel
theorem dX10_plan_41 : decode cX10_plan 41 = .ok (.istore_n 1, 1) := by decide +kernel
theorem dX10_plan_42 : decode cX10_plan 42 = .ok (.iconst 0, 1) := by decide +kernel
theorem dX10_plan_43 : decode cX10_plan 43 = .ok (.istore_n 2, 1) := by decide +kernel
theorem dX10_plan_44 : decode cX10_plan 44 = .ok (.iconst 1, 1) := by decide +kernel
theorem dX10_plan_45 : decode cX10_plan 45 = .ok (.istore_n 3, 1) := by decide +kernel
theorem dX10_plan_46 : decode cX10_plan 46 = .ok (.iload_n 3, 1) := by decide +kernel
theorem dX10_plan_47 : decode cX10_plan 47 = .ok (.ifCond .eq 85, 3) := by decide +kernel
theorem dX10_plan_50 : decode cX10_plan 50 = .ok (.aload_n 0, 1) := by decide +kernel
theorem dX10_plan_51 : decode cX10_plan 51 = .ok (.invokevirtual 313, 3) := by decide +kernel
theorem dX10_plan_54 : decode cX10_plan 54 = .ok (.istore 4, 2) := by decide +kernel
theorem dX10_plan_56 : decode cX10_plan 56 = .ok (.iload_n 1, 1) := by decide +kernel
theorem dX10_plan_57 : decode cX10_plan 57 = .ok (.ifCond .lt 23, 3) := by decide +kernel
theorem dX10_plan_60 : decode cX10_plan 60 = .ok (.iload 4, 2) := by decide +kernel
theorem dX10_plan_62 : decode cX10_plan 62 = .ok (.iload_n 1, 1) := by decide +kernel
theorem dX10_plan_63 : decode cX10_plan 63 = .ok (.if_icmp .lt 17, 3) := by decide +kernel
theorem dX10_plan_66 : decode cX10_plan 66 = .ok (.iload 4, 2) := by decide +kernel
theorem dX10_plan_68 : decode cX10_plan 68 = .ok (.iload_n 1, 1) := by decide +kernel
theorem dX10_plan_69 : decode cX10_plan 69 = .ok (.if_icmp .ne 51, 3) := by decide +kernel
theorem dX10_plan_72 : decode cX10_plan 72 = .ok (.aload_n 0, 1) := by decide +kernel
theorem dX10_plan_73 : decode cX10_plan 73 = .ok (.getfield 307, 3) := by decide +kernel
theorem dX10_plan_76 : decode cX10_plan 76 = .ok (.iload_n 2, 1) := by decide +kernel
theorem dX10_plan_77 : decode cX10_plan 77 = .ok (.if_icmp .ge 43, 3) := by decide +kernel
theorem dX10_plan_80 : decode cX10_plan 80 = .ok (.iload 4, 2) := by decide +kernel
theorem dX10_plan_82 : decode cX10_plan 82 = .ok (.istore_n 1, 1) := by decide +kernel
theorem dX10_plan_83 : decode cX10_plan 83 = .ok (.aload_n 0, 1) := by decide +kernel
theorem dX10_plan_84 : decode cX10_plan 84 = .ok (.getfield 307, 3) := by decide +kernel
theorem dX10_plan_87 : decode cX10_plan 87 = .ok (.istore_n 2, 1) := by decide +kernel
theorem dX10_plan_88 : decode cX10_plan 88 = .ok (.iconst 0, 1) := by decide +kernel
theorem dX10_plan_89 : decode cX10_plan 89 = .ok (.istore 5, 2) := by decide +kernel
theorem dX10_plan_91 : decode cX10_plan 91 = .ok (.iload 5, 2) := by decide +kernel
theorem dX10_plan_93 : decode cX10_plan 93 = .ok (.aload_n 0, 1) := by decide +kernel
theorem dX10_plan_94 : decode cX10_plan 94 = .ok (.getfield 304, 3) := by decide +kernel
theorem dX10_plan_97 : decode cX10_plan 97 = .ok (.if_icmp .ge 23, 3) := by decide +kernel
theorem dX10_plan_100 : decode cX10_plan 100 = .ok (.aload_n 0, 1) := by decide +kernel
theorem dX10_plan_101 : decode cX10_plan 101 = .ok (.getfield 131, 3) := by decide +kernel
theorem dX10_plan_104 : decode cX10_plan 104 = .ok (.iload 5, 2) := by decide +kernel
theorem dX10_plan_106 : decode cX10_plan 106 = .ok (.aload_n 0, 1) := by decide +kernel
theorem dX10_plan_107 : decode cX10_plan 107 = .ok (.getfield 98, 3) := by decide +kernel
theorem dX10_plan_110 : decode cX10_plan 110 = .ok (.iload 5, 2) := by decide +kernel
theorem dX10_plan_112 : decode cX10_plan 112 = .ok (.iaload, 1) := by decide +kernel
theorem dX10_plan_113 : decode cX10_plan 113 = .ok (.iastore, 1) := by decide +kernel
theorem dX10_plan_114 : decode cX10_plan 114 = .ok (.iinc 5 1, 3) := by decide +kernel
theorem dX10_plan_117 : decode cX10_plan 117 = .ok (.goto (-26), 3) := by decide +kernel
theorem dX10_plan_120 : decode cX10_plan 120 = .ok (.aload_n 0, 1) := by decide +kernel
theorem dX10_plan_121 : decode cX10_plan 121 = .ok (.aload_n 0, 1) := by decide +kernel
theorem dX10_plan_122 : decode cX10_plan 122 = .ok (.getfield 304, 3) := by decide +kernel
theorem dX10_plan_125 : decode cX10_plan 125 = .ok (.invokevirtual 261, 3) := by decide +kernel
theorem dX10_plan_128 : decode cX10_plan 128 = .ok (.istore_n 3, 1) := by decide +kernel
theorem dX10_plan_129 : decode cX10_plan 129 = .ok (.goto (-83), 3) := by decide +kernel
theorem dX10_plan_132 : decode cX10_plan 132 = .ok (.iconst 0, 1) := by decide +kernel
theorem dX10_plan_133 : decode cX10_plan 133 = .ok (.istore 4, 2) := by decide +kernel
theorem dX10_plan_135 : decode cX10_plan 135 = .ok (.iconst 0, 1) := by decide +kernel
theorem dX10_plan_136 : decode cX10_plan 136 = .ok (.istore 5, 2) := by decide +kernel
theorem dX10_plan_138 : decode cX10_plan 138 = .ok (.iconst 0, 1) := by decide +kernel
theorem dX10_plan_139 : decode cX10_plan 139 = .ok (.istore 6, 2) := by decide +kernel
theorem dX10_plan_141 : decode cX10_plan 141 = .ok (.iload 6, 2) := by decide +kernel
theorem dX10_plan_143 : decode cX10_plan 143 = .ok (.aload_n 0, 1) := by decide +kernel
theorem dX10_plan_144 : decode cX10_plan 144 = .ok (.getfield 304, 3) := by decide +kernel
theorem dX10_plan_147 : decode cX10_plan 147 = .ok (.if_icmp .ge 64, 3) := by decide +kernel
theorem dX10_plan_150 : decode cX10_plan 150 = .ok (.iload 4, 2) := by decide +kernel
theorem dX10_plan_152 : decode cX10_plan 152 = .ok (.aload_n 0, 1) := by decide +kernel
theorem dX10_plan_153 : decode cX10_plan 153 = .ok (.getfield 122, 3) := by decide +kernel
theorem dX10_plan_156 : decode cX10_plan 156 = .ok (.aload_n 0, 1) := by decide +kernel
theorem dX10_plan_157 : decode cX10_plan 157 = .ok (.getfield 131, 3) := by decide +kernel
theorem dX10_plan_160 : decode cX10_plan 160 = .ok (.iload 6, 2) := by decide +kernel
theorem dX10_plan_162 : decode cX10_plan 162 = .ok (.iaload, 1) := by decide +kernel
theorem dX10_plan_163 : decode cX10_plan 163 = .ok (.iaload, 1) := by decide +kernel
theorem dX10_plan_164 : decode cX10_plan 164 = .ok (.iadd, 1) := by decide +kernel
theorem dX10_plan_165 : decode cX10_plan 165 = .ok (.istore 4, 2) := by decide +kernel
theorem dX10_plan_167 : decode cX10_plan 167 = .ok (.iload 4, 2) := by decide +kernel
theorem dX10_plan_169 : decode cX10_plan 169 = .ok (.iload 5, 2) := by decide +kernel
theorem dX10_plan_171 : decode cX10_plan 171 = .ok (.if_icmp .le 8, 3) := by decide +kernel
theorem dX10_plan_174 : decode cX10_plan 174 = .ok (.iload 4, 2) := by decide +kernel
theorem dX10_plan_176 : decode cX10_plan 176 = .ok (.goto 5, 3) := by decide +kernel
theorem dX10_plan_179 : decode cX10_plan 179 = .ok (.iload 5, 2) := by decide +kernel
theorem dX10_plan_181 : decode cX10_plan 181 = .ok (.aload_n 0, 1) := by decide +kernel
theorem dX10_plan_182 : decode cX10_plan 182 = .ok (.getfield 125, 3) := by decide +kernel
theorem dX10_plan_185 : decode cX10_plan 185 = .ok (.aload_n 0, 1) := by decide +kernel
theorem dX10_plan_186 : decode cX10_plan 186 = .ok (.getfield 131, 3) := by decide +kernel
theorem dX10_plan_189 : decode cX10_plan 189 = .ok (.iload 6, 2) := by decide +kernel
theorem dX10_plan_191 : decode cX10_plan 191 = .ok (.iaload, 1) := by decide +kernel
theorem dX10_plan_192 : decode cX10_plan 192 = .ok (.iaload, 1) := by decide +kernel
theorem dX10_plan_193 : decode cX10_plan 193 = .ok (.iadd, 1) := by decide +kernel
theorem dX10_plan_194 : decode cX10_plan 194 = .ok (.istore 5, 2) := by decide +kernel
theorem dX10_plan_196 : decode cX10_plan 196 = .ok (.aload_n 0, 1) := by decide +kernel
theorem dX10_plan_197 : decode cX10_plan 197 = .ok (.getfield 134, 3) := by decide +kernel
theorem dX10_plan_200 : decode cX10_plan 200 = .ok (.iload 6, 2) := by decide +kernel
theorem dX10_plan_202 : decode cX10_plan 202 = .ok (.iload 5, 2) := by decide +kernel
theorem dX10_plan_204 : decode cX10_plan 204 = .ok (.iastore, 1) := by decide +kernel
theorem dX10_plan_205 : decode cX10_plan 205 = .ok (.iinc 6 1, 3) := by decide +kernel
theorem dX10_plan_208 : decode cX10_plan 208 = .ok (.goto (-67), 3) := by decide +kernel
theorem dX10_plan_211 : decode cX10_plan 211 = .ok (.iload_n 1, 1) := by decide +kernel
theorem dX10_plan_212 : decode cX10_plan 212 = .ok (.ireturn, 1) := by decide +kernel
def f_X10_plan_L19 (k40 : Nat → Int32 → Hp → Option (Int32 × Hp)) : Nat → Nat → Int32 → Hp → Option (Int32 × Hp)
  | 0, _, _, _ => none
  | n + 1, l0, l1, h =>
    gd (okOb h l0 10) <|
    vl (gI h l0 50) fun x7 =>
    if x7 ≤ l1 then (
    k40 l0 l1 h) else (
    vl (gR h l0 33) fun r9 =>
    un r9 fun b10 =>
    gd (okAb h b10 11 l1) <|
    vl (sI h b10 l1.toNatClampNeg l1) fun h12 =>
    vl (l1 + (1 : Int32)) fun x13 =>
    f_X10_plan_L19 k40 n l0 x13 h12)
set_option maxHeartbeats 4000000 in
set_option maxRecDepth 100000 in
theorem t_X10_plan_L19 {X : Cx} {d : Nat} {h0 h' : Hp} {v : Int32} {k40 : Nat → Int32 → Hp → Option (Int32 × Hp)} (hD : 3 ≤ d) (hk40 : ∀ (z0 : Nat) (z1 : Int32) (h : Hp), k40 z0 z1 h = some (v, h') → EV X mX10_plan d h0 (some (.int v)) h' 40 [some (.ref z0), some (.int z1), none, none, none, none, none] [] h) : ∀ (n : Nat) (l0 : Nat) (l1 : Int32) (h : Hp), f_X10_plan_L19 k40 n l0 l1 h = some (v, h') → EV X mX10_plan d h0 (some (.int v)) h' 19 [some (.ref l0), some (.int l1), none, none, none, none, none] [] h := by
  intro n
  induction n with
  | zero => intro l0 l1 h H; simp [f_X10_plan_L19] at H
  | succ n ih =>
    intro l0 l1 h H
    rw [f_X10_plan_L19] at H
    refine ev_iload_n dX10_plan_19 rfl rfl ?_
    refine ev_aload_n dX10_plan_20 rfl rfl rfl ?_
    replace H := gd_some H
    obtain ⟨g6, H⟩ := H
    replace H := vl_some H
    obtain ⟨x7, ex7, H⟩ := H
    refine ev_getIx dX10_plan_21 fgX10_304 rfl (okOb.p g6) ex7 ?_
    refine ev_icmp_ge (tgt := 40) dX10_plan_24 (by decide) (fun c8 => ?_) (fun c8 => ?_)
    · rw [if_pos c8] at H
      exact hk40 l0 l1 h H
    · rw [if_neg c8] at H
      refine ev_aload_n dX10_plan_27 rfl rfl rfl ?_
      replace H := vl_some H
      obtain ⟨r9, er9, H⟩ := H
      refine ev_getRx dX10_plan_28 fgX10_98 rfl (okOb.p g6) er9 ?_
      refine ev_iload_n dX10_plan_31 rfl rfl ?_
      refine ev_iload_n dX10_plan_32 rfl rfl ?_
      replace H := un_some H
      obtain ⟨b10, eb10, H⟩ := H
      subst eb10
      replace H := gd_some H
      obtain ⟨g11, H⟩ := H
      replace H := vl_some H
      obtain ⟨h12, eh12, H⟩ := H
      refine ev_iast dX10_plan_33 (okAb.p g11) eh12 ?_
      replace H := vl_some H
      obtain ⟨x13, ex13, H⟩ := H
      refine ev_iincx (loc2 := [some (.ref l0), some (.int x13), none, none, none, none, none]) dX10_plan_34 rfl (by decide) ex13 (by decide) rfl ?_
      refine ev_goto (tgt := 19) dX10_plan_37 (by decide) ?_
      exact ih l0 x13 h12 H
def f_X10_plan_L91 (k120 : Nat → Int32 → Int32 → Int32 → Int32 → Int32 → Hp → Option (Int32 × Hp)) : Nat → Nat → Int32 → Int32 → Int32 → Int32 → Int32 → Hp → Option (Int32 × Hp)
  | 0, _, _, _, _, _, _, _ => none
  | n + 1, l0, l1, l2, l3, l4, l5, h =>
    gd (okOb h l0 10) <|
    vl (gI h l0 50) fun x25 =>
    if x25 ≤ l5 then (
    k120 l0 l1 l2 l3 l4 l5 h) else (
    vl (gR h l0 48) fun r27 =>
    vl (gR h l0 33) fun r28 =>
    un r28 fun b29 =>
    gd (okAb h b29 11 l5) <|
    vl (gI h b29 l5.toNatClampNeg) fun x31 =>
    un r27 fun b32 =>
    gd (okAb h b32 11 l5) <|
    vl (sI h b32 l5.toNatClampNeg x31) fun h34 =>
    vl (l5 + (1 : Int32)) fun x35 =>
    f_X10_plan_L91 k120 n l0 l1 l2 l3 l4 x35 h34)
set_option maxHeartbeats 4000000 in
set_option maxRecDepth 100000 in
theorem t_X10_plan_L91 {X : Cx} {d : Nat} {h0 h' : Hp} {v : Int32} {k120 : Nat → Int32 → Int32 → Int32 → Int32 → Int32 → Hp → Option (Int32 × Hp)} (hD : 3 ≤ d) (hk120 : ∀ (z0 : Nat) (z1 : Int32) (z2 : Int32) (z3 : Int32) (z4 : Int32) (z5 : Int32) (h : Hp), k120 z0 z1 z2 z3 z4 z5 h = some (v, h') → EV X mX10_plan d h0 (some (.int v)) h' 120 [some (.ref z0), some (.int z1), some (.int z2), some (.int z3), some (.int z4), some (.int z5), none] [] h) : ∀ (n : Nat) (l0 : Nat) (l1 : Int32) (l2 : Int32) (l3 : Int32) (l4 : Int32) (l5 : Int32) (h : Hp), f_X10_plan_L91 k120 n l0 l1 l2 l3 l4 l5 h = some (v, h') → EV X mX10_plan d h0 (some (.int v)) h' 91 [some (.ref l0), some (.int l1), some (.int l2), some (.int l3), some (.int l4), some (.int l5), none] [] h := by
  intro n
  induction n with
  | zero => intro l0 l1 l2 l3 l4 l5 h H; simp [f_X10_plan_L91] at H
  | succ n ih =>
    intro l0 l1 l2 l3 l4 l5 h H
    rw [f_X10_plan_L91] at H
    refine ev_iload dX10_plan_91 rfl ?_
    refine ev_aload_n dX10_plan_93 rfl rfl rfl ?_
    replace H := gd_some H
    obtain ⟨g24, H⟩ := H
    replace H := vl_some H
    obtain ⟨x25, ex25, H⟩ := H
    refine ev_getIx dX10_plan_94 fgX10_304 rfl (okOb.p g24) ex25 ?_
    refine ev_icmp_ge (tgt := 120) dX10_plan_97 (by decide) (fun c26 => ?_) (fun c26 => ?_)
    · rw [if_pos c26] at H
      exact hk120 l0 l1 l2 l3 l4 l5 h H
    · rw [if_neg c26] at H
      refine ev_aload_n dX10_plan_100 rfl rfl rfl ?_
      replace H := vl_some H
      obtain ⟨r27, er27, H⟩ := H
      refine ev_getRx dX10_plan_101 fgX10_131 rfl (okOb.p g24) er27 ?_
      refine ev_iload dX10_plan_104 rfl ?_
      refine ev_aload_n dX10_plan_106 rfl rfl rfl ?_
      replace H := vl_some H
      obtain ⟨r28, er28, H⟩ := H
      refine ev_getRx dX10_plan_107 fgX10_98 rfl (okOb.p g24) er28 ?_
      refine ev_iload dX10_plan_110 rfl ?_
      replace H := un_some H
      obtain ⟨b29, eb29, H⟩ := H
      subst eb29
      replace H := gd_some H
      obtain ⟨g30, H⟩ := H
      replace H := vl_some H
      obtain ⟨x31, ex31, H⟩ := H
      refine ev_ialdx dX10_plan_112 (okAb.p g30) ex31 ?_
      replace H := un_some H
      obtain ⟨b32, eb32, H⟩ := H
      subst eb32
      replace H := gd_some H
      obtain ⟨g33, H⟩ := H
      replace H := vl_some H
      obtain ⟨h34, eh34, H⟩ := H
      refine ev_iast dX10_plan_113 (okAb.p g33) eh34 ?_
      replace H := vl_some H
      obtain ⟨x35, ex35, H⟩ := H
      refine ev_iincx (loc2 := [some (.ref l0), some (.int l1), some (.int l2), some (.int l3), some (.int l4), some (.int x35), none]) dX10_plan_114 rfl (by decide) ex35 (by decide) rfl ?_
      refine ev_goto (tgt := 91) dX10_plan_117 (by decide) ?_
      exact ih l0 l1 l2 l3 l4 x35 h34 H
def f_X10_plan_J80 (k46 : Nat → Int32 → Int32 → Int32 → Hp → Option (Int32 × Hp)) (l0 : Nat) (l1 : Int32) (l2 : Int32) (l3 : Int32) (l4 : Int32) (h : Hp) : Option (Int32 × Hp) :=
gd (okOb h l0 10) <|
vl (gI h l0 52) fun x23 =>
f_X10_plan_L91 (fun y36 y37 y38 y39 y40 y41 h42 =>
gd (okOb h42 y36 10) <|
vl (gI h42 y36 50) fun x44 =>
bnd (f_X10_next h42 y36 x44) fun v45 h46 =>
k46 y36 y37 y38 v45 h46) 6000 l0 l4 x23 l3 l4 (0 : Int32) h
set_option maxHeartbeats 4000000 in
set_option maxRecDepth 100000 in
theorem t_X10_plan_J80 {X : Cx} {d : Nat} {h0 h' : Hp} {v : Int32} {k46 : Nat → Int32 → Int32 → Int32 → Hp → Option (Int32 × Hp)} (hD : 3 ≤ d) (hk46 : ∀ (z0 : Nat) (z1 : Int32) (z2 : Int32) (z3 : Int32) (h : Hp), k46 z0 z1 z2 z3 h = some (v, h') → EV X mX10_plan d h0 (some (.int v)) h' 46 [some (.ref z0), some (.int z1), some (.int z2), some (.int z3), none, none, none] [] h) : ∀ (l0 : Nat) (l1 : Int32) (l2 : Int32) (l3 : Int32) (l4 : Int32) (h : Hp), f_X10_plan_J80 k46 l0 l1 l2 l3 l4 h = some (v, h') → EV X mX10_plan d h0 (some (.int v)) h' 80 [some (.ref l0), some (.int l1), some (.int l2), some (.int l3), some (.int l4), none, none] [] h := by
  intro l0 l1 l2 l3 l4 h H
  unfold f_X10_plan_J80 at H
  refine ev_iload dX10_plan_80 rfl ?_
  refine ev_istore_n (loc2 := [some (.ref l0), some (.int l4), some (.int l2), some (.int l3), some (.int l4), none, none]) dX10_plan_82 rfl (by decide) rfl ?_
  refine ev_aload_n dX10_plan_83 rfl rfl rfl ?_
  replace H := gd_some H
  obtain ⟨g22, H⟩ := H
  replace H := vl_some H
  obtain ⟨x23, ex23, H⟩ := H
  refine ev_getIx dX10_plan_84 fgX10_307 rfl (okOb.p g22) ex23 ?_
  refine ev_istore_n (loc2 := [some (.ref l0), some (.int l4), some (.int x23), some (.int l3), some (.int l4), none, none]) dX10_plan_87 rfl (by decide) rfl ?_
  refine ev_iconst (v := (0 : Int32)) dX10_plan_88 (by decide) ?_
  refine ev_istore (loc2 := [some (.ref l0), some (.int l4), some (.int x23), some (.int l3), some (.int l4), some (.int (0 : Int32)), none]) dX10_plan_89 (by decide) rfl ?_
  refine t_X10_plan_L91 hD ?_ 6000 l0 l4 x23 l3 l4 (0 : Int32) h H
  · intro y36 y37 y38 y39 y40 y41 h42 H
    refine ev_aload_n dX10_plan_120 rfl rfl rfl ?_
    refine ev_aload_n dX10_plan_121 rfl rfl rfl ?_
    replace H := gd_some H
    obtain ⟨g43, H⟩ := H
    replace H := vl_some H
    obtain ⟨x44, ex44, H⟩ := H
    refine ev_getIx dX10_plan_122 fgX10_304 rfl (okOb.p g43) ex44 ?_
    replace H := bnd_some H
    obtain ⟨v45, h46, eh46, H⟩ := H
    have ph46 := (t_X10_next (X := X) (d := 2) (by omega) eh46)
    refine ev_callV (as := [.int x44]) dX10_plan_125 ph46 ok_X10_next (by omega) rfl k6_34 k6_36 ks_43 (ci := 10) (by decide) rfl rfl (okOb.p g43) rfl (Nat.le_of_ble_eq_true rfl) ?_
    refine ev_istore_n (loc2 := [some (.ref y36), some (.int y37), some (.int y38), some (.int v45), some (.int y40), some (.int y41), none]) dX10_plan_128 rfl (by decide) rfl ?_
    refine ev_goto (tgt := 46) dX10_plan_129 (by decide) ?_
    refine ev_drop (loc2 := [some (.ref y36), some (.int y37), some (.int y38), some (.int v45), none, none, none]) [true, true, true, true, false, false, true] rfl ?_
    exact hk46 y36 y37 y38 v45 h46 H
def f_X10_plan_L46 (k132 : Nat → Int32 → Int32 → Int32 → Hp → Option (Int32 × Hp)) : Nat → Nat → Int32 → Int32 → Int32 → Hp → Option (Int32 × Hp)
  | 0, _, _, _, _, _ => none
  | n + 1, l0, l1, l2, l3, h =>
    if l3 = 0 then (
    k132 l0 l1 l2 l3 h) else (
    gd (okOb h l0 10) <|
    bnd (f_X10_late h l0) fun v19 h20 =>
    if l1 < 0 then (
    f_X10_plan_J80 (f_X10_plan_L46 k132 n) l0 l1 l2 l3 v19 h20) else (
    if v19 < l1 then (
    f_X10_plan_J80 (f_X10_plan_L46 k132 n) l0 l1 l2 l3 v19 h20) else (
    if v19 = l1 then (
    vl (gI h20 l0 52) fun x52 =>
    if l2 ≤ x52 then (
    vl (gI h20 l0 50) fun x54 =>
    bnd (f_X10_next h20 l0 x54) fun v55 h56 =>
    f_X10_plan_L46 k132 n l0 l1 l2 v55 h56) else (
    f_X10_plan_J80 (f_X10_plan_L46 k132 n) l0 l1 l2 l3 v19 h20)) else (
    vl (gI h20 l0 50) fun x49 =>
    bnd (f_X10_next h20 l0 x49) fun v50 h51 =>
    f_X10_plan_L46 k132 n l0 l1 l2 v50 h51))))
set_option maxHeartbeats 4000000 in
set_option maxRecDepth 100000 in
theorem t_X10_plan_L46 {X : Cx} {d : Nat} {h0 h' : Hp} {v : Int32} {k132 : Nat → Int32 → Int32 → Int32 → Hp → Option (Int32 × Hp)} (hD : 3 ≤ d) (hk132 : ∀ (z0 : Nat) (z1 : Int32) (z2 : Int32) (z3 : Int32) (h : Hp), k132 z0 z1 z2 z3 h = some (v, h') → EV X mX10_plan d h0 (some (.int v)) h' 132 [some (.ref z0), some (.int z1), some (.int z2), some (.int z3), none, none, none] [] h) : ∀ (n : Nat) (l0 : Nat) (l1 : Int32) (l2 : Int32) (l3 : Int32) (h : Hp), f_X10_plan_L46 k132 n l0 l1 l2 l3 h = some (v, h') → EV X mX10_plan d h0 (some (.int v)) h' 46 [some (.ref l0), some (.int l1), some (.int l2), some (.int l3), none, none, none] [] h := by
  intro n
  induction n with
  | zero => intro l0 l1 l2 l3 h H; simp [f_X10_plan_L46] at H
  | succ n ih =>
    intro l0 l1 l2 l3 h H
    rw [f_X10_plan_L46] at H
    refine ev_iload_n dX10_plan_46 rfl rfl ?_
    refine ev_if_eq (tgt := 132) dX10_plan_47 (by decide) (fun c17 => ?_) (fun c17 => ?_)
    · rw [if_pos c17] at H
      exact hk132 l0 l1 l2 l3 h H
    · rw [if_neg c17] at H
      refine ev_aload_n dX10_plan_50 rfl rfl rfl ?_
      replace H := gd_some H
      obtain ⟨g18, H⟩ := H
      replace H := bnd_some H
      obtain ⟨v19, h20, eh20, H⟩ := H
      have ph20 := (t_X10_late (X := X) (d := 1) (by omega) eh20)
      refine ev_callV (as := []) dX10_plan_51 ph20 ok_X10_late (by omega) rfl k6_102 k6_104 ks_51 (ci := 10) (by decide) rfl rfl (okOb.p g18) rfl (Nat.le_of_ble_eq_true rfl) ?_
      refine ev_istore (loc2 := [some (.ref l0), some (.int l1), some (.int l2), some (.int l3), some (.int v19), none, none]) dX10_plan_54 (by decide) rfl ?_
      refine ev_iload_n dX10_plan_56 rfl rfl ?_
      refine ev_if_lt (tgt := 80) dX10_plan_57 (by decide) (fun c21 => ?_) (fun c21 => ?_)
      · rw [if_pos c21] at H
        exact t_X10_plan_J80 hD ih l0 l1 l2 l3 v19 h20 H
      · rw [if_neg c21] at H
        refine ev_iload dX10_plan_60 rfl ?_
        refine ev_iload_n dX10_plan_62 rfl rfl ?_
        refine ev_icmp_lt (tgt := 80) dX10_plan_63 (by decide) (fun c47 => ?_) (fun c47 => ?_)
        · rw [if_pos c47] at H
          exact t_X10_plan_J80 hD ih l0 l1 l2 l3 v19 h20 H
        · rw [if_neg c47] at H
          refine ev_iload dX10_plan_66 rfl ?_
          refine ev_iload_n dX10_plan_68 rfl rfl ?_
          refine ev_icmp_ne (tgt := 120) dX10_plan_69 (by decide) (fun c48 => ?_) (fun c48 => ?_)
          · rw [if_neg c48] at H
            refine ev_aload_n dX10_plan_120 rfl rfl rfl ?_
            refine ev_aload_n dX10_plan_121 rfl rfl rfl ?_
            replace H := vl_some H
            obtain ⟨x49, ex49, H⟩ := H
            refine ev_getIx dX10_plan_122 fgX10_304 rfl (okO_ext ph20.1 (okOb.p g18)) ex49 ?_
            replace H := bnd_some H
            obtain ⟨v50, h51, eh51, H⟩ := H
            have ph51 := (t_X10_next (X := X) (d := 2) (by omega) eh51)
            refine ev_callV (as := [.int x49]) dX10_plan_125 ph51 ok_X10_next (by omega) rfl k6_34 k6_36 ks_43 (ci := 10) (by decide) rfl rfl (okO_ext ph20.1 (okOb.p g18)) rfl (Nat.le_of_ble_eq_true rfl) ?_
            refine ev_istore_n (loc2 := [some (.ref l0), some (.int l1), some (.int l2), some (.int v50), some (.int v19), none, none]) dX10_plan_128 rfl (by decide) rfl ?_
            refine ev_goto (tgt := 46) dX10_plan_129 (by decide) ?_
            refine ev_drop (loc2 := [some (.ref l0), some (.int l1), some (.int l2), some (.int v50), none, none, none]) [true, true, true, true, false, true, true] rfl ?_
            exact ih l0 l1 l2 v50 h51 H
          · rw [if_pos c48] at H
            refine ev_aload_n dX10_plan_72 rfl rfl rfl ?_
            replace H := vl_some H
            obtain ⟨x52, ex52, H⟩ := H
            refine ev_getIx dX10_plan_73 fgX10_307 rfl (okO_ext ph20.1 (okOb.p g18)) ex52 ?_
            refine ev_iload_n dX10_plan_76 rfl rfl ?_
            refine ev_icmp_ge (tgt := 120) dX10_plan_77 (by decide) (fun c53 => ?_) (fun c53 => ?_)
            · rw [if_pos c53] at H
              refine ev_aload_n dX10_plan_120 rfl rfl rfl ?_
              refine ev_aload_n dX10_plan_121 rfl rfl rfl ?_
              replace H := vl_some H
              obtain ⟨x54, ex54, H⟩ := H
              refine ev_getIx dX10_plan_122 fgX10_304 rfl (okO_ext ph20.1 (okOb.p g18)) ex54 ?_
              replace H := bnd_some H
              obtain ⟨v55, h56, eh56, H⟩ := H
              have ph56 := (t_X10_next (X := X) (d := 2) (by omega) eh56)
              refine ev_callV (as := [.int x54]) dX10_plan_125 ph56 ok_X10_next (by omega) rfl k6_34 k6_36 ks_43 (ci := 10) (by decide) rfl rfl (okO_ext ph20.1 (okOb.p g18)) rfl (Nat.le_of_ble_eq_true rfl) ?_
              refine ev_istore_n (loc2 := [some (.ref l0), some (.int l1), some (.int l2), some (.int v55), some (.int v19), none, none]) dX10_plan_128 rfl (by decide) rfl ?_
              refine ev_goto (tgt := 46) dX10_plan_129 (by decide) ?_
              refine ev_drop (loc2 := [some (.ref l0), some (.int l1), some (.int l2), some (.int v55), none, none, none]) [true, true, true, true, false, true, true] rfl ?_
              exact ih l0 l1 l2 v55 h56 H
            · rw [if_neg c53] at H
              exact t_X10_plan_J80 hD ih l0 l1 l2 l3 v19 h20 H
def f_X10_plan_J181 (k141 : Nat → Int32 → Int32 → Int32 → Int32 → Int32 → Int32 → Hp → Option (Int32 × Hp)) (l0 : Nat) (l1 : Int32) (l2 : Int32) (l3 : Int32) (l4 : Int32) (l5 : Int32) (l6 : Int32) (w0 : Int32) (h : Hp) : Option (Int32 × Hp) :=
gd (okOb h l0 10) <|
vl (gR h l0 46) fun r76 =>
vl (gR h l0 48) fun r77 =>
un r77 fun b78 =>
gd (okAb h b78 11 l6) <|
vl (gI h b78 l6.toNatClampNeg) fun x80 =>
un r76 fun b81 =>
gd (okAb h b81 11 x80) <|
vl (gI h b81 x80.toNatClampNeg) fun x83 =>
vl (w0 + x83) fun x84 =>
vl (gR h l0 49) fun r85 =>
un r85 fun b86 =>
gd (okAb h b86 11 l6) <|
vl (sI h b86 l6.toNatClampNeg x84) fun h88 =>
vl (l6 + (1 : Int32)) fun x89 =>
k141 l0 l1 l2 l3 l4 x84 x89 h88
set_option maxHeartbeats 4000000 in
set_option maxRecDepth 100000 in
theorem t_X10_plan_J181 {X : Cx} {d : Nat} {h0 h' : Hp} {v : Int32} {k141 : Nat → Int32 → Int32 → Int32 → Int32 → Int32 → Int32 → Hp → Option (Int32 × Hp)} (hD : 3 ≤ d) (hk141 : ∀ (z0 : Nat) (z1 : Int32) (z2 : Int32) (z3 : Int32) (z4 : Int32) (z5 : Int32) (z6 : Int32) (h : Hp), k141 z0 z1 z2 z3 z4 z5 z6 h = some (v, h') → EV X mX10_plan d h0 (some (.int v)) h' 141 [some (.ref z0), some (.int z1), some (.int z2), some (.int z3), some (.int z4), some (.int z5), some (.int z6)] [] h) : ∀ (l0 : Nat) (l1 : Int32) (l2 : Int32) (l3 : Int32) (l4 : Int32) (l5 : Int32) (l6 : Int32) (w0 : Int32) (h : Hp), f_X10_plan_J181 k141 l0 l1 l2 l3 l4 l5 l6 w0 h = some (v, h') → EV X mX10_plan d h0 (some (.int v)) h' 181 [some (.ref l0), some (.int l1), some (.int l2), some (.int l3), some (.int l4), some (.int l5), some (.int l6)] [.int w0] h := by
  intro l0 l1 l2 l3 l4 l5 l6 w0 h H
  unfold f_X10_plan_J181 at H
  refine ev_aload_n dX10_plan_181 rfl rfl rfl ?_
  replace H := gd_some H
  obtain ⟨g75, H⟩ := H
  replace H := vl_some H
  obtain ⟨r76, er76, H⟩ := H
  refine ev_getRx dX10_plan_182 fgX10_125 rfl (okOb.p g75) er76 ?_
  refine ev_aload_n dX10_plan_185 rfl rfl rfl ?_
  replace H := vl_some H
  obtain ⟨r77, er77, H⟩ := H
  refine ev_getRx dX10_plan_186 fgX10_131 rfl (okOb.p g75) er77 ?_
  refine ev_iload dX10_plan_189 rfl ?_
  replace H := un_some H
  obtain ⟨b78, eb78, H⟩ := H
  subst eb78
  replace H := gd_some H
  obtain ⟨g79, H⟩ := H
  replace H := vl_some H
  obtain ⟨x80, ex80, H⟩ := H
  refine ev_ialdx dX10_plan_191 (okAb.p g79) ex80 ?_
  replace H := un_some H
  obtain ⟨b81, eb81, H⟩ := H
  subst eb81
  replace H := gd_some H
  obtain ⟨g82, H⟩ := H
  replace H := vl_some H
  obtain ⟨x83, ex83, H⟩ := H
  refine ev_ialdx dX10_plan_192 (okAb.p g82) ex83 ?_
  refine ev_iadd dX10_plan_193 ?_
  replace H := vl_some H
  obtain ⟨x84, ex84, H⟩ := H
  refine ev_istorex (loc2 := [some (.ref l0), some (.int l1), some (.int l2), some (.int l3), some (.int l4), some (.int x84), some (.int l6)]) dX10_plan_194 (by decide) ex84 rfl ?_
  refine ev_aload_n dX10_plan_196 rfl rfl rfl ?_
  replace H := vl_some H
  obtain ⟨r85, er85, H⟩ := H
  refine ev_getRx dX10_plan_197 fgX10_134 rfl (okOb.p g75) er85 ?_
  refine ev_iload dX10_plan_200 rfl ?_
  refine ev_iload dX10_plan_202 rfl ?_
  replace H := un_some H
  obtain ⟨b86, eb86, H⟩ := H
  subst eb86
  replace H := gd_some H
  obtain ⟨g87, H⟩ := H
  replace H := vl_some H
  obtain ⟨h88, eh88, H⟩ := H
  refine ev_iast dX10_plan_204 (okAb.p g87) eh88 ?_
  replace H := vl_some H
  obtain ⟨x89, ex89, H⟩ := H
  refine ev_iincx (loc2 := [some (.ref l0), some (.int l1), some (.int l2), some (.int l3), some (.int l4), some (.int x84), some (.int x89)]) dX10_plan_205 rfl (by decide) ex89 (by decide) rfl ?_
  refine ev_goto (tgt := 141) dX10_plan_208 (by decide) ?_
  exact hk141 l0 l1 l2 l3 l4 x84 x89 h88 H
def f_X10_plan_L141 : Nat → Nat → Int32 → Int32 → Int32 → Int32 → Int32 → Int32 → Hp → Option (Int32 × Hp)
  | 0, _, _, _, _, _, _, _, _ => none
  | n + 1, l0, l1, l2, l3, l4, l5, l6, h =>
    gd (okOb h l0 10) <|
    vl (gI h l0 50) fun x63 =>
    if x63 ≤ l6 then (
    some (l1, h)) else (
    vl (gR h l0 45) fun r65 =>
    vl (gR h l0 48) fun r66 =>
    un r66 fun b67 =>
    gd (okAb h b67 11 l6) <|
    vl (gI h b67 l6.toNatClampNeg) fun x69 =>
    un r65 fun b70 =>
    gd (okAb h b70 11 x69) <|
    vl (gI h b70 x69.toNatClampNeg) fun x72 =>
    vl (l4 + x72) fun x73 =>
    if x73 ≤ l5 then (
    f_X10_plan_J181 (f_X10_plan_L141 n) l0 l1 l2 l3 x73 l5 l6 l5 h) else (
    f_X10_plan_J181 (f_X10_plan_L141 n) l0 l1 l2 l3 x73 l5 l6 x73 h))
set_option maxHeartbeats 4000000 in
set_option maxRecDepth 100000 in
theorem t_X10_plan_L141 {X : Cx} {d : Nat} {h0 h' : Hp} {v : Int32} (hD : 3 ≤ d) : ∀ (n : Nat) (l0 : Nat) (l1 : Int32) (l2 : Int32) (l3 : Int32) (l4 : Int32) (l5 : Int32) (l6 : Int32) (h : Hp), f_X10_plan_L141 n l0 l1 l2 l3 l4 l5 l6 h = some (v, h') → EV X mX10_plan d h0 (some (.int v)) h' 141 [some (.ref l0), some (.int l1), some (.int l2), some (.int l3), some (.int l4), some (.int l5), some (.int l6)] [] h := by
  intro n
  induction n with
  | zero => intro l0 l1 l2 l3 l4 l5 l6 h H; simp [f_X10_plan_L141] at H
  | succ n ih =>
    intro l0 l1 l2 l3 l4 l5 l6 h H
    rw [f_X10_plan_L141] at H
    refine ev_iload dX10_plan_141 rfl ?_
    refine ev_aload_n dX10_plan_143 rfl rfl rfl ?_
    replace H := gd_some H
    obtain ⟨g62, H⟩ := H
    replace H := vl_some H
    obtain ⟨x63, ex63, H⟩ := H
    refine ev_getIx dX10_plan_144 fgX10_304 rfl (okOb.p g62) ex63 ?_
    refine ev_icmp_ge (tgt := 211) dX10_plan_147 (by decide) (fun c64 => ?_) (fun c64 => ?_)
    · rw [if_pos c64] at H
      refine ev_iload_n dX10_plan_211 rfl rfl ?_
      exact ev_iretx dX10_plan_212 rfl rfl H
    · rw [if_neg c64] at H
      refine ev_iload dX10_plan_150 rfl ?_
      refine ev_aload_n dX10_plan_152 rfl rfl rfl ?_
      replace H := vl_some H
      obtain ⟨r65, er65, H⟩ := H
      refine ev_getRx dX10_plan_153 fgX10_122 rfl (okOb.p g62) er65 ?_
      refine ev_aload_n dX10_plan_156 rfl rfl rfl ?_
      replace H := vl_some H
      obtain ⟨r66, er66, H⟩ := H
      refine ev_getRx dX10_plan_157 fgX10_131 rfl (okOb.p g62) er66 ?_
      refine ev_iload dX10_plan_160 rfl ?_
      replace H := un_some H
      obtain ⟨b67, eb67, H⟩ := H
      subst eb67
      replace H := gd_some H
      obtain ⟨g68, H⟩ := H
      replace H := vl_some H
      obtain ⟨x69, ex69, H⟩ := H
      refine ev_ialdx dX10_plan_162 (okAb.p g68) ex69 ?_
      replace H := un_some H
      obtain ⟨b70, eb70, H⟩ := H
      subst eb70
      replace H := gd_some H
      obtain ⟨g71, H⟩ := H
      replace H := vl_some H
      obtain ⟨x72, ex72, H⟩ := H
      refine ev_ialdx dX10_plan_163 (okAb.p g71) ex72 ?_
      refine ev_iadd dX10_plan_164 ?_
      replace H := vl_some H
      obtain ⟨x73, ex73, H⟩ := H
      refine ev_istorex (loc2 := [some (.ref l0), some (.int l1), some (.int l2), some (.int l3), some (.int x73), some (.int l5), some (.int l6)]) dX10_plan_165 (by decide) ex73 rfl ?_
      refine ev_iload dX10_plan_167 rfl ?_
      refine ev_iload dX10_plan_169 rfl ?_
      refine ev_icmp_le (tgt := 179) dX10_plan_171 (by decide) (fun c74 => ?_) (fun c74 => ?_)
      · rw [if_pos c74] at H
        refine ev_iload dX10_plan_179 rfl ?_
        exact t_X10_plan_J181 hD ih l0 l1 l2 l3 x73 l5 l6 l5 h H
      · rw [if_neg c74] at H
        refine ev_iload dX10_plan_174 rfl ?_
        refine ev_goto (tgt := 181) dX10_plan_176 (by decide) ?_
        exact t_X10_plan_J181 hD ih l0 l1 l2 l3 x73 l5 l6 x73 h H
def f_X10_plan (h : Hp) (a0 : Nat) : Option (Int32 × Hp) :=
gd (okOb h a0 10) <|
vl (gI h a0 50) fun x2 =>
vl (sI h a0 51 x2) fun h3 =>
vl (gI h3 a0 50) fun x4 =>
if x4 = 0 then (
some ((0 : Int32), h3)) else (
f_X10_plan_L19 (fun y14 y15 h16 =>
f_X10_plan_L46 (fun y57 y58 y59 y60 h61 =>
f_X10_plan_L141 6000 y57 y58 y59 y60 (0 : Int32) (0 : Int32) (0 : Int32) h61) 6000 y14 (-1 : Int32) (0 : Int32) (1 : Int32) h16) 6000 a0 (0 : Int32) h3)
set_option maxHeartbeats 4000000 in
set_option maxRecDepth 100000 in
theorem t_X10_plan {X : Cx} {d : Nat} {h : Hp} {a0 : Nat} {v : Int32} {h' : Hp} (hD : 3 ≤ d) (H : f_X10_plan h a0 = some (v, h')) : PM X mX10_plan d [.ref a0] h (some (.int v)) h' := by
  unfold f_X10_plan at H
  refine PM.of (loc := [some (.ref a0), none, none, none, none, none, none]) (by decide) rfl (Nat.le_of_ble_eq_true rfl) ?_
  refine ev_aload_n dX10_plan_0 rfl rfl rfl ?_
  refine ev_aload_n dX10_plan_1 rfl rfl rfl ?_
  replace H := gd_some H
  obtain ⟨g1, H⟩ := H
  replace H := vl_some H
  obtain ⟨x2, ex2, H⟩ := H
  refine ev_getIx dX10_plan_2 fgX10_304 rfl (okOb.p g1) ex2 ?_
  replace H := vl_some H
  obtain ⟨h3, eh3, H⟩ := H
  refine ev_putI dX10_plan_5 fdX10_310 rfl rfl rfl (okOb.p g1) eh3 ?_
  refine ev_aload_n dX10_plan_8 rfl rfl rfl ?_
  replace H := vl_some H
  obtain ⟨x4, ex4, H⟩ := H
  refine ev_getIx dX10_plan_9 fgX10_304 rfl (okO_sI eh3 (okOb.p g1)) ex4 ?_
  refine ev_if_ne (tgt := 17) dX10_plan_12 (by decide) (fun c5 => ?_) (fun c5 => ?_)
  · rw [if_neg c5] at H
    refine ev_iconst (v := (0 : Int32)) dX10_plan_17 (by decide) ?_
    refine ev_istore_n (loc2 := [some (.ref a0), some (.int (0 : Int32)), none, none, none, none, none]) dX10_plan_18 rfl (by decide) rfl ?_
    refine t_X10_plan_L19 hD ?_ 6000 a0 (0 : Int32) h3 H
    · intro y14 y15 h16 H
      refine ev_iconst (v := (-1 : Int32)) dX10_plan_40 (by decide) ?_
      refine ev_istore_n (loc2 := [some (.ref y14), some (.int (-1 : Int32)), none, none, none, none, none]) dX10_plan_41 rfl (by decide) rfl ?_
      refine ev_iconst (v := (0 : Int32)) dX10_plan_42 (by decide) ?_
      refine ev_istore_n (loc2 := [some (.ref y14), some (.int (-1 : Int32)), some (.int (0 : Int32)), none, none, none, none]) dX10_plan_43 rfl (by decide) rfl ?_
      refine ev_iconst (v := (1 : Int32)) dX10_plan_44 (by decide) ?_
      refine ev_istore_n (loc2 := [some (.ref y14), some (.int (-1 : Int32)), some (.int (0 : Int32)), some (.int (1 : Int32)), none, none, none]) dX10_plan_45 rfl (by decide) rfl ?_
      refine t_X10_plan_L46 hD ?_ 6000 y14 (-1 : Int32) (0 : Int32) (1 : Int32) h16 H
      · intro y57 y58 y59 y60 h61 H
        refine ev_iconst (v := (0 : Int32)) dX10_plan_132 (by decide) ?_
        refine ev_istore (loc2 := [some (.ref y57), some (.int y58), some (.int y59), some (.int y60), some (.int (0 : Int32)), none, none]) dX10_plan_133 (by decide) rfl ?_
        refine ev_iconst (v := (0 : Int32)) dX10_plan_135 (by decide) ?_
        refine ev_istore (loc2 := [some (.ref y57), some (.int y58), some (.int y59), some (.int y60), some (.int (0 : Int32)), some (.int (0 : Int32)), none]) dX10_plan_136 (by decide) rfl ?_
        refine ev_iconst (v := (0 : Int32)) dX10_plan_138 (by decide) ?_
        refine ev_istore (loc2 := [some (.ref y57), some (.int y58), some (.int y59), some (.int y60), some (.int (0 : Int32)), some (.int (0 : Int32)), some (.int (0 : Int32))]) dX10_plan_139 (by decide) rfl ?_
        refine t_X10_plan_L141 hD  6000 y57 y58 y59 y60 (0 : Int32) (0 : Int32) (0 : Int32) h61 H
  · rw [if_pos c5] at H
    refine ev_iconst (v := (0 : Int32)) dX10_plan_15 (by decide) ?_
    exact ev_iretx dX10_plan_16 rfl rfl H

theorem dX10_planned_0 : decode cX10_planned 0 = .ok (.iload_n 1, 1) := by decide +kernel
theorem dX10_planned_1 : decode cX10_planned 1 = .ok (.i2l, 1) := by decide +kernel
theorem dX10_planned_2 : decode cX10_planned 2 = .ok (.lconst 0, 1) := by decide +kernel
theorem dX10_planned_3 : decode cX10_planned 3 = .ok (.aload_n 0, 1) := by decide +kernel
theorem dX10_planned_4 : decode cX10_planned 4 = .ok (.getfield 310, 3) := by decide +kernel
theorem dX10_planned_7 : decode cX10_planned 7 = .ok (.iconst 1, 1) := by decide +kernel
theorem dX10_planned_8 : decode cX10_planned 8 = .ok (.isub, 1) := by decide +kernel
theorem dX10_planned_9 : decode cX10_planned 9 = .ok (.i2l, 1) := by decide +kernel
theorem dX10_planned_10 : decode cX10_planned 10 = .ok (.invokestatic 151, 3) := by decide +kernel
theorem dX10_planned_13 : decode cX10_planned 13 = .ok (.ifCond .ne 5, 3) := by decide +kernel
theorem dX10_planned_16 : decode cX10_planned 16 = .ok (.iconst (-1), 1) := by decide +kernel
theorem dX10_planned_17 : decode cX10_planned 17 = .ok (.ireturn, 1) := by decide +kernel
theorem dX10_planned_18 : decode cX10_planned 18 = .ok (.iload_n 2, 1) := by decide +kernel
theorem dX10_planned_19 : decode cX10_planned 19 = .ok (.ifCond .ne 12, 3) := by decide +kernel
theorem dX10_planned_22 : decode cX10_planned 22 = .ok (.aload_n 0, 1) := by decide +kernel
theorem dX10_planned_23 : decode cX10_planned 23 = .ok (.getfield 131, 3) := by decide +kernel
theorem dX10_planned_26 : decode cX10_planned 26 = .ok (.iload_n 1, 1) := by decide +kernel
theorem dX10_planned_27 : decode cX10_planned 27 = .ok (.iaload, 1) := by decide +kernel
theorem dX10_planned_28 : decode cX10_planned 28 = .ok (.goto 18, 3) := by decide +kernel
theorem dX10_planned_31 : decode cX10_planned 31 = .ok (.iload_n 2, 1) := by decide +kernel
theorem dX10_planned_32 : decode cX10_planned 32 = .ok (.iconst 1, 1) := by decide +kernel
theorem dX10_planned_33 : decode cX10_planned 33 = .ok (.if_icmp .ne 12, 3) := by decide +kernel
theorem dX10_planned_36 : decode cX10_planned 36 = .ok (.aload_n 0, 1) := by decide +kernel
theorem dX10_planned_37 : decode cX10_planned 37 = .ok (.getfield 134, 3) := by decide +kernel
theorem dX10_planned_40 : decode cX10_planned 40 = .ok (.iload_n 1, 1) := by decide +kernel
theorem dX10_planned_41 : decode cX10_planned 41 = .ok (.iaload, 1) := by decide +kernel
theorem dX10_planned_42 : decode cX10_planned 42 = .ok (.goto 4, 3) := by decide +kernel
theorem dX10_planned_45 : decode cX10_planned 45 = .ok (.iconst (-1), 1) := by decide +kernel
theorem dX10_planned_46 : decode cX10_planned 46 = .ok (.ireturn, 1) := by decide +kernel
def f_X10_planned (h : Hp) (a0 : Nat) (a1 : Int32) (a2 : Int32) : Option (Int32 × Hp) :=
gd (okOb h a0 10) <|
vl (gI h a0 51) fun x2 =>
bnd (f_X10_isIn h (a1.toInt64) (0 : Int64) ((x2 - (1 : Int32)).toInt64)) fun v3 h4 =>
if v3 = 0 then (
some ((-1 : Int32), h4)) else (
if a2 = 0 then (
vl (gR h4 a0 48) fun r12 =>
un r12 fun b13 =>
gd (okAb h4 b13 11 a1) <|
vl (gI h4 b13 a1.toNatClampNeg) fun x15 =>
some (x15, h4)) else (
if a2 = (1 : Int32) then (
vl (gR h4 a0 49) fun r8 =>
un r8 fun b9 =>
gd (okAb h4 b9 11 a1) <|
vl (gI h4 b9 a1.toNatClampNeg) fun x11 =>
some (x11, h4)) else (
some ((-1 : Int32), h4))))
set_option maxHeartbeats 4000000 in
set_option maxRecDepth 100000 in
theorem t_X10_planned {X : Cx} {d : Nat} {h : Hp} {a0 : Nat} {a1 : Int32} {a2 : Int32} {v : Int32} {h' : Hp} (hD : 2 ≤ d) (H : f_X10_planned h a0 a1 a2 = some (v, h')) : PM X mX10_planned d [.ref a0, .int a1, .int a2] h (some (.int v)) h' := by
  unfold f_X10_planned at H
  refine PM.of (loc := [some (.ref a0), some (.int a1), some (.int a2)]) (by decide) rfl (Nat.le_of_ble_eq_true rfl) ?_
  refine ev_iload_n dX10_planned_0 rfl rfl ?_
  refine ev_i2l dX10_planned_1 rfl ?_
  refine ev_lconst (v := (0 : Int64)) dX10_planned_2 (by decide) ?_
  refine ev_aload_n dX10_planned_3 rfl rfl rfl ?_
  replace H := gd_some H
  obtain ⟨g1, H⟩ := H
  replace H := vl_some H
  obtain ⟨x2, ex2, H⟩ := H
  refine ev_getIx dX10_planned_4 fgX10_310 rfl (okOb.p g1) ex2 ?_
  refine ev_iconst (v := (1 : Int32)) dX10_planned_7 (by decide) ?_
  refine ev_isub dX10_planned_8 ?_
  refine ev_i2l dX10_planned_9 rfl ?_
  replace H := bnd_some H
  obtain ⟨v3, h4, eh4, H⟩ := H
  have ph4 := (t_X10_isIn (X := X) (d := 1) (by omega) eh4)
  refine ev_callS (as := [.long (a1.toInt64), .long (0 : Int64), .long ((x2 - (1 : Int32)).toInt64)]) dX10_planned_10 ph4 ok_X10_isIn (by omega) rfl k5_88 k5_89 rfl (Nat.le_of_ble_eq_true rfl) ?_
  refine ev_if_ne (tgt := 18) dX10_planned_13 (by decide) (fun c5 => ?_) (fun c5 => ?_)
  · rw [if_neg c5] at H
    refine ev_iload_n dX10_planned_18 rfl rfl ?_
    refine ev_if_ne (tgt := 31) dX10_planned_19 (by decide) (fun c6 => ?_) (fun c6 => ?_)
    · rw [if_neg c6] at H
      refine ev_iload_n dX10_planned_31 rfl rfl ?_
      refine ev_iconst (v := (1 : Int32)) dX10_planned_32 (by decide) ?_
      refine ev_icmp_ne (tgt := 45) dX10_planned_33 (by decide) (fun c7 => ?_) (fun c7 => ?_)
      · rw [if_neg c7] at H
        refine ev_iconst (v := (-1 : Int32)) dX10_planned_45 (by decide) ?_
        exact ev_iretx dX10_planned_46 rfl rfl H
      · rw [if_pos c7] at H
        refine ev_aload_n dX10_planned_36 rfl rfl rfl ?_
        replace H := vl_some H
        obtain ⟨r8, er8, H⟩ := H
        refine ev_getRx dX10_planned_37 fgX10_134 rfl (okO_ext ph4.1 (okOb.p g1)) er8 ?_
        refine ev_iload_n dX10_planned_40 rfl rfl ?_
        replace H := un_some H
        obtain ⟨b9, eb9, H⟩ := H
        subst eb9
        replace H := gd_some H
        obtain ⟨g10, H⟩ := H
        replace H := vl_some H
        obtain ⟨x11, ex11, H⟩ := H
        refine ev_ialdx dX10_planned_41 (okAb.p g10) ex11 ?_
        refine ev_goto (tgt := 46) dX10_planned_42 (by decide) ?_
        exact ev_iretx dX10_planned_46 rfl rfl H
    · rw [if_pos c6] at H
      refine ev_aload_n dX10_planned_22 rfl rfl rfl ?_
      replace H := vl_some H
      obtain ⟨r12, er12, H⟩ := H
      refine ev_getRx dX10_planned_23 fgX10_131 rfl (okO_ext ph4.1 (okOb.p g1)) er12 ?_
      refine ev_iload_n dX10_planned_26 rfl rfl ?_
      replace H := un_some H
      obtain ⟨b13, eb13, H⟩ := H
      subst eb13
      replace H := gd_some H
      obtain ⟨g14, H⟩ := H
      replace H := vl_some H
      obtain ⟨x15, ex15, H⟩ := H
      refine ev_ialdx dX10_planned_27 (okAb.p g14) ex15 ?_
      refine ev_goto (tgt := 46) dX10_planned_28 (by decide) ?_
      exact ev_iretx dX10_planned_46 rfl rfl H
  · rw [if_pos c5] at H
    refine ev_iconst (v := (-1 : Int32)) dX10_planned_16 (by decide) ?_
    exact ev_iretx dX10_planned_17 rfl rfl H

theorem dX10_count_0 : decode cX10_count 0 = .ok (.iconst 0, 1) := by decide +kernel
theorem dX10_count_1 : decode cX10_count 1 = .ok (.istore_n 2, 1) := by decide +kernel
theorem dX10_count_2 : decode cX10_count 2 = .ok (.iload_n 1, 1) := by decide +kernel
theorem dX10_count_3 : decode cX10_count 3 = .ok (.tableswitch 234 0 9 #[53, 58, 93, 98, 103, 128, 152, 157, 162, 195], 53) := by decide +kernel
theorem dX10_count_56 : decode cX10_count 56 = .ok (.aload_n 0, 1) := by decide +kernel
theorem dX10_count_57 : decode cX10_count 57 = .ok (.getfield 141, 3) := by decide +kernel
theorem dX10_count_60 : decode cX10_count 60 = .ok (.ireturn, 1) := by decide +kernel
theorem dX10_count_61 : decode cX10_count 61 = .ok (.iconst 0, 1) := by decide +kernel
theorem dX10_count_62 : decode cX10_count 62 = .ok (.istore_n 3, 1) := by decide +kernel
theorem dX10_count_63 : decode cX10_count 63 = .ok (.iload_n 3, 1) := by decide +kernel
theorem dX10_count_64 : decode cX10_count 64 = .ok (.aload_n 0, 1) := by decide +kernel
theorem dX10_count_65 : decode cX10_count 65 = .ok (.getfield 141, 3) := by decide +kernel
theorem dX10_count_68 : decode cX10_count 68 = .ok (.if_icmp .ge 26, 3) := by decide +kernel
theorem dX10_count_71 : decode cX10_count 71 = .ok (.iload_n 2, 1) := by decide +kernel
theorem dX10_count_72 : decode cX10_count 72 = .ok (.aload_n 0, 1) := by decide +kernel
theorem dX10_count_73 : decode cX10_count 73 = .ok (.getfield 28, 3) := by decide +kernel
theorem dX10_count_76 : decode cX10_count 76 = .ok (.iload_n 3, 1) := by decide +kernel
theorem dX10_count_77 : decode cX10_count 77 = .ok (.iaload, 1) := by decide +kernel
theorem dX10_count_78 : decode cX10_count 78 = .ok (.ifCond .lt 7, 3) := by decide +kernel
theorem dX10_count_81 : decode cX10_count 81 = .ok (.iconst 1, 1) := by decide +kernel
theorem dX10_count_82 : decode cX10_count 82 = .ok (.goto 4, 3) := by decide +kernel
theorem dX10_count_85 : decode cX10_count 85 = .ok (.iconst 0, 1) := by decide +kernel
theorem dX10_count_86 : decode cX10_count 86 = .ok (.iadd, 1) := by decide +kernel
theorem dX10_count_87 : decode cX10_count 87 = .ok (.istore_n 2, 1) := by decide +kernel
theorem dX10_count_88 : decode cX10_count 88 = .ok (.iinc 3 1, 3) := by decide +kernel
theorem dX10_count_91 : decode cX10_count 91 = .ok (.goto (-28), 3) := by decide +kernel
theorem dX10_count_94 : decode cX10_count 94 = .ok (.iload_n 2, 1) := by decide +kernel
theorem dX10_count_95 : decode cX10_count 95 = .ok (.ireturn, 1) := by decide +kernel
theorem dX10_count_96 : decode cX10_count 96 = .ok (.aload_n 0, 1) := by decide +kernel
theorem dX10_count_97 : decode cX10_count 97 = .ok (.getfield 199, 3) := by decide +kernel
theorem dX10_count_100 : decode cX10_count 100 = .ok (.ireturn, 1) := by decide +kernel
theorem dX10_count_101 : decode cX10_count 101 = .ok (.aload_n 0, 1) := by decide +kernel
theorem dX10_count_102 : decode cX10_count 102 = .ok (.getfield 209, 3) := by decide +kernel
theorem dX10_count_105 : decode cX10_count 105 = .ok (.ireturn, 1) := by decide +kernel
theorem dX10_count_106 : decode cX10_count 106 = .ok (.iconst 0, 1) := by decide +kernel
theorem dX10_count_107 : decode cX10_count 107 = .ok (.istore_n 3, 1) := by decide +kernel
theorem dX10_count_108 : decode cX10_count 108 = .ok (.iload_n 3, 1) := by decide +kernel
theorem dX10_count_109 : decode cX10_count 109 = .ok (.bipush 12, 2) := by decide +kernel
theorem dX10_count_111 : decode cX10_count 111 = .ok (.if_icmp .ge 18, 3) := by decide +kernel
theorem dX10_count_114 : decode cX10_count 114 = .ok (.iload_n 2, 1) := by decide +kernel
theorem dX10_count_115 : decode cX10_count 115 = .ok (.aload_n 0, 1) := by decide +kernel
theorem dX10_count_116 : decode cX10_count 116 = .ok (.getfield 76, 3) := by decide +kernel
theorem dX10_count_119 : decode cX10_count 119 = .ok (.iload_n 3, 1) := by decide +kernel
theorem dX10_count_120 : decode cX10_count 120 = .ok (.iaload, 1) := by decide +kernel
theorem dX10_count_121 : decode cX10_count 121 = .ok (.iadd, 1) := by decide +kernel
theorem dX10_count_122 : decode cX10_count 122 = .ok (.istore_n 2, 1) := by decide +kernel
theorem dX10_count_123 : decode cX10_count 123 = .ok (.iinc 3 1, 3) := by decide +kernel
theorem dX10_count_126 : decode cX10_count 126 = .ok (.goto (-18), 3) := by decide +kernel
theorem dX10_count_129 : decode cX10_count 129 = .ok (.iload_n 2, 1) := by decide +kernel
theorem dX10_count_130 : decode cX10_count 130 = .ok (.ireturn, 1) := by decide +kernel
theorem dX10_count_131 : decode cX10_count 131 = .ok (.iconst 0, 1) := by decide +kernel
theorem dX10_count_132 : decode cX10_count 132 = .ok (.istore_n 3, 1) := by decide +kernel
theorem dX10_count_133 : decode cX10_count 133 = .ok (.iload_n 3, 1) := by decide +kernel
theorem dX10_count_134 : decode cX10_count 134 = .ok (.bipush 6, 2) := by decide +kernel
theorem dX10_count_136 : decode cX10_count 136 = .ok (.if_icmp .ge 17, 3) := by decide +kernel
theorem dX10_count_139 : decode cX10_count 139 = .ok (.iload_n 2, 1) := by decide +kernel
theorem dX10_count_140 : decode cX10_count 140 = .ok (.aload_n 0, 1) := by decide +kernel
theorem dX10_count_141 : decode cX10_count 141 = .ok (.iload_n 3, 1) := by decide +kernel
theorem dX10_count_142 : decode cX10_count 142 = .ok (.invokevirtual 228, 3) := by decide +kernel
theorem dX10_count_145 : decode cX10_count 145 = .ok (.iadd, 1) := by decide +kernel
theorem dX10_count_146 : decode cX10_count 146 = .ok (.istore_n 2, 1) := by decide +kernel
theorem dX10_count_147 : decode cX10_count 147 = .ok (.iinc 3 1, 3) := by decide +kernel
theorem dX10_count_150 : decode cX10_count 150 = .ok (.goto (-17), 3) := by decide +kernel
theorem dX10_count_153 : decode cX10_count 153 = .ok (.iload_n 2, 1) := by decide +kernel
theorem dX10_count_154 : decode cX10_count 154 = .ok (.ireturn, 1) := by decide +kernel
theorem dX10_count_155 : decode cX10_count 155 = .ok (.aload_n 0, 1) := by decide +kernel
theorem dX10_count_156 : decode cX10_count 156 = .ok (.getfield 155, 3) := by decide +kernel
theorem dX10_count_159 : decode cX10_count 159 = .ok (.ireturn, 1) := by decide +kernel
theorem dX10_count_160 : decode cX10_count 160 = .ok (.aload_n 0, 1) := by decide +kernel
theorem dX10_count_161 : decode cX10_count 161 = .ok (.getfield 304, 3) := by decide +kernel
theorem dX10_count_164 : decode cX10_count 164 = .ok (.ireturn, 1) := by decide +kernel
theorem dX10_count_165 : decode cX10_count 165 = .ok (.iconst 0, 1) := by decide +kernel
theorem dX10_count_166 : decode cX10_count 166 = .ok (.istore_n 3, 1) := by decide +kernel
theorem dX10_count_167 : decode cX10_count 167 = .ok (.iload_n 3, 1) := by decide +kernel
theorem dX10_count_168 : decode cX10_count 168 = .ok (.bipush 12, 2) := by decide +kernel
theorem dX10_count_170 : decode cX10_count 170 = .ok (.if_icmp .ge 26, 3) := by decide +kernel
theorem dX10_count_173 : decode cX10_count 173 = .ok (.iload_n 2, 1) := by decide +kernel
theorem dX10_count_174 : decode cX10_count 174 = .ok (.aload_n 0, 1) := by decide +kernel
theorem dX10_count_175 : decode cX10_count 175 = .ok (.getfield 73, 3) := by decide +kernel
theorem dX10_count_178 : decode cX10_count 178 = .ok (.iload_n 3, 1) := by decide +kernel
theorem dX10_count_179 : decode cX10_count 179 = .ok (.iaload, 1) := by decide +kernel
theorem dX10_count_180 : decode cX10_count 180 = .ok (.ifCond .lt 7, 3) := by decide +kernel
theorem dX10_count_183 : decode cX10_count 183 = .ok (.iconst 1, 1) := by decide +kernel
theorem dX10_count_184 : decode cX10_count 184 = .ok (.goto 4, 3) := by decide +kernel
theorem dX10_count_187 : decode cX10_count 187 = .ok (.iconst 0, 1) := by decide +kernel
theorem dX10_count_188 : decode cX10_count 188 = .ok (.iadd, 1) := by decide +kernel
theorem dX10_count_189 : decode cX10_count 189 = .ok (.istore_n 2, 1) := by decide +kernel
theorem dX10_count_190 : decode cX10_count 190 = .ok (.iinc 3 1, 3) := by decide +kernel
theorem dX10_count_193 : decode cX10_count 193 = .ok (.goto (-26), 3) := by decide +kernel
theorem dX10_count_196 : decode cX10_count 196 = .ok (.iload_n 2, 1) := by decide +kernel
theorem dX10_count_197 : decode cX10_count 197 = .ok (.ireturn, 1) := by decide +kernel
theorem dX10_count_198 : decode cX10_count 198 = .ok (.iconst 0, 1) := by decide +kernel
theorem dX10_count_199 : decode cX10_count 199 = .ok (.istore_n 3, 1) := by decide +kernel
theorem dX10_count_200 : decode cX10_count 200 = .ok (.iload_n 3, 1) := by decide +kernel
theorem dX10_count_201 : decode cX10_count 201 = .ok (.aload_n 0, 1) := by decide +kernel
theorem dX10_count_202 : decode cX10_count 202 = .ok (.getfield 141, 3) := by decide +kernel
theorem dX10_count_205 : decode cX10_count 205 = .ok (.if_icmp .ge 30, 3) := by decide +kernel
theorem dX10_count_208 : decode cX10_count 208 = .ok (.iload_n 2, 1) := by decide +kernel
theorem dX10_count_209 : decode cX10_count 209 = .ok (.aload_n 0, 1) := by decide +kernel
theorem dX10_count_210 : decode cX10_count 210 = .ok (.getfield 28, 3) := by decide +kernel
theorem dX10_count_213 : decode cX10_count 213 = .ok (.iload_n 3, 1) := by decide +kernel
theorem dX10_count_214 : decode cX10_count 214 = .ok (.iaload, 1) := by decide +kernel
theorem dX10_count_215 : decode cX10_count 215 = .ok (.ifCond .lt 11, 3) := by decide +kernel
theorem dX10_count_218 : decode cX10_count 218 = .ok (.aload_n 0, 1) := by decide +kernel
theorem dX10_count_219 : decode cX10_count 219 = .ok (.iload_n 3, 1) := by decide +kernel
theorem dX10_count_220 : decode cX10_count 220 = .ok (.invokevirtual 172, 3) := by decide +kernel
theorem dX10_count_223 : decode cX10_count 223 = .ok (.goto 4, 3) := by decide +kernel
theorem dX10_count_226 : decode cX10_count 226 = .ok (.iconst 0, 1) := by decide +kernel
theorem dX10_count_227 : decode cX10_count 227 = .ok (.iadd, 1) := by decide +kernel
theorem dX10_count_228 : decode cX10_count 228 = .ok (.istore_n 2, 1) := by decide +kernel
theorem dX10_count_229 : decode cX10_count 229 = .ok (.iinc 3 1, 3) := by decide +kernel
theorem dX10_count_232 : decode cX10_count 232 = .ok (.goto (-32), 3) := by decide +kernel
theorem dX10_count_235 : decode cX10_count 235 = .ok (.iload_n 2, 1) := by decide +kernel
theorem dX10_count_236 : decode cX10_count 236 = .ok (.ireturn, 1) := by decide +kernel
theorem dX10_count_237 : decode cX10_count 237 = .ok (.iconst (-1), 1) := by decide +kernel
theorem dX10_count_238 : decode cX10_count 238 = .ok (.ireturn, 1) := by decide +kernel
def f_X10_count_L63 : Nat → Nat → Int32 → Int32 → Int32 → Hp → Option (Int32 × Hp)
  | 0, _, _, _, _, _ => none
  | n + 1, l0, l1, l2, l3, h =>
    gd (okOb h l0 10) <|
    vl (gI h l0 11) fun x6 =>
    if x6 ≤ l3 then (
    some (l2, h)) else (
    vl (gR h l0 7) fun r8 =>
    un r8 fun b9 =>
    gd (okAb h b9 11 l3) <|
    vl (gI h b9 l3.toNatClampNeg) fun x11 =>
    if x11 < 0 then (
    vl (l2 + (0 : Int32)) fun x13 =>
    vl (l3 + (1 : Int32)) fun x14 =>
    f_X10_count_L63 n l0 l1 x13 x14 h) else (
    vl (l2 + (1 : Int32)) fun x15 =>
    vl (l3 + (1 : Int32)) fun x16 =>
    f_X10_count_L63 n l0 l1 x15 x16 h))
set_option maxHeartbeats 4000000 in
set_option maxRecDepth 100000 in
theorem t_X10_count_L63 {X : Cx} {d : Nat} {h0 h' : Hp} {v : Int32} (hD : 3 ≤ d) : ∀ (n : Nat) (l0 : Nat) (l1 : Int32) (l2 : Int32) (l3 : Int32) (h : Hp), f_X10_count_L63 n l0 l1 l2 l3 h = some (v, h') → EV X mX10_count d h0 (some (.int v)) h' 63 [some (.ref l0), some (.int l1), some (.int l2), some (.int l3)] [] h := by
  intro n
  induction n with
  | zero => intro l0 l1 l2 l3 h H; simp [f_X10_count_L63] at H
  | succ n ih =>
    intro l0 l1 l2 l3 h H
    rw [f_X10_count_L63] at H
    refine ev_iload_n dX10_count_63 rfl rfl ?_
    refine ev_aload_n dX10_count_64 rfl rfl rfl ?_
    replace H := gd_some H
    obtain ⟨g5, H⟩ := H
    replace H := vl_some H
    obtain ⟨x6, ex6, H⟩ := H
    refine ev_getIx dX10_count_65 fgX10_141 rfl (okOb.p g5) ex6 ?_
    refine ev_icmp_ge (tgt := 94) dX10_count_68 (by decide) (fun c7 => ?_) (fun c7 => ?_)
    · rw [if_pos c7] at H
      refine ev_iload_n dX10_count_94 rfl rfl ?_
      exact ev_iretx dX10_count_95 rfl rfl H
    · rw [if_neg c7] at H
      refine ev_iload_n dX10_count_71 rfl rfl ?_
      refine ev_aload_n dX10_count_72 rfl rfl rfl ?_
      replace H := vl_some H
      obtain ⟨r8, er8, H⟩ := H
      refine ev_getRx dX10_count_73 fgX10_28 rfl (okOb.p g5) er8 ?_
      refine ev_iload_n dX10_count_76 rfl rfl ?_
      replace H := un_some H
      obtain ⟨b9, eb9, H⟩ := H
      subst eb9
      replace H := gd_some H
      obtain ⟨g10, H⟩ := H
      replace H := vl_some H
      obtain ⟨x11, ex11, H⟩ := H
      refine ev_ialdx dX10_count_77 (okAb.p g10) ex11 ?_
      refine ev_if_lt (tgt := 85) dX10_count_78 (by decide) (fun c12 => ?_) (fun c12 => ?_)
      · rw [if_pos c12] at H
        refine ev_iconst (v := (0 : Int32)) dX10_count_85 (by decide) ?_
        refine ev_iadd dX10_count_86 ?_
        replace H := vl_some H
        obtain ⟨x13, ex13, H⟩ := H
        refine ev_istore_nx (loc2 := [some (.ref l0), some (.int l1), some (.int x13), some (.int l3)]) dX10_count_87 rfl (by decide) ex13 rfl ?_
        replace H := vl_some H
        obtain ⟨x14, ex14, H⟩ := H
        refine ev_iincx (loc2 := [some (.ref l0), some (.int l1), some (.int x13), some (.int x14)]) dX10_count_88 rfl (by decide) ex14 (by decide) rfl ?_
        refine ev_goto (tgt := 63) dX10_count_91 (by decide) ?_
        exact ih l0 l1 x13 x14 h H
      · rw [if_neg c12] at H
        refine ev_iconst (v := (1 : Int32)) dX10_count_81 (by decide) ?_
        refine ev_goto (tgt := 86) dX10_count_82 (by decide) ?_
        refine ev_iadd dX10_count_86 ?_
        replace H := vl_some H
        obtain ⟨x15, ex15, H⟩ := H
        refine ev_istore_nx (loc2 := [some (.ref l0), some (.int l1), some (.int x15), some (.int l3)]) dX10_count_87 rfl (by decide) ex15 rfl ?_
        replace H := vl_some H
        obtain ⟨x16, ex16, H⟩ := H
        refine ev_iincx (loc2 := [some (.ref l0), some (.int l1), some (.int x15), some (.int x16)]) dX10_count_88 rfl (by decide) ex16 (by decide) rfl ?_
        refine ev_goto (tgt := 63) dX10_count_91 (by decide) ?_
        exact ih l0 l1 x15 x16 h H
def f_X10_count_L108 : Nat → Nat → Int32 → Int32 → Int32 → Hp → Option (Int32 × Hp)
  | 0, _, _, _, _, _ => none
  | n + 1, l0, l1, l2, l3, h =>
    if (12 : Int32) ≤ l3 then (
    some (l2, h)) else (
    gd (okOb h l0 10) <|
    vl (gR h l0 26) fun r26 =>
    un r26 fun b27 =>
    gd (okAb h b27 11 l3) <|
    vl (gI h b27 l3.toNatClampNeg) fun x29 =>
    vl (l2 + x29) fun x30 =>
    vl (l3 + (1 : Int32)) fun x31 =>
    f_X10_count_L108 n l0 l1 x30 x31 h)
set_option maxHeartbeats 4000000 in
set_option maxRecDepth 100000 in
theorem t_X10_count_L108 {X : Cx} {d : Nat} {h0 h' : Hp} {v : Int32} (hD : 3 ≤ d) : ∀ (n : Nat) (l0 : Nat) (l1 : Int32) (l2 : Int32) (l3 : Int32) (h : Hp), f_X10_count_L108 n l0 l1 l2 l3 h = some (v, h') → EV X mX10_count d h0 (some (.int v)) h' 108 [some (.ref l0), some (.int l1), some (.int l2), some (.int l3)] [] h := by
  intro n
  induction n with
  | zero => intro l0 l1 l2 l3 h H; simp [f_X10_count_L108] at H
  | succ n ih =>
    intro l0 l1 l2 l3 h H
    rw [f_X10_count_L108] at H
    refine ev_iload_n dX10_count_108 rfl rfl ?_
    refine ev_bipush (v := (12 : Int32)) dX10_count_109 (by decide) ?_
    refine ev_icmp_ge (tgt := 129) dX10_count_111 (by decide) (fun c24 => ?_) (fun c24 => ?_)
    · rw [if_pos c24] at H
      refine ev_iload_n dX10_count_129 rfl rfl ?_
      exact ev_iretx dX10_count_130 rfl rfl H
    · rw [if_neg c24] at H
      refine ev_iload_n dX10_count_114 rfl rfl ?_
      refine ev_aload_n dX10_count_115 rfl rfl rfl ?_
      replace H := gd_some H
      obtain ⟨g25, H⟩ := H
      replace H := vl_some H
      obtain ⟨r26, er26, H⟩ := H
      refine ev_getRx dX10_count_116 fgX10_76 rfl (okOb.p g25) er26 ?_
      refine ev_iload_n dX10_count_119 rfl rfl ?_
      replace H := un_some H
      obtain ⟨b27, eb27, H⟩ := H
      subst eb27
      replace H := gd_some H
      obtain ⟨g28, H⟩ := H
      replace H := vl_some H
      obtain ⟨x29, ex29, H⟩ := H
      refine ev_ialdx dX10_count_120 (okAb.p g28) ex29 ?_
      refine ev_iadd dX10_count_121 ?_
      replace H := vl_some H
      obtain ⟨x30, ex30, H⟩ := H
      refine ev_istore_nx (loc2 := [some (.ref l0), some (.int l1), some (.int x30), some (.int l3)]) dX10_count_122 rfl (by decide) ex30 rfl ?_
      replace H := vl_some H
      obtain ⟨x31, ex31, H⟩ := H
      refine ev_iincx (loc2 := [some (.ref l0), some (.int l1), some (.int x30), some (.int x31)]) dX10_count_123 rfl (by decide) ex31 (by decide) rfl ?_
      refine ev_goto (tgt := 108) dX10_count_126 (by decide) ?_
      exact ih l0 l1 x30 x31 h H
def f_X10_count_L133 : Nat → Nat → Int32 → Int32 → Int32 → Hp → Option (Int32 × Hp)
  | 0, _, _, _, _, _ => none
  | n + 1, l0, l1, l2, l3, h =>
    if (6 : Int32) ≤ l3 then (
    some (l2, h)) else (
    gd (okOb h l0 10) <|
    bnd (f_X10_spoiltOf h l0 l3) fun v35 h36 =>
    vl (l2 + v35) fun x37 =>
    vl (l3 + (1 : Int32)) fun x38 =>
    f_X10_count_L133 n l0 l1 x37 x38 h36)
set_option maxHeartbeats 4000000 in
set_option maxRecDepth 100000 in
theorem t_X10_count_L133 {X : Cx} {d : Nat} {h0 h' : Hp} {v : Int32} (hD : 3 ≤ d) : ∀ (n : Nat) (l0 : Nat) (l1 : Int32) (l2 : Int32) (l3 : Int32) (h : Hp), f_X10_count_L133 n l0 l1 l2 l3 h = some (v, h') → EV X mX10_count d h0 (some (.int v)) h' 133 [some (.ref l0), some (.int l1), some (.int l2), some (.int l3)] [] h := by
  intro n
  induction n with
  | zero => intro l0 l1 l2 l3 h H; simp [f_X10_count_L133] at H
  | succ n ih =>
    intro l0 l1 l2 l3 h H
    rw [f_X10_count_L133] at H
    refine ev_iload_n dX10_count_133 rfl rfl ?_
    refine ev_bipush (v := (6 : Int32)) dX10_count_134 (by decide) ?_
    refine ev_icmp_ge (tgt := 153) dX10_count_136 (by decide) (fun c33 => ?_) (fun c33 => ?_)
    · rw [if_pos c33] at H
      refine ev_iload_n dX10_count_153 rfl rfl ?_
      exact ev_iretx dX10_count_154 rfl rfl H
    · rw [if_neg c33] at H
      refine ev_iload_n dX10_count_139 rfl rfl ?_
      refine ev_aload_n dX10_count_140 rfl rfl rfl ?_
      refine ev_iload_n dX10_count_141 rfl rfl ?_
      replace H := gd_some H
      obtain ⟨g34, H⟩ := H
      replace H := bnd_some H
      obtain ⟨v35, h36, eh36, H⟩ := H
      have ph36 := (t_X10_spoiltOf (X := X) (d := 1) (by omega) eh36)
      refine ev_callV (as := [.int l3]) dX10_count_142 ph36 ok_X10_spoiltOf (by omega) rfl k5_224 k5_226 ks_38 (ci := 10) (by decide) rfl rfl (okOb.p g34) rfl (Nat.le_of_ble_eq_true rfl) ?_
      refine ev_iadd dX10_count_145 ?_
      replace H := vl_some H
      obtain ⟨x37, ex37, H⟩ := H
      refine ev_istore_nx (loc2 := [some (.ref l0), some (.int l1), some (.int x37), some (.int l3)]) dX10_count_146 rfl (by decide) ex37 rfl ?_
      replace H := vl_some H
      obtain ⟨x38, ex38, H⟩ := H
      refine ev_iincx (loc2 := [some (.ref l0), some (.int l1), some (.int x37), some (.int x38)]) dX10_count_147 rfl (by decide) ex38 (by decide) rfl ?_
      refine ev_goto (tgt := 133) dX10_count_150 (by decide) ?_
      exact ih l0 l1 x37 x38 h36 H
def f_X10_count_L167 : Nat → Nat → Int32 → Int32 → Int32 → Hp → Option (Int32 × Hp)
  | 0, _, _, _, _, _ => none
  | n + 1, l0, l1, l2, l3, h =>
    if (12 : Int32) ≤ l3 then (
    some (l2, h)) else (
    gd (okOb h l0 10) <|
    vl (gR h l0 25) fun r48 =>
    un r48 fun b49 =>
    gd (okAb h b49 11 l3) <|
    vl (gI h b49 l3.toNatClampNeg) fun x51 =>
    if x51 < 0 then (
    vl (l2 + (0 : Int32)) fun x53 =>
    vl (l3 + (1 : Int32)) fun x54 =>
    f_X10_count_L167 n l0 l1 x53 x54 h) else (
    vl (l2 + (1 : Int32)) fun x55 =>
    vl (l3 + (1 : Int32)) fun x56 =>
    f_X10_count_L167 n l0 l1 x55 x56 h))
set_option maxHeartbeats 4000000 in
set_option maxRecDepth 100000 in
theorem t_X10_count_L167 {X : Cx} {d : Nat} {h0 h' : Hp} {v : Int32} (hD : 3 ≤ d) : ∀ (n : Nat) (l0 : Nat) (l1 : Int32) (l2 : Int32) (l3 : Int32) (h : Hp), f_X10_count_L167 n l0 l1 l2 l3 h = some (v, h') → EV X mX10_count d h0 (some (.int v)) h' 167 [some (.ref l0), some (.int l1), some (.int l2), some (.int l3)] [] h := by
  intro n
  induction n with
  | zero => intro l0 l1 l2 l3 h H; simp [f_X10_count_L167] at H
  | succ n ih =>
    intro l0 l1 l2 l3 h H
    rw [f_X10_count_L167] at H
    refine ev_iload_n dX10_count_167 rfl rfl ?_
    refine ev_bipush (v := (12 : Int32)) dX10_count_168 (by decide) ?_
    refine ev_icmp_ge (tgt := 196) dX10_count_170 (by decide) (fun c46 => ?_) (fun c46 => ?_)
    · rw [if_pos c46] at H
      refine ev_iload_n dX10_count_196 rfl rfl ?_
      exact ev_iretx dX10_count_197 rfl rfl H
    · rw [if_neg c46] at H
      refine ev_iload_n dX10_count_173 rfl rfl ?_
      refine ev_aload_n dX10_count_174 rfl rfl rfl ?_
      replace H := gd_some H
      obtain ⟨g47, H⟩ := H
      replace H := vl_some H
      obtain ⟨r48, er48, H⟩ := H
      refine ev_getRx dX10_count_175 fgX10_73 rfl (okOb.p g47) er48 ?_
      refine ev_iload_n dX10_count_178 rfl rfl ?_
      replace H := un_some H
      obtain ⟨b49, eb49, H⟩ := H
      subst eb49
      replace H := gd_some H
      obtain ⟨g50, H⟩ := H
      replace H := vl_some H
      obtain ⟨x51, ex51, H⟩ := H
      refine ev_ialdx dX10_count_179 (okAb.p g50) ex51 ?_
      refine ev_if_lt (tgt := 187) dX10_count_180 (by decide) (fun c52 => ?_) (fun c52 => ?_)
      · rw [if_pos c52] at H
        refine ev_iconst (v := (0 : Int32)) dX10_count_187 (by decide) ?_
        refine ev_iadd dX10_count_188 ?_
        replace H := vl_some H
        obtain ⟨x53, ex53, H⟩ := H
        refine ev_istore_nx (loc2 := [some (.ref l0), some (.int l1), some (.int x53), some (.int l3)]) dX10_count_189 rfl (by decide) ex53 rfl ?_
        replace H := vl_some H
        obtain ⟨x54, ex54, H⟩ := H
        refine ev_iincx (loc2 := [some (.ref l0), some (.int l1), some (.int x53), some (.int x54)]) dX10_count_190 rfl (by decide) ex54 (by decide) rfl ?_
        refine ev_goto (tgt := 167) dX10_count_193 (by decide) ?_
        exact ih l0 l1 x53 x54 h H
      · rw [if_neg c52] at H
        refine ev_iconst (v := (1 : Int32)) dX10_count_183 (by decide) ?_
        refine ev_goto (tgt := 188) dX10_count_184 (by decide) ?_
        refine ev_iadd dX10_count_188 ?_
        replace H := vl_some H
        obtain ⟨x55, ex55, H⟩ := H
        refine ev_istore_nx (loc2 := [some (.ref l0), some (.int l1), some (.int x55), some (.int l3)]) dX10_count_189 rfl (by decide) ex55 rfl ?_
        replace H := vl_some H
        obtain ⟨x56, ex56, H⟩ := H
        refine ev_iincx (loc2 := [some (.ref l0), some (.int l1), some (.int x55), some (.int x56)]) dX10_count_190 rfl (by decide) ex56 (by decide) rfl ?_
        refine ev_goto (tgt := 167) dX10_count_193 (by decide) ?_
        exact ih l0 l1 x55 x56 h H
def f_X10_count_L200 : Nat → Nat → Int32 → Int32 → Int32 → Hp → Option (Int32 × Hp)
  | 0, _, _, _, _, _ => none
  | n + 1, l0, l1, l2, l3, h =>
    gd (okOb h l0 10) <|
    vl (gI h l0 11) fun x59 =>
    if x59 ≤ l3 then (
    some (l2, h)) else (
    vl (gR h l0 7) fun r61 =>
    un r61 fun b62 =>
    gd (okAb h b62 11 l3) <|
    vl (gI h b62 l3.toNatClampNeg) fun x64 =>
    if x64 < 0 then (
    vl (l2 + (0 : Int32)) fun x66 =>
    vl (l3 + (1 : Int32)) fun x67 =>
    f_X10_count_L200 n l0 l1 x66 x67 h) else (
    bnd (f_X10_lettersOf h l0 l3) fun v68 h69 =>
    vl (l2 + v68) fun x70 =>
    vl (l3 + (1 : Int32)) fun x71 =>
    f_X10_count_L200 n l0 l1 x70 x71 h69))
set_option maxHeartbeats 4000000 in
set_option maxRecDepth 100000 in
theorem t_X10_count_L200 {X : Cx} {d : Nat} {h0 h' : Hp} {v : Int32} (hD : 3 ≤ d) : ∀ (n : Nat) (l0 : Nat) (l1 : Int32) (l2 : Int32) (l3 : Int32) (h : Hp), f_X10_count_L200 n l0 l1 l2 l3 h = some (v, h') → EV X mX10_count d h0 (some (.int v)) h' 200 [some (.ref l0), some (.int l1), some (.int l2), some (.int l3)] [] h := by
  intro n
  induction n with
  | zero => intro l0 l1 l2 l3 h H; simp [f_X10_count_L200] at H
  | succ n ih =>
    intro l0 l1 l2 l3 h H
    rw [f_X10_count_L200] at H
    refine ev_iload_n dX10_count_200 rfl rfl ?_
    refine ev_aload_n dX10_count_201 rfl rfl rfl ?_
    replace H := gd_some H
    obtain ⟨g58, H⟩ := H
    replace H := vl_some H
    obtain ⟨x59, ex59, H⟩ := H
    refine ev_getIx dX10_count_202 fgX10_141 rfl (okOb.p g58) ex59 ?_
    refine ev_icmp_ge (tgt := 235) dX10_count_205 (by decide) (fun c60 => ?_) (fun c60 => ?_)
    · rw [if_pos c60] at H
      refine ev_iload_n dX10_count_235 rfl rfl ?_
      exact ev_iretx dX10_count_236 rfl rfl H
    · rw [if_neg c60] at H
      refine ev_iload_n dX10_count_208 rfl rfl ?_
      refine ev_aload_n dX10_count_209 rfl rfl rfl ?_
      replace H := vl_some H
      obtain ⟨r61, er61, H⟩ := H
      refine ev_getRx dX10_count_210 fgX10_28 rfl (okOb.p g58) er61 ?_
      refine ev_iload_n dX10_count_213 rfl rfl ?_
      replace H := un_some H
      obtain ⟨b62, eb62, H⟩ := H
      subst eb62
      replace H := gd_some H
      obtain ⟨g63, H⟩ := H
      replace H := vl_some H
      obtain ⟨x64, ex64, H⟩ := H
      refine ev_ialdx dX10_count_214 (okAb.p g63) ex64 ?_
      refine ev_if_lt (tgt := 226) dX10_count_215 (by decide) (fun c65 => ?_) (fun c65 => ?_)
      · rw [if_pos c65] at H
        refine ev_iconst (v := (0 : Int32)) dX10_count_226 (by decide) ?_
        refine ev_iadd dX10_count_227 ?_
        replace H := vl_some H
        obtain ⟨x66, ex66, H⟩ := H
        refine ev_istore_nx (loc2 := [some (.ref l0), some (.int l1), some (.int x66), some (.int l3)]) dX10_count_228 rfl (by decide) ex66 rfl ?_
        replace H := vl_some H
        obtain ⟨x67, ex67, H⟩ := H
        refine ev_iincx (loc2 := [some (.ref l0), some (.int l1), some (.int x66), some (.int x67)]) dX10_count_229 rfl (by decide) ex67 (by decide) rfl ?_
        refine ev_goto (tgt := 200) dX10_count_232 (by decide) ?_
        exact ih l0 l1 x66 x67 h H
      · rw [if_neg c65] at H
        refine ev_aload_n dX10_count_218 rfl rfl rfl ?_
        refine ev_iload_n dX10_count_219 rfl rfl ?_
        replace H := bnd_some H
        obtain ⟨v68, h69, eh69, H⟩ := H
        have ph69 := (t_X10_lettersOf (X := X) (d := 2) (by omega) eh69)
        refine ev_callV (as := [.int l3]) dX10_count_220 ph69 ok_X10_lettersOf (by omega) rfl k5_122 k5_124 ks_28 (ci := 10) (by decide) rfl rfl (okOb.p g58) rfl (Nat.le_of_ble_eq_true rfl) ?_
        refine ev_goto (tgt := 227) dX10_count_223 (by decide) ?_
        refine ev_iadd dX10_count_227 ?_
        replace H := vl_some H
        obtain ⟨x70, ex70, H⟩ := H
        refine ev_istore_nx (loc2 := [some (.ref l0), some (.int l1), some (.int x70), some (.int l3)]) dX10_count_228 rfl (by decide) ex70 rfl ?_
        replace H := vl_some H
        obtain ⟨x71, ex71, H⟩ := H
        refine ev_iincx (loc2 := [some (.ref l0), some (.int l1), some (.int x70), some (.int x71)]) dX10_count_229 rfl (by decide) ex71 (by decide) rfl ?_
        refine ev_goto (tgt := 200) dX10_count_232 (by decide) ?_
        exact ih l0 l1 x70 x71 h69 H
def f_X10_count (h : Hp) (a0 : Nat) (a1 : Int32) : Option (Int32 × Hp) :=
if a1 = (0 : Int32) then (
gd (okOb h a0 10) <|
vl (gI h a0 11) fun x3 =>
some (x3, h)) else if a1 = (1 : Int32) then (
f_X10_count_L63 6000 a0 a1 (0 : Int32) (0 : Int32) h) else if a1 = (2 : Int32) then (
gd (okOb h a0 10) <|
vl (gI h a0 23) fun x19 =>
some (x19, h)) else if a1 = (3 : Int32) then (
gd (okOb h a0 10) <|
vl (gI h a0 24) fun x22 =>
some (x22, h)) else if a1 = (4 : Int32) then (
f_X10_count_L108 6000 a0 a1 (0 : Int32) (0 : Int32) h) else if a1 = (5 : Int32) then (
f_X10_count_L133 6000 a0 a1 (0 : Int32) (0 : Int32) h) else if a1 = (6 : Int32) then (
gd (okOb h a0 10) <|
vl (gI h a0 2) fun x41 =>
some (x41, h)) else if a1 = (7 : Int32) then (
gd (okOb h a0 10) <|
vl (gI h a0 50) fun x44 =>
some (x44, h)) else if a1 = (8 : Int32) then (
f_X10_count_L167 6000 a0 a1 (0 : Int32) (0 : Int32) h) else if a1 = (9 : Int32) then (
f_X10_count_L200 6000 a0 a1 (0 : Int32) (0 : Int32) h) else (
some ((-1 : Int32), h))
set_option maxHeartbeats 4000000 in
set_option maxRecDepth 100000 in
theorem t_X10_count {X : Cx} {d : Nat} {h : Hp} {a0 : Nat} {a1 : Int32} {v : Int32} {h' : Hp} (hD : 3 ≤ d) (H : f_X10_count h a0 a1 = some (v, h')) : PM X mX10_count d [.ref a0, .int a1] h (some (.int v)) h' := by
  unfold f_X10_count at H
  refine PM.of (loc := [some (.ref a0), some (.int a1), none, none]) (by decide) rfl (Nat.le_of_ble_eq_true rfl) ?_
  refine ev_iconst (v := (0 : Int32)) dX10_count_0 (by decide) ?_
  refine ev_istore_n (loc2 := [some (.ref a0), some (.int a1), some (.int (0 : Int32)), none]) dX10_count_1 rfl (by decide) rfl ?_
  refine ev_iload_n dX10_count_2 rfl rfl ?_
  by_cases c1 : a1 = (0 : Int32)
  · rw [if_pos c1] at H
    refine ev_tsIn (tgt := 56) dX10_count_3 (by rw [c1]; decide) (by rw [c1]; decide) (by rw [c1]; rfl) (by decide) ?_
    refine ev_aload_n dX10_count_56 rfl rfl rfl ?_
    replace H := gd_some H
    obtain ⟨g2, H⟩ := H
    replace H := vl_some H
    obtain ⟨x3, ex3, H⟩ := H
    refine ev_getIx dX10_count_57 fgX10_141 rfl (okOb.p g2) ex3 ?_
    exact ev_iretx dX10_count_60 rfl rfl H
  rw [if_neg c1] at H
  by_cases c4 : a1 = (1 : Int32)
  · rw [if_pos c4] at H
    refine ev_tsIn (tgt := 61) dX10_count_3 (by rw [c4]; decide) (by rw [c4]; decide) (by rw [c4]; rfl) (by decide) ?_
    refine ev_iconst (v := (0 : Int32)) dX10_count_61 (by decide) ?_
    refine ev_istore_n (loc2 := [some (.ref a0), some (.int a1), some (.int (0 : Int32)), some (.int (0 : Int32))]) dX10_count_62 rfl (by decide) rfl ?_
    refine t_X10_count_L63 hD  6000 a0 a1 (0 : Int32) (0 : Int32) h H
  rw [if_neg c4] at H
  by_cases c17 : a1 = (2 : Int32)
  · rw [if_pos c17] at H
    refine ev_tsIn (tgt := 96) dX10_count_3 (by rw [c17]; decide) (by rw [c17]; decide) (by rw [c17]; rfl) (by decide) ?_
    refine ev_aload_n dX10_count_96 rfl rfl rfl ?_
    replace H := gd_some H
    obtain ⟨g18, H⟩ := H
    replace H := vl_some H
    obtain ⟨x19, ex19, H⟩ := H
    refine ev_getIx dX10_count_97 fgX10_199 rfl (okOb.p g18) ex19 ?_
    exact ev_iretx dX10_count_100 rfl rfl H
  rw [if_neg c17] at H
  by_cases c20 : a1 = (3 : Int32)
  · rw [if_pos c20] at H
    refine ev_tsIn (tgt := 101) dX10_count_3 (by rw [c20]; decide) (by rw [c20]; decide) (by rw [c20]; rfl) (by decide) ?_
    refine ev_aload_n dX10_count_101 rfl rfl rfl ?_
    replace H := gd_some H
    obtain ⟨g21, H⟩ := H
    replace H := vl_some H
    obtain ⟨x22, ex22, H⟩ := H
    refine ev_getIx dX10_count_102 fgX10_209 rfl (okOb.p g21) ex22 ?_
    exact ev_iretx dX10_count_105 rfl rfl H
  rw [if_neg c20] at H
  by_cases c23 : a1 = (4 : Int32)
  · rw [if_pos c23] at H
    refine ev_tsIn (tgt := 106) dX10_count_3 (by rw [c23]; decide) (by rw [c23]; decide) (by rw [c23]; rfl) (by decide) ?_
    refine ev_iconst (v := (0 : Int32)) dX10_count_106 (by decide) ?_
    refine ev_istore_n (loc2 := [some (.ref a0), some (.int a1), some (.int (0 : Int32)), some (.int (0 : Int32))]) dX10_count_107 rfl (by decide) rfl ?_
    refine t_X10_count_L108 hD  6000 a0 a1 (0 : Int32) (0 : Int32) h H
  rw [if_neg c23] at H
  by_cases c32 : a1 = (5 : Int32)
  · rw [if_pos c32] at H
    refine ev_tsIn (tgt := 131) dX10_count_3 (by rw [c32]; decide) (by rw [c32]; decide) (by rw [c32]; rfl) (by decide) ?_
    refine ev_iconst (v := (0 : Int32)) dX10_count_131 (by decide) ?_
    refine ev_istore_n (loc2 := [some (.ref a0), some (.int a1), some (.int (0 : Int32)), some (.int (0 : Int32))]) dX10_count_132 rfl (by decide) rfl ?_
    refine t_X10_count_L133 hD  6000 a0 a1 (0 : Int32) (0 : Int32) h H
  rw [if_neg c32] at H
  by_cases c39 : a1 = (6 : Int32)
  · rw [if_pos c39] at H
    refine ev_tsIn (tgt := 155) dX10_count_3 (by rw [c39]; decide) (by rw [c39]; decide) (by rw [c39]; rfl) (by decide) ?_
    refine ev_aload_n dX10_count_155 rfl rfl rfl ?_
    replace H := gd_some H
    obtain ⟨g40, H⟩ := H
    replace H := vl_some H
    obtain ⟨x41, ex41, H⟩ := H
    refine ev_getIx dX10_count_156 fgX10_155 rfl (okOb.p g40) ex41 ?_
    exact ev_iretx dX10_count_159 rfl rfl H
  rw [if_neg c39] at H
  by_cases c42 : a1 = (7 : Int32)
  · rw [if_pos c42] at H
    refine ev_tsIn (tgt := 160) dX10_count_3 (by rw [c42]; decide) (by rw [c42]; decide) (by rw [c42]; rfl) (by decide) ?_
    refine ev_aload_n dX10_count_160 rfl rfl rfl ?_
    replace H := gd_some H
    obtain ⟨g43, H⟩ := H
    replace H := vl_some H
    obtain ⟨x44, ex44, H⟩ := H
    refine ev_getIx dX10_count_161 fgX10_304 rfl (okOb.p g43) ex44 ?_
    exact ev_iretx dX10_count_164 rfl rfl H
  rw [if_neg c42] at H
  by_cases c45 : a1 = (8 : Int32)
  · rw [if_pos c45] at H
    refine ev_tsIn (tgt := 165) dX10_count_3 (by rw [c45]; decide) (by rw [c45]; decide) (by rw [c45]; rfl) (by decide) ?_
    refine ev_iconst (v := (0 : Int32)) dX10_count_165 (by decide) ?_
    refine ev_istore_n (loc2 := [some (.ref a0), some (.int a1), some (.int (0 : Int32)), some (.int (0 : Int32))]) dX10_count_166 rfl (by decide) rfl ?_
    refine t_X10_count_L167 hD  6000 a0 a1 (0 : Int32) (0 : Int32) h H
  rw [if_neg c45] at H
  by_cases c57 : a1 = (9 : Int32)
  · rw [if_pos c57] at H
    refine ev_tsIn (tgt := 198) dX10_count_3 (by rw [c57]; decide) (by rw [c57]; decide) (by rw [c57]; rfl) (by decide) ?_
    refine ev_iconst (v := (0 : Int32)) dX10_count_198 (by decide) ?_
    refine ev_istore_n (loc2 := [some (.ref a0), some (.int a1), some (.int (0 : Int32)), some (.int (0 : Int32))]) dX10_count_199 rfl (by decide) rfl ?_
    refine t_X10_count_L200 hD  6000 a0 a1 (0 : Int32) (0 : Int32) h H
  rw [if_neg c57] at H
  refine ev_tsOut (tgt := 237) dX10_count_3 (ts_out (n := 10) (by decide) (by decide) (fun j hj => ?_)) (by decide) ?_
  · match j, hj with
    | 0, _ => exact fun q => c1 (by rw [q]; decide)
    | 1, _ => exact fun q => c4 (by rw [q]; decide)
    | 2, _ => exact fun q => c17 (by rw [q]; decide)
    | 3, _ => exact fun q => c20 (by rw [q]; decide)
    | 4, _ => exact fun q => c23 (by rw [q]; decide)
    | 5, _ => exact fun q => c32 (by rw [q]; decide)
    | 6, _ => exact fun q => c39 (by rw [q]; decide)
    | 7, _ => exact fun q => c42 (by rw [q]; decide)
    | 8, _ => exact fun q => c45 (by rw [q]; decide)
    | 9, _ => exact fun q => c57 (by rw [q]; decide)
  refine ev_iconst (v := (-1 : Int32)) dX10_count_237 (by decide) ?_
  exact ev_iretx dX10_count_238 rfl rfl H
