theorem dX9_ordered_0 : decode cX9_ordered 0 = .ok (.iload_n 1, 1) := by decide +kernel
theorem dX9_ordered_1 : decode cX9_ordered 1 = .ok (.ifCond .lt 26, 3) := by decide +kernel
theorem dX9_ordered_4 : decode cX9_ordered 4 = .ok (.iload_n 1, 1) := by decide +kernel
theorem dX9_ordered_5 : decode cX9_ordered 5 = .ok (.aload_n 0, 1) := by decide +kernel
theorem dX9_ordered_6 : decode cX9_ordered 6 = .ok (.getfield 55, 3) := by decide +kernel
theorem dX9_ordered_9 : decode cX9_ordered 9 = .ok (.getfield 296, 3) := by decide +kernel
theorem dX9_ordered_12 : decode cX9_ordered 12 = .ok (.if_icmp .ge 15, 3) := by decide +kernel
theorem dX9_ordered_15 : decode cX9_ordered 15 = .ok (.aload_n 0, 1) := by decide +kernel
theorem dX9_ordered_16 : decode cX9_ordered 16 = .ok (.getfield 55, 3) := by decide +kernel
theorem dX9_ordered_19 : decode cX9_ordered 19 = .ok (.getfield 297, 3) := by decide +kernel
theorem dX9_ordered_22 : decode cX9_ordered 22 = .ok (.iload_n 1, 1) := by decide +kernel
theorem dX9_ordered_23 : decode cX9_ordered 23 = .ok (.iaload, 1) := by decide +kernel
theorem dX9_ordered_24 : decode cX9_ordered 24 = .ok (.goto 4, 3) := by decide +kernel
theorem dX9_ordered_27 : decode cX9_ordered 27 = .ok (.iconst (-1), 1) := by decide +kernel
theorem dX9_ordered_28 : decode cX9_ordered 28 = .ok (.ireturn, 1) := by decide +kernel
def f_X9_ordered (h : Hp) (a0 : Nat) (a1 : Int32) : Option (Int32 × Hp) :=
if a1 < 0 then (
some ((-1 : Int32), h)) else (
gd (okOb h a0 9) <|
vl (gR h a0 11) fun r3 =>
un r3 fun b4 =>
gd (okOb h b4 0) <|
vl (gI h b4 6) fun x6 =>
if x6 ≤ a1 then (
some ((-1 : Int32), h)) else (
vl (gR h a0 11) fun r8 =>
un r8 fun b9 =>
gd (okOb h b9 0) <|
vl (gR h b9 5) fun r11 =>
un r11 fun b12 =>
gd (okAb h b12 11 a1) <|
vl (gI h b12 a1.toNatClampNeg) fun x14 =>
some (x14, h)))
set_option maxHeartbeats 4000000 in
set_option maxRecDepth 100000 in
theorem t_X9_ordered {X : Cx} {d : Nat} {h : Hp} {a0 : Nat} {a1 : Int32} {v : Int32} {h' : Hp} (hD : 1 ≤ d) (H : f_X9_ordered h a0 a1 = some (v, h')) : PM X mX9_ordered d [.ref a0, .int a1] h (some (.int v)) h' := by
  unfold f_X9_ordered at H
  refine PM.of (loc := [some (.ref a0), some (.int a1)]) (by decide) rfl (Nat.le_of_ble_eq_true rfl) ?_
  refine ev_iload_n dX9_ordered_0 rfl rfl ?_
  refine ev_if_lt (tgt := 27) dX9_ordered_1 (by decide) (fun c1 => ?_) (fun c1 => ?_)
  · rw [if_pos c1] at H
    refine ev_iconst (v := (-1 : Int32)) dX9_ordered_27 (by decide) ?_
    exact ev_iretx dX9_ordered_28 rfl rfl H
  · rw [if_neg c1] at H
    refine ev_iload_n dX9_ordered_4 rfl rfl ?_
    refine ev_aload_n dX9_ordered_5 rfl rfl rfl ?_
    replace H := gd_some H
    obtain ⟨g2, H⟩ := H
    replace H := vl_some H
    obtain ⟨r3, er3, H⟩ := H
    refine ev_getRx dX9_ordered_6 fgX9_55 rfl (okOb.p g2) er3 ?_
    replace H := un_some H
    obtain ⟨b4, eb4, H⟩ := H
    subst eb4
    replace H := gd_some H
    obtain ⟨g5, H⟩ := H
    replace H := vl_some H
    obtain ⟨x6, ex6, H⟩ := H
    refine ev_getIx dX9_ordered_9 fgX9_296 rfl (okOb.p g5) ex6 ?_
    refine ev_icmp_ge (tgt := 27) dX9_ordered_12 (by decide) (fun c7 => ?_) (fun c7 => ?_)
    · rw [if_pos c7] at H
      refine ev_iconst (v := (-1 : Int32)) dX9_ordered_27 (by decide) ?_
      exact ev_iretx dX9_ordered_28 rfl rfl H
    · rw [if_neg c7] at H
      refine ev_aload_n dX9_ordered_15 rfl rfl rfl ?_
      replace H := vl_some H
      obtain ⟨r8, er8, H⟩ := H
      refine ev_getRx dX9_ordered_16 fgX9_55 rfl (okOb.p g2) er8 ?_
      replace H := un_some H
      obtain ⟨b9, eb9, H⟩ := H
      subst eb9
      replace H := gd_some H
      obtain ⟨g10, H⟩ := H
      replace H := vl_some H
      obtain ⟨r11, er11, H⟩ := H
      refine ev_getRx dX9_ordered_19 fgX9_297 rfl (okOb.p g10) er11 ?_
      refine ev_iload_n dX9_ordered_22 rfl rfl ?_
      replace H := un_some H
      obtain ⟨b12, eb12, H⟩ := H
      subst eb12
      replace H := gd_some H
      obtain ⟨g13, H⟩ := H
      replace H := vl_some H
      obtain ⟨x14, ex14, H⟩ := H
      refine ev_ialdx dX9_ordered_23 (okAb.p g13) ex14 ?_
      refine ev_goto (tgt := 28) dX9_ordered_24 (by decide) ?_
      exact ev_iretx dX9_ordered_28 rfl rfl H

theorem dX9_rivals_0 : decode cX9_rivals 0 = .ok (.aload_n 0, 1) := by decide +kernel
theorem dX9_rivals_1 : decode cX9_rivals 1 = .ok (.getfield 55, 3) := by decide +kernel
theorem dX9_rivals_4 : decode cX9_rivals 4 = .ok (.getfield 296, 3) := by decide +kernel
theorem dX9_rivals_7 : decode cX9_rivals 7 = .ok (.ifCond .le 13, 3) := by decide +kernel
theorem dX9_rivals_10 : decode cX9_rivals 10 = .ok (.aload_n 0, 1) := by decide +kernel
theorem dX9_rivals_11 : decode cX9_rivals 11 = .ok (.getfield 55, 3) := by decide +kernel
theorem dX9_rivals_14 : decode cX9_rivals 14 = .ok (.getfield 300, 3) := by decide +kernel
theorem dX9_rivals_17 : decode cX9_rivals 17 = .ok (.goto 5, 3) := by decide +kernel
theorem dX9_rivals_20 : decode cX9_rivals 20 = .ok (.bipush (-3), 2) := by decide +kernel
theorem dX9_rivals_22 : decode cX9_rivals 22 = .ok (.ireturn, 1) := by decide +kernel
def f_X9_rivals (h : Hp) (a0 : Nat) : Option (Int32 × Hp) :=
gd (okOb h a0 9) <|
vl (gR h a0 11) fun r2 =>
un r2 fun b3 =>
gd (okOb h b3 0) <|
vl (gI h b3 6) fun x5 =>
if x5 ≤ 0 then (
some ((-3 : Int32), h)) else (
vl (gR h a0 11) fun r7 =>
un r7 fun b8 =>
gd (okOb h b8 0) <|
vl (gI h b8 7) fun x10 =>
some (x10, h))
set_option maxHeartbeats 4000000 in
set_option maxRecDepth 100000 in
theorem t_X9_rivals {X : Cx} {d : Nat} {h : Hp} {a0 : Nat} {v : Int32} {h' : Hp} (hD : 1 ≤ d) (H : f_X9_rivals h a0 = some (v, h')) : PM X mX9_rivals d [.ref a0] h (some (.int v)) h' := by
  unfold f_X9_rivals at H
  refine PM.of (loc := [some (.ref a0)]) (by decide) rfl (Nat.le_of_ble_eq_true rfl) ?_
  refine ev_aload_n dX9_rivals_0 rfl rfl rfl ?_
  replace H := gd_some H
  obtain ⟨g1, H⟩ := H
  replace H := vl_some H
  obtain ⟨r2, er2, H⟩ := H
  refine ev_getRx dX9_rivals_1 fgX9_55 rfl (okOb.p g1) er2 ?_
  replace H := un_some H
  obtain ⟨b3, eb3, H⟩ := H
  subst eb3
  replace H := gd_some H
  obtain ⟨g4, H⟩ := H
  replace H := vl_some H
  obtain ⟨x5, ex5, H⟩ := H
  refine ev_getIx dX9_rivals_4 fgX9_296 rfl (okOb.p g4) ex5 ?_
  refine ev_if_le (tgt := 20) dX9_rivals_7 (by decide) (fun c6 => ?_) (fun c6 => ?_)
  · rw [if_pos c6] at H
    refine ev_bipush (v := (-3 : Int32)) dX9_rivals_20 (by decide) ?_
    exact ev_iretx dX9_rivals_22 rfl rfl H
  · rw [if_neg c6] at H
    refine ev_aload_n dX9_rivals_10 rfl rfl rfl ?_
    replace H := vl_some H
    obtain ⟨r7, er7, H⟩ := H
    refine ev_getRx dX9_rivals_11 fgX9_55 rfl (okOb.p g1) er7 ?_
    replace H := un_some H
    obtain ⟨b8, eb8, H⟩ := H
    subst eb8
    replace H := gd_some H
    obtain ⟨g9, H⟩ := H
    replace H := vl_some H
    obtain ⟨x10, ex10, H⟩ := H
    refine ev_getIx dX9_rivals_14 fgX9_300 rfl (okOb.p g9) ex10 ?_
    refine ev_goto (tgt := 22) dX9_rivals_17 (by decide) ?_
    exact ev_iretx dX9_rivals_22 rfl rfl H

theorem dX9_law_0 : decode cX9_law 0 = .ok (.aload_n 0, 1) := by decide +kernel
theorem dX9_law_1 : decode cX9_law 1 = .ok (.getfield 62, 3) := by decide +kernel
theorem dX9_law_4 : decode cX9_law 4 = .ok (.aload_n 0, 1) := by decide +kernel
theorem dX9_law_5 : decode cX9_law 5 = .ok (.getfield 10, 3) := by decide +kernel
theorem dX9_law_8 : decode cX9_law 8 = .ok (.invokevirtual 303, 3) := by decide +kernel
theorem dX9_law_11 : decode cX9_law 11 = .ok (.istore_n 1, 1) := by decide +kernel
theorem dX9_law_12 : decode cX9_law 12 = .ok (.aload_n 0, 1) := by decide +kernel
theorem dX9_law_13 : decode cX9_law 13 = .ok (.getfield 10, 3) := by decide +kernel
theorem dX9_law_16 : decode cX9_law 16 = .ok (.iconst 0, 1) := by decide +kernel
theorem dX9_law_17 : decode cX9_law 17 = .ok (.putfield 76, 3) := by decide +kernel
theorem dX9_law_20 : decode cX9_law 20 = .ok (.iload_n 1, 1) := by decide +kernel
theorem dX9_law_21 : decode cX9_law 21 = .ok (.ireturn, 1) := by decide +kernel
def f_X9_law (h : Hp) (a0 : Nat) : Option (Int32 × Hp) :=
gd (okOb h a0 9) <|
vl (gR h a0 12) fun r2 =>
vl (gR h a0 0) fun r3 =>
un r3 fun b4 =>
un r2 fun b5 =>
gd (okOb h b5 5) <|
bnd (f_X5_take h b5 b4) fun v7 h8 =>
vl (gR h8 a0 0) fun r9 =>
un r9 fun b10 =>
gd (okOb h8 b10 8) <|
vl (sI h8 b10 1 (0 : Int32)) fun h12 =>
some (v7, h12)
set_option maxHeartbeats 4000000 in
set_option maxRecDepth 100000 in
theorem t_X9_law {X : Cx} {d : Nat} {h : Hp} {a0 : Nat} {v : Int32} {h' : Hp} (hD : 9 ≤ d) (H : f_X9_law h a0 = some (v, h')) : PM X mX9_law d [.ref a0] h (some (.int v)) h' := by
  unfold f_X9_law at H
  refine PM.of (loc := [some (.ref a0), none]) (by decide) rfl (Nat.le_of_ble_eq_true rfl) ?_
  refine ev_aload_n dX9_law_0 rfl rfl rfl ?_
  replace H := gd_some H
  obtain ⟨g1, H⟩ := H
  replace H := vl_some H
  obtain ⟨r2, er2, H⟩ := H
  refine ev_getRx dX9_law_1 fgX9_62 rfl (okOb.p g1) er2 ?_
  refine ev_aload_n dX9_law_4 rfl rfl rfl ?_
  replace H := vl_some H
  obtain ⟨r3, er3, H⟩ := H
  refine ev_getRx dX9_law_5 fgX9_10 rfl (okOb.p g1) er3 ?_
  replace H := un_some H
  obtain ⟨b4, eb4, H⟩ := H
  subst eb4
  replace H := un_some H
  obtain ⟨b5, eb5, H⟩ := H
  subst eb5
  replace H := gd_some H
  obtain ⟨g6, H⟩ := H
  replace H := bnd_some H
  obtain ⟨v7, h8, eh8, H⟩ := H
  have ph8 := (t_X5_take (X := X) (d := 8) (by omega) eh8)
  refine ev_callV (as := [.ref b4]) dX9_law_8 ph8 ok_X5_take (by omega) rfl k3_225 k3_226 k3_227 (ci := 5) (by decide) rfl rfl (okOb.p g6) rfl (Nat.le_of_ble_eq_true rfl) ?_
  refine ev_istore_n (loc2 := [some (.ref a0), some (.int v7)]) dX9_law_11 rfl (by decide) rfl ?_
  refine ev_aload_n dX9_law_12 rfl rfl rfl ?_
  replace H := vl_some H
  obtain ⟨r9, er9, H⟩ := H
  refine ev_getRx dX9_law_13 fgX9_10 rfl (okO_ext ph8.1 (okOb.p g1)) er9 ?_
  refine ev_iconst (v := (0 : Int32)) dX9_law_16 (by decide) ?_
  replace H := un_some H
  obtain ⟨b10, eb10, H⟩ := H
  subst eb10
  replace H := gd_some H
  obtain ⟨g11, H⟩ := H
  replace H := vl_some H
  obtain ⟨h12, eh12, H⟩ := H
  refine ev_putI dX9_law_17 fdX9_76 rfl rfl rfl (okOb.p g11) eh12 ?_
  refine ev_iload_n dX9_law_20 rfl rfl ?_
  exact ev_iretx dX9_law_21 rfl rfl H

theorem dX9_faultsNow_0 : decode cX9_faultsNow 0 = .ok (.iconst 0, 1) := by decide +kernel
theorem dX9_faultsNow_1 : decode cX9_faultsNow 1 = .ok (.istore_n 2, 1) := by decide +kernel
theorem dX9_faultsNow_2 : decode cX9_faultsNow 2 = .ok (.iconst 0, 1) := by decide +kernel
theorem dX9_faultsNow_3 : decode cX9_faultsNow 3 = .ok (.istore_n 3, 1) := by decide +kernel
theorem dX9_faultsNow_4 : decode cX9_faultsNow 4 = .ok (.iload_n 3, 1) := by decide +kernel
theorem dX9_faultsNow_5 : decode cX9_faultsNow 5 = .ok (.aload_n 0, 1) := by decide +kernel
theorem dX9_faultsNow_6 : decode cX9_faultsNow 6 = .ok (.getfield 88, 3) := by decide +kernel
theorem dX9_faultsNow_9 : decode cX9_faultsNow 9 = .ok (.if_icmp .ge 46, 3) := by decide +kernel
theorem dX9_faultsNow_12 : decode cX9_faultsNow 12 = .ok (.aload_n 0, 1) := by decide +kernel
theorem dX9_faultsNow_13 : decode cX9_faultsNow 13 = .ok (.getfield 25, 3) := by decide +kernel
theorem dX9_faultsNow_16 : decode cX9_faultsNow 16 = .ok (.iload_n 3, 1) := by decide +kernel
theorem dX9_faultsNow_17 : decode cX9_faultsNow 17 = .ok (.aaload, 1) := by decide +kernel
theorem dX9_faultsNow_18 : decode cX9_faultsNow 18 = .ok (.getfield 105, 3) := by decide +kernel
theorem dX9_faultsNow_21 : decode cX9_faultsNow 21 = .ok (.ifCond .eq 28, 3) := by decide +kernel
theorem dX9_faultsNow_24 : decode cX9_faultsNow 24 = .ok (.aload_n 0, 1) := by decide +kernel
theorem dX9_faultsNow_25 : decode cX9_faultsNow 25 = .ok (.getfield 25, 3) := by decide +kernel
theorem dX9_faultsNow_28 : decode cX9_faultsNow 28 = .ok (.iload_n 3, 1) := by decide +kernel
theorem dX9_faultsNow_29 : decode cX9_faultsNow 29 = .ok (.aaload, 1) := by decide +kernel
theorem dX9_faultsNow_30 : decode cX9_faultsNow 30 = .ok (.getfield 358, 3) := by decide +kernel
theorem dX9_faultsNow_33 : decode cX9_faultsNow 33 = .ok (.iload_n 1, 1) := by decide +kernel
theorem dX9_faultsNow_34 : decode cX9_faultsNow 34 = .ok (.if_icmp .ne 15, 3) := by decide +kernel
theorem dX9_faultsNow_37 : decode cX9_faultsNow 37 = .ok (.iload_n 2, 1) := by decide +kernel
theorem dX9_faultsNow_38 : decode cX9_faultsNow 38 = .ok (.aload_n 0, 1) := by decide +kernel
theorem dX9_faultsNow_39 : decode cX9_faultsNow 39 = .ok (.getfield 25, 3) := by decide +kernel
theorem dX9_faultsNow_42 : decode cX9_faultsNow 42 = .ok (.iload_n 3, 1) := by decide +kernel
theorem dX9_faultsNow_43 : decode cX9_faultsNow 43 = .ok (.aaload, 1) := by decide +kernel
theorem dX9_faultsNow_44 : decode cX9_faultsNow 44 = .ok (.invokevirtual 152, 3) := by decide +kernel
theorem dX9_faultsNow_47 : decode cX9_faultsNow 47 = .ok (.iadd, 1) := by decide +kernel
theorem dX9_faultsNow_48 : decode cX9_faultsNow 48 = .ok (.istore_n 2, 1) := by decide +kernel
theorem dX9_faultsNow_49 : decode cX9_faultsNow 49 = .ok (.iinc 3 1, 3) := by decide +kernel
theorem dX9_faultsNow_52 : decode cX9_faultsNow 52 = .ok (.goto (-48), 3) := by decide +kernel
theorem dX9_faultsNow_55 : decode cX9_faultsNow 55 = .ok (.iload_n 2, 1) := by decide +kernel
theorem dX9_faultsNow_56 : decode cX9_faultsNow 56 = .ok (.ireturn, 1) := by decide +kernel
def f_X9_faultsNow_L4 : Nat → Nat → Int32 → Int32 → Int32 → Hp → Option (Int32 × Hp)
  | 0, _, _, _, _, _ => none
  | n + 1, l0, l1, l2, l3, h =>
    gd (okOb h l0 9) <|
    vl (gI h l0 4) fun x2 =>
    if x2 ≤ l3 then (
    some (l2, h)) else (
    vl (gR h l0 3) fun r4 =>
    un r4 fun b5 =>
    gd (okAb h b5 14 l3) <|
    vl (gR h b5 l3.toNatClampNeg) fun r7 =>
    un r7 fun b8 =>
    gd (okOb h b8 6) <|
    vl (gI h b8 5) fun x10 =>
    if x10 = 0 then (
    vl (l3 + (1 : Int32)) fun x12 =>
    f_X9_faultsNow_L4 n l0 l1 l2 x12 h) else (
    vl (gR h l0 3) fun r13 =>
    un r13 fun b14 =>
    gd (okAb h b14 14 l3) <|
    vl (gR h b14 l3.toNatClampNeg) fun r16 =>
    un r16 fun b17 =>
    gd (okOb h b17 6) <|
    vl (gI h b17 6) fun x19 =>
    if x19 = l1 then (
    vl (gR h l0 3) fun r22 =>
    un r22 fun b23 =>
    gd (okAb h b23 14 l3) <|
    vl (gR h b23 l3.toNatClampNeg) fun r25 =>
    un r25 fun b26 =>
    gd (okOb h b26 6) <|
    bnd (f_X6_countFaults h b26) fun v28 h29 =>
    vl (l2 + v28) fun x30 =>
    vl (l3 + (1 : Int32)) fun x31 =>
    f_X9_faultsNow_L4 n l0 l1 x30 x31 h29) else (
    vl (l3 + (1 : Int32)) fun x21 =>
    f_X9_faultsNow_L4 n l0 l1 l2 x21 h)))
set_option maxHeartbeats 4000000 in
set_option maxRecDepth 100000 in
theorem t_X9_faultsNow_L4 {X : Cx} {d : Nat} {h0 h' : Hp} {v : Int32} (hD : 2 ≤ d) : ∀ (n : Nat) (l0 : Nat) (l1 : Int32) (l2 : Int32) (l3 : Int32) (h : Hp), f_X9_faultsNow_L4 n l0 l1 l2 l3 h = some (v, h') → EV X mX9_faultsNow d h0 (some (.int v)) h' 4 [some (.ref l0), some (.int l1), some (.int l2), some (.int l3)] [] h := by
  intro n
  induction n with
  | zero => intro l0 l1 l2 l3 h H; simp [f_X9_faultsNow_L4] at H
  | succ n ih =>
    intro l0 l1 l2 l3 h H
    rw [f_X9_faultsNow_L4] at H
    refine ev_iload_n dX9_faultsNow_4 rfl rfl ?_
    refine ev_aload_n dX9_faultsNow_5 rfl rfl rfl ?_
    replace H := gd_some H
    obtain ⟨g1, H⟩ := H
    replace H := vl_some H
    obtain ⟨x2, ex2, H⟩ := H
    refine ev_getIx dX9_faultsNow_6 fgX9_88 rfl (okOb.p g1) ex2 ?_
    refine ev_icmp_ge (tgt := 55) dX9_faultsNow_9 (by decide) (fun c3 => ?_) (fun c3 => ?_)
    · rw [if_pos c3] at H
      refine ev_iload_n dX9_faultsNow_55 rfl rfl ?_
      exact ev_iretx dX9_faultsNow_56 rfl rfl H
    · rw [if_neg c3] at H
      refine ev_aload_n dX9_faultsNow_12 rfl rfl rfl ?_
      replace H := vl_some H
      obtain ⟨r4, er4, H⟩ := H
      refine ev_getRx dX9_faultsNow_13 fgX9_25 rfl (okOb.p g1) er4 ?_
      refine ev_iload_n dX9_faultsNow_16 rfl rfl ?_
      replace H := un_some H
      obtain ⟨b5, eb5, H⟩ := H
      subst eb5
      replace H := gd_some H
      obtain ⟨g6, H⟩ := H
      replace H := vl_some H
      obtain ⟨r7, er7, H⟩ := H
      refine ev_aaldx (kd := 14) (t0 := 3) dX9_faultsNow_17 (by decide) (fun _ => rfl) (okAb.p g6) er7 ?_
      replace H := un_some H
      obtain ⟨b8, eb8, H⟩ := H
      subst eb8
      replace H := gd_some H
      obtain ⟨g9, H⟩ := H
      replace H := vl_some H
      obtain ⟨x10, ex10, H⟩ := H
      refine ev_getIx dX9_faultsNow_18 fgX9_105 rfl (okOb.p g9) ex10 ?_
      refine ev_if_eq (tgt := 49) dX9_faultsNow_21 (by decide) (fun c11 => ?_) (fun c11 => ?_)
      · rw [if_pos c11] at H
        replace H := vl_some H
        obtain ⟨x12, ex12, H⟩ := H
        refine ev_iincx (loc2 := [some (.ref l0), some (.int l1), some (.int l2), some (.int x12)]) dX9_faultsNow_49 rfl (by decide) ex12 (by decide) rfl ?_
        refine ev_goto (tgt := 4) dX9_faultsNow_52 (by decide) ?_
        exact ih l0 l1 l2 x12 h H
      · rw [if_neg c11] at H
        refine ev_aload_n dX9_faultsNow_24 rfl rfl rfl ?_
        replace H := vl_some H
        obtain ⟨r13, er13, H⟩ := H
        refine ev_getRx dX9_faultsNow_25 fgX9_25 rfl (okOb.p g1) er13 ?_
        refine ev_iload_n dX9_faultsNow_28 rfl rfl ?_
        replace H := un_some H
        obtain ⟨b14, eb14, H⟩ := H
        subst eb14
        replace H := gd_some H
        obtain ⟨g15, H⟩ := H
        replace H := vl_some H
        obtain ⟨r16, er16, H⟩ := H
        refine ev_aaldx (kd := 14) (t0 := 3) dX9_faultsNow_29 (by decide) (fun _ => rfl) (okAb.p g15) er16 ?_
        replace H := un_some H
        obtain ⟨b17, eb17, H⟩ := H
        subst eb17
        replace H := gd_some H
        obtain ⟨g18, H⟩ := H
        replace H := vl_some H
        obtain ⟨x19, ex19, H⟩ := H
        refine ev_getIx dX9_faultsNow_30 fgX9_358 rfl (okOb.p g18) ex19 ?_
        refine ev_iload_n dX9_faultsNow_33 rfl rfl ?_
        refine ev_icmp_ne (tgt := 49) dX9_faultsNow_34 (by decide) (fun c20 => ?_) (fun c20 => ?_)
        · rw [if_neg c20] at H
          replace H := vl_some H
          obtain ⟨x21, ex21, H⟩ := H
          refine ev_iincx (loc2 := [some (.ref l0), some (.int l1), some (.int l2), some (.int x21)]) dX9_faultsNow_49 rfl (by decide) ex21 (by decide) rfl ?_
          refine ev_goto (tgt := 4) dX9_faultsNow_52 (by decide) ?_
          exact ih l0 l1 l2 x21 h H
        · rw [if_pos c20] at H
          refine ev_iload_n dX9_faultsNow_37 rfl rfl ?_
          refine ev_aload_n dX9_faultsNow_38 rfl rfl rfl ?_
          replace H := vl_some H
          obtain ⟨r22, er22, H⟩ := H
          refine ev_getRx dX9_faultsNow_39 fgX9_25 rfl (okOb.p g1) er22 ?_
          refine ev_iload_n dX9_faultsNow_42 rfl rfl ?_
          replace H := un_some H
          obtain ⟨b23, eb23, H⟩ := H
          subst eb23
          replace H := gd_some H
          obtain ⟨g24, H⟩ := H
          replace H := vl_some H
          obtain ⟨r25, er25, H⟩ := H
          refine ev_aaldx (kd := 14) (t0 := 3) dX9_faultsNow_43 (by decide) (fun _ => rfl) (okAb.p g24) er25 ?_
          replace H := un_some H
          obtain ⟨b26, eb26, H⟩ := H
          subst eb26
          replace H := gd_some H
          obtain ⟨g27, H⟩ := H
          replace H := bnd_some H
          obtain ⟨v28, h29, eh29, H⟩ := H
          have ph29 := (t_X6_countFaults (X := X) (d := 1) (by omega) eh29)
          refine ev_callV (as := []) dX9_faultsNow_44 ph29 ok_X6_countFaults (by omega) rfl k2_141 k2_142 k2_143 (ci := 6) (by decide) rfl rfl (okOb.p g27) rfl (Nat.le_of_ble_eq_true rfl) ?_
          refine ev_iadd dX9_faultsNow_47 ?_
          replace H := vl_some H
          obtain ⟨x30, ex30, H⟩ := H
          refine ev_istore_nx (loc2 := [some (.ref l0), some (.int l1), some (.int x30), some (.int l3)]) dX9_faultsNow_48 rfl (by decide) ex30 rfl ?_
          replace H := vl_some H
          obtain ⟨x31, ex31, H⟩ := H
          refine ev_iincx (loc2 := [some (.ref l0), some (.int l1), some (.int x30), some (.int x31)]) dX9_faultsNow_49 rfl (by decide) ex31 (by decide) rfl ?_
          refine ev_goto (tgt := 4) dX9_faultsNow_52 (by decide) ?_
          exact ih l0 l1 x30 x31 h29 H
def f_X9_faultsNow (h : Hp) (a0 : Nat) (a1 : Int32) : Option (Int32 × Hp) :=
f_X9_faultsNow_L4 6000 a0 a1 (0 : Int32) (0 : Int32) h
set_option maxHeartbeats 4000000 in
set_option maxRecDepth 100000 in
theorem t_X9_faultsNow {X : Cx} {d : Nat} {h : Hp} {a0 : Nat} {a1 : Int32} {v : Int32} {h' : Hp} (hD : 2 ≤ d) (H : f_X9_faultsNow h a0 a1 = some (v, h')) : PM X mX9_faultsNow d [.ref a0, .int a1] h (some (.int v)) h' := by
  unfold f_X9_faultsNow at H
  refine PM.of (loc := [some (.ref a0), some (.int a1), none, none]) (by decide) rfl (Nat.le_of_ble_eq_true rfl) ?_
  refine ev_iconst (v := (0 : Int32)) dX9_faultsNow_0 (by decide) ?_
  refine ev_istore_n (loc2 := [some (.ref a0), some (.int a1), some (.int (0 : Int32)), none]) dX9_faultsNow_1 rfl (by decide) rfl ?_
  refine ev_iconst (v := (0 : Int32)) dX9_faultsNow_2 (by decide) ?_
  refine ev_istore_n (loc2 := [some (.ref a0), some (.int a1), some (.int (0 : Int32)), some (.int (0 : Int32))]) dX9_faultsNow_3 rfl (by decide) rfl ?_
  refine t_X9_faultsNow_L4 hD  6000 a0 a1 (0 : Int32) (0 : Int32) h H

theorem dX9_wages_0 : decode cX9_wages 0 = .ok (.iload_n 1, 1) := by decide +kernel
theorem dX9_wages_1 : decode cX9_wages 1 = .ok (.invokestatic 102, 3) := by decide +kernel
theorem dX9_wages_4 : decode cX9_wages 4 = .ok (.ifCond .ne 5, 3) := by decide +kernel
theorem dX9_wages_7 : decode cX9_wages 7 = .ok (.iconst (-1), 1) := by decide +kernel
theorem dX9_wages_8 : decode cX9_wages 8 = .ok (.ireturn, 1) := by decide +kernel
theorem dX9_wages_9 : decode cX9_wages 9 = .ok (.aload_n 0, 1) := by decide +kernel
theorem dX9_wages_10 : decode cX9_wages 10 = .ok (.getfield 62, 3) := by decide +kernel
theorem dX9_wages_13 : decode cX9_wages 13 = .ok (.iconst 0, 1) := by decide +kernel
theorem dX9_wages_14 : decode cX9_wages 14 = .ok (.aload_n 0, 1) := by decide +kernel
theorem dX9_wages_15 : decode cX9_wages 15 = .ok (.getfield 48, 3) := by decide +kernel
theorem dX9_wages_18 : decode cX9_wages 18 = .ok (.getfield 117, 3) := by decide +kernel
theorem dX9_wages_21 : decode cX9_wages 21 = .ok (.iload_n 1, 1) := by decide +kernel
theorem dX9_wages_22 : decode cX9_wages 22 = .ok (.iaload, 1) := by decide +kernel
theorem dX9_wages_23 : decode cX9_wages 23 = .ok (.invokevirtual 307, 3) := by decide +kernel
theorem dX9_wages_26 : decode cX9_wages 26 = .ok (.aload_n 0, 1) := by decide +kernel
theorem dX9_wages_27 : decode cX9_wages 27 = .ok (.getfield 62, 3) := by decide +kernel
theorem dX9_wages_30 : decode cX9_wages 30 = .ok (.iconst 2, 1) := by decide +kernel
theorem dX9_wages_31 : decode cX9_wages 31 = .ok (.aload_n 0, 1) := by decide +kernel
theorem dX9_wages_32 : decode cX9_wages 32 = .ok (.getfield 48, 3) := by decide +kernel
theorem dX9_wages_35 : decode cX9_wages 35 = .ok (.getfield 228, 3) := by decide +kernel
theorem dX9_wages_38 : decode cX9_wages 38 = .ok (.iload_n 1, 1) := by decide +kernel
theorem dX9_wages_39 : decode cX9_wages 39 = .ok (.iaload, 1) := by decide +kernel
theorem dX9_wages_40 : decode cX9_wages 40 = .ok (.invokevirtual 307, 3) := by decide +kernel
theorem dX9_wages_43 : decode cX9_wages 43 = .ok (.ladd, 1) := by decide +kernel
theorem dX9_wages_44 : decode cX9_wages 44 = .ok (.lstore_n 2, 1) := by decide +kernel
theorem dX9_wages_45 : decode cX9_wages 45 = .ok (.aload_n 0, 1) := by decide +kernel
theorem dX9_wages_46 : decode cX9_wages 46 = .ok (.getfield 62, 3) := by decide +kernel
theorem dX9_wages_49 : decode cX9_wages 49 = .ok (.iconst 1, 1) := by decide +kernel
theorem dX9_wages_50 : decode cX9_wages 50 = .ok (.aload_n 0, 1) := by decide +kernel
theorem dX9_wages_51 : decode cX9_wages 51 = .ok (.iload_n 1, 1) := by decide +kernel
theorem dX9_wages_52 : decode cX9_wages 52 = .ok (.invokevirtual 311, 3) := by decide +kernel
theorem dX9_wages_55 : decode cX9_wages 55 = .ok (.invokevirtual 307, 3) := by decide +kernel
theorem dX9_wages_58 : decode cX9_wages 58 = .ok (.aload_n 0, 1) := by decide +kernel
theorem dX9_wages_59 : decode cX9_wages 59 = .ok (.getfield 62, 3) := by decide +kernel
theorem dX9_wages_62 : decode cX9_wages 62 = .ok (.iconst 3, 1) := by decide +kernel
theorem dX9_wages_63 : decode cX9_wages 63 = .ok (.aload_n 0, 1) := by decide +kernel
theorem dX9_wages_64 : decode cX9_wages 64 = .ok (.getfield 48, 3) := by decide +kernel
theorem dX9_wages_67 : decode cX9_wages 67 = .ok (.getfield 266, 3) := by decide +kernel
theorem dX9_wages_70 : decode cX9_wages 70 = .ok (.iload_n 1, 1) := by decide +kernel
theorem dX9_wages_71 : decode cX9_wages 71 = .ok (.iaload, 1) := by decide +kernel
theorem dX9_wages_72 : decode cX9_wages 72 = .ok (.invokevirtual 307, 3) := by decide +kernel
theorem dX9_wages_75 : decode cX9_wages 75 = .ok (.ladd, 1) := by decide +kernel
theorem dX9_wages_76 : decode cX9_wages 76 = .ok (.lstore 4, 2) := by decide +kernel
theorem dX9_wages_78 : decode cX9_wages 78 = .ok (.lconst 0, 1) := by decide +kernel
theorem dX9_wages_79 : decode cX9_wages 79 = .ok (.lload_n 2, 1) := by decide +kernel
theorem dX9_wages_80 : decode cX9_wages 80 = .ok (.lload 4, 2) := by decide +kernel
theorem dX9_wages_82 : decode cX9_wages 82 = .ok (.lsub, 1) := by decide +kernel
theorem dX9_wages_83 : decode cX9_wages 83 = .ok (.invokestatic 314, 3) := by decide +kernel
theorem dX9_wages_86 : decode cX9_wages 86 = .ok (.l2i, 1) := by decide +kernel
theorem dX9_wages_87 : decode cX9_wages 87 = .ok (.ireturn, 1) := by decide +kernel
def f_X9_wages (h : Hp) (a0 : Nat) (a1 : Int32) : Option (Int32 × Hp) :=
bnd (f_X9_isHand h a1) fun v1 h2 =>
if v1 = 0 then (
some ((-1 : Int32), h2)) else (
gd (okOb h2 a0 9) <|
vl (gR h2 a0 12) fun r5 =>
vl (gR h2 a0 10) fun r6 =>
un r6 fun b7 =>
gd (okOb h2 b7 3) <|
vl (gR h2 b7 0) fun r9 =>
un r9 fun b10 =>
gd (okAb h2 b10 11 a1) <|
vl (gI h2 b10 a1.toNatClampNeg) fun x12 =>
un r5 fun b13 =>
gd (okOb h2 b13 5) <|
bnd (f_X5_amount h2 b13 (0 : Int32) x12) fun v15 h16 =>
vl (gR h16 a0 12) fun r17 =>
vl (gR h16 a0 10) fun r18 =>
un r18 fun b19 =>
gd (okOb h16 b19 3) <|
vl (gR h16 b19 1) fun r21 =>
un r21 fun b22 =>
gd (okAb h16 b22 11 a1) <|
vl (gI h16 b22 a1.toNatClampNeg) fun x24 =>
un r17 fun b25 =>
gd (okOb h16 b25 5) <|
bnd (f_X5_amount h16 b25 (2 : Int32) x24) fun v27 h28 =>
vl (v15 + v27) fun x29 =>
vl (gR h28 a0 12) fun r30 =>
bnd (f_X9_faultsNow h28 a0 a1) fun v31 h32 =>
un r30 fun b33 =>
gd (okOb h32 b33 5) <|
bnd (f_X5_amount h32 b33 (1 : Int32) v31) fun v35 h36 =>
vl (gR h36 a0 12) fun r37 =>
vl (gR h36 a0 10) fun r38 =>
un r38 fun b39 =>
gd (okOb h36 b39 3) <|
vl (gR h36 b39 2) fun r41 =>
un r41 fun b42 =>
gd (okAb h36 b42 11 a1) <|
vl (gI h36 b42 a1.toNatClampNeg) fun x44 =>
un r37 fun b45 =>
gd (okOb h36 b45 5) <|
bnd (f_X5_amount h36 b45 (3 : Int32) x44) fun v47 h48 =>
vl (v35 + v47) fun x49 =>
some ((if (x29 - x49) < (0 : Int64) then (0 : Int64) else (x29 - x49)).toInt32, h48))
set_option maxHeartbeats 4000000 in
set_option maxRecDepth 100000 in
theorem t_X9_wages {X : Cx} {d : Nat} {h : Hp} {a0 : Nat} {a1 : Int32} {v : Int32} {h' : Hp} (hD : 3 ≤ d) (H : f_X9_wages h a0 a1 = some (v, h')) : PM X mX9_wages d [.ref a0, .int a1] h (some (.int v)) h' := by
  unfold f_X9_wages at H
  refine PM.of (loc := [some (.ref a0), some (.int a1), none, none, none, none]) (by decide) rfl (Nat.le_of_ble_eq_true rfl) ?_
  refine ev_iload_n dX9_wages_0 rfl rfl ?_
  replace H := bnd_some H
  obtain ⟨v1, h2, eh2, H⟩ := H
  have ph2 := (t_X9_isHand (X := X) (d := 1) (by omega) eh2)
  refine ev_callS (as := [.int a1]) dX9_wages_1 ph2 ok_X9_isHand (by omega) rfl k2_94 k2_95 rfl (Nat.le_of_ble_eq_true rfl) ?_
  refine ev_if_ne (tgt := 9) dX9_wages_4 (by decide) (fun c3 => ?_) (fun c3 => ?_)
  · rw [if_neg c3] at H
    refine ev_aload_n dX9_wages_9 rfl rfl rfl ?_
    replace H := gd_some H
    obtain ⟨g4, H⟩ := H
    replace H := vl_some H
    obtain ⟨r5, er5, H⟩ := H
    refine ev_getRx dX9_wages_10 fgX9_62 rfl (okOb.p g4) er5 ?_
    refine ev_iconst (v := (0 : Int32)) dX9_wages_13 (by decide) ?_
    refine ev_aload_n dX9_wages_14 rfl rfl rfl ?_
    replace H := vl_some H
    obtain ⟨r6, er6, H⟩ := H
    refine ev_getRx dX9_wages_15 fgX9_48 rfl (okOb.p g4) er6 ?_
    replace H := un_some H
    obtain ⟨b7, eb7, H⟩ := H
    subst eb7
    replace H := gd_some H
    obtain ⟨g8, H⟩ := H
    replace H := vl_some H
    obtain ⟨r9, er9, H⟩ := H
    refine ev_getRx dX9_wages_18 fgX9_117 rfl (okOb.p g8) er9 ?_
    refine ev_iload_n dX9_wages_21 rfl rfl ?_
    replace H := un_some H
    obtain ⟨b10, eb10, H⟩ := H
    subst eb10
    replace H := gd_some H
    obtain ⟨g11, H⟩ := H
    replace H := vl_some H
    obtain ⟨x12, ex12, H⟩ := H
    refine ev_ialdx dX9_wages_22 (okAb.p g11) ex12 ?_
    replace H := un_some H
    obtain ⟨b13, eb13, H⟩ := H
    subst eb13
    replace H := gd_some H
    obtain ⟨g14, H⟩ := H
    replace H := bnd_some H
    obtain ⟨v15, h16, eh16, H⟩ := H
    have ph16 := (t_X5_amount (X := X) (d := 1) (by omega) eh16)
    refine ev_callV (as := [.int (0 : Int32), .int x12]) dX9_wages_23 ph16 ok_X5_amount (by omega) rfl k4_78 k4_79 k4_80 (ci := 5) (by decide) rfl rfl (okOb.p g14) rfl (Nat.le_of_ble_eq_true rfl) ?_
    refine ev_aload_n dX9_wages_26 rfl rfl rfl ?_
    replace H := vl_some H
    obtain ⟨r17, er17, H⟩ := H
    refine ev_getRx dX9_wages_27 fgX9_62 rfl (okO_ext ph16.1 (okOb.p g4)) er17 ?_
    refine ev_iconst (v := (2 : Int32)) dX9_wages_30 (by decide) ?_
    refine ev_aload_n dX9_wages_31 rfl rfl rfl ?_
    replace H := vl_some H
    obtain ⟨r18, er18, H⟩ := H
    refine ev_getRx dX9_wages_32 fgX9_48 rfl (okO_ext ph16.1 (okOb.p g4)) er18 ?_
    replace H := un_some H
    obtain ⟨b19, eb19, H⟩ := H
    subst eb19
    replace H := gd_some H
    obtain ⟨g20, H⟩ := H
    replace H := vl_some H
    obtain ⟨r21, er21, H⟩ := H
    refine ev_getRx dX9_wages_35 fgX9_228 rfl (okOb.p g20) er21 ?_
    refine ev_iload_n dX9_wages_38 rfl rfl ?_
    replace H := un_some H
    obtain ⟨b22, eb22, H⟩ := H
    subst eb22
    replace H := gd_some H
    obtain ⟨g23, H⟩ := H
    replace H := vl_some H
    obtain ⟨x24, ex24, H⟩ := H
    refine ev_ialdx dX9_wages_39 (okAb.p g23) ex24 ?_
    replace H := un_some H
    obtain ⟨b25, eb25, H⟩ := H
    subst eb25
    replace H := gd_some H
    obtain ⟨g26, H⟩ := H
    replace H := bnd_some H
    obtain ⟨v27, h28, eh28, H⟩ := H
    have ph28 := (t_X5_amount (X := X) (d := 1) (by omega) eh28)
    refine ev_callV (as := [.int (2 : Int32), .int x24]) dX9_wages_40 ph28 ok_X5_amount (by omega) rfl k4_78 k4_79 k4_80 (ci := 5) (by decide) rfl rfl (okOb.p g26) rfl (Nat.le_of_ble_eq_true rfl) ?_
    refine ev_ladd dX9_wages_43 ?_
    replace H := vl_some H
    obtain ⟨x29, ex29, H⟩ := H
    refine ev_lstore_nx (loc2 := [some (.ref a0), some (.int a1), some (.long x29), none, none, none]) dX9_wages_44 rfl (by decide) ex29 rfl ?_
    refine ev_aload_n dX9_wages_45 rfl rfl rfl ?_
    replace H := vl_some H
    obtain ⟨r30, er30, H⟩ := H
    refine ev_getRx dX9_wages_46 fgX9_62 rfl (okO_ext ph28.1 (okO_ext ph16.1 (okOb.p g4))) er30 ?_
    refine ev_iconst (v := (1 : Int32)) dX9_wages_49 (by decide) ?_
    refine ev_aload_n dX9_wages_50 rfl rfl rfl ?_
    refine ev_iload_n dX9_wages_51 rfl rfl ?_
    replace H := bnd_some H
    obtain ⟨v31, h32, eh32, H⟩ := H
    have ph32 := (t_X9_faultsNow (X := X) (d := 2) (by omega) eh32)
    refine ev_callV (as := [.int a1]) dX9_wages_52 ph32 ok_X9_faultsNow (by omega) rfl k4_82 k4_84 ks_20 (ci := 9) (by decide) rfl rfl (okO_ext ph28.1 (okO_ext ph16.1 (okOb.p g4))) rfl (by simp only [List.map_cons, List.map_nil, rv_cat]; exact Nat.le_of_ble_eq_true rfl) ?_
    replace H := un_some H
    obtain ⟨b33, eb33, H⟩ := H
    subst eb33
    replace H := gd_some H
    obtain ⟨g34, H⟩ := H
    replace H := bnd_some H
    obtain ⟨v35, h36, eh36, H⟩ := H
    have ph36 := (t_X5_amount (X := X) (d := 1) (by omega) eh36)
    refine ev_callV (as := [.int (1 : Int32), .int v31]) dX9_wages_55 ph36 ok_X5_amount (by omega) rfl k4_78 k4_79 k4_80 (ci := 5) (by decide) rfl rfl (okOb.p g34) rfl (Nat.le_of_ble_eq_true rfl) ?_
    refine ev_aload_n dX9_wages_58 rfl rfl rfl ?_
    replace H := vl_some H
    obtain ⟨r37, er37, H⟩ := H
    refine ev_getRx dX9_wages_59 fgX9_62 rfl (okO_ext ph36.1 (okO_ext ph32.1 (okO_ext ph28.1 (okO_ext ph16.1 (okOb.p g4))))) er37 ?_
    refine ev_iconst (v := (3 : Int32)) dX9_wages_62 (by decide) ?_
    refine ev_aload_n dX9_wages_63 rfl rfl rfl ?_
    replace H := vl_some H
    obtain ⟨r38, er38, H⟩ := H
    refine ev_getRx dX9_wages_64 fgX9_48 rfl (okO_ext ph36.1 (okO_ext ph32.1 (okO_ext ph28.1 (okO_ext ph16.1 (okOb.p g4))))) er38 ?_
    replace H := un_some H
    obtain ⟨b39, eb39, H⟩ := H
    subst eb39
    replace H := gd_some H
    obtain ⟨g40, H⟩ := H
    replace H := vl_some H
    obtain ⟨r41, er41, H⟩ := H
    refine ev_getRx dX9_wages_67 fgX9_266 rfl (okOb.p g40) er41 ?_
    refine ev_iload_n dX9_wages_70 rfl rfl ?_
    replace H := un_some H
    obtain ⟨b42, eb42, H⟩ := H
    subst eb42
    replace H := gd_some H
    obtain ⟨g43, H⟩ := H
    replace H := vl_some H
    obtain ⟨x44, ex44, H⟩ := H
    refine ev_ialdx dX9_wages_71 (okAb.p g43) ex44 ?_
    replace H := un_some H
    obtain ⟨b45, eb45, H⟩ := H
    subst eb45
    replace H := gd_some H
    obtain ⟨g46, H⟩ := H
    replace H := bnd_some H
    obtain ⟨v47, h48, eh48, H⟩ := H
    have ph48 := (t_X5_amount (X := X) (d := 1) (by omega) eh48)
    refine ev_callV (as := [.int (3 : Int32), .int x44]) dX9_wages_72 ph48 ok_X5_amount (by omega) rfl k4_78 k4_79 k4_80 (ci := 5) (by decide) rfl rfl (okOb.p g46) rfl (Nat.le_of_ble_eq_true rfl) ?_
    refine ev_ladd dX9_wages_75 ?_
    replace H := vl_some H
    obtain ⟨x49, ex49, H⟩ := H
    refine ev_lstorex (loc2 := [some (.ref a0), some (.int a1), some (.long x29), none, some (.long x49), none]) dX9_wages_76 (by decide) ex49 rfl ?_
    refine ev_lconst (v := (0 : Int64)) dX9_wages_78 (by decide) ?_
    refine ev_lload_n dX9_wages_79 rfl rfl ?_
    refine ev_lload dX9_wages_80 rfl ?_
    refine ev_lsub dX9_wages_82 ?_
    refine ev_mmaxL dX9_wages_83 k4_86 k4_87 k1_10 k4_88 (by omega) (Nat.le_of_ble_eq_true rfl) ?_
    refine ev_l2i dX9_wages_86 rfl ?_
    exact ev_iretx dX9_wages_87 rfl rfl H
  · rw [if_pos c3] at H
    refine ev_iconst (v := (-1 : Int32)) dX9_wages_7 (by decide) ?_
    exact ev_iretx dX9_wages_8 rfl rfl H

theorem dX9_did_0 : decode cX9_did 0 = .ok (.iload_n 1, 1) := by decide +kernel
theorem dX9_did_1 : decode cX9_did 1 = .ok (.invokestatic 102, 3) := by decide +kernel
theorem dX9_did_4 : decode cX9_did 4 = .ok (.ifCond .ne 5, 3) := by decide +kernel
theorem dX9_did_7 : decode cX9_did 7 = .ok (.iconst (-1), 1) := by decide +kernel
theorem dX9_did_8 : decode cX9_did 8 = .ok (.ireturn, 1) := by decide +kernel
theorem dX9_did_9 : decode cX9_did 9 = .ok (.iload_n 2, 1) := by decide +kernel
theorem dX9_did_10 : decode cX9_did 10 = .ok (.tableswitch 66 0 3 #[30, 40, 50, 60], 30) := by decide +kernel
theorem dX9_did_40 : decode cX9_did 40 = .ok (.aload_n 0, 1) := by decide +kernel
theorem dX9_did_41 : decode cX9_did 41 = .ok (.getfield 48, 3) := by decide +kernel
theorem dX9_did_44 : decode cX9_did 44 = .ok (.getfield 117, 3) := by decide +kernel
theorem dX9_did_47 : decode cX9_did 47 = .ok (.iload_n 1, 1) := by decide +kernel
theorem dX9_did_48 : decode cX9_did 48 = .ok (.iaload, 1) := by decide +kernel
theorem dX9_did_49 : decode cX9_did 49 = .ok (.ireturn, 1) := by decide +kernel
theorem dX9_did_50 : decode cX9_did 50 = .ok (.aload_n 0, 1) := by decide +kernel
theorem dX9_did_51 : decode cX9_did 51 = .ok (.getfield 48, 3) := by decide +kernel
theorem dX9_did_54 : decode cX9_did 54 = .ok (.getfield 228, 3) := by decide +kernel
theorem dX9_did_57 : decode cX9_did 57 = .ok (.iload_n 1, 1) := by decide +kernel
theorem dX9_did_58 : decode cX9_did 58 = .ok (.iaload, 1) := by decide +kernel
theorem dX9_did_59 : decode cX9_did 59 = .ok (.ireturn, 1) := by decide +kernel
theorem dX9_did_60 : decode cX9_did 60 = .ok (.aload_n 0, 1) := by decide +kernel
theorem dX9_did_61 : decode cX9_did 61 = .ok (.getfield 48, 3) := by decide +kernel
theorem dX9_did_64 : decode cX9_did 64 = .ok (.getfield 266, 3) := by decide +kernel
theorem dX9_did_67 : decode cX9_did 67 = .ok (.iload_n 1, 1) := by decide +kernel
theorem dX9_did_68 : decode cX9_did 68 = .ok (.iaload, 1) := by decide +kernel
theorem dX9_did_69 : decode cX9_did 69 = .ok (.ireturn, 1) := by decide +kernel
theorem dX9_did_70 : decode cX9_did 70 = .ok (.aload_n 0, 1) := by decide +kernel
theorem dX9_did_71 : decode cX9_did 71 = .ok (.iload_n 1, 1) := by decide +kernel
theorem dX9_did_72 : decode cX9_did 72 = .ok (.invokevirtual 311, 3) := by decide +kernel
theorem dX9_did_75 : decode cX9_did 75 = .ok (.ireturn, 1) := by decide +kernel
theorem dX9_did_76 : decode cX9_did 76 = .ok (.iconst (-1), 1) := by decide +kernel
theorem dX9_did_77 : decode cX9_did 77 = .ok (.ireturn, 1) := by decide +kernel
def f_X9_did (h : Hp) (a0 : Nat) (a1 : Int32) (a2 : Int32) : Option (Int32 × Hp) :=
bnd (f_X9_isHand h a1) fun v1 h2 =>
if v1 = 0 then (
some ((-1 : Int32), h2)) else (
if a2 = (0 : Int32) then (
gd (okOb h2 a0 9) <|
vl (gR h2 a0 10) fun r6 =>
un r6 fun b7 =>
gd (okOb h2 b7 3) <|
vl (gR h2 b7 0) fun r9 =>
un r9 fun b10 =>
gd (okAb h2 b10 11 a1) <|
vl (gI h2 b10 a1.toNatClampNeg) fun x12 =>
some (x12, h2)) else if a2 = (1 : Int32) then (
gd (okOb h2 a0 9) <|
vl (gR h2 a0 10) fun r15 =>
un r15 fun b16 =>
gd (okOb h2 b16 3) <|
vl (gR h2 b16 1) fun r18 =>
un r18 fun b19 =>
gd (okAb h2 b19 11 a1) <|
vl (gI h2 b19 a1.toNatClampNeg) fun x21 =>
some (x21, h2)) else if a2 = (2 : Int32) then (
gd (okOb h2 a0 9) <|
vl (gR h2 a0 10) fun r24 =>
un r24 fun b25 =>
gd (okOb h2 b25 3) <|
vl (gR h2 b25 2) fun r27 =>
un r27 fun b28 =>
gd (okAb h2 b28 11 a1) <|
vl (gI h2 b28 a1.toNatClampNeg) fun x30 =>
some (x30, h2)) else if a2 = (3 : Int32) then (
gd (okOb h2 a0 9) <|
bnd (f_X9_faultsNow h2 a0 a1) fun v33 h34 =>
some (v33, h34)) else (
some ((-1 : Int32), h2)))
set_option maxHeartbeats 4000000 in
set_option maxRecDepth 100000 in
theorem t_X9_did {X : Cx} {d : Nat} {h : Hp} {a0 : Nat} {a1 : Int32} {a2 : Int32} {v : Int32} {h' : Hp} (hD : 3 ≤ d) (H : f_X9_did h a0 a1 a2 = some (v, h')) : PM X mX9_did d [.ref a0, .int a1, .int a2] h (some (.int v)) h' := by
  unfold f_X9_did at H
  refine PM.of (loc := [some (.ref a0), some (.int a1), some (.int a2)]) (by decide) rfl (Nat.le_of_ble_eq_true rfl) ?_
  refine ev_iload_n dX9_did_0 rfl rfl ?_
  replace H := bnd_some H
  obtain ⟨v1, h2, eh2, H⟩ := H
  have ph2 := (t_X9_isHand (X := X) (d := 1) (by omega) eh2)
  refine ev_callS (as := [.int a1]) dX9_did_1 ph2 ok_X9_isHand (by omega) rfl k2_94 k2_95 rfl (Nat.le_of_ble_eq_true rfl) ?_
  refine ev_if_ne (tgt := 9) dX9_did_4 (by decide) (fun c3 => ?_) (fun c3 => ?_)
  · rw [if_neg c3] at H
    refine ev_iload_n dX9_did_9 rfl rfl ?_
    by_cases c4 : a2 = (0 : Int32)
    · rw [if_pos c4] at H
      refine ev_tsIn (tgt := 40) dX9_did_10 (by rw [c4]; decide) (by rw [c4]; decide) (by rw [c4]; rfl) (by decide) ?_
      refine ev_aload_n dX9_did_40 rfl rfl rfl ?_
      replace H := gd_some H
      obtain ⟨g5, H⟩ := H
      replace H := vl_some H
      obtain ⟨r6, er6, H⟩ := H
      refine ev_getRx dX9_did_41 fgX9_48 rfl (okOb.p g5) er6 ?_
      replace H := un_some H
      obtain ⟨b7, eb7, H⟩ := H
      subst eb7
      replace H := gd_some H
      obtain ⟨g8, H⟩ := H
      replace H := vl_some H
      obtain ⟨r9, er9, H⟩ := H
      refine ev_getRx dX9_did_44 fgX9_117 rfl (okOb.p g8) er9 ?_
      refine ev_iload_n dX9_did_47 rfl rfl ?_
      replace H := un_some H
      obtain ⟨b10, eb10, H⟩ := H
      subst eb10
      replace H := gd_some H
      obtain ⟨g11, H⟩ := H
      replace H := vl_some H
      obtain ⟨x12, ex12, H⟩ := H
      refine ev_ialdx dX9_did_48 (okAb.p g11) ex12 ?_
      exact ev_iretx dX9_did_49 rfl rfl H
    rw [if_neg c4] at H
    by_cases c13 : a2 = (1 : Int32)
    · rw [if_pos c13] at H
      refine ev_tsIn (tgt := 50) dX9_did_10 (by rw [c13]; decide) (by rw [c13]; decide) (by rw [c13]; rfl) (by decide) ?_
      refine ev_aload_n dX9_did_50 rfl rfl rfl ?_
      replace H := gd_some H
      obtain ⟨g14, H⟩ := H
      replace H := vl_some H
      obtain ⟨r15, er15, H⟩ := H
      refine ev_getRx dX9_did_51 fgX9_48 rfl (okOb.p g14) er15 ?_
      replace H := un_some H
      obtain ⟨b16, eb16, H⟩ := H
      subst eb16
      replace H := gd_some H
      obtain ⟨g17, H⟩ := H
      replace H := vl_some H
      obtain ⟨r18, er18, H⟩ := H
      refine ev_getRx dX9_did_54 fgX9_228 rfl (okOb.p g17) er18 ?_
      refine ev_iload_n dX9_did_57 rfl rfl ?_
      replace H := un_some H
      obtain ⟨b19, eb19, H⟩ := H
      subst eb19
      replace H := gd_some H
      obtain ⟨g20, H⟩ := H
      replace H := vl_some H
      obtain ⟨x21, ex21, H⟩ := H
      refine ev_ialdx dX9_did_58 (okAb.p g20) ex21 ?_
      exact ev_iretx dX9_did_59 rfl rfl H
    rw [if_neg c13] at H
    by_cases c22 : a2 = (2 : Int32)
    · rw [if_pos c22] at H
      refine ev_tsIn (tgt := 60) dX9_did_10 (by rw [c22]; decide) (by rw [c22]; decide) (by rw [c22]; rfl) (by decide) ?_
      refine ev_aload_n dX9_did_60 rfl rfl rfl ?_
      replace H := gd_some H
      obtain ⟨g23, H⟩ := H
      replace H := vl_some H
      obtain ⟨r24, er24, H⟩ := H
      refine ev_getRx dX9_did_61 fgX9_48 rfl (okOb.p g23) er24 ?_
      replace H := un_some H
      obtain ⟨b25, eb25, H⟩ := H
      subst eb25
      replace H := gd_some H
      obtain ⟨g26, H⟩ := H
      replace H := vl_some H
      obtain ⟨r27, er27, H⟩ := H
      refine ev_getRx dX9_did_64 fgX9_266 rfl (okOb.p g26) er27 ?_
      refine ev_iload_n dX9_did_67 rfl rfl ?_
      replace H := un_some H
      obtain ⟨b28, eb28, H⟩ := H
      subst eb28
      replace H := gd_some H
      obtain ⟨g29, H⟩ := H
      replace H := vl_some H
      obtain ⟨x30, ex30, H⟩ := H
      refine ev_ialdx dX9_did_68 (okAb.p g29) ex30 ?_
      exact ev_iretx dX9_did_69 rfl rfl H
    rw [if_neg c22] at H
    by_cases c31 : a2 = (3 : Int32)
    · rw [if_pos c31] at H
      refine ev_tsIn (tgt := 70) dX9_did_10 (by rw [c31]; decide) (by rw [c31]; decide) (by rw [c31]; rfl) (by decide) ?_
      refine ev_aload_n dX9_did_70 rfl rfl rfl ?_
      refine ev_iload_n dX9_did_71 rfl rfl ?_
      replace H := gd_some H
      obtain ⟨g32, H⟩ := H
      replace H := bnd_some H
      obtain ⟨v33, h34, eh34, H⟩ := H
      have ph34 := (t_X9_faultsNow (X := X) (d := 2) (by omega) eh34)
      refine ev_callV (as := [.int a1]) dX9_did_72 ph34 ok_X9_faultsNow (by omega) rfl k4_82 k4_84 ks_20 (ci := 9) (by decide) rfl rfl (okOb.p g32) rfl (Nat.le_of_ble_eq_true rfl) ?_
      exact ev_iretx dX9_did_75 rfl rfl H
    rw [if_neg c31] at H
    refine ev_tsOut (tgt := 76) dX9_did_10 (ts_out (n := 4) (by decide) (by decide) (fun j hj => ?_)) (by decide) ?_
    · match j, hj with
      | 0, _ => exact fun q => c4 (by rw [q]; decide)
      | 1, _ => exact fun q => c13 (by rw [q]; decide)
      | 2, _ => exact fun q => c22 (by rw [q]; decide)
      | 3, _ => exact fun q => c31 (by rw [q]; decide)
    refine ev_iconst (v := (-1 : Int32)) dX9_did_76 (by decide) ?_
    exact ev_iretx dX9_did_77 rfl rfl H
  · rw [if_pos c3] at H
    refine ev_iconst (v := (-1 : Int32)) dX9_did_7 (by decide) ?_
    exact ev_iretx dX9_did_8 rfl rfl H

theorem dX9_job_0 : decode cX9_job 0 = .ok (.iload_n 1, 1) := by decide +kernel
theorem dX9_job_1 : decode cX9_job 1 = .ok (.ifCond .lt 30, 3) := by decide +kernel
theorem dX9_job_4 : decode cX9_job 4 = .ok (.iload_n 1, 1) := by decide +kernel
theorem dX9_job_5 : decode cX9_job 5 = .ok (.bipush 50, 2) := by decide +kernel
theorem dX9_job_7 : decode cX9_job 7 = .ok (.if_icmp .gt 24, 3) := by decide +kernel
theorem dX9_job_10 : decode cX9_job 10 = .ok (.iload_n 2, 1) := by decide +kernel
theorem dX9_job_11 : decode cX9_job 11 = .ok (.ifCond .lt 20, 3) := by decide +kernel
theorem dX9_job_14 : decode cX9_job 14 = .ok (.iload_n 2, 1) := by decide +kernel
theorem dX9_job_15 : decode cX9_job 15 = .ok (.bipush 50, 2) := by decide +kernel
theorem dX9_job_17 : decode cX9_job 17 = .ok (.if_icmp .gt 14, 3) := by decide +kernel
theorem dX9_job_20 : decode cX9_job 20 = .ok (.iload_n 3, 1) := by decide +kernel
theorem dX9_job_21 : decode cX9_job 21 = .ok (.ifCond .lt 10, 3) := by decide +kernel
theorem dX9_job_24 : decode cX9_job 24 = .ok (.iload_n 3, 1) := by decide +kernel
theorem dX9_job_25 : decode cX9_job 25 = .ok (.sipush 500, 3) := by decide +kernel
theorem dX9_job_28 : decode cX9_job 28 = .ok (.if_icmp .le 6, 3) := by decide +kernel
theorem dX9_job_31 : decode cX9_job 31 = .ok (.bipush (-2), 2) := by decide +kernel
theorem dX9_job_33 : decode cX9_job 33 = .ok (.ireturn, 1) := by decide +kernel
theorem dX9_job_34 : decode cX9_job 34 = .ok (.aload_n 0, 1) := by decide +kernel
theorem dX9_job_35 : decode cX9_job 35 = .ok (.getfield 69, 3) := by decide +kernel
theorem dX9_job_38 : decode cX9_job 38 = .ok (.getfield 318, 3) := by decide +kernel
theorem dX9_job_41 : decode cX9_job 41 = .ok (.bipush 7, 2) := by decide +kernel
theorem dX9_job_43 : decode cX9_job 43 = .ok (.if_icmp .lt 6, 3) := by decide +kernel
theorem dX9_job_46 : decode cX9_job 46 = .ok (.bipush (-4), 2) := by decide +kernel
theorem dX9_job_48 : decode cX9_job 48 = .ok (.ireturn, 1) := by decide +kernel
theorem dX9_job_49 : decode cX9_job 49 = .ok (.aload_n 0, 1) := by decide +kernel
theorem dX9_job_50 : decode cX9_job 50 = .ok (.getfield 69, 3) := by decide +kernel
theorem dX9_job_53 : decode cX9_job 53 = .ok (.iload_n 1, 1) := by decide +kernel
theorem dX9_job_54 : decode cX9_job 54 = .ok (.iload_n 2, 1) := by decide +kernel
theorem dX9_job_55 : decode cX9_job 55 = .ok (.iload_n 3, 1) := by decide +kernel
theorem dX9_job_56 : decode cX9_job 56 = .ok (.invokevirtual 319, 3) := by decide +kernel
theorem dX9_job_59 : decode cX9_job 59 = .ok (.aload_n 0, 1) := by decide +kernel
theorem dX9_job_60 : decode cX9_job 60 = .ok (.getfield 69, 3) := by decide +kernel
theorem dX9_job_63 : decode cX9_job 63 = .ok (.getfield 318, 3) := by decide +kernel
theorem dX9_job_66 : decode cX9_job 66 = .ok (.iconst 1, 1) := by decide +kernel
theorem dX9_job_67 : decode cX9_job 67 = .ok (.isub, 1) := by decide +kernel
theorem dX9_job_68 : decode cX9_job 68 = .ok (.ireturn, 1) := by decide +kernel
def f_X9_job (h : Hp) (a0 : Nat) (a1 : Int32) (a2 : Int32) (a3 : Int32) : Option (Int32 × Hp) :=
if a1 < 0 then (
some ((-2 : Int32), h)) else (
if (50 : Int32) < a1 then (
some ((-2 : Int32), h)) else (
if a2 < 0 then (
some ((-2 : Int32), h)) else (
if (50 : Int32) < a2 then (
some ((-2 : Int32), h)) else (
if a3 < 0 then (
some ((-2 : Int32), h)) else (
if a3 ≤ (500 : Int32) then (
gd (okOb h a0 9) <|
vl (gR h a0 13) fun r8 =>
un r8 fun b9 =>
gd (okOb h b9 4) <|
vl (gI h b9 3) fun x11 =>
if x11 < (7 : Int32) then (
vl (gR h a0 13) fun r13 =>
un r13 fun b14 =>
gd (okOb h b14 4) <|
bnd (f_X4_append h b14 a1 a2 a3) fun u16 h17 =>
vl (gR h17 a0 13) fun r18 =>
un r18 fun b19 =>
gd (okOb h17 b19 4) <|
vl (gI h17 b19 3) fun x21 =>
some (x21 - (1 : Int32), h17)) else (
some ((-4 : Int32), h))) else (
some ((-2 : Int32), h)))))))
set_option maxHeartbeats 4000000 in
set_option maxRecDepth 100000 in
theorem t_X9_job {X : Cx} {d : Nat} {h : Hp} {a0 : Nat} {a1 : Int32} {a2 : Int32} {a3 : Int32} {v : Int32} {h' : Hp} (hD : 2 ≤ d) (H : f_X9_job h a0 a1 a2 a3 = some (v, h')) : PM X mX9_job d [.ref a0, .int a1, .int a2, .int a3] h (some (.int v)) h' := by
  unfold f_X9_job at H
  refine PM.of (loc := [some (.ref a0), some (.int a1), some (.int a2), some (.int a3)]) (by decide) rfl (Nat.le_of_ble_eq_true rfl) ?_
  refine ev_iload_n dX9_job_0 rfl rfl ?_
  refine ev_if_lt (tgt := 31) dX9_job_1 (by decide) (fun c1 => ?_) (fun c1 => ?_)
  · rw [if_pos c1] at H
    refine ev_bipush (v := (-2 : Int32)) dX9_job_31 (by decide) ?_
    exact ev_iretx dX9_job_33 rfl rfl H
  · rw [if_neg c1] at H
    refine ev_iload_n dX9_job_4 rfl rfl ?_
    refine ev_bipush (v := (50 : Int32)) dX9_job_5 (by decide) ?_
    refine ev_icmp_gt (tgt := 31) dX9_job_7 (by decide) (fun c2 => ?_) (fun c2 => ?_)
    · rw [if_pos c2] at H
      refine ev_bipush (v := (-2 : Int32)) dX9_job_31 (by decide) ?_
      exact ev_iretx dX9_job_33 rfl rfl H
    · rw [if_neg c2] at H
      refine ev_iload_n dX9_job_10 rfl rfl ?_
      refine ev_if_lt (tgt := 31) dX9_job_11 (by decide) (fun c3 => ?_) (fun c3 => ?_)
      · rw [if_pos c3] at H
        refine ev_bipush (v := (-2 : Int32)) dX9_job_31 (by decide) ?_
        exact ev_iretx dX9_job_33 rfl rfl H
      · rw [if_neg c3] at H
        refine ev_iload_n dX9_job_14 rfl rfl ?_
        refine ev_bipush (v := (50 : Int32)) dX9_job_15 (by decide) ?_
        refine ev_icmp_gt (tgt := 31) dX9_job_17 (by decide) (fun c4 => ?_) (fun c4 => ?_)
        · rw [if_pos c4] at H
          refine ev_bipush (v := (-2 : Int32)) dX9_job_31 (by decide) ?_
          exact ev_iretx dX9_job_33 rfl rfl H
        · rw [if_neg c4] at H
          refine ev_iload_n dX9_job_20 rfl rfl ?_
          refine ev_if_lt (tgt := 31) dX9_job_21 (by decide) (fun c5 => ?_) (fun c5 => ?_)
          · rw [if_pos c5] at H
            refine ev_bipush (v := (-2 : Int32)) dX9_job_31 (by decide) ?_
            exact ev_iretx dX9_job_33 rfl rfl H
          · rw [if_neg c5] at H
            refine ev_iload_n dX9_job_24 rfl rfl ?_
            refine ev_sipush (v := (500 : Int32)) dX9_job_25 (by decide) ?_
            refine ev_icmp_le (tgt := 34) dX9_job_28 (by decide) (fun c6 => ?_) (fun c6 => ?_)
            · rw [if_pos c6] at H
              refine ev_aload_n dX9_job_34 rfl rfl rfl ?_
              replace H := gd_some H
              obtain ⟨g7, H⟩ := H
              replace H := vl_some H
              obtain ⟨r8, er8, H⟩ := H
              refine ev_getRx dX9_job_35 fgX9_69 rfl (okOb.p g7) er8 ?_
              replace H := un_some H
              obtain ⟨b9, eb9, H⟩ := H
              subst eb9
              replace H := gd_some H
              obtain ⟨g10, H⟩ := H
              replace H := vl_some H
              obtain ⟨x11, ex11, H⟩ := H
              refine ev_getIx dX9_job_38 fgX9_318 rfl (okOb.p g10) ex11 ?_
              refine ev_bipush (v := (7 : Int32)) dX9_job_41 (by decide) ?_
              refine ev_icmp_lt (tgt := 49) dX9_job_43 (by decide) (fun c12 => ?_) (fun c12 => ?_)
              · rw [if_pos c12] at H
                refine ev_aload_n dX9_job_49 rfl rfl rfl ?_
                replace H := vl_some H
                obtain ⟨r13, er13, H⟩ := H
                refine ev_getRx dX9_job_50 fgX9_69 rfl (okOb.p g7) er13 ?_
                refine ev_iload_n dX9_job_53 rfl rfl ?_
                refine ev_iload_n dX9_job_54 rfl rfl ?_
                refine ev_iload_n dX9_job_55 rfl rfl ?_
                replace H := un_some H
                obtain ⟨b14, eb14, H⟩ := H
                subst eb14
                replace H := gd_some H
                obtain ⟨g15, H⟩ := H
                replace H := bnd_some H
                obtain ⟨u16, h17, eh17, H⟩ := H
                have ph17 := (t_X4_append (X := X) (d := 1) (by omega) eh17)
                refine ev_callV (as := [.int a1, .int a2, .int a3]) dX9_job_56 ph17 ok_X4_append (by omega) rfl k4_97 k4_98 k4_99 (ci := 4) (by decide) rfl rfl (okOb.p g15) rfl (Nat.le_of_ble_eq_true rfl) ?_
                refine ev_aload_n dX9_job_59 rfl rfl rfl ?_
                replace H := vl_some H
                obtain ⟨r18, er18, H⟩ := H
                refine ev_getRx dX9_job_60 fgX9_69 rfl (okO_ext ph17.1 (okOb.p g7)) er18 ?_
                replace H := un_some H
                obtain ⟨b19, eb19, H⟩ := H
                subst eb19
                replace H := gd_some H
                obtain ⟨g20, H⟩ := H
                replace H := vl_some H
                obtain ⟨x21, ex21, H⟩ := H
                refine ev_getIx dX9_job_63 fgX9_318 rfl (okOb.p g20) ex21 ?_
                refine ev_iconst (v := (1 : Int32)) dX9_job_66 (by decide) ?_
                refine ev_isub dX9_job_67 ?_
                exact ev_iretx dX9_job_68 rfl rfl H
              · rw [if_neg c12] at H
                refine ev_bipush (v := (-4 : Int32)) dX9_job_46 (by decide) ?_
                exact ev_iretx dX9_job_48 rfl rfl H
            · rw [if_neg c6] at H
              refine ev_bipush (v := (-2 : Int32)) dX9_job_31 (by decide) ?_
              exact ev_iretx dX9_job_33 rfl rfl H

theorem dX9_plan_0 : decode cX9_plan 0 = .ok (.aload_n 0, 1) := by decide +kernel
theorem dX9_plan_1 : decode cX9_plan 1 = .ok (.getfield 69, 3) := by decide +kernel
theorem dX9_plan_4 : decode cX9_plan 4 = .ok (.invokevirtual 321, 3) := by decide +kernel
theorem dX9_plan_7 : decode cX9_plan 7 = .ok (.ireturn, 1) := by decide +kernel
def f_X9_plan (h : Hp) (a0 : Nat) : Option (Int32 × Hp) :=
gd (okOb h a0 9) <|
vl (gR h a0 13) fun r2 =>
un r2 fun b3 =>
gd (okOb h b3 4) <|
bnd (f_X4_findPlan h b3) fun v5 h6 =>
some (v5, h6)
set_option maxHeartbeats 4000000 in
set_option maxRecDepth 100000 in
theorem t_X9_plan {X : Cx} {d : Nat} {h : Hp} {a0 : Nat} {v : Int32} {h' : Hp} (hD : 12 ≤ d) (H : f_X9_plan h a0 = some (v, h')) : PM X mX9_plan d [.ref a0] h (some (.int v)) h' := by
  unfold f_X9_plan at H
  refine PM.of (loc := [some (.ref a0)]) (by decide) rfl (Nat.le_of_ble_eq_true rfl) ?_
  refine ev_aload_n dX9_plan_0 rfl rfl rfl ?_
  replace H := gd_some H
  obtain ⟨g1, H⟩ := H
  replace H := vl_some H
  obtain ⟨r2, er2, H⟩ := H
  refine ev_getRx dX9_plan_1 fgX9_69 rfl (okOb.p g1) er2 ?_
  replace H := un_some H
  obtain ⟨b3, eb3, H⟩ := H
  subst eb3
  replace H := gd_some H
  obtain ⟨g4, H⟩ := H
  replace H := bnd_some H
  obtain ⟨v5, h6, eh6, H⟩ := H
  have ph6 := (t_X4_findPlan (X := X) (d := 11) (by omega) eh6)
  refine ev_callV (as := []) dX9_plan_4 ph6 ok_X4_findPlan (by omega) rfl k4_105 k4_106 k4_107 (ci := 4) (by decide) rfl rfl (okOb.p g4) rfl (Nat.le_of_ble_eq_true rfl) ?_
  exact ev_iretx dX9_plan_7 rfl rfl H

theorem dX9_planned_0 : decode cX9_planned 0 = .ok (.iload_n 1, 1) := by decide +kernel
theorem dX9_planned_1 : decode cX9_planned 1 = .ok (.ifCond .lt 23, 3) := by decide +kernel
theorem dX9_planned_4 : decode cX9_planned 4 = .ok (.iload_n 1, 1) := by decide +kernel
theorem dX9_planned_5 : decode cX9_planned 5 = .ok (.aload_n 0, 1) := by decide +kernel
theorem dX9_planned_6 : decode cX9_planned 6 = .ok (.getfield 69, 3) := by decide +kernel
theorem dX9_planned_9 : decode cX9_planned 9 = .ok (.getfield 324, 3) := by decide +kernel
theorem dX9_planned_12 : decode cX9_planned 12 = .ok (.if_icmp .ge 12, 3) := by decide +kernel
theorem dX9_planned_15 : decode cX9_planned 15 = .ok (.iload_n 2, 1) := by decide +kernel
theorem dX9_planned_16 : decode cX9_planned 16 = .ok (.ifCond .lt 8, 3) := by decide +kernel
theorem dX9_planned_19 : decode cX9_planned 19 = .ok (.iload_n 2, 1) := by decide +kernel
theorem dX9_planned_20 : decode cX9_planned 20 = .ok (.iconst 1, 1) := by decide +kernel
theorem dX9_planned_21 : decode cX9_planned 21 = .ok (.if_icmp .le 5, 3) := by decide +kernel
theorem dX9_planned_24 : decode cX9_planned 24 = .ok (.iconst (-1), 1) := by decide +kernel
theorem dX9_planned_25 : decode cX9_planned 25 = .ok (.ireturn, 1) := by decide +kernel
theorem dX9_planned_26 : decode cX9_planned 26 = .ok (.iload_n 2, 1) := by decide +kernel
theorem dX9_planned_27 : decode cX9_planned 27 = .ok (.ifCond .ne 15, 3) := by decide +kernel
theorem dX9_planned_30 : decode cX9_planned 30 = .ok (.aload_n 0, 1) := by decide +kernel
theorem dX9_planned_31 : decode cX9_planned 31 = .ok (.getfield 69, 3) := by decide +kernel
theorem dX9_planned_34 : decode cX9_planned 34 = .ok (.getfield 327, 3) := by decide +kernel
theorem dX9_planned_37 : decode cX9_planned 37 = .ok (.iload_n 1, 1) := by decide +kernel
theorem dX9_planned_38 : decode cX9_planned 38 = .ok (.iaload, 1) := by decide +kernel
theorem dX9_planned_39 : decode cX9_planned 39 = .ok (.goto 12, 3) := by decide +kernel
theorem dX9_planned_42 : decode cX9_planned 42 = .ok (.aload_n 0, 1) := by decide +kernel
theorem dX9_planned_43 : decode cX9_planned 43 = .ok (.getfield 69, 3) := by decide +kernel
theorem dX9_planned_46 : decode cX9_planned 46 = .ok (.getfield 330, 3) := by decide +kernel
theorem dX9_planned_49 : decode cX9_planned 49 = .ok (.iload_n 1, 1) := by decide +kernel
theorem dX9_planned_50 : decode cX9_planned 50 = .ok (.iaload, 1) := by decide +kernel
theorem dX9_planned_51 : decode cX9_planned 51 = .ok (.ireturn, 1) := by decide +kernel
def f_X9_planned (h : Hp) (a0 : Nat) (a1 : Int32) (a2 : Int32) : Option (Int32 × Hp) :=
if a1 < 0 then (
some ((-1 : Int32), h)) else (
gd (okOb h a0 9) <|
vl (gR h a0 13) fun r3 =>
un r3 fun b4 =>
gd (okOb h b4 4) <|
vl (gI h b4 8) fun x6 =>
if x6 ≤ a1 then (
some ((-1 : Int32), h)) else (
if a2 < 0 then (
some ((-1 : Int32), h)) else (
if a2 ≤ (1 : Int32) then (
if a2 = 0 then (
vl (gR h a0 13) fun r18 =>
un r18 fun b19 =>
gd (okOb h b19 4) <|
vl (gR h b19 6) fun r21 =>
un r21 fun b22 =>
gd (okAb h b22 11 a1) <|
vl (gI h b22 a1.toNatClampNeg) fun x24 =>
some (x24, h)) else (
vl (gR h a0 13) fun r11 =>
un r11 fun b12 =>
gd (okOb h b12 4) <|
vl (gR h b12 7) fun r14 =>
un r14 fun b15 =>
gd (okAb h b15 11 a1) <|
vl (gI h b15 a1.toNatClampNeg) fun x17 =>
some (x17, h))) else (
some ((-1 : Int32), h)))))
set_option maxHeartbeats 4000000 in
set_option maxRecDepth 100000 in
theorem t_X9_planned {X : Cx} {d : Nat} {h : Hp} {a0 : Nat} {a1 : Int32} {a2 : Int32} {v : Int32} {h' : Hp} (hD : 1 ≤ d) (H : f_X9_planned h a0 a1 a2 = some (v, h')) : PM X mX9_planned d [.ref a0, .int a1, .int a2] h (some (.int v)) h' := by
  unfold f_X9_planned at H
  refine PM.of (loc := [some (.ref a0), some (.int a1), some (.int a2)]) (by decide) rfl (Nat.le_of_ble_eq_true rfl) ?_
  refine ev_iload_n dX9_planned_0 rfl rfl ?_
  refine ev_if_lt (tgt := 24) dX9_planned_1 (by decide) (fun c1 => ?_) (fun c1 => ?_)
  · rw [if_pos c1] at H
    refine ev_iconst (v := (-1 : Int32)) dX9_planned_24 (by decide) ?_
    exact ev_iretx dX9_planned_25 rfl rfl H
  · rw [if_neg c1] at H
    refine ev_iload_n dX9_planned_4 rfl rfl ?_
    refine ev_aload_n dX9_planned_5 rfl rfl rfl ?_
    replace H := gd_some H
    obtain ⟨g2, H⟩ := H
    replace H := vl_some H
    obtain ⟨r3, er3, H⟩ := H
    refine ev_getRx dX9_planned_6 fgX9_69 rfl (okOb.p g2) er3 ?_
    replace H := un_some H
    obtain ⟨b4, eb4, H⟩ := H
    subst eb4
    replace H := gd_some H
    obtain ⟨g5, H⟩ := H
    replace H := vl_some H
    obtain ⟨x6, ex6, H⟩ := H
    refine ev_getIx dX9_planned_9 fgX9_324 rfl (okOb.p g5) ex6 ?_
    refine ev_icmp_ge (tgt := 24) dX9_planned_12 (by decide) (fun c7 => ?_) (fun c7 => ?_)
    · rw [if_pos c7] at H
      refine ev_iconst (v := (-1 : Int32)) dX9_planned_24 (by decide) ?_
      exact ev_iretx dX9_planned_25 rfl rfl H
    · rw [if_neg c7] at H
      refine ev_iload_n dX9_planned_15 rfl rfl ?_
      refine ev_if_lt (tgt := 24) dX9_planned_16 (by decide) (fun c8 => ?_) (fun c8 => ?_)
      · rw [if_pos c8] at H
        refine ev_iconst (v := (-1 : Int32)) dX9_planned_24 (by decide) ?_
        exact ev_iretx dX9_planned_25 rfl rfl H
      · rw [if_neg c8] at H
        refine ev_iload_n dX9_planned_19 rfl rfl ?_
        refine ev_iconst (v := (1 : Int32)) dX9_planned_20 (by decide) ?_
        refine ev_icmp_le (tgt := 26) dX9_planned_21 (by decide) (fun c9 => ?_) (fun c9 => ?_)
        · rw [if_pos c9] at H
          refine ev_iload_n dX9_planned_26 rfl rfl ?_
          refine ev_if_ne (tgt := 42) dX9_planned_27 (by decide) (fun c10 => ?_) (fun c10 => ?_)
          · rw [if_neg c10] at H
            refine ev_aload_n dX9_planned_42 rfl rfl rfl ?_
            replace H := vl_some H
            obtain ⟨r11, er11, H⟩ := H
            refine ev_getRx dX9_planned_43 fgX9_69 rfl (okOb.p g2) er11 ?_
            replace H := un_some H
            obtain ⟨b12, eb12, H⟩ := H
            subst eb12
            replace H := gd_some H
            obtain ⟨g13, H⟩ := H
            replace H := vl_some H
            obtain ⟨r14, er14, H⟩ := H
            refine ev_getRx dX9_planned_46 fgX9_330 rfl (okOb.p g13) er14 ?_
            refine ev_iload_n dX9_planned_49 rfl rfl ?_
            replace H := un_some H
            obtain ⟨b15, eb15, H⟩ := H
            subst eb15
            replace H := gd_some H
            obtain ⟨g16, H⟩ := H
            replace H := vl_some H
            obtain ⟨x17, ex17, H⟩ := H
            refine ev_ialdx dX9_planned_50 (okAb.p g16) ex17 ?_
            exact ev_iretx dX9_planned_51 rfl rfl H
          · rw [if_pos c10] at H
            refine ev_aload_n dX9_planned_30 rfl rfl rfl ?_
            replace H := vl_some H
            obtain ⟨r18, er18, H⟩ := H
            refine ev_getRx dX9_planned_31 fgX9_69 rfl (okOb.p g2) er18 ?_
            replace H := un_some H
            obtain ⟨b19, eb19, H⟩ := H
            subst eb19
            replace H := gd_some H
            obtain ⟨g20, H⟩ := H
            replace H := vl_some H
            obtain ⟨r21, er21, H⟩ := H
            refine ev_getRx dX9_planned_34 fgX9_327 rfl (okOb.p g20) er21 ?_
            refine ev_iload_n dX9_planned_37 rfl rfl ?_
            replace H := un_some H
            obtain ⟨b22, eb22, H⟩ := H
            subst eb22
            replace H := gd_some H
            obtain ⟨g23, H⟩ := H
            replace H := vl_some H
            obtain ⟨x24, ex24, H⟩ := H
            refine ev_ialdx dX9_planned_38 (okAb.p g23) ex24 ?_
            refine ev_goto (tgt := 51) dX9_planned_39 (by decide) ?_
            exact ev_iretx dX9_planned_51 rfl rfl H
        · rw [if_neg c9] at H
          refine ev_iconst (v := (-1 : Int32)) dX9_planned_24 (by decide) ?_
          exact ev_iretx dX9_planned_25 rfl rfl H

theorem dX9_sortsInPages_0 : decode cX9_sortsInPages 0 = .ok (.iconst 0, 1) := by decide +kernel
theorem dX9_sortsInPages_1 : decode cX9_sortsInPages 1 = .ok (.istore_n 1, 1) := by decide +kernel
theorem dX9_sortsInPages_2 : decode cX9_sortsInPages 2 = .ok (.iconst 0, 1) := by decide +kernel
theorem dX9_sortsInPages_3 : decode cX9_sortsInPages 3 = .ok (.istore_n 2, 1) := by decide +kernel
theorem dX9_sortsInPages_4 : decode cX9_sortsInPages 4 = .ok (.iload_n 2, 1) := by decide +kernel
theorem dX9_sortsInPages_5 : decode cX9_sortsInPages 5 = .ok (.aload_n 0, 1) := by decide +kernel
theorem dX9_sortsInPages_6 : decode cX9_sortsInPages 6 = .ok (.getfield 88, 3) := by decide +kernel
theorem dX9_sortsInPages_9 : decode cX9_sortsInPages 9 = .ok (.if_icmp .ge 33, 3) := by decide +kernel
theorem dX9_sortsInPages_12 : decode cX9_sortsInPages 12 = .ok (.aload_n 0, 1) := by decide +kernel
theorem dX9_sortsInPages_13 : decode cX9_sortsInPages 13 = .ok (.getfield 25, 3) := by decide +kernel
theorem dX9_sortsInPages_16 : decode cX9_sortsInPages 16 = .ok (.iload_n 2, 1) := by decide +kernel
theorem dX9_sortsInPages_17 : decode cX9_sortsInPages 17 = .ok (.aaload, 1) := by decide +kernel
theorem dX9_sortsInPages_18 : decode cX9_sortsInPages 18 = .ok (.getfield 105, 3) := by decide +kernel
theorem dX9_sortsInPages_21 : decode cX9_sortsInPages 21 = .ok (.ifCond .eq 15, 3) := by decide +kernel
theorem dX9_sortsInPages_24 : decode cX9_sortsInPages 24 = .ok (.iload_n 1, 1) := by decide +kernel
theorem dX9_sortsInPages_25 : decode cX9_sortsInPages 25 = .ok (.aload_n 0, 1) := by decide +kernel
theorem dX9_sortsInPages_26 : decode cX9_sortsInPages 26 = .ok (.getfield 25, 3) := by decide +kernel
theorem dX9_sortsInPages_29 : decode cX9_sortsInPages 29 = .ok (.iload_n 2, 1) := by decide +kernel
theorem dX9_sortsInPages_30 : decode cX9_sortsInPages 30 = .ok (.aaload, 1) := by decide +kernel
theorem dX9_sortsInPages_31 : decode cX9_sortsInPages 31 = .ok (.getfield 120, 3) := by decide +kernel
theorem dX9_sortsInPages_34 : decode cX9_sortsInPages 34 = .ok (.iadd, 1) := by decide +kernel
theorem dX9_sortsInPages_35 : decode cX9_sortsInPages 35 = .ok (.istore_n 1, 1) := by decide +kernel
theorem dX9_sortsInPages_36 : decode cX9_sortsInPages 36 = .ok (.iinc 2 1, 3) := by decide +kernel
theorem dX9_sortsInPages_39 : decode cX9_sortsInPages 39 = .ok (.goto (-35), 3) := by decide +kernel
theorem dX9_sortsInPages_42 : decode cX9_sortsInPages 42 = .ok (.iload_n 1, 1) := by decide +kernel
theorem dX9_sortsInPages_43 : decode cX9_sortsInPages 43 = .ok (.ireturn, 1) := by decide +kernel
def f_X9_sortsInPages_L4 : Nat → Nat → Int32 → Int32 → Hp → Option (Int32 × Hp)
  | 0, _, _, _, _ => none
  | n + 1, l0, l1, l2, h =>
    gd (okOb h l0 9) <|
    vl (gI h l0 4) fun x2 =>
    if x2 ≤ l2 then (
    some (l1, h)) else (
    vl (gR h l0 3) fun r4 =>
    un r4 fun b5 =>
    gd (okAb h b5 14 l2) <|
    vl (gR h b5 l2.toNatClampNeg) fun r7 =>
    un r7 fun b8 =>
    gd (okOb h b8 6) <|
    vl (gI h b8 5) fun x10 =>
    if x10 = 0 then (
    vl (l2 + (1 : Int32)) fun x12 =>
    f_X9_sortsInPages_L4 n l0 l1 x12 h) else (
    vl (gR h l0 3) fun r13 =>
    un r13 fun b14 =>
    gd (okAb h b14 14 l2) <|
    vl (gR h b14 l2.toNatClampNeg) fun r16 =>
    un r16 fun b17 =>
    gd (okOb h b17 6) <|
    vl (gI h b17 4) fun x19 =>
    vl (l1 + x19) fun x20 =>
    vl (l2 + (1 : Int32)) fun x21 =>
    f_X9_sortsInPages_L4 n l0 x20 x21 h))
set_option maxHeartbeats 4000000 in
set_option maxRecDepth 100000 in
theorem t_X9_sortsInPages_L4 {X : Cx} {d : Nat} {h0 h' : Hp} {v : Int32} (hD : 1 ≤ d) : ∀ (n : Nat) (l0 : Nat) (l1 : Int32) (l2 : Int32) (h : Hp), f_X9_sortsInPages_L4 n l0 l1 l2 h = some (v, h') → EV X mX9_sortsInPages d h0 (some (.int v)) h' 4 [some (.ref l0), some (.int l1), some (.int l2)] [] h := by
  intro n
  induction n with
  | zero => intro l0 l1 l2 h H; simp [f_X9_sortsInPages_L4] at H
  | succ n ih =>
    intro l0 l1 l2 h H
    rw [f_X9_sortsInPages_L4] at H
    refine ev_iload_n dX9_sortsInPages_4 rfl rfl ?_
    refine ev_aload_n dX9_sortsInPages_5 rfl rfl rfl ?_
    replace H := gd_some H
    obtain ⟨g1, H⟩ := H
    replace H := vl_some H
    obtain ⟨x2, ex2, H⟩ := H
    refine ev_getIx dX9_sortsInPages_6 fgX9_88 rfl (okOb.p g1) ex2 ?_
    refine ev_icmp_ge (tgt := 42) dX9_sortsInPages_9 (by decide) (fun c3 => ?_) (fun c3 => ?_)
    · rw [if_pos c3] at H
      refine ev_iload_n dX9_sortsInPages_42 rfl rfl ?_
      exact ev_iretx dX9_sortsInPages_43 rfl rfl H
    · rw [if_neg c3] at H
      refine ev_aload_n dX9_sortsInPages_12 rfl rfl rfl ?_
      replace H := vl_some H
      obtain ⟨r4, er4, H⟩ := H
      refine ev_getRx dX9_sortsInPages_13 fgX9_25 rfl (okOb.p g1) er4 ?_
      refine ev_iload_n dX9_sortsInPages_16 rfl rfl ?_
      replace H := un_some H
      obtain ⟨b5, eb5, H⟩ := H
      subst eb5
      replace H := gd_some H
      obtain ⟨g6, H⟩ := H
      replace H := vl_some H
      obtain ⟨r7, er7, H⟩ := H
      refine ev_aaldx (kd := 14) (t0 := 3) dX9_sortsInPages_17 (by decide) (fun _ => rfl) (okAb.p g6) er7 ?_
      replace H := un_some H
      obtain ⟨b8, eb8, H⟩ := H
      subst eb8
      replace H := gd_some H
      obtain ⟨g9, H⟩ := H
      replace H := vl_some H
      obtain ⟨x10, ex10, H⟩ := H
      refine ev_getIx dX9_sortsInPages_18 fgX9_105 rfl (okOb.p g9) ex10 ?_
      refine ev_if_eq (tgt := 36) dX9_sortsInPages_21 (by decide) (fun c11 => ?_) (fun c11 => ?_)
      · rw [if_pos c11] at H
        replace H := vl_some H
        obtain ⟨x12, ex12, H⟩ := H
        refine ev_iincx (loc2 := [some (.ref l0), some (.int l1), some (.int x12)]) dX9_sortsInPages_36 rfl (by decide) ex12 (by decide) rfl ?_
        refine ev_goto (tgt := 4) dX9_sortsInPages_39 (by decide) ?_
        exact ih l0 l1 x12 h H
      · rw [if_neg c11] at H
        refine ev_iload_n dX9_sortsInPages_24 rfl rfl ?_
        refine ev_aload_n dX9_sortsInPages_25 rfl rfl rfl ?_
        replace H := vl_some H
        obtain ⟨r13, er13, H⟩ := H
        refine ev_getRx dX9_sortsInPages_26 fgX9_25 rfl (okOb.p g1) er13 ?_
        refine ev_iload_n dX9_sortsInPages_29 rfl rfl ?_
        replace H := un_some H
        obtain ⟨b14, eb14, H⟩ := H
        subst eb14
        replace H := gd_some H
        obtain ⟨g15, H⟩ := H
        replace H := vl_some H
        obtain ⟨r16, er16, H⟩ := H
        refine ev_aaldx (kd := 14) (t0 := 3) dX9_sortsInPages_30 (by decide) (fun _ => rfl) (okAb.p g15) er16 ?_
        replace H := un_some H
        obtain ⟨b17, eb17, H⟩ := H
        subst eb17
        replace H := gd_some H
        obtain ⟨g18, H⟩ := H
        replace H := vl_some H
        obtain ⟨x19, ex19, H⟩ := H
        refine ev_getIx dX9_sortsInPages_31 fgX9_120 rfl (okOb.p g18) ex19 ?_
        refine ev_iadd dX9_sortsInPages_34 ?_
        replace H := vl_some H
        obtain ⟨x20, ex20, H⟩ := H
        refine ev_istore_nx (loc2 := [some (.ref l0), some (.int x20), some (.int l2)]) dX9_sortsInPages_35 rfl (by decide) ex20 rfl ?_
        replace H := vl_some H
        obtain ⟨x21, ex21, H⟩ := H
        refine ev_iincx (loc2 := [some (.ref l0), some (.int x20), some (.int x21)]) dX9_sortsInPages_36 rfl (by decide) ex21 (by decide) rfl ?_
        refine ev_goto (tgt := 4) dX9_sortsInPages_39 (by decide) ?_
        exact ih l0 x20 x21 h H
def f_X9_sortsInPages (h : Hp) (a0 : Nat) : Option (Int32 × Hp) :=
f_X9_sortsInPages_L4 6000 a0 (0 : Int32) (0 : Int32) h
set_option maxHeartbeats 4000000 in
set_option maxRecDepth 100000 in
theorem t_X9_sortsInPages {X : Cx} {d : Nat} {h : Hp} {a0 : Nat} {v : Int32} {h' : Hp} (hD : 1 ≤ d) (H : f_X9_sortsInPages h a0 = some (v, h')) : PM X mX9_sortsInPages d [.ref a0] h (some (.int v)) h' := by
  unfold f_X9_sortsInPages at H
  refine PM.of (loc := [some (.ref a0), none, none]) (by decide) rfl (Nat.le_of_ble_eq_true rfl) ?_
  refine ev_iconst (v := (0 : Int32)) dX9_sortsInPages_0 (by decide) ?_
  refine ev_istore_n (loc2 := [some (.ref a0), some (.int (0 : Int32)), none]) dX9_sortsInPages_1 rfl (by decide) rfl ?_
  refine ev_iconst (v := (0 : Int32)) dX9_sortsInPages_2 (by decide) ?_
  refine ev_istore_n (loc2 := [some (.ref a0), some (.int (0 : Int32)), some (.int (0 : Int32))]) dX9_sortsInPages_3 rfl (by decide) rfl ?_
  refine t_X9_sortsInPages_L4 hD  6000 a0 (0 : Int32) (0 : Int32) h H

theorem dX9_pagesSet_0 : decode cX9_pagesSet 0 = .ok (.iconst 0, 1) := by decide +kernel
theorem dX9_pagesSet_1 : decode cX9_pagesSet 1 = .ok (.istore_n 1, 1) := by decide +kernel
theorem dX9_pagesSet_2 : decode cX9_pagesSet 2 = .ok (.iconst 0, 1) := by decide +kernel
theorem dX9_pagesSet_3 : decode cX9_pagesSet 3 = .ok (.istore_n 2, 1) := by decide +kernel
theorem dX9_pagesSet_4 : decode cX9_pagesSet 4 = .ok (.iload_n 2, 1) := by decide +kernel
theorem dX9_pagesSet_5 : decode cX9_pagesSet 5 = .ok (.aload_n 0, 1) := by decide +kernel
theorem dX9_pagesSet_6 : decode cX9_pagesSet 6 = .ok (.getfield 88, 3) := by decide +kernel
theorem dX9_pagesSet_9 : decode cX9_pagesSet 9 = .ok (.if_icmp .ge 24, 3) := by decide +kernel
theorem dX9_pagesSet_12 : decode cX9_pagesSet 12 = .ok (.aload_n 0, 1) := by decide +kernel
theorem dX9_pagesSet_13 : decode cX9_pagesSet 13 = .ok (.getfield 25, 3) := by decide +kernel
theorem dX9_pagesSet_16 : decode cX9_pagesSet 16 = .ok (.iload_n 2, 1) := by decide +kernel
theorem dX9_pagesSet_17 : decode cX9_pagesSet 17 = .ok (.aaload, 1) := by decide +kernel
theorem dX9_pagesSet_18 : decode cX9_pagesSet 18 = .ok (.getfield 105, 3) := by decide +kernel
theorem dX9_pagesSet_21 : decode cX9_pagesSet 21 = .ok (.ifCond .eq 6, 3) := by decide +kernel
theorem dX9_pagesSet_24 : decode cX9_pagesSet 24 = .ok (.iinc 1 1, 3) := by decide +kernel
theorem dX9_pagesSet_27 : decode cX9_pagesSet 27 = .ok (.iinc 2 1, 3) := by decide +kernel
theorem dX9_pagesSet_30 : decode cX9_pagesSet 30 = .ok (.goto (-26), 3) := by decide +kernel
theorem dX9_pagesSet_33 : decode cX9_pagesSet 33 = .ok (.iload_n 1, 1) := by decide +kernel
theorem dX9_pagesSet_34 : decode cX9_pagesSet 34 = .ok (.ireturn, 1) := by decide +kernel
def f_X9_pagesSet_L4 : Nat → Nat → Int32 → Int32 → Hp → Option (Int32 × Hp)
  | 0, _, _, _, _ => none
  | n + 1, l0, l1, l2, h =>
    gd (okOb h l0 9) <|
    vl (gI h l0 4) fun x2 =>
    if x2 ≤ l2 then (
    some (l1, h)) else (
    vl (gR h l0 3) fun r4 =>
    un r4 fun b5 =>
    gd (okAb h b5 14 l2) <|
    vl (gR h b5 l2.toNatClampNeg) fun r7 =>
    un r7 fun b8 =>
    gd (okOb h b8 6) <|
    vl (gI h b8 5) fun x10 =>
    if x10 = 0 then (
    vl (l2 + (1 : Int32)) fun x12 =>
    f_X9_pagesSet_L4 n l0 l1 x12 h) else (
    vl (l1 + (1 : Int32)) fun x13 =>
    vl (l2 + (1 : Int32)) fun x14 =>
    f_X9_pagesSet_L4 n l0 x13 x14 h))
set_option maxHeartbeats 4000000 in
set_option maxRecDepth 100000 in
theorem t_X9_pagesSet_L4 {X : Cx} {d : Nat} {h0 h' : Hp} {v : Int32} (hD : 1 ≤ d) : ∀ (n : Nat) (l0 : Nat) (l1 : Int32) (l2 : Int32) (h : Hp), f_X9_pagesSet_L4 n l0 l1 l2 h = some (v, h') → EV X mX9_pagesSet d h0 (some (.int v)) h' 4 [some (.ref l0), some (.int l1), some (.int l2)] [] h := by
  intro n
  induction n with
  | zero => intro l0 l1 l2 h H; simp [f_X9_pagesSet_L4] at H
  | succ n ih =>
    intro l0 l1 l2 h H
    rw [f_X9_pagesSet_L4] at H
    refine ev_iload_n dX9_pagesSet_4 rfl rfl ?_
    refine ev_aload_n dX9_pagesSet_5 rfl rfl rfl ?_
    replace H := gd_some H
    obtain ⟨g1, H⟩ := H
    replace H := vl_some H
    obtain ⟨x2, ex2, H⟩ := H
    refine ev_getIx dX9_pagesSet_6 fgX9_88 rfl (okOb.p g1) ex2 ?_
    refine ev_icmp_ge (tgt := 33) dX9_pagesSet_9 (by decide) (fun c3 => ?_) (fun c3 => ?_)
    · rw [if_pos c3] at H
      refine ev_iload_n dX9_pagesSet_33 rfl rfl ?_
      exact ev_iretx dX9_pagesSet_34 rfl rfl H
    · rw [if_neg c3] at H
      refine ev_aload_n dX9_pagesSet_12 rfl rfl rfl ?_
      replace H := vl_some H
      obtain ⟨r4, er4, H⟩ := H
      refine ev_getRx dX9_pagesSet_13 fgX9_25 rfl (okOb.p g1) er4 ?_
      refine ev_iload_n dX9_pagesSet_16 rfl rfl ?_
      replace H := un_some H
      obtain ⟨b5, eb5, H⟩ := H
      subst eb5
      replace H := gd_some H
      obtain ⟨g6, H⟩ := H
      replace H := vl_some H
      obtain ⟨r7, er7, H⟩ := H
      refine ev_aaldx (kd := 14) (t0 := 3) dX9_pagesSet_17 (by decide) (fun _ => rfl) (okAb.p g6) er7 ?_
      replace H := un_some H
      obtain ⟨b8, eb8, H⟩ := H
      subst eb8
      replace H := gd_some H
      obtain ⟨g9, H⟩ := H
      replace H := vl_some H
      obtain ⟨x10, ex10, H⟩ := H
      refine ev_getIx dX9_pagesSet_18 fgX9_105 rfl (okOb.p g9) ex10 ?_
      refine ev_if_eq (tgt := 27) dX9_pagesSet_21 (by decide) (fun c11 => ?_) (fun c11 => ?_)
      · rw [if_pos c11] at H
        replace H := vl_some H
        obtain ⟨x12, ex12, H⟩ := H
        refine ev_iincx (loc2 := [some (.ref l0), some (.int l1), some (.int x12)]) dX9_pagesSet_27 rfl (by decide) ex12 (by decide) rfl ?_
        refine ev_goto (tgt := 4) dX9_pagesSet_30 (by decide) ?_
        exact ih l0 l1 x12 h H
      · rw [if_neg c11] at H
        replace H := vl_some H
        obtain ⟨x13, ex13, H⟩ := H
        refine ev_iincx (loc2 := [some (.ref l0), some (.int x13), some (.int l2)]) dX9_pagesSet_24 rfl (by decide) ex13 (by decide) rfl ?_
        replace H := vl_some H
        obtain ⟨x14, ex14, H⟩ := H
        refine ev_iincx (loc2 := [some (.ref l0), some (.int x13), some (.int x14)]) dX9_pagesSet_27 rfl (by decide) ex14 (by decide) rfl ?_
        refine ev_goto (tgt := 4) dX9_pagesSet_30 (by decide) ?_
        exact ih l0 x13 x14 h H
def f_X9_pagesSet (h : Hp) (a0 : Nat) : Option (Int32 × Hp) :=
f_X9_pagesSet_L4 6000 a0 (0 : Int32) (0 : Int32) h
set_option maxHeartbeats 4000000 in
set_option maxRecDepth 100000 in
theorem t_X9_pagesSet {X : Cx} {d : Nat} {h : Hp} {a0 : Nat} {v : Int32} {h' : Hp} (hD : 1 ≤ d) (H : f_X9_pagesSet h a0 = some (v, h')) : PM X mX9_pagesSet d [.ref a0] h (some (.int v)) h' := by
  unfold f_X9_pagesSet at H
  refine PM.of (loc := [some (.ref a0), none, none]) (by decide) rfl (Nat.le_of_ble_eq_true rfl) ?_
  refine ev_iconst (v := (0 : Int32)) dX9_pagesSet_0 (by decide) ?_
  refine ev_istore_n (loc2 := [some (.ref a0), some (.int (0 : Int32)), none]) dX9_pagesSet_1 rfl (by decide) rfl ?_
  refine ev_iconst (v := (0 : Int32)) dX9_pagesSet_2 (by decide) ?_
  refine ev_istore_n (loc2 := [some (.ref a0), some (.int (0 : Int32)), some (.int (0 : Int32))]) dX9_pagesSet_3 rfl (by decide) rfl ?_
  refine t_X9_pagesSet_L4 hD  6000 a0 (0 : Int32) (0 : Int32) h H

theorem dX9_formesImposed_0 : decode cX9_formesImposed 0 = .ok (.iconst 0, 1) := by decide +kernel
theorem dX9_formesImposed_1 : decode cX9_formesImposed 1 = .ok (.istore_n 1, 1) := by decide +kernel
theorem dX9_formesImposed_2 : decode cX9_formesImposed 2 = .ok (.iconst 0, 1) := by decide +kernel
theorem dX9_formesImposed_3 : decode cX9_formesImposed 3 = .ok (.istore_n 2, 1) := by decide +kernel
theorem dX9_formesImposed_4 : decode cX9_formesImposed 4 = .ok (.iload_n 2, 1) := by decide +kernel
theorem dX9_formesImposed_5 : decode cX9_formesImposed 5 = .ok (.iconst 4, 1) := by decide +kernel
theorem dX9_formesImposed_6 : decode cX9_formesImposed 6 = .ok (.if_icmp .ge 21, 3) := by decide +kernel
theorem dX9_formesImposed_9 : decode cX9_formesImposed 9 = .ok (.aload_n 0, 1) := by decide +kernel
theorem dX9_formesImposed_10 : decode cX9_formesImposed 10 = .ok (.getfield 41, 3) := by decide +kernel
theorem dX9_formesImposed_13 : decode cX9_formesImposed 13 = .ok (.iload_n 2, 1) := by decide +kernel
theorem dX9_formesImposed_14 : decode cX9_formesImposed 14 = .ok (.baload, 1) := by decide +kernel
theorem dX9_formesImposed_15 : decode cX9_formesImposed 15 = .ok (.ifCond .eq 6, 3) := by decide +kernel
theorem dX9_formesImposed_18 : decode cX9_formesImposed 18 = .ok (.iinc 1 1, 3) := by decide +kernel
theorem dX9_formesImposed_21 : decode cX9_formesImposed 21 = .ok (.iinc 2 1, 3) := by decide +kernel
theorem dX9_formesImposed_24 : decode cX9_formesImposed 24 = .ok (.goto (-20), 3) := by decide +kernel
theorem dX9_formesImposed_27 : decode cX9_formesImposed 27 = .ok (.iload_n 1, 1) := by decide +kernel
theorem dX9_formesImposed_28 : decode cX9_formesImposed 28 = .ok (.ireturn, 1) := by decide +kernel
def f_X9_formesImposed_L4 : Nat → Nat → Int32 → Int32 → Hp → Option (Int32 × Hp)
  | 0, _, _, _, _ => none
  | n + 1, l0, l1, l2, h =>
    if (4 : Int32) ≤ l2 then (
    some (l1, h)) else (
    gd (okOb h l0 9) <|
    vl (gR h l0 8) fun r3 =>
    un r3 fun b4 =>
    gd (okAb h b4 12 l2) <|
    vl (gI h b4 l2.toNatClampNeg) fun x6 =>
    if x6 = 0 then (
    vl (l2 + (1 : Int32)) fun x8 =>
    f_X9_formesImposed_L4 n l0 l1 x8 h) else (
    vl (l1 + (1 : Int32)) fun x9 =>
    vl (l2 + (1 : Int32)) fun x10 =>
    f_X9_formesImposed_L4 n l0 x9 x10 h))
set_option maxHeartbeats 4000000 in
set_option maxRecDepth 100000 in
theorem t_X9_formesImposed_L4 {X : Cx} {d : Nat} {h0 h' : Hp} {v : Int32} (hD : 1 ≤ d) : ∀ (n : Nat) (l0 : Nat) (l1 : Int32) (l2 : Int32) (h : Hp), f_X9_formesImposed_L4 n l0 l1 l2 h = some (v, h') → EV X mX9_formesImposed d h0 (some (.int v)) h' 4 [some (.ref l0), some (.int l1), some (.int l2)] [] h := by
  intro n
  induction n with
  | zero => intro l0 l1 l2 h H; simp [f_X9_formesImposed_L4] at H
  | succ n ih =>
    intro l0 l1 l2 h H
    rw [f_X9_formesImposed_L4] at H
    refine ev_iload_n dX9_formesImposed_4 rfl rfl ?_
    refine ev_iconst (v := (4 : Int32)) dX9_formesImposed_5 (by decide) ?_
    refine ev_icmp_ge (tgt := 27) dX9_formesImposed_6 (by decide) (fun c1 => ?_) (fun c1 => ?_)
    · rw [if_pos c1] at H
      refine ev_iload_n dX9_formesImposed_27 rfl rfl ?_
      exact ev_iretx dX9_formesImposed_28 rfl rfl H
    · rw [if_neg c1] at H
      refine ev_aload_n dX9_formesImposed_9 rfl rfl rfl ?_
      replace H := gd_some H
      obtain ⟨g2, H⟩ := H
      replace H := vl_some H
      obtain ⟨r3, er3, H⟩ := H
      refine ev_getRx dX9_formesImposed_10 fgX9_41 rfl (okOb.p g2) er3 ?_
      refine ev_iload_n dX9_formesImposed_13 rfl rfl ?_
      replace H := un_some H
      obtain ⟨b4, eb4, H⟩ := H
      subst eb4
      replace H := gd_some H
      obtain ⟨g5, H⟩ := H
      replace H := vl_some H
      obtain ⟨x6, ex6, H⟩ := H
      refine ev_zaldx dX9_formesImposed_14 (okAb.p g5) ex6 ?_
      refine ev_if_eq (tgt := 21) dX9_formesImposed_15 (by decide) (fun c7 => ?_) (fun c7 => ?_)
      · rw [if_pos c7] at H
        replace H := vl_some H
        obtain ⟨x8, ex8, H⟩ := H
        refine ev_iincx (loc2 := [some (.ref l0), some (.int l1), some (.int x8)]) dX9_formesImposed_21 rfl (by decide) ex8 (by decide) rfl ?_
        refine ev_goto (tgt := 4) dX9_formesImposed_24 (by decide) ?_
        exact ih l0 l1 x8 h H
      · rw [if_neg c7] at H
        replace H := vl_some H
        obtain ⟨x9, ex9, H⟩ := H
        refine ev_iincx (loc2 := [some (.ref l0), some (.int x9), some (.int l2)]) dX9_formesImposed_18 rfl (by decide) ex9 (by decide) rfl ?_
        replace H := vl_some H
        obtain ⟨x10, ex10, H⟩ := H
        refine ev_iincx (loc2 := [some (.ref l0), some (.int x9), some (.int x10)]) dX9_formesImposed_21 rfl (by decide) ex10 (by decide) rfl ?_
        refine ev_goto (tgt := 4) dX9_formesImposed_24 (by decide) ?_
        exact ih l0 x9 x10 h H
def f_X9_formesImposed (h : Hp) (a0 : Nat) : Option (Int32 × Hp) :=
f_X9_formesImposed_L4 6000 a0 (0 : Int32) (0 : Int32) h
set_option maxHeartbeats 4000000 in
set_option maxRecDepth 100000 in
theorem t_X9_formesImposed {X : Cx} {d : Nat} {h : Hp} {a0 : Nat} {v : Int32} {h' : Hp} (hD : 1 ≤ d) (H : f_X9_formesImposed h a0 = some (v, h')) : PM X mX9_formesImposed d [.ref a0] h (some (.int v)) h' := by
  unfold f_X9_formesImposed at H
  refine PM.of (loc := [some (.ref a0), none, none]) (by decide) rfl (Nat.le_of_ble_eq_true rfl) ?_
  refine ev_iconst (v := (0 : Int32)) dX9_formesImposed_0 (by decide) ?_
  refine ev_istore_n (loc2 := [some (.ref a0), some (.int (0 : Int32)), none]) dX9_formesImposed_1 rfl (by decide) rfl ?_
  refine ev_iconst (v := (0 : Int32)) dX9_formesImposed_2 (by decide) ?_
  refine ev_istore_n (loc2 := [some (.ref a0), some (.int (0 : Int32)), some (.int (0 : Int32))]) dX9_formesImposed_3 rfl (by decide) rfl ?_
  refine t_X9_formesImposed_L4 hD  6000 a0 (0 : Int32) (0 : Int32) h H

theorem dX9_count_0 : decode cX9_count 0 = .ok (.iload_n 1, 1) := by decide +kernel
theorem dX9_count_1 : decode cX9_count 1 = .ok (.tableswitch 131 0 9 #[55, 60, 65, 70, 75, 90, 105, 113, 121, 126], 55) := by decide +kernel
theorem dX9_count_56 : decode cX9_count 56 = .ok (.aload_n 0, 1) := by decide +kernel
theorem dX9_count_57 : decode cX9_count 57 = .ok (.getfield 88, 3) := by decide +kernel
theorem dX9_count_60 : decode cX9_count 60 = .ok (.ireturn, 1) := by decide +kernel
theorem dX9_count_61 : decode cX9_count 61 = .ok (.aload_n 0, 1) := by decide +kernel
theorem dX9_count_62 : decode cX9_count 62 = .ok (.invokevirtual 333, 3) := by decide +kernel
theorem dX9_count_65 : decode cX9_count 65 = .ok (.ireturn, 1) := by decide +kernel
theorem dX9_count_66 : decode cX9_count 66 = .ok (.aload_n 0, 1) := by decide +kernel
theorem dX9_count_67 : decode cX9_count 67 = .ok (.getfield 165, 3) := by decide +kernel
theorem dX9_count_70 : decode cX9_count 70 = .ok (.ireturn, 1) := by decide +kernel
theorem dX9_count_71 : decode cX9_count 71 = .ok (.aload_n 0, 1) := by decide +kernel
theorem dX9_count_72 : decode cX9_count 72 = .ok (.getfield 208, 3) := by decide +kernel
theorem dX9_count_75 : decode cX9_count 75 = .ok (.ireturn, 1) := by decide +kernel
theorem dX9_count_76 : decode cX9_count 76 = .ok (.aload_n 0, 1) := by decide +kernel
theorem dX9_count_77 : decode cX9_count 77 = .ok (.getfield 48, 3) := by decide +kernel
theorem dX9_count_80 : decode cX9_count 80 = .ok (.aload_n 0, 1) := by decide +kernel
theorem dX9_count_81 : decode cX9_count 81 = .ok (.getfield 48, 3) := by decide +kernel
theorem dX9_count_84 : decode cX9_count 84 = .ok (.getfield 228, 3) := by decide +kernel
theorem dX9_count_87 : decode cX9_count 87 = .ok (.invokevirtual 336, 3) := by decide +kernel
theorem dX9_count_90 : decode cX9_count 90 = .ok (.ireturn, 1) := by decide +kernel
theorem dX9_count_91 : decode cX9_count 91 = .ok (.aload_n 0, 1) := by decide +kernel
theorem dX9_count_92 : decode cX9_count 92 = .ok (.getfield 48, 3) := by decide +kernel
theorem dX9_count_95 : decode cX9_count 95 = .ok (.aload_n 0, 1) := by decide +kernel
theorem dX9_count_96 : decode cX9_count 96 = .ok (.getfield 48, 3) := by decide +kernel
theorem dX9_count_99 : decode cX9_count 99 = .ok (.getfield 266, 3) := by decide +kernel
theorem dX9_count_102 : decode cX9_count 102 = .ok (.invokevirtual 336, 3) := by decide +kernel
theorem dX9_count_105 : decode cX9_count 105 = .ok (.ireturn, 1) := by decide +kernel
theorem dX9_count_106 : decode cX9_count 106 = .ok (.aload_n 0, 1) := by decide +kernel
theorem dX9_count_107 : decode cX9_count 107 = .ok (.getfield 10, 3) := by decide +kernel
theorem dX9_count_110 : decode cX9_count 110 = .ok (.getfield 76, 3) := by decide +kernel
theorem dX9_count_113 : decode cX9_count 113 = .ok (.ireturn, 1) := by decide +kernel
theorem dX9_count_114 : decode cX9_count 114 = .ok (.aload_n 0, 1) := by decide +kernel
theorem dX9_count_115 : decode cX9_count 115 = .ok (.getfield 69, 3) := by decide +kernel
theorem dX9_count_118 : decode cX9_count 118 = .ok (.getfield 318, 3) := by decide +kernel
theorem dX9_count_121 : decode cX9_count 121 = .ok (.ireturn, 1) := by decide +kernel
theorem dX9_count_122 : decode cX9_count 122 = .ok (.aload_n 0, 1) := by decide +kernel
theorem dX9_count_123 : decode cX9_count 123 = .ok (.invokevirtual 340, 3) := by decide +kernel
theorem dX9_count_126 : decode cX9_count 126 = .ok (.ireturn, 1) := by decide +kernel
theorem dX9_count_127 : decode cX9_count 127 = .ok (.aload_n 0, 1) := by decide +kernel
theorem dX9_count_128 : decode cX9_count 128 = .ok (.invokevirtual 343, 3) := by decide +kernel
theorem dX9_count_131 : decode cX9_count 131 = .ok (.ireturn, 1) := by decide +kernel
theorem dX9_count_132 : decode cX9_count 132 = .ok (.iconst (-1), 1) := by decide +kernel
theorem dX9_count_133 : decode cX9_count 133 = .ok (.ireturn, 1) := by decide +kernel
def f_X9_count (h : Hp) (a0 : Nat) (a1 : Int32) : Option (Int32 × Hp) :=
if a1 = (0 : Int32) then (
gd (okOb h a0 9) <|
vl (gI h a0 4) fun x3 =>
some (x3, h)) else if a1 = (1 : Int32) then (
gd (okOb h a0 9) <|
bnd (f_X9_pagesSet h a0) fun v6 h7 =>
some (v6, h7)) else if a1 = (2 : Int32) then (
gd (okOb h a0 9) <|
vl (gI h a0 7) fun x10 =>
some (x10, h)) else if a1 = (3 : Int32) then (
gd (okOb h a0 9) <|
vl (gI h a0 9) fun x13 =>
some (x13, h)) else if a1 = (4 : Int32) then (
gd (okOb h a0 9) <|
vl (gR h a0 10) fun r16 =>
vl (gR h a0 10) fun r17 =>
un r17 fun b18 =>
gd (okOb h b18 3) <|
vl (gR h b18 1) fun r20 =>
un r20 fun b21 =>
un r16 fun b22 =>
gd (okOb h b22 3) <|
bnd (f_X3_total h b22 b21) fun v24 h25 =>
some (v24, h25)) else if a1 = (5 : Int32) then (
gd (okOb h a0 9) <|
vl (gR h a0 10) fun r28 =>
vl (gR h a0 10) fun r29 =>
un r29 fun b30 =>
gd (okOb h b30 3) <|
vl (gR h b30 2) fun r32 =>
un r32 fun b33 =>
un r28 fun b34 =>
gd (okOb h b34 3) <|
bnd (f_X3_total h b34 b33) fun v36 h37 =>
some (v36, h37)) else if a1 = (6 : Int32) then (
gd (okOb h a0 9) <|
vl (gR h a0 0) fun r40 =>
un r40 fun b41 =>
gd (okOb h b41 8) <|
vl (gI h b41 1) fun x43 =>
some (x43, h)) else if a1 = (7 : Int32) then (
gd (okOb h a0 9) <|
vl (gR h a0 13) fun r46 =>
un r46 fun b47 =>
gd (okOb h b47 4) <|
vl (gI h b47 3) fun x49 =>
some (x49, h)) else if a1 = (8 : Int32) then (
gd (okOb h a0 9) <|
bnd (f_X9_formesImposed h a0) fun v52 h53 =>
some (v52, h53)) else if a1 = (9 : Int32) then (
gd (okOb h a0 9) <|
bnd (f_X9_sortsInPages h a0) fun v56 h57 =>
some (v56, h57)) else (
some ((-1 : Int32), h))
set_option maxHeartbeats 4000000 in
set_option maxRecDepth 100000 in
theorem t_X9_count {X : Cx} {d : Nat} {h : Hp} {a0 : Nat} {a1 : Int32} {v : Int32} {h' : Hp} (hD : 2 ≤ d) (H : f_X9_count h a0 a1 = some (v, h')) : PM X mX9_count d [.ref a0, .int a1] h (some (.int v)) h' := by
  unfold f_X9_count at H
  refine PM.of (loc := [some (.ref a0), some (.int a1)]) (by decide) rfl (Nat.le_of_ble_eq_true rfl) ?_
  refine ev_iload_n dX9_count_0 rfl rfl ?_
  by_cases c1 : a1 = (0 : Int32)
  · rw [if_pos c1] at H
    refine ev_tsIn (tgt := 56) dX9_count_1 (by rw [c1]; decide) (by rw [c1]; decide) (by rw [c1]; rfl) (by decide) ?_
    refine ev_aload_n dX9_count_56 rfl rfl rfl ?_
    replace H := gd_some H
    obtain ⟨g2, H⟩ := H
    replace H := vl_some H
    obtain ⟨x3, ex3, H⟩ := H
    refine ev_getIx dX9_count_57 fgX9_88 rfl (okOb.p g2) ex3 ?_
    exact ev_iretx dX9_count_60 rfl rfl H
  rw [if_neg c1] at H
  by_cases c4 : a1 = (1 : Int32)
  · rw [if_pos c4] at H
    refine ev_tsIn (tgt := 61) dX9_count_1 (by rw [c4]; decide) (by rw [c4]; decide) (by rw [c4]; rfl) (by decide) ?_
    refine ev_aload_n dX9_count_61 rfl rfl rfl ?_
    replace H := gd_some H
    obtain ⟨g5, H⟩ := H
    replace H := bnd_some H
    obtain ⟨v6, h7, eh7, H⟩ := H
    have ph7 := (t_X9_pagesSet (X := X) (d := 1) (by omega) eh7)
    refine ev_callV (as := []) dX9_count_62 ph7 ok_X9_pagesSet (by omega) rfl k4_124 k4_126 ks_22 (ci := 9) (by decide) rfl rfl (okOb.p g5) rfl (Nat.le_of_ble_eq_true rfl) ?_
    exact ev_iretx dX9_count_65 rfl rfl H
  rw [if_neg c4] at H
  by_cases c8 : a1 = (2 : Int32)
  · rw [if_pos c8] at H
    refine ev_tsIn (tgt := 66) dX9_count_1 (by rw [c8]; decide) (by rw [c8]; decide) (by rw [c8]; rfl) (by decide) ?_
    refine ev_aload_n dX9_count_66 rfl rfl rfl ?_
    replace H := gd_some H
    obtain ⟨g9, H⟩ := H
    replace H := vl_some H
    obtain ⟨x10, ex10, H⟩ := H
    refine ev_getIx dX9_count_67 fgX9_165 rfl (okOb.p g9) ex10 ?_
    exact ev_iretx dX9_count_70 rfl rfl H
  rw [if_neg c8] at H
  by_cases c11 : a1 = (3 : Int32)
  · rw [if_pos c11] at H
    refine ev_tsIn (tgt := 71) dX9_count_1 (by rw [c11]; decide) (by rw [c11]; decide) (by rw [c11]; rfl) (by decide) ?_
    refine ev_aload_n dX9_count_71 rfl rfl rfl ?_
    replace H := gd_some H
    obtain ⟨g12, H⟩ := H
    replace H := vl_some H
    obtain ⟨x13, ex13, H⟩ := H
    refine ev_getIx dX9_count_72 fgX9_208 rfl (okOb.p g12) ex13 ?_
    exact ev_iretx dX9_count_75 rfl rfl H
  rw [if_neg c11] at H
  by_cases c14 : a1 = (4 : Int32)
  · rw [if_pos c14] at H
    refine ev_tsIn (tgt := 76) dX9_count_1 (by rw [c14]; decide) (by rw [c14]; decide) (by rw [c14]; rfl) (by decide) ?_
    refine ev_aload_n dX9_count_76 rfl rfl rfl ?_
    replace H := gd_some H
    obtain ⟨g15, H⟩ := H
    replace H := vl_some H
    obtain ⟨r16, er16, H⟩ := H
    refine ev_getRx dX9_count_77 fgX9_48 rfl (okOb.p g15) er16 ?_
    refine ev_aload_n dX9_count_80 rfl rfl rfl ?_
    replace H := vl_some H
    obtain ⟨r17, er17, H⟩ := H
    refine ev_getRx dX9_count_81 fgX9_48 rfl (okOb.p g15) er17 ?_
    replace H := un_some H
    obtain ⟨b18, eb18, H⟩ := H
    subst eb18
    replace H := gd_some H
    obtain ⟨g19, H⟩ := H
    replace H := vl_some H
    obtain ⟨r20, er20, H⟩ := H
    refine ev_getRx dX9_count_84 fgX9_228 rfl (okOb.p g19) er20 ?_
    replace H := un_some H
    obtain ⟨b21, eb21, H⟩ := H
    subst eb21
    replace H := un_some H
    obtain ⟨b22, eb22, H⟩ := H
    subst eb22
    replace H := gd_some H
    obtain ⟨g23, H⟩ := H
    replace H := bnd_some H
    obtain ⟨v24, h25, eh25, H⟩ := H
    have ph25 := (t_X3_total (X := X) (d := 1) (by omega) eh25)
    refine ev_callV (as := [.ref b21]) dX9_count_87 ph25 ok_X3_total (by omega) rfl k4_128 k4_129 k4_130 (ci := 3) (by decide) rfl rfl (okOb.p g23) rfl (Nat.le_of_ble_eq_true rfl) ?_
    exact ev_iretx dX9_count_90 rfl rfl H
  rw [if_neg c14] at H
  by_cases c26 : a1 = (5 : Int32)
  · rw [if_pos c26] at H
    refine ev_tsIn (tgt := 91) dX9_count_1 (by rw [c26]; decide) (by rw [c26]; decide) (by rw [c26]; rfl) (by decide) ?_
    refine ev_aload_n dX9_count_91 rfl rfl rfl ?_
    replace H := gd_some H
    obtain ⟨g27, H⟩ := H
    replace H := vl_some H
    obtain ⟨r28, er28, H⟩ := H
    refine ev_getRx dX9_count_92 fgX9_48 rfl (okOb.p g27) er28 ?_
    refine ev_aload_n dX9_count_95 rfl rfl rfl ?_
    replace H := vl_some H
    obtain ⟨r29, er29, H⟩ := H
    refine ev_getRx dX9_count_96 fgX9_48 rfl (okOb.p g27) er29 ?_
    replace H := un_some H
    obtain ⟨b30, eb30, H⟩ := H
    subst eb30
    replace H := gd_some H
    obtain ⟨g31, H⟩ := H
    replace H := vl_some H
    obtain ⟨r32, er32, H⟩ := H
    refine ev_getRx dX9_count_99 fgX9_266 rfl (okOb.p g31) er32 ?_
    replace H := un_some H
    obtain ⟨b33, eb33, H⟩ := H
    subst eb33
    replace H := un_some H
    obtain ⟨b34, eb34, H⟩ := H
    subst eb34
    replace H := gd_some H
    obtain ⟨g35, H⟩ := H
    replace H := bnd_some H
    obtain ⟨v36, h37, eh37, H⟩ := H
    have ph37 := (t_X3_total (X := X) (d := 1) (by omega) eh37)
    refine ev_callV (as := [.ref b33]) dX9_count_102 ph37 ok_X3_total (by omega) rfl k4_128 k4_129 k4_130 (ci := 3) (by decide) rfl rfl (okOb.p g35) rfl (Nat.le_of_ble_eq_true rfl) ?_
    exact ev_iretx dX9_count_105 rfl rfl H
  rw [if_neg c26] at H
  by_cases c38 : a1 = (6 : Int32)
  · rw [if_pos c38] at H
    refine ev_tsIn (tgt := 106) dX9_count_1 (by rw [c38]; decide) (by rw [c38]; decide) (by rw [c38]; rfl) (by decide) ?_
    refine ev_aload_n dX9_count_106 rfl rfl rfl ?_
    replace H := gd_some H
    obtain ⟨g39, H⟩ := H
    replace H := vl_some H
    obtain ⟨r40, er40, H⟩ := H
    refine ev_getRx dX9_count_107 fgX9_10 rfl (okOb.p g39) er40 ?_
    replace H := un_some H
    obtain ⟨b41, eb41, H⟩ := H
    subst eb41
    replace H := gd_some H
    obtain ⟨g42, H⟩ := H
    replace H := vl_some H
    obtain ⟨x43, ex43, H⟩ := H
    refine ev_getIx dX9_count_110 fgX9_76 rfl (okOb.p g42) ex43 ?_
    exact ev_iretx dX9_count_113 rfl rfl H
  rw [if_neg c38] at H
  by_cases c44 : a1 = (7 : Int32)
  · rw [if_pos c44] at H
    refine ev_tsIn (tgt := 114) dX9_count_1 (by rw [c44]; decide) (by rw [c44]; decide) (by rw [c44]; rfl) (by decide) ?_
    refine ev_aload_n dX9_count_114 rfl rfl rfl ?_
    replace H := gd_some H
    obtain ⟨g45, H⟩ := H
    replace H := vl_some H
    obtain ⟨r46, er46, H⟩ := H
    refine ev_getRx dX9_count_115 fgX9_69 rfl (okOb.p g45) er46 ?_
    replace H := un_some H
    obtain ⟨b47, eb47, H⟩ := H
    subst eb47
    replace H := gd_some H
    obtain ⟨g48, H⟩ := H
    replace H := vl_some H
    obtain ⟨x49, ex49, H⟩ := H
    refine ev_getIx dX9_count_118 fgX9_318 rfl (okOb.p g48) ex49 ?_
    exact ev_iretx dX9_count_121 rfl rfl H
  rw [if_neg c44] at H
  by_cases c50 : a1 = (8 : Int32)
  · rw [if_pos c50] at H
    refine ev_tsIn (tgt := 122) dX9_count_1 (by rw [c50]; decide) (by rw [c50]; decide) (by rw [c50]; rfl) (by decide) ?_
    refine ev_aload_n dX9_count_122 rfl rfl rfl ?_
    replace H := gd_some H
    obtain ⟨g51, H⟩ := H
    replace H := bnd_some H
    obtain ⟨v52, h53, eh53, H⟩ := H
    have ph53 := (t_X9_formesImposed (X := X) (d := 1) (by omega) eh53)
    refine ev_callV (as := []) dX9_count_123 ph53 ok_X9_formesImposed (by omega) rfl k4_132 k4_134 ks_23 (ci := 9) (by decide) rfl rfl (okOb.p g51) rfl (Nat.le_of_ble_eq_true rfl) ?_
    exact ev_iretx dX9_count_126 rfl rfl H
  rw [if_neg c50] at H
  by_cases c54 : a1 = (9 : Int32)
  · rw [if_pos c54] at H
    refine ev_tsIn (tgt := 127) dX9_count_1 (by rw [c54]; decide) (by rw [c54]; decide) (by rw [c54]; rfl) (by decide) ?_
    refine ev_aload_n dX9_count_127 rfl rfl rfl ?_
    replace H := gd_some H
    obtain ⟨g55, H⟩ := H
    replace H := bnd_some H
    obtain ⟨v56, h57, eh57, H⟩ := H
    have ph57 := (t_X9_sortsInPages (X := X) (d := 1) (by omega) eh57)
    refine ev_callV (as := []) dX9_count_128 ph57 ok_X9_sortsInPages (by omega) rfl k4_136 k4_138 ks_24 (ci := 9) (by decide) rfl rfl (okOb.p g55) rfl (Nat.le_of_ble_eq_true rfl) ?_
    exact ev_iretx dX9_count_131 rfl rfl H
  rw [if_neg c54] at H
  refine ev_tsOut (tgt := 132) dX9_count_1 (ts_out (n := 10) (by decide) (by decide) (fun j hj => ?_)) (by decide) ?_
  · match j, hj with
    | 0, _ => exact fun q => c1 (by rw [q]; decide)
    | 1, _ => exact fun q => c4 (by rw [q]; decide)
    | 2, _ => exact fun q => c8 (by rw [q]; decide)
    | 3, _ => exact fun q => c11 (by rw [q]; decide)
    | 4, _ => exact fun q => c14 (by rw [q]; decide)
    | 5, _ => exact fun q => c26 (by rw [q]; decide)
    | 6, _ => exact fun q => c38 (by rw [q]; decide)
    | 7, _ => exact fun q => c44 (by rw [q]; decide)
    | 8, _ => exact fun q => c50 (by rw [q]; decide)
    | 9, _ => exact fun q => c54 (by rw [q]; decide)
  refine ev_iconst (v := (-1 : Int32)) dX9_count_132 (by decide) ?_
  exact ev_iretx dX9_count_133 rfl rfl H
