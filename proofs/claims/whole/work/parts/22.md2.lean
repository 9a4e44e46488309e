theorem dX10_faultsOf_0 : decode cX10_faultsOf 0 = .ok (.iconst 0, 1) := by decide +kernel
theorem dX10_faultsOf_1 : decode cX10_faultsOf 1 = .ok (.istore_n 2, 1) := by decide +kernel
theorem dX10_faultsOf_2 : decode cX10_faultsOf 2 = .ok (.iconst 0, 1) := by decide +kernel
theorem dX10_faultsOf_3 : decode cX10_faultsOf 3 = .ok (.istore_n 3, 1) := by decide +kernel
theorem dX10_faultsOf_4 : decode cX10_faultsOf 4 = .ok (.iload_n 3, 1) := by decide +kernel
theorem dX10_faultsOf_5 : decode cX10_faultsOf 5 = .ok (.aload_n 0, 1) := by decide +kernel
theorem dX10_faultsOf_6 : decode cX10_faultsOf 6 = .ok (.getfield 16, 3) := by decide +kernel
theorem dX10_faultsOf_9 : decode cX10_faultsOf 9 = .ok (.iload_n 1, 1) := by decide +kernel
theorem dX10_faultsOf_10 : decode cX10_faultsOf 10 = .ok (.iaload, 1) := by decide +kernel
theorem dX10_faultsOf_11 : decode cX10_faultsOf 11 = .ok (.if_icmp .ge 42, 3) := by decide +kernel
theorem dX10_faultsOf_14 : decode cX10_faultsOf 14 = .ok (.iload_n 2, 1) := by decide +kernel
theorem dX10_faultsOf_15 : decode cX10_faultsOf 15 = .ok (.aload_n 0, 1) := by decide +kernel
theorem dX10_faultsOf_16 : decode cX10_faultsOf 16 = .ok (.getfield 22, 3) := by decide +kernel
theorem dX10_faultsOf_19 : decode cX10_faultsOf 19 = .ok (.bipush 120, 2) := by decide +kernel
theorem dX10_faultsOf_21 : decode cX10_faultsOf 21 = .ok (.iload_n 1, 1) := by decide +kernel
theorem dX10_faultsOf_22 : decode cX10_faultsOf 22 = .ok (.imul, 1) := by decide +kernel
theorem dX10_faultsOf_23 : decode cX10_faultsOf 23 = .ok (.iload_n 3, 1) := by decide +kernel
theorem dX10_faultsOf_24 : decode cX10_faultsOf 24 = .ok (.iadd, 1) := by decide +kernel
theorem dX10_faultsOf_25 : decode cX10_faultsOf 25 = .ok (.iaload, 1) := by decide +kernel
theorem dX10_faultsOf_26 : decode cX10_faultsOf 26 = .ok (.aload_n 0, 1) := by decide +kernel
theorem dX10_faultsOf_27 : decode cX10_faultsOf 27 = .ok (.getfield 19, 3) := by decide +kernel
theorem dX10_faultsOf_30 : decode cX10_faultsOf 30 = .ok (.bipush 120, 2) := by decide +kernel
theorem dX10_faultsOf_32 : decode cX10_faultsOf 32 = .ok (.iload_n 1, 1) := by decide +kernel
theorem dX10_faultsOf_33 : decode cX10_faultsOf 33 = .ok (.imul, 1) := by decide +kernel
theorem dX10_faultsOf_34 : decode cX10_faultsOf 34 = .ok (.iload_n 3, 1) := by decide +kernel
theorem dX10_faultsOf_35 : decode cX10_faultsOf 35 = .ok (.iadd, 1) := by decide +kernel
theorem dX10_faultsOf_36 : decode cX10_faultsOf 36 = .ok (.iaload, 1) := by decide +kernel
theorem dX10_faultsOf_37 : decode cX10_faultsOf 37 = .ok (.if_icmp .eq 7, 3) := by decide +kernel
theorem dX10_faultsOf_40 : decode cX10_faultsOf 40 = .ok (.iconst 1, 1) := by decide +kernel
theorem dX10_faultsOf_41 : decode cX10_faultsOf 41 = .ok (.goto 4, 3) := by decide +kernel
theorem dX10_faultsOf_44 : decode cX10_faultsOf 44 = .ok (.iconst 0, 1) := by decide +kernel
theorem dX10_faultsOf_45 : decode cX10_faultsOf 45 = .ok (.iadd, 1) := by decide +kernel
theorem dX10_faultsOf_46 : decode cX10_faultsOf 46 = .ok (.istore_n 2, 1) := by decide +kernel
theorem dX10_faultsOf_47 : decode cX10_faultsOf 47 = .ok (.iinc 3 1, 3) := by decide +kernel
theorem dX10_faultsOf_50 : decode cX10_faultsOf 50 = .ok (.goto (-46), 3) := by decide +kernel
theorem dX10_faultsOf_53 : decode cX10_faultsOf 53 = .ok (.iload_n 2, 1) := by decide +kernel
theorem dX10_faultsOf_54 : decode cX10_faultsOf 54 = .ok (.ireturn, 1) := by decide +kernel
def f_X10_faultsOf_L4 : Nat → Nat → Int32 → Int32 → Int32 → Hp → Option (Int32 × Hp)
  | 0, _, _, _, _, _ => none
  | n + 1, l0, l1, l2, l3, h =>
    gd (okOb h l0 10) <|
    vl (gR h l0 3) fun r2 =>
    un r2 fun b3 =>
    gd (okAb h b3 11 l1) <|
    vl (gI h b3 l1.toNatClampNeg) fun x5 =>
    if x5 ≤ l3 then (
    some (l2, h)) else (
    vl (gR h l0 5) fun r7 =>
    un r7 fun b8 =>
    gd (okAb h b8 11 (((120 : Int32) * l1) + l3)) <|
    vl (gI h b8 (((120 : Int32) * l1) + l3).toNatClampNeg) fun x10 =>
    vl (gR h l0 4) fun r11 =>
    un r11 fun b12 =>
    gd (okAb h b12 11 (((120 : Int32) * l1) + l3)) <|
    vl (gI h b12 (((120 : Int32) * l1) + l3).toNatClampNeg) fun x14 =>
    if x10 = x14 then (
    vl (l2 + (0 : Int32)) fun x16 =>
    vl (l3 + (1 : Int32)) fun x17 =>
    f_X10_faultsOf_L4 n l0 l1 x16 x17 h) else (
    vl (l2 + (1 : Int32)) fun x18 =>
    vl (l3 + (1 : Int32)) fun x19 =>
    f_X10_faultsOf_L4 n l0 l1 x18 x19 h))
set_option maxHeartbeats 4000000 in
set_option maxRecDepth 100000 in
theorem t_X10_faultsOf_L4 {X : Cx} {d : Nat} {h0 h' : Hp} {v : Int32} (hD : 1 ≤ d) : ∀ (n : Nat) (l0 : Nat) (l1 : Int32) (l2 : Int32) (l3 : Int32) (h : Hp), f_X10_faultsOf_L4 n l0 l1 l2 l3 h = some (v, h') → EV X mX10_faultsOf d h0 (some (.int v)) h' 4 [some (.ref l0), some (.int l1), some (.int l2), some (.int l3)] [] h := by
  intro n
  induction n with
  | zero => intro l0 l1 l2 l3 h H; simp [f_X10_faultsOf_L4] at H
  | succ n ih =>
    intro l0 l1 l2 l3 h H
    rw [f_X10_faultsOf_L4] at H
    refine ev_iload_n dX10_faultsOf_4 rfl rfl ?_
    refine ev_aload_n dX10_faultsOf_5 rfl rfl rfl ?_
    replace H := gd_some H
    obtain ⟨g1, H⟩ := H
    replace H := vl_some H
    obtain ⟨r2, er2, H⟩ := H
    refine ev_getRx dX10_faultsOf_6 fgX10_16 rfl (okOb.p g1) er2 ?_
    refine ev_iload_n dX10_faultsOf_9 rfl rfl ?_
    replace H := un_some H
    obtain ⟨b3, eb3, H⟩ := H
    subst eb3
    replace H := gd_some H
    obtain ⟨g4, H⟩ := H
    replace H := vl_some H
    obtain ⟨x5, ex5, H⟩ := H
    refine ev_ialdx dX10_faultsOf_10 (okAb.p g4) ex5 ?_
    refine ev_icmp_ge (tgt := 53) dX10_faultsOf_11 (by decide) (fun c6 => ?_) (fun c6 => ?_)
    · rw [if_pos c6] at H
      refine ev_iload_n dX10_faultsOf_53 rfl rfl ?_
      exact ev_iretx dX10_faultsOf_54 rfl rfl H
    · rw [if_neg c6] at H
      refine ev_iload_n dX10_faultsOf_14 rfl rfl ?_
      refine ev_aload_n dX10_faultsOf_15 rfl rfl rfl ?_
      replace H := vl_some H
      obtain ⟨r7, er7, H⟩ := H
      refine ev_getRx dX10_faultsOf_16 fgX10_22 rfl (okOb.p g1) er7 ?_
      refine ev_bipush (v := (120 : Int32)) dX10_faultsOf_19 (by decide) ?_
      refine ev_iload_n dX10_faultsOf_21 rfl rfl ?_
      refine ev_imul dX10_faultsOf_22 ?_
      refine ev_iload_n dX10_faultsOf_23 rfl rfl ?_
      refine ev_iadd dX10_faultsOf_24 ?_
      replace H := un_some H
      obtain ⟨b8, eb8, H⟩ := H
      subst eb8
      replace H := gd_some H
      obtain ⟨g9, H⟩ := H
      replace H := vl_some H
      obtain ⟨x10, ex10, H⟩ := H
      refine ev_ialdx dX10_faultsOf_25 (okAb.p g9) ex10 ?_
      refine ev_aload_n dX10_faultsOf_26 rfl rfl rfl ?_
      replace H := vl_some H
      obtain ⟨r11, er11, H⟩ := H
      refine ev_getRx dX10_faultsOf_27 fgX10_19 rfl (okOb.p g1) er11 ?_
      refine ev_bipush (v := (120 : Int32)) dX10_faultsOf_30 (by decide) ?_
      refine ev_iload_n dX10_faultsOf_32 rfl rfl ?_
      refine ev_imul dX10_faultsOf_33 ?_
      refine ev_iload_n dX10_faultsOf_34 rfl rfl ?_
      refine ev_iadd dX10_faultsOf_35 ?_
      replace H := un_some H
      obtain ⟨b12, eb12, H⟩ := H
      subst eb12
      replace H := gd_some H
      obtain ⟨g13, H⟩ := H
      replace H := vl_some H
      obtain ⟨x14, ex14, H⟩ := H
      refine ev_ialdx dX10_faultsOf_36 (okAb.p g13) ex14 ?_
      refine ev_icmp_eq (tgt := 44) dX10_faultsOf_37 (by decide) (fun c15 => ?_) (fun c15 => ?_)
      · rw [if_pos c15] at H
        refine ev_iconst (v := (0 : Int32)) dX10_faultsOf_44 (by decide) ?_
        refine ev_iadd dX10_faultsOf_45 ?_
        replace H := vl_some H
        obtain ⟨x16, ex16, H⟩ := H
        refine ev_istore_nx (loc2 := [some (.ref l0), some (.int l1), some (.int x16), some (.int l3)]) dX10_faultsOf_46 rfl (by decide) ex16 rfl ?_
        replace H := vl_some H
        obtain ⟨x17, ex17, H⟩ := H
        refine ev_iincx (loc2 := [some (.ref l0), some (.int l1), some (.int x16), some (.int x17)]) dX10_faultsOf_47 rfl (by decide) ex17 (by decide) rfl ?_
        refine ev_goto (tgt := 4) dX10_faultsOf_50 (by decide) ?_
        exact ih l0 l1 x16 x17 h H
      · rw [if_neg c15] at H
        refine ev_iconst (v := (1 : Int32)) dX10_faultsOf_40 (by decide) ?_
        refine ev_goto (tgt := 45) dX10_faultsOf_41 (by decide) ?_
        refine ev_iadd dX10_faultsOf_45 ?_
        replace H := vl_some H
        obtain ⟨x18, ex18, H⟩ := H
        refine ev_istore_nx (loc2 := [some (.ref l0), some (.int l1), some (.int x18), some (.int l3)]) dX10_faultsOf_46 rfl (by decide) ex18 rfl ?_
        replace H := vl_some H
        obtain ⟨x19, ex19, H⟩ := H
        refine ev_iincx (loc2 := [some (.ref l0), some (.int l1), some (.int x18), some (.int x19)]) dX10_faultsOf_47 rfl (by decide) ex19 (by decide) rfl ?_
        refine ev_goto (tgt := 4) dX10_faultsOf_50 (by decide) ?_
        exact ih l0 l1 x18 x19 h H
def f_X10_faultsOf (h : Hp) (a0 : Nat) (a1 : Int32) : Option (Int32 × Hp) :=
f_X10_faultsOf_L4 6000 a0 a1 (0 : Int32) (0 : Int32) h
set_option maxHeartbeats 4000000 in
set_option maxRecDepth 100000 in
theorem t_X10_faultsOf {X : Cx} {d : Nat} {h : Hp} {a0 : Nat} {a1 : Int32} {v : Int32} {h' : Hp} (hD : 1 ≤ d) (H : f_X10_faultsOf h a0 a1 = some (v, h')) : PM X mX10_faultsOf d [.ref a0, .int a1] h (some (.int v)) h' := by
  unfold f_X10_faultsOf at H
  refine PM.of (loc := [some (.ref a0), some (.int a1), none, none]) (by decide) rfl (Nat.le_of_ble_eq_true rfl) ?_
  refine ev_iconst (v := (0 : Int32)) dX10_faultsOf_0 (by decide) ?_
  refine ev_istore_n (loc2 := [some (.ref a0), some (.int a1), some (.int (0 : Int32)), none]) dX10_faultsOf_1 rfl (by decide) rfl ?_
  refine ev_iconst (v := (0 : Int32)) dX10_faultsOf_2 (by decide) ?_
  refine ev_istore_n (loc2 := [some (.ref a0), some (.int a1), some (.int (0 : Int32)), some (.int (0 : Int32))]) dX10_faultsOf_3 rfl (by decide) rfl ?_
  refine t_X10_faultsOf_L4 hD  6000 a0 a1 (0 : Int32) (0 : Int32) h H

theorem dX10_faults_0 : decode cX10_faults 0 = .ok (.aload_n 0, 1) := by decide +kernel
theorem dX10_faults_1 : decode cX10_faults 1 = .ok (.iload_n 1, 1) := by decide +kernel
theorem dX10_faults_2 : decode cX10_faults 2 = .ok (.invokevirtual 145, 3) := by decide +kernel
theorem dX10_faults_5 : decode cX10_faults 5 = .ok (.ifCond .ne 5, 3) := by decide +kernel
theorem dX10_faults_8 : decode cX10_faults 8 = .ok (.iconst (-1), 1) := by decide +kernel
theorem dX10_faults_9 : decode cX10_faults 9 = .ok (.ireturn, 1) := by decide +kernel
theorem dX10_faults_10 : decode cX10_faults 10 = .ok (.aload_n 0, 1) := by decide +kernel
theorem dX10_faults_11 : decode cX10_faults 11 = .ok (.getfield 28, 3) := by decide +kernel
theorem dX10_faults_14 : decode cX10_faults 14 = .ok (.iload_n 1, 1) := by decide +kernel
theorem dX10_faults_15 : decode cX10_faults 15 = .ok (.iaload, 1) := by decide +kernel
theorem dX10_faults_16 : decode cX10_faults 16 = .ok (.ifCond .ge 8, 3) := by decide +kernel
theorem dX10_faults_19 : decode cX10_faults 19 = .ok (.bipush (-3), 2) := by decide +kernel
theorem dX10_faults_21 : decode cX10_faults 21 = .ok (.goto 8, 3) := by decide +kernel
theorem dX10_faults_24 : decode cX10_faults 24 = .ok (.aload_n 0, 1) := by decide +kernel
theorem dX10_faults_25 : decode cX10_faults 25 = .ok (.iload_n 1, 1) := by decide +kernel
theorem dX10_faults_26 : decode cX10_faults 26 = .ok (.invokevirtual 179, 3) := by decide +kernel
theorem dX10_faults_29 : decode cX10_faults 29 = .ok (.ireturn, 1) := by decide +kernel
def f_X10_faults (h : Hp) (a0 : Nat) (a1 : Int32) : Option (Int32 × Hp) :=
gd (okOb h a0 10) <|
bnd (f_X10_isPage h a0 a1) fun v2 h3 =>
if v2 = 0 then (
some ((-1 : Int32), h3)) else (
vl (gR h3 a0 7) fun r5 =>
un r5 fun b6 =>
gd (okAb h3 b6 11 a1) <|
vl (gI h3 b6 a1.toNatClampNeg) fun x8 =>
if 0 ≤ x8 then (
bnd (f_X10_faultsOf h3 a0 a1) fun v10 h11 =>
some (v10, h11)) else (
some ((-3 : Int32), h3)))
set_option maxHeartbeats 4000000 in
set_option maxRecDepth 100000 in
theorem t_X10_faults {X : Cx} {d : Nat} {h : Hp} {a0 : Nat} {a1 : Int32} {v : Int32} {h' : Hp} (hD : 2 ≤ d) (H : f_X10_faults h a0 a1 = some (v, h')) : PM X mX10_faults d [.ref a0, .int a1] h (some (.int v)) h' := by
  unfold f_X10_faults at H
  refine PM.of (loc := [some (.ref a0), some (.int a1)]) (by decide) rfl (Nat.le_of_ble_eq_true rfl) ?_
  refine ev_aload_n dX10_faults_0 rfl rfl rfl ?_
  refine ev_iload_n dX10_faults_1 rfl rfl ?_
  replace H := gd_some H
  obtain ⟨g1, H⟩ := H
  replace H := bnd_some H
  obtain ⟨v2, h3, eh3, H⟩ := H
  have ph3 := (t_X10_isPage (X := X) (d := 1) (by omega) eh3)
  refine ev_callV (as := [.int a1]) dX10_faults_2 ph3 ok_X10_isPage (by omega) rfl k5_115 k5_117 ks_27 (ci := 10) (by decide) rfl rfl (okOb.p g1) rfl (Nat.le_of_ble_eq_true rfl) ?_
  refine ev_if_ne (tgt := 10) dX10_faults_5 (by decide) (fun c4 => ?_) (fun c4 => ?_)
  · rw [if_neg c4] at H
    refine ev_aload_n dX10_faults_10 rfl rfl rfl ?_
    replace H := vl_some H
    obtain ⟨r5, er5, H⟩ := H
    refine ev_getRx dX10_faults_11 fgX10_28 rfl (okO_ext ph3.1 (okOb.p g1)) er5 ?_
    refine ev_iload_n dX10_faults_14 rfl rfl ?_
    replace H := un_some H
    obtain ⟨b6, eb6, H⟩ := H
    subst eb6
    replace H := gd_some H
    obtain ⟨g7, H⟩ := H
    replace H := vl_some H
    obtain ⟨x8, ex8, H⟩ := H
    refine ev_ialdx dX10_faults_15 (okAb.p g7) ex8 ?_
    refine ev_if_ge (tgt := 24) dX10_faults_16 (by decide) (fun c9 => ?_) (fun c9 => ?_)
    · rw [if_pos c9] at H
      refine ev_aload_n dX10_faults_24 rfl rfl rfl ?_
      refine ev_iload_n dX10_faults_25 rfl rfl ?_
      replace H := bnd_some H
      obtain ⟨v10, h11, eh11, H⟩ := H
      have ph11 := (t_X10_faultsOf (X := X) (d := 1) (by omega) eh11)
      refine ev_callV (as := [.int a1]) dX10_faults_26 ph11 ok_X10_faultsOf (by omega) rfl k5_146 k5_148 ks_30 (ci := 10) (by decide) rfl rfl (okO_ext ph3.1 (okOb.p g1)) rfl (Nat.le_of_ble_eq_true rfl) ?_
      exact ev_iretx dX10_faults_29 rfl rfl H
    · rw [if_neg c9] at H
      refine ev_bipush (v := (-3 : Int32)) dX10_faults_19 (by decide) ?_
      refine ev_goto (tgt := 29) dX10_faults_21 (by decide) ?_
      exact ev_iretx dX10_faults_29 rfl rfl H
  · rw [if_pos c4] at H
    refine ev_iconst (v := (-1 : Int32)) dX10_faults_8 (by decide) ?_
    exact ev_iretx dX10_faults_9 rfl rfl H

theorem dX10_fault_0 : decode cX10_fault 0 = .ok (.aload_n 0, 1) := by decide +kernel
theorem dX10_fault_1 : decode cX10_fault 1 = .ok (.iload_n 1, 1) := by decide +kernel
theorem dX10_fault_2 : decode cX10_fault 2 = .ok (.invokevirtual 145, 3) := by decide +kernel
theorem dX10_fault_5 : decode cX10_fault 5 = .ok (.ifCond .ne 5, 3) := by decide +kernel
theorem dX10_fault_8 : decode cX10_fault 8 = .ok (.iconst (-1), 1) := by decide +kernel
theorem dX10_fault_9 : decode cX10_fault 9 = .ok (.ireturn, 1) := by decide +kernel
theorem dX10_fault_10 : decode cX10_fault 10 = .ok (.aload_n 0, 1) := by decide +kernel
theorem dX10_fault_11 : decode cX10_fault 11 = .ok (.getfield 28, 3) := by decide +kernel
theorem dX10_fault_14 : decode cX10_fault 14 = .ok (.iload_n 1, 1) := by decide +kernel
theorem dX10_fault_15 : decode cX10_fault 15 = .ok (.iaload, 1) := by decide +kernel
theorem dX10_fault_16 : decode cX10_fault 16 = .ok (.ifCond .ge 6, 3) := by decide +kernel
theorem dX10_fault_19 : decode cX10_fault 19 = .ok (.bipush (-3), 2) := by decide +kernel
theorem dX10_fault_21 : decode cX10_fault 21 = .ok (.ireturn, 1) := by decide +kernel
theorem dX10_fault_22 : decode cX10_fault 22 = .ok (.iload_n 2, 1) := by decide +kernel
theorem dX10_fault_23 : decode cX10_fault 23 = .ok (.istore_n 3, 1) := by decide +kernel
theorem dX10_fault_24 : decode cX10_fault 24 = .ok (.iconst 0, 1) := by decide +kernel
theorem dX10_fault_25 : decode cX10_fault 25 = .ok (.istore 4, 2) := by decide +kernel
theorem dX10_fault_27 : decode cX10_fault 27 = .ok (.iload 4, 2) := by decide +kernel
theorem dX10_fault_29 : decode cX10_fault 29 = .ok (.aload_n 0, 1) := by decide +kernel
theorem dX10_fault_30 : decode cX10_fault 30 = .ok (.getfield 16, 3) := by decide +kernel
theorem dX10_fault_33 : decode cX10_fault 33 = .ok (.iload_n 1, 1) := by decide +kernel
theorem dX10_fault_34 : decode cX10_fault 34 = .ok (.iaload, 1) := by decide +kernel
theorem dX10_fault_35 : decode cX10_fault 35 = .ok (.if_icmp .ge 53, 3) := by decide +kernel
theorem dX10_fault_38 : decode cX10_fault 38 = .ok (.iload_n 2, 1) := by decide +kernel
theorem dX10_fault_39 : decode cX10_fault 39 = .ok (.ifCond .lt 49, 3) := by decide +kernel
theorem dX10_fault_42 : decode cX10_fault 42 = .ok (.aload_n 0, 1) := by decide +kernel
theorem dX10_fault_43 : decode cX10_fault 43 = .ok (.getfield 22, 3) := by decide +kernel
theorem dX10_fault_46 : decode cX10_fault 46 = .ok (.bipush 120, 2) := by decide +kernel
theorem dX10_fault_48 : decode cX10_fault 48 = .ok (.iload_n 1, 1) := by decide +kernel
theorem dX10_fault_49 : decode cX10_fault 49 = .ok (.imul, 1) := by decide +kernel
theorem dX10_fault_50 : decode cX10_fault 50 = .ok (.iload 4, 2) := by decide +kernel
theorem dX10_fault_52 : decode cX10_fault 52 = .ok (.iadd, 1) := by decide +kernel
theorem dX10_fault_53 : decode cX10_fault 53 = .ok (.iaload, 1) := by decide +kernel
theorem dX10_fault_54 : decode cX10_fault 54 = .ok (.aload_n 0, 1) := by decide +kernel
theorem dX10_fault_55 : decode cX10_fault 55 = .ok (.getfield 19, 3) := by decide +kernel
theorem dX10_fault_58 : decode cX10_fault 58 = .ok (.bipush 120, 2) := by decide +kernel
theorem dX10_fault_60 : decode cX10_fault 60 = .ok (.iload_n 1, 1) := by decide +kernel
theorem dX10_fault_61 : decode cX10_fault 61 = .ok (.imul, 1) := by decide +kernel
theorem dX10_fault_62 : decode cX10_fault 62 = .ok (.iload 4, 2) := by decide +kernel
theorem dX10_fault_64 : decode cX10_fault 64 = .ok (.iadd, 1) := by decide +kernel
theorem dX10_fault_65 : decode cX10_fault 65 = .ok (.iaload, 1) := by decide +kernel
theorem dX10_fault_66 : decode cX10_fault 66 = .ok (.if_icmp .ne 6, 3) := by decide +kernel
theorem dX10_fault_69 : decode cX10_fault 69 = .ok (.goto 13, 3) := by decide +kernel
theorem dX10_fault_72 : decode cX10_fault 72 = .ok (.iload_n 3, 1) := by decide +kernel
theorem dX10_fault_73 : decode cX10_fault 73 = .ok (.ifCond .ne 6, 3) := by decide +kernel
theorem dX10_fault_76 : decode cX10_fault 76 = .ok (.iload 4, 2) := by decide +kernel
theorem dX10_fault_78 : decode cX10_fault 78 = .ok (.ireturn, 1) := by decide +kernel
theorem dX10_fault_79 : decode cX10_fault 79 = .ok (.iinc 3 (-1), 3) := by decide +kernel
theorem dX10_fault_82 : decode cX10_fault 82 = .ok (.iinc 4 1, 3) := by decide +kernel
theorem dX10_fault_85 : decode cX10_fault 85 = .ok (.goto (-58), 3) := by decide +kernel
theorem dX10_fault_88 : decode cX10_fault 88 = .ok (.iconst (-1), 1) := by decide +kernel
theorem dX10_fault_89 : decode cX10_fault 89 = .ok (.ireturn, 1) := by decide +kernel
def f_X10_fault_L27 : Nat → Nat → Int32 → Int32 → Int32 → Int32 → Hp → Option (Int32 × Hp)
  | 0, _, _, _, _, _, _ => none
  | n + 1, l0, l1, l2, l3, l4, h =>
    gd (okOb h l0 10) <|
    vl (gR h l0 3) fun r11 =>
    un r11 fun b12 =>
    gd (okAb h b12 11 l1) <|
    vl (gI h b12 l1.toNatClampNeg) fun x14 =>
    if x14 ≤ l4 then (
    some ((-1 : Int32), h)) else (
    if l2 < 0 then (
    some ((-1 : Int32), h)) else (
    vl (gR h l0 5) fun r17 =>
    un r17 fun b18 =>
    gd (okAb h b18 11 (((120 : Int32) * l1) + l4)) <|
    vl (gI h b18 (((120 : Int32) * l1) + l4).toNatClampNeg) fun x20 =>
    vl (gR h l0 4) fun r21 =>
    un r21 fun b22 =>
    gd (okAb h b22 11 (((120 : Int32) * l1) + l4)) <|
    vl (gI h b22 (((120 : Int32) * l1) + l4).toNatClampNeg) fun x24 =>
    if x20 = x24 then (
    vl (l4 + (1 : Int32)) fun x29 =>
    f_X10_fault_L27 n l0 l1 l2 l3 x29 h) else (
    if l3 = 0 then (
    some (l4, h)) else (
    vl (l3 + (-1 : Int32)) fun x27 =>
    vl (l4 + (1 : Int32)) fun x28 =>
    f_X10_fault_L27 n l0 l1 l2 x27 x28 h))))
set_option maxHeartbeats 4000000 in
set_option maxRecDepth 100000 in
theorem t_X10_fault_L27 {X : Cx} {d : Nat} {h0 h' : Hp} {v : Int32} (hD : 2 ≤ d) : ∀ (n : Nat) (l0 : Nat) (l1 : Int32) (l2 : Int32) (l3 : Int32) (l4 : Int32) (h : Hp), f_X10_fault_L27 n l0 l1 l2 l3 l4 h = some (v, h') → EV X mX10_fault d h0 (some (.int v)) h' 27 [some (.ref l0), some (.int l1), some (.int l2), some (.int l3), some (.int l4)] [] h := by
  intro n
  induction n with
  | zero => intro l0 l1 l2 l3 l4 h H; simp [f_X10_fault_L27] at H
  | succ n ih =>
    intro l0 l1 l2 l3 l4 h H
    rw [f_X10_fault_L27] at H
    refine ev_iload dX10_fault_27 rfl ?_
    refine ev_aload_n dX10_fault_29 rfl rfl rfl ?_
    replace H := gd_some H
    obtain ⟨g10, H⟩ := H
    replace H := vl_some H
    obtain ⟨r11, er11, H⟩ := H
    refine ev_getRx dX10_fault_30 fgX10_16 rfl (okOb.p g10) er11 ?_
    refine ev_iload_n dX10_fault_33 rfl rfl ?_
    replace H := un_some H
    obtain ⟨b12, eb12, H⟩ := H
    subst eb12
    replace H := gd_some H
    obtain ⟨g13, H⟩ := H
    replace H := vl_some H
    obtain ⟨x14, ex14, H⟩ := H
    refine ev_ialdx dX10_fault_34 (okAb.p g13) ex14 ?_
    refine ev_icmp_ge (tgt := 88) dX10_fault_35 (by decide) (fun c15 => ?_) (fun c15 => ?_)
    · rw [if_pos c15] at H
      refine ev_iconst (v := (-1 : Int32)) dX10_fault_88 (by decide) ?_
      exact ev_iretx dX10_fault_89 rfl rfl H
    · rw [if_neg c15] at H
      refine ev_iload_n dX10_fault_38 rfl rfl ?_
      refine ev_if_lt (tgt := 88) dX10_fault_39 (by decide) (fun c16 => ?_) (fun c16 => ?_)
      · rw [if_pos c16] at H
        refine ev_iconst (v := (-1 : Int32)) dX10_fault_88 (by decide) ?_
        exact ev_iretx dX10_fault_89 rfl rfl H
      · rw [if_neg c16] at H
        refine ev_aload_n dX10_fault_42 rfl rfl rfl ?_
        replace H := vl_some H
        obtain ⟨r17, er17, H⟩ := H
        refine ev_getRx dX10_fault_43 fgX10_22 rfl (okOb.p g10) er17 ?_
        refine ev_bipush (v := (120 : Int32)) dX10_fault_46 (by decide) ?_
        refine ev_iload_n dX10_fault_48 rfl rfl ?_
        refine ev_imul dX10_fault_49 ?_
        refine ev_iload dX10_fault_50 rfl ?_
        refine ev_iadd dX10_fault_52 ?_
        replace H := un_some H
        obtain ⟨b18, eb18, H⟩ := H
        subst eb18
        replace H := gd_some H
        obtain ⟨g19, H⟩ := H
        replace H := vl_some H
        obtain ⟨x20, ex20, H⟩ := H
        refine ev_ialdx dX10_fault_53 (okAb.p g19) ex20 ?_
        refine ev_aload_n dX10_fault_54 rfl rfl rfl ?_
        replace H := vl_some H
        obtain ⟨r21, er21, H⟩ := H
        refine ev_getRx dX10_fault_55 fgX10_19 rfl (okOb.p g10) er21 ?_
        refine ev_bipush (v := (120 : Int32)) dX10_fault_58 (by decide) ?_
        refine ev_iload_n dX10_fault_60 rfl rfl ?_
        refine ev_imul dX10_fault_61 ?_
        refine ev_iload dX10_fault_62 rfl ?_
        refine ev_iadd dX10_fault_64 ?_
        replace H := un_some H
        obtain ⟨b22, eb22, H⟩ := H
        subst eb22
        replace H := gd_some H
        obtain ⟨g23, H⟩ := H
        replace H := vl_some H
        obtain ⟨x24, ex24, H⟩ := H
        refine ev_ialdx dX10_fault_65 (okAb.p g23) ex24 ?_
        refine ev_icmp_ne (tgt := 72) dX10_fault_66 (by decide) (fun c25 => ?_) (fun c25 => ?_)
        · rw [if_neg c25] at H
          refine ev_iload_n dX10_fault_72 rfl rfl ?_
          refine ev_if_ne (tgt := 79) dX10_fault_73 (by decide) (fun c26 => ?_) (fun c26 => ?_)
          · rw [if_neg c26] at H
            replace H := vl_some H
            obtain ⟨x27, ex27, H⟩ := H
            refine ev_iincx (loc2 := [some (.ref l0), some (.int l1), some (.int l2), some (.int x27), some (.int l4)]) dX10_fault_79 rfl (by decide) ex27 (by decide) rfl ?_
            replace H := vl_some H
            obtain ⟨x28, ex28, H⟩ := H
            refine ev_iincx (loc2 := [some (.ref l0), some (.int l1), some (.int l2), some (.int x27), some (.int x28)]) dX10_fault_82 rfl (by decide) ex28 (by decide) rfl ?_
            refine ev_goto (tgt := 27) dX10_fault_85 (by decide) ?_
            exact ih l0 l1 l2 x27 x28 h H
          · rw [if_pos c26] at H
            refine ev_iload dX10_fault_76 rfl ?_
            exact ev_iretx dX10_fault_78 rfl rfl H
        · rw [if_pos c25] at H
          refine ev_goto (tgt := 82) dX10_fault_69 (by decide) ?_
          replace H := vl_some H
          obtain ⟨x29, ex29, H⟩ := H
          refine ev_iincx (loc2 := [some (.ref l0), some (.int l1), some (.int l2), some (.int l3), some (.int x29)]) dX10_fault_82 rfl (by decide) ex29 (by decide) rfl ?_
          refine ev_goto (tgt := 27) dX10_fault_85 (by decide) ?_
          exact ih l0 l1 l2 l3 x29 h H
def f_X10_fault (h : Hp) (a0 : Nat) (a1 : Int32) (a2 : Int32) : Option (Int32 × Hp) :=
gd (okOb h a0 10) <|
bnd (f_X10_isPage h a0 a1) fun v2 h3 =>
if v2 = 0 then (
some ((-1 : Int32), h3)) else (
vl (gR h3 a0 7) fun r5 =>
un r5 fun b6 =>
gd (okAb h3 b6 11 a1) <|
vl (gI h3 b6 a1.toNatClampNeg) fun x8 =>
if 0 ≤ x8 then (
f_X10_fault_L27 6000 a0 a1 a2 a2 (0 : Int32) h3) else (
some ((-3 : Int32), h3)))
set_option maxHeartbeats 4000000 in
set_option maxRecDepth 100000 in
theorem t_X10_fault {X : Cx} {d : Nat} {h : Hp} {a0 : Nat} {a1 : Int32} {a2 : Int32} {v : Int32} {h' : Hp} (hD : 2 ≤ d) (H : f_X10_fault h a0 a1 a2 = some (v, h')) : PM X mX10_fault d [.ref a0, .int a1, .int a2] h (some (.int v)) h' := by
  unfold f_X10_fault at H
  refine PM.of (loc := [some (.ref a0), some (.int a1), some (.int a2), none, none]) (by decide) rfl (Nat.le_of_ble_eq_true rfl) ?_
  refine ev_aload_n dX10_fault_0 rfl rfl rfl ?_
  refine ev_iload_n dX10_fault_1 rfl rfl ?_
  replace H := gd_some H
  obtain ⟨g1, H⟩ := H
  replace H := bnd_some H
  obtain ⟨v2, h3, eh3, H⟩ := H
  have ph3 := (t_X10_isPage (X := X) (d := 1) (by omega) eh3)
  refine ev_callV (as := [.int a1]) dX10_fault_2 ph3 ok_X10_isPage (by omega) rfl k5_115 k5_117 ks_27 (ci := 10) (by decide) rfl rfl (okOb.p g1) rfl (Nat.le_of_ble_eq_true rfl) ?_
  refine ev_if_ne (tgt := 10) dX10_fault_5 (by decide) (fun c4 => ?_) (fun c4 => ?_)
  · rw [if_neg c4] at H
    refine ev_aload_n dX10_fault_10 rfl rfl rfl ?_
    replace H := vl_some H
    obtain ⟨r5, er5, H⟩ := H
    refine ev_getRx dX10_fault_11 fgX10_28 rfl (okO_ext ph3.1 (okOb.p g1)) er5 ?_
    refine ev_iload_n dX10_fault_14 rfl rfl ?_
    replace H := un_some H
    obtain ⟨b6, eb6, H⟩ := H
    subst eb6
    replace H := gd_some H
    obtain ⟨g7, H⟩ := H
    replace H := vl_some H
    obtain ⟨x8, ex8, H⟩ := H
    refine ev_ialdx dX10_fault_15 (okAb.p g7) ex8 ?_
    refine ev_if_ge (tgt := 22) dX10_fault_16 (by decide) (fun c9 => ?_) (fun c9 => ?_)
    · rw [if_pos c9] at H
      refine ev_iload_n dX10_fault_22 rfl rfl ?_
      refine ev_istore_n (loc2 := [some (.ref a0), some (.int a1), some (.int a2), some (.int a2), none]) dX10_fault_23 rfl (by decide) rfl ?_
      refine ev_iconst (v := (0 : Int32)) dX10_fault_24 (by decide) ?_
      refine ev_istore (loc2 := [some (.ref a0), some (.int a1), some (.int a2), some (.int a2), some (.int (0 : Int32))]) dX10_fault_25 (by decide) rfl ?_
      refine t_X10_fault_L27 hD  6000 a0 a1 a2 a2 (0 : Int32) h3 H
    · rw [if_neg c9] at H
      refine ev_bipush (v := (-3 : Int32)) dX10_fault_19 (by decide) ?_
      exact ev_iretx dX10_fault_21 rfl rfl H
  · rw [if_pos c4] at H
    refine ev_iconst (v := (-1 : Int32)) dX10_fault_8 (by decide) ?_
    exact ev_iretx dX10_fault_9 rfl rfl H

theorem dX10_fold_0 : decode cX10_fold 0 = .ok (.iload_n 1, 1) := by decide +kernel
theorem dX10_fold_1 : decode cX10_fold 1 = .ok (.i2l, 1) := by decide +kernel
theorem dX10_fold_2 : decode cX10_fold 2 = .ok (.lconst 1, 1) := by decide +kernel
theorem dX10_fold_3 : decode cX10_fold 3 = .ok (.ldc2_w 195, 3) := by decide +kernel
theorem dX10_fold_6 : decode cX10_fold 6 = .ok (.invokestatic 151, 3) := by decide +kernel
theorem dX10_fold_9 : decode cX10_fold 9 = .ok (.ifCond .ne 6, 3) := by decide +kernel
theorem dX10_fold_12 : decode cX10_fold 12 = .ok (.bipush (-2), 2) := by decide +kernel
theorem dX10_fold_14 : decode cX10_fold 14 = .ok (.ireturn, 1) := by decide +kernel
theorem dX10_fold_15 : decode cX10_fold 15 = .ok (.iload_n 2, 1) := by decide +kernel
theorem dX10_fold_16 : decode cX10_fold 16 = .ok (.i2l, 1) := by decide +kernel
theorem dX10_fold_17 : decode cX10_fold 17 = .ok (.lconst 0, 1) := by decide +kernel
theorem dX10_fold_18 : decode cX10_fold 18 = .ok (.iload_n 1, 1) := by decide +kernel
theorem dX10_fold_19 : decode cX10_fold 19 = .ok (.invokestatic 182, 3) := by decide +kernel
theorem dX10_fold_22 : decode cX10_fold 22 = .ok (.iconst 1, 1) := by decide +kernel
theorem dX10_fold_23 : decode cX10_fold 23 = .ok (.isub, 1) := by decide +kernel
theorem dX10_fold_24 : decode cX10_fold 24 = .ok (.i2l, 1) := by decide +kernel
theorem dX10_fold_25 : decode cX10_fold 25 = .ok (.invokestatic 151, 3) := by decide +kernel
theorem dX10_fold_28 : decode cX10_fold 28 = .ok (.ifCond .eq 41, 3) := by decide +kernel
theorem dX10_fold_31 : decode cX10_fold 31 = .ok (.iload_n 3, 1) := by decide +kernel
theorem dX10_fold_32 : decode cX10_fold 32 = .ok (.i2l, 1) := by decide +kernel
theorem dX10_fold_33 : decode cX10_fold 33 = .ok (.lconst 0, 1) := by decide +kernel
theorem dX10_fold_34 : decode cX10_fold 34 = .ok (.iload_n 1, 1) := by decide +kernel
theorem dX10_fold_35 : decode cX10_fold 35 = .ok (.invokestatic 185, 3) := by decide +kernel
theorem dX10_fold_38 : decode cX10_fold 38 = .ok (.iconst 1, 1) := by decide +kernel
theorem dX10_fold_39 : decode cX10_fold 39 = .ok (.isub, 1) := by decide +kernel
theorem dX10_fold_40 : decode cX10_fold 40 = .ok (.i2l, 1) := by decide +kernel
theorem dX10_fold_41 : decode cX10_fold 41 = .ok (.invokestatic 151, 3) := by decide +kernel
theorem dX10_fold_44 : decode cX10_fold 44 = .ok (.ifCond .eq 25, 3) := by decide +kernel
theorem dX10_fold_47 : decode cX10_fold 47 = .ok (.iload 4, 2) := by decide +kernel
theorem dX10_fold_49 : decode cX10_fold 49 = .ok (.i2l, 1) := by decide +kernel
theorem dX10_fold_50 : decode cX10_fold 50 = .ok (.lconst 0, 1) := by decide +kernel
theorem dX10_fold_51 : decode cX10_fold 51 = .ok (.lconst 1, 1) := by decide +kernel
theorem dX10_fold_52 : decode cX10_fold 52 = .ok (.invokestatic 151, 3) := by decide +kernel
theorem dX10_fold_55 : decode cX10_fold 55 = .ok (.ifCond .eq 14, 3) := by decide +kernel
theorem dX10_fold_58 : decode cX10_fold 58 = .ok (.iload 5, 2) := by decide +kernel
theorem dX10_fold_60 : decode cX10_fold 60 = .ok (.i2l, 1) := by decide +kernel
theorem dX10_fold_61 : decode cX10_fold 61 = .ok (.lconst 0, 1) := by decide +kernel
theorem dX10_fold_62 : decode cX10_fold 62 = .ok (.lconst 1, 1) := by decide +kernel
theorem dX10_fold_63 : decode cX10_fold 63 = .ok (.invokestatic 151, 3) := by decide +kernel
theorem dX10_fold_66 : decode cX10_fold 66 = .ok (.ifCond .ne 5, 3) := by decide +kernel
theorem dX10_fold_69 : decode cX10_fold 69 = .ok (.iconst (-1), 1) := by decide +kernel
theorem dX10_fold_70 : decode cX10_fold 70 = .ok (.ireturn, 1) := by decide +kernel
theorem dX10_fold_71 : decode cX10_fold 71 = .ok (.iload_n 1, 1) := by decide +kernel
theorem dX10_fold_72 : decode cX10_fold 72 = .ok (.invokestatic 182, 3) := by decide +kernel
theorem dX10_fold_75 : decode cX10_fold 75 = .ok (.iload_n 3, 1) := by decide +kernel
theorem dX10_fold_76 : decode cX10_fold 76 = .ok (.imul, 1) := by decide +kernel
theorem dX10_fold_77 : decode cX10_fold 77 = .ok (.iload_n 2, 1) := by decide +kernel
theorem dX10_fold_78 : decode cX10_fold 78 = .ok (.iadd, 1) := by decide +kernel
theorem dX10_fold_79 : decode cX10_fold 79 = .ok (.istore 6, 2) := by decide +kernel
theorem dX10_fold_81 : decode cX10_fold 81 = .ok (.iload 5, 2) := by decide +kernel
theorem dX10_fold_83 : decode cX10_fold 83 = .ok (.ifCond .ne 23, 3) := by decide +kernel
theorem dX10_fold_86 : decode cX10_fold 86 = .ok (.aload_n 0, 1) := by decide +kernel
theorem dX10_fold_87 : decode cX10_fold 87 = .ok (.getfield 49, 3) := by decide +kernel
theorem dX10_fold_90 : decode cX10_fold 90 = .ok (.bipush 16, 2) := by decide +kernel
theorem dX10_fold_92 : decode cX10_fold 92 = .ok (.iload_n 1, 1) := by decide +kernel
theorem dX10_fold_93 : decode cX10_fold 93 = .ok (.imul, 1) := by decide +kernel
theorem dX10_fold_94 : decode cX10_fold 94 = .ok (.iconst 2, 1) := by decide +kernel
theorem dX10_fold_95 : decode cX10_fold 95 = .ok (.iload 6, 2) := by decide +kernel
theorem dX10_fold_97 : decode cX10_fold 97 = .ok (.imul, 1) := by decide +kernel
theorem dX10_fold_98 : decode cX10_fold 98 = .ok (.iadd, 1) := by decide +kernel
theorem dX10_fold_99 : decode cX10_fold 99 = .ok (.iload 4, 2) := by decide +kernel
theorem dX10_fold_101 : decode cX10_fold 101 = .ok (.iadd, 1) := by decide +kernel
theorem dX10_fold_102 : decode cX10_fold 102 = .ok (.iaload, 1) := by decide +kernel
theorem dX10_fold_103 : decode cX10_fold 103 = .ok (.goto 15, 3) := by decide +kernel
theorem dX10_fold_106 : decode cX10_fold 106 = .ok (.aload_n 0, 1) := by decide +kernel
theorem dX10_fold_107 : decode cX10_fold 107 = .ok (.getfield 52, 3) := by decide +kernel
theorem dX10_fold_110 : decode cX10_fold 110 = .ok (.bipush 8, 2) := by decide +kernel
theorem dX10_fold_112 : decode cX10_fold 112 = .ok (.iload_n 1, 1) := by decide +kernel
theorem dX10_fold_113 : decode cX10_fold 113 = .ok (.imul, 1) := by decide +kernel
theorem dX10_fold_114 : decode cX10_fold 114 = .ok (.iload 6, 2) := by decide +kernel
theorem dX10_fold_116 : decode cX10_fold 116 = .ok (.iadd, 1) := by decide +kernel
theorem dX10_fold_117 : decode cX10_fold 117 = .ok (.iaload, 1) := by decide +kernel
theorem dX10_fold_118 : decode cX10_fold 118 = .ok (.ireturn, 1) := by decide +kernel
def f_X10_fold (h : Hp) (a0 : Nat) (a1 : Int32) (a2 : Int32) (a3 : Int32) (a4 : Int32) (a5 : Int32) : Option (Int32 × Hp) :=
bnd (f_X10_isIn h (a1.toInt64) (1 : Int64) (3 : Int64)) fun v1 h2 =>
if v1 = 0 then (
some ((-2 : Int32), h2)) else (
bnd (f_X10_columnsOf h2 a1) fun v4 h5 =>
bnd (f_X10_isIn h5 (a2.toInt64) (0 : Int64) ((v4 - (1 : Int32)).toInt64)) fun v6 h7 =>
if v6 = 0 then (
some ((-1 : Int32), h7)) else (
bnd (f_X10_rowsOf h7 a1) fun v9 h10 =>
bnd (f_X10_isIn h10 (a3.toInt64) (0 : Int64) ((v9 - (1 : Int32)).toInt64)) fun v11 h12 =>
if v11 = 0 then (
some ((-1 : Int32), h12)) else (
bnd (f_X10_isIn h12 (a4.toInt64) (0 : Int64) (1 : Int64)) fun v14 h15 =>
if v14 = 0 then (
some ((-1 : Int32), h15)) else (
bnd (f_X10_isIn h15 (a5.toInt64) (0 : Int64) (1 : Int64)) fun v17 h18 =>
if v17 = 0 then (
some ((-1 : Int32), h18)) else (
bnd (f_X10_columnsOf h18 a1) fun v20 h21 =>
vl ((v20 * a3) + a2) fun x22 =>
if a5 = 0 then (
gd (okOb h21 a0 10) <|
vl (gR h21 a0 15) fun r30 =>
un r30 fun b31 =>
gd (okAb h21 b31 11 ((((16 : Int32) * a1) + ((2 : Int32) * x22)) + a4)) <|
vl (gI h21 b31 ((((16 : Int32) * a1) + ((2 : Int32) * x22)) + a4).toNatClampNeg) fun x33 =>
some (x33, h21)) else (
gd (okOb h21 a0 10) <|
vl (gR h21 a0 16) fun r25 =>
un r25 fun b26 =>
gd (okAb h21 b26 11 (((8 : Int32) * a1) + x22)) <|
vl (gI h21 b26 (((8 : Int32) * a1) + x22).toNatClampNeg) fun x28 =>
some (x28, h21)))))))
set_option maxHeartbeats 4000000 in
set_option maxRecDepth 100000 in
theorem t_X10_fold {X : Cx} {d : Nat} {h : Hp} {a0 : Nat} {a1 : Int32} {a2 : Int32} {a3 : Int32} {a4 : Int32} {a5 : Int32} {v : Int32} {h' : Hp} (hD : 2 ≤ d) (H : f_X10_fold h a0 a1 a2 a3 a4 a5 = some (v, h')) : PM X mX10_fold d [.ref a0, .int a1, .int a2, .int a3, .int a4, .int a5] h (some (.int v)) h' := by
  unfold f_X10_fold at H
  refine PM.of (loc := [some (.ref a0), some (.int a1), some (.int a2), some (.int a3), some (.int a4), some (.int a5), none]) (by decide) rfl (Nat.le_of_ble_eq_true rfl) ?_
  refine ev_iload_n dX10_fold_0 rfl rfl ?_
  refine ev_i2l dX10_fold_1 rfl ?_
  refine ev_lconst (v := (1 : Int64)) dX10_fold_2 (by decide) ?_
  refine ev_ldc2 (v := (3 : Int64)) dX10_fold_3 k5_158 ?_
  replace H := bnd_some H
  obtain ⟨v1, h2, eh2, H⟩ := H
  have ph2 := (t_X10_isIn (X := X) (d := 1) (by omega) eh2)
  refine ev_callS (as := [.long (a1.toInt64), .long (1 : Int64), .long (3 : Int64)]) dX10_fold_6 ph2 ok_X10_isIn (by omega) rfl k5_88 k5_89 rfl (Nat.le_of_ble_eq_true rfl) ?_
  refine ev_if_ne (tgt := 15) dX10_fold_9 (by decide) (fun c3 => ?_) (fun c3 => ?_)
  · rw [if_neg c3] at H
    refine ev_iload_n dX10_fold_15 rfl rfl ?_
    refine ev_i2l dX10_fold_16 rfl ?_
    refine ev_lconst (v := (0 : Int64)) dX10_fold_17 (by decide) ?_
    refine ev_iload_n dX10_fold_18 rfl rfl ?_
    replace H := bnd_some H
    obtain ⟨v4, h5, eh5, H⟩ := H
    have ph5 := (t_X10_columnsOf (X := X) (d := 1) (by omega) eh5)
    refine ev_callS (as := [.int a1]) dX10_fold_19 ph5 ok_X10_columnsOf (by omega) rfl k4_150 k4_151 rfl (Nat.le_of_ble_eq_true rfl) ?_
    refine ev_iconst (v := (1 : Int32)) dX10_fold_22 (by decide) ?_
    refine ev_isub dX10_fold_23 ?_
    refine ev_i2l dX10_fold_24 rfl ?_
    replace H := bnd_some H
    obtain ⟨v6, h7, eh7, H⟩ := H
    have ph7 := (t_X10_isIn (X := X) (d := 1) (by omega) eh7)
    refine ev_callS (as := [.long (a2.toInt64), .long (0 : Int64), .long ((v4 - (1 : Int32)).toInt64)]) dX10_fold_25 ph7 ok_X10_isIn (by omega) rfl k5_88 k5_89 rfl (Nat.le_of_ble_eq_true rfl) ?_
    refine ev_if_eq (tgt := 69) dX10_fold_28 (by decide) (fun c8 => ?_) (fun c8 => ?_)
    · rw [if_pos c8] at H
      refine ev_iconst (v := (-1 : Int32)) dX10_fold_69 (by decide) ?_
      exact ev_iretx dX10_fold_70 rfl rfl H
    · rw [if_neg c8] at H
      refine ev_iload_n dX10_fold_31 rfl rfl ?_
      refine ev_i2l dX10_fold_32 rfl ?_
      refine ev_lconst (v := (0 : Int64)) dX10_fold_33 (by decide) ?_
      refine ev_iload_n dX10_fold_34 rfl rfl ?_
      replace H := bnd_some H
      obtain ⟨v9, h10, eh10, H⟩ := H
      have ph10 := (t_X10_rowsOf (X := X) (d := 1) (by omega) eh10)
      refine ev_callS (as := [.int a1]) dX10_fold_35 ph10 ok_X10_rowsOf (by omega) rfl k4_153 k4_154 rfl (Nat.le_of_ble_eq_true rfl) ?_
      refine ev_iconst (v := (1 : Int32)) dX10_fold_38 (by decide) ?_
      refine ev_isub dX10_fold_39 ?_
      refine ev_i2l dX10_fold_40 rfl ?_
      replace H := bnd_some H
      obtain ⟨v11, h12, eh12, H⟩ := H
      have ph12 := (t_X10_isIn (X := X) (d := 1) (by omega) eh12)
      refine ev_callS (as := [.long (a3.toInt64), .long (0 : Int64), .long ((v9 - (1 : Int32)).toInt64)]) dX10_fold_41 ph12 ok_X10_isIn (by omega) rfl k5_88 k5_89 rfl (Nat.le_of_ble_eq_true rfl) ?_
      refine ev_if_eq (tgt := 69) dX10_fold_44 (by decide) (fun c13 => ?_) (fun c13 => ?_)
      · rw [if_pos c13] at H
        refine ev_iconst (v := (-1 : Int32)) dX10_fold_69 (by decide) ?_
        exact ev_iretx dX10_fold_70 rfl rfl H
      · rw [if_neg c13] at H
        refine ev_iload dX10_fold_47 rfl ?_
        refine ev_i2l dX10_fold_49 rfl ?_
        refine ev_lconst (v := (0 : Int64)) dX10_fold_50 (by decide) ?_
        refine ev_lconst (v := (1 : Int64)) dX10_fold_51 (by decide) ?_
        replace H := bnd_some H
        obtain ⟨v14, h15, eh15, H⟩ := H
        have ph15 := (t_X10_isIn (X := X) (d := 1) (by omega) eh15)
        refine ev_callS (as := [.long (a4.toInt64), .long (0 : Int64), .long (1 : Int64)]) dX10_fold_52 ph15 ok_X10_isIn (by omega) rfl k5_88 k5_89 rfl (Nat.le_of_ble_eq_true rfl) ?_
        refine ev_if_eq (tgt := 69) dX10_fold_55 (by decide) (fun c16 => ?_) (fun c16 => ?_)
        · rw [if_pos c16] at H
          refine ev_iconst (v := (-1 : Int32)) dX10_fold_69 (by decide) ?_
          exact ev_iretx dX10_fold_70 rfl rfl H
        · rw [if_neg c16] at H
          refine ev_iload dX10_fold_58 rfl ?_
          refine ev_i2l dX10_fold_60 rfl ?_
          refine ev_lconst (v := (0 : Int64)) dX10_fold_61 (by decide) ?_
          refine ev_lconst (v := (1 : Int64)) dX10_fold_62 (by decide) ?_
          replace H := bnd_some H
          obtain ⟨v17, h18, eh18, H⟩ := H
          have ph18 := (t_X10_isIn (X := X) (d := 1) (by omega) eh18)
          refine ev_callS (as := [.long (a5.toInt64), .long (0 : Int64), .long (1 : Int64)]) dX10_fold_63 ph18 ok_X10_isIn (by omega) rfl k5_88 k5_89 rfl (Nat.le_of_ble_eq_true rfl) ?_
          refine ev_if_ne (tgt := 71) dX10_fold_66 (by decide) (fun c19 => ?_) (fun c19 => ?_)
          · rw [if_neg c19] at H
            refine ev_iload_n dX10_fold_71 rfl rfl ?_
            replace H := bnd_some H
            obtain ⟨v20, h21, eh21, H⟩ := H
            have ph21 := (t_X10_columnsOf (X := X) (d := 1) (by omega) eh21)
            refine ev_callS (as := [.int a1]) dX10_fold_72 ph21 ok_X10_columnsOf (by omega) rfl k4_150 k4_151 rfl (Nat.le_of_ble_eq_true rfl) ?_
            refine ev_iload_n dX10_fold_75 rfl rfl ?_
            refine ev_imul dX10_fold_76 ?_
            refine ev_iload_n dX10_fold_77 rfl rfl ?_
            refine ev_iadd dX10_fold_78 ?_
            replace H := vl_some H
            obtain ⟨x22, ex22, H⟩ := H
            refine ev_istorex (loc2 := [some (.ref a0), some (.int a1), some (.int a2), some (.int a3), some (.int a4), some (.int a5), some (.int x22)]) dX10_fold_79 (by decide) ex22 rfl ?_
            refine ev_iload dX10_fold_81 rfl ?_
            refine ev_if_ne (tgt := 106) dX10_fold_83 (by decide) (fun c23 => ?_) (fun c23 => ?_)
            · rw [if_neg c23] at H
              refine ev_aload_n dX10_fold_106 rfl rfl rfl ?_
              replace H := gd_some H
              obtain ⟨g24, H⟩ := H
              replace H := vl_some H
              obtain ⟨r25, er25, H⟩ := H
              refine ev_getRx dX10_fold_107 fgX10_52 rfl (okOb.p g24) er25 ?_
              refine ev_bipush (v := (8 : Int32)) dX10_fold_110 (by decide) ?_
              refine ev_iload_n dX10_fold_112 rfl rfl ?_
              refine ev_imul dX10_fold_113 ?_
              refine ev_iload dX10_fold_114 rfl ?_
              refine ev_iadd dX10_fold_116 ?_
              replace H := un_some H
              obtain ⟨b26, eb26, H⟩ := H
              subst eb26
              replace H := gd_some H
              obtain ⟨g27, H⟩ := H
              replace H := vl_some H
              obtain ⟨x28, ex28, H⟩ := H
              refine ev_ialdx dX10_fold_117 (okAb.p g27) ex28 ?_
              exact ev_iretx dX10_fold_118 rfl rfl H
            · rw [if_pos c23] at H
              refine ev_aload_n dX10_fold_86 rfl rfl rfl ?_
              replace H := gd_some H
              obtain ⟨g29, H⟩ := H
              replace H := vl_some H
              obtain ⟨r30, er30, H⟩ := H
              refine ev_getRx dX10_fold_87 fgX10_49 rfl (okOb.p g29) er30 ?_
              refine ev_bipush (v := (16 : Int32)) dX10_fold_90 (by decide) ?_
              refine ev_iload_n dX10_fold_92 rfl rfl ?_
              refine ev_imul dX10_fold_93 ?_
              refine ev_iconst (v := (2 : Int32)) dX10_fold_94 (by decide) ?_
              refine ev_iload dX10_fold_95 rfl ?_
              refine ev_imul dX10_fold_97 ?_
              refine ev_iadd dX10_fold_98 ?_
              refine ev_iload dX10_fold_99 rfl ?_
              refine ev_iadd dX10_fold_101 ?_
              replace H := un_some H
              obtain ⟨b31, eb31, H⟩ := H
              subst eb31
              replace H := gd_some H
              obtain ⟨g32, H⟩ := H
              replace H := vl_some H
              obtain ⟨x33, ex33, H⟩ := H
              refine ev_ialdx dX10_fold_102 (okAb.p g32) ex33 ?_
              refine ev_goto (tgt := 118) dX10_fold_103 (by decide) ?_
              exact ev_iretx dX10_fold_118 rfl rfl H
          · rw [if_pos c19] at H
            refine ev_iconst (v := (-1 : Int32)) dX10_fold_69 (by decide) ?_
            exact ev_iretx dX10_fold_70 rfl rfl H
  · rw [if_pos c3] at H
    refine ev_bipush (v := (-2 : Int32)) dX10_fold_12 (by decide) ?_
    exact ev_iretx dX10_fold_14 rfl rfl H

theorem dX10_sheet_0 : decode cX10_sheet 0 = .ok (.iload_n 1, 1) := by decide +kernel
theorem dX10_sheet_1 : decode cX10_sheet 1 = .ok (.i2l, 1) := by decide +kernel
theorem dX10_sheet_2 : decode cX10_sheet 2 = .ok (.lconst 1, 1) := by decide +kernel
theorem dX10_sheet_3 : decode cX10_sheet 3 = .ok (.ldc2_w 195, 3) := by decide +kernel
theorem dX10_sheet_6 : decode cX10_sheet 6 = .ok (.invokestatic 151, 3) := by decide +kernel
theorem dX10_sheet_9 : decode cX10_sheet 9 = .ok (.ifCond .eq 15, 3) := by decide +kernel
theorem dX10_sheet_12 : decode cX10_sheet 12 = .ok (.iload_n 3, 1) := by decide +kernel
theorem dX10_sheet_13 : decode cX10_sheet 13 = .ok (.i2l, 1) := by decide +kernel
theorem dX10_sheet_14 : decode cX10_sheet 14 = .ok (.lconst 1, 1) := by decide +kernel
theorem dX10_sheet_15 : decode cX10_sheet 15 = .ok (.ldc2_w 197, 3) := by decide +kernel
theorem dX10_sheet_18 : decode cX10_sheet 18 = .ok (.invokestatic 151, 3) := by decide +kernel
theorem dX10_sheet_21 : decode cX10_sheet 21 = .ok (.ifCond .ne 6, 3) := by decide +kernel
theorem dX10_sheet_24 : decode cX10_sheet 24 = .ok (.bipush (-2), 2) := by decide +kernel
theorem dX10_sheet_26 : decode cX10_sheet 26 = .ok (.ireturn, 1) := by decide +kernel
theorem dX10_sheet_27 : decode cX10_sheet 27 = .ok (.iconst 2, 1) := by decide +kernel
theorem dX10_sheet_28 : decode cX10_sheet 28 = .ok (.iload_n 1, 1) := by decide +kernel
theorem dX10_sheet_29 : decode cX10_sheet 29 = .ok (.invokestatic 188, 3) := by decide +kernel
theorem dX10_sheet_32 : decode cX10_sheet 32 = .ok (.imul, 1) := by decide +kernel
theorem dX10_sheet_33 : decode cX10_sheet 33 = .ok (.istore 4, 2) := by decide +kernel
theorem dX10_sheet_35 : decode cX10_sheet 35 = .ok (.iload_n 2, 1) := by decide +kernel
theorem dX10_sheet_36 : decode cX10_sheet 36 = .ok (.ifCond .lt 18, 3) := by decide +kernel
theorem dX10_sheet_39 : decode cX10_sheet 39 = .ok (.iload_n 2, 1) := by decide +kernel
theorem dX10_sheet_40 : decode cX10_sheet 40 = .ok (.i2l, 1) := by decide +kernel
theorem dX10_sheet_41 : decode cX10_sheet 41 = .ok (.iload 4, 2) := by decide +kernel
theorem dX10_sheet_43 : decode cX10_sheet 43 = .ok (.i2l, 1) := by decide +kernel
theorem dX10_sheet_44 : decode cX10_sheet 44 = .ok (.ladd, 1) := by decide +kernel
theorem dX10_sheet_45 : decode cX10_sheet 45 = .ok (.aload_n 0, 1) := by decide +kernel
theorem dX10_sheet_46 : decode cX10_sheet 46 = .ok (.getfield 141, 3) := by decide +kernel
theorem dX10_sheet_49 : decode cX10_sheet 49 = .ok (.i2l, 1) := by decide +kernel
theorem dX10_sheet_50 : decode cX10_sheet 50 = .ok (.lcmp, 1) := by decide +kernel
theorem dX10_sheet_51 : decode cX10_sheet 51 = .ok (.ifCond .le 5, 3) := by decide +kernel
theorem dX10_sheet_54 : decode cX10_sheet 54 = .ok (.iconst (-1), 1) := by decide +kernel
theorem dX10_sheet_55 : decode cX10_sheet 55 = .ok (.ireturn, 1) := by decide +kernel
theorem dX10_sheet_56 : decode cX10_sheet 56 = .ok (.iconst 0, 1) := by decide +kernel
theorem dX10_sheet_57 : decode cX10_sheet 57 = .ok (.istore 5, 2) := by decide +kernel
theorem dX10_sheet_59 : decode cX10_sheet 59 = .ok (.iload 5, 2) := by decide +kernel
theorem dX10_sheet_61 : decode cX10_sheet 61 = .ok (.iload 4, 2) := by decide +kernel
theorem dX10_sheet_63 : decode cX10_sheet 63 = .ok (.if_icmp .ge 24, 3) := by decide +kernel
theorem dX10_sheet_66 : decode cX10_sheet 66 = .ok (.aload_n 0, 1) := by decide +kernel
theorem dX10_sheet_67 : decode cX10_sheet 67 = .ok (.getfield 34, 3) := by decide +kernel
theorem dX10_sheet_70 : decode cX10_sheet 70 = .ok (.iload_n 2, 1) := by decide +kernel
theorem dX10_sheet_71 : decode cX10_sheet 71 = .ok (.iload 5, 2) := by decide +kernel
theorem dX10_sheet_73 : decode cX10_sheet 73 = .ok (.iadd, 1) := by decide +kernel
theorem dX10_sheet_74 : decode cX10_sheet 74 = .ok (.iaload, 1) := by decide +kernel
theorem dX10_sheet_75 : decode cX10_sheet 75 = .ok (.ifCond .lt 6, 3) := by decide +kernel
theorem dX10_sheet_78 : decode cX10_sheet 78 = .ok (.bipush (-3), 2) := by decide +kernel
theorem dX10_sheet_80 : decode cX10_sheet 80 = .ok (.ireturn, 1) := by decide +kernel
theorem dX10_sheet_81 : decode cX10_sheet 81 = .ok (.iinc 5 1, 3) := by decide +kernel
theorem dX10_sheet_84 : decode cX10_sheet 84 = .ok (.goto (-25), 3) := by decide +kernel
theorem dX10_sheet_87 : decode cX10_sheet 87 = .ok (.aload_n 0, 1) := by decide +kernel
theorem dX10_sheet_88 : decode cX10_sheet 88 = .ok (.getfield 199, 3) := by decide +kernel
theorem dX10_sheet_91 : decode cX10_sheet 91 = .ok (.bipush 6, 2) := by decide +kernel
theorem dX10_sheet_93 : decode cX10_sheet 93 = .ok (.if_icmp .ne 6, 3) := by decide +kernel
theorem dX10_sheet_96 : decode cX10_sheet 96 = .ok (.bipush (-4), 2) := by decide +kernel
theorem dX10_sheet_98 : decode cX10_sheet 98 = .ok (.ireturn, 1) := by decide +kernel
theorem dX10_sheet_99 : decode cX10_sheet 99 = .ok (.aload_n 0, 1) := by decide +kernel
theorem dX10_sheet_100 : decode cX10_sheet 100 = .ok (.getfield 199, 3) := by decide +kernel
theorem dX10_sheet_103 : decode cX10_sheet 103 = .ok (.istore 5, 2) := by decide +kernel
theorem dX10_sheet_105 : decode cX10_sheet 105 = .ok (.aload_n 0, 1) := by decide +kernel
theorem dX10_sheet_106 : decode cX10_sheet 106 = .ok (.dup, 1) := by decide +kernel
theorem dX10_sheet_107 : decode cX10_sheet 107 = .ok (.getfield 199, 3) := by decide +kernel
theorem dX10_sheet_110 : decode cX10_sheet 110 = .ok (.iconst 1, 1) := by decide +kernel
theorem dX10_sheet_111 : decode cX10_sheet 111 = .ok (.iadd, 1) := by decide +kernel
theorem dX10_sheet_112 : decode cX10_sheet 112 = .ok (.putfield 199, 3) := by decide +kernel
theorem dX10_sheet_115 : decode cX10_sheet 115 = .ok (.aload_n 0, 1) := by decide +kernel
theorem dX10_sheet_116 : decode cX10_sheet 116 = .ok (.getfield 61, 3) := by decide +kernel
theorem dX10_sheet_119 : decode cX10_sheet 119 = .ok (.iload 5, 2) := by decide +kernel
theorem dX10_sheet_121 : decode cX10_sheet 121 = .ok (.iload_n 1, 1) := by decide +kernel
theorem dX10_sheet_122 : decode cX10_sheet 122 = .ok (.iastore, 1) := by decide +kernel
theorem dX10_sheet_123 : decode cX10_sheet 123 = .ok (.aload_n 0, 1) := by decide +kernel
theorem dX10_sheet_124 : decode cX10_sheet 124 = .ok (.getfield 64, 3) := by decide +kernel
theorem dX10_sheet_127 : decode cX10_sheet 127 = .ok (.iload 5, 2) := by decide +kernel
theorem dX10_sheet_129 : decode cX10_sheet 129 = .ok (.iload_n 2, 1) := by decide +kernel
theorem dX10_sheet_130 : decode cX10_sheet 130 = .ok (.iastore, 1) := by decide +kernel
theorem dX10_sheet_131 : decode cX10_sheet 131 = .ok (.aload_n 0, 1) := by decide +kernel
theorem dX10_sheet_132 : decode cX10_sheet 132 = .ok (.getfield 67, 3) := by decide +kernel
theorem dX10_sheet_135 : decode cX10_sheet 135 = .ok (.iload 5, 2) := by decide +kernel
theorem dX10_sheet_137 : decode cX10_sheet 137 = .ok (.iload_n 3, 1) := by decide +kernel
theorem dX10_sheet_138 : decode cX10_sheet 138 = .ok (.iastore, 1) := by decide +kernel
theorem dX10_sheet_139 : decode cX10_sheet 139 = .ok (.aload_n 0, 1) := by decide +kernel
theorem dX10_sheet_140 : decode cX10_sheet 140 = .ok (.getfield 70, 3) := by decide +kernel
theorem dX10_sheet_143 : decode cX10_sheet 143 = .ok (.iload 5, 2) := by decide +kernel
theorem dX10_sheet_145 : decode cX10_sheet 145 = .ok (.iconst (-1), 1) := by decide +kernel
theorem dX10_sheet_146 : decode cX10_sheet 146 = .ok (.iastore, 1) := by decide +kernel
theorem dX10_sheet_147 : decode cX10_sheet 147 = .ok (.iconst 0, 1) := by decide +kernel
theorem dX10_sheet_148 : decode cX10_sheet 148 = .ok (.istore 6, 2) := by decide +kernel
theorem dX10_sheet_150 : decode cX10_sheet 150 = .ok (.iload 6, 2) := by decide +kernel
theorem dX10_sheet_152 : decode cX10_sheet 152 = .ok (.iload 4, 2) := by decide +kernel
theorem dX10_sheet_154 : decode cX10_sheet 154 = .ok (.if_icmp .ge 20, 3) := by decide +kernel
theorem dX10_sheet_157 : decode cX10_sheet 157 = .ok (.aload_n 0, 1) := by decide +kernel
theorem dX10_sheet_158 : decode cX10_sheet 158 = .ok (.getfield 34, 3) := by decide +kernel
theorem dX10_sheet_161 : decode cX10_sheet 161 = .ok (.iload_n 2, 1) := by decide +kernel
theorem dX10_sheet_162 : decode cX10_sheet 162 = .ok (.iload 6, 2) := by decide +kernel
theorem dX10_sheet_164 : decode cX10_sheet 164 = .ok (.iadd, 1) := by decide +kernel
theorem dX10_sheet_165 : decode cX10_sheet 165 = .ok (.iload 5, 2) := by decide +kernel
theorem dX10_sheet_167 : decode cX10_sheet 167 = .ok (.iastore, 1) := by decide +kernel
theorem dX10_sheet_168 : decode cX10_sheet 168 = .ok (.iinc 6 1, 3) := by decide +kernel
theorem dX10_sheet_171 : decode cX10_sheet 171 = .ok (.goto (-21), 3) := by decide +kernel
theorem dX10_sheet_174 : decode cX10_sheet 174 = .ok (.iconst 0, 1) := by decide +kernel
theorem dX10_sheet_175 : decode cX10_sheet 175 = .ok (.istore 6, 2) := by decide +kernel
theorem dX10_sheet_177 : decode cX10_sheet 177 = .ok (.iload 6, 2) := by decide +kernel
theorem dX10_sheet_179 : decode cX10_sheet 179 = .ok (.iload 4, 2) := by decide +kernel
theorem dX10_sheet_181 : decode cX10_sheet 181 = .ok (.if_icmp .ge 30, 3) := by decide +kernel
theorem dX10_sheet_184 : decode cX10_sheet 184 = .ok (.aload_n 0, 1) := by decide +kernel
theorem dX10_sheet_185 : decode cX10_sheet 185 = .ok (.getfield 37, 3) := by decide +kernel
theorem dX10_sheet_188 : decode cX10_sheet 188 = .ok (.iload_n 2, 1) := by decide +kernel
theorem dX10_sheet_189 : decode cX10_sheet 189 = .ok (.aload_n 0, 1) := by decide +kernel
theorem dX10_sheet_190 : decode cX10_sheet 190 = .ok (.getfield 49, 3) := by decide +kernel
theorem dX10_sheet_193 : decode cX10_sheet 193 = .ok (.bipush 16, 2) := by decide +kernel
theorem dX10_sheet_195 : decode cX10_sheet 195 = .ok (.iload_n 1, 1) := by decide +kernel
theorem dX10_sheet_196 : decode cX10_sheet 196 = .ok (.imul, 1) := by decide +kernel
theorem dX10_sheet_197 : decode cX10_sheet 197 = .ok (.iload 6, 2) := by decide +kernel
theorem dX10_sheet_199 : decode cX10_sheet 199 = .ok (.iadd, 1) := by decide +kernel
theorem dX10_sheet_200 : decode cX10_sheet 200 = .ok (.iaload, 1) := by decide +kernel
theorem dX10_sheet_201 : decode cX10_sheet 201 = .ok (.iadd, 1) := by decide +kernel
theorem dX10_sheet_202 : decode cX10_sheet 202 = .ok (.iload 6, 2) := by decide +kernel
theorem dX10_sheet_204 : decode cX10_sheet 204 = .ok (.iastore, 1) := by decide +kernel
theorem dX10_sheet_205 : decode cX10_sheet 205 = .ok (.iinc 6 1, 3) := by decide +kernel
theorem dX10_sheet_208 : decode cX10_sheet 208 = .ok (.goto (-31), 3) := by decide +kernel
theorem dX10_sheet_211 : decode cX10_sheet 211 = .ok (.iconst 0, 1) := by decide +kernel
theorem dX10_sheet_212 : decode cX10_sheet 212 = .ok (.istore 6, 2) := by decide +kernel
theorem dX10_sheet_214 : decode cX10_sheet 214 = .ok (.iload 6, 2) := by decide +kernel
theorem dX10_sheet_216 : decode cX10_sheet 216 = .ok (.bipush 120, 2) := by decide +kernel
theorem dX10_sheet_218 : decode cX10_sheet 218 = .ok (.if_icmp .ge 23, 3) := by decide +kernel
theorem dX10_sheet_221 : decode cX10_sheet 221 = .ok (.aload_n 0, 1) := by decide +kernel
theorem dX10_sheet_222 : decode cX10_sheet 222 = .ok (.getfield 82, 3) := by decide +kernel
theorem dX10_sheet_225 : decode cX10_sheet 225 = .ok (.bipush 120, 2) := by decide +kernel
theorem dX10_sheet_227 : decode cX10_sheet 227 = .ok (.iload 5, 2) := by decide +kernel
theorem dX10_sheet_229 : decode cX10_sheet 229 = .ok (.imul, 1) := by decide +kernel
theorem dX10_sheet_230 : decode cX10_sheet 230 = .ok (.iload 6, 2) := by decide +kernel
theorem dX10_sheet_232 : decode cX10_sheet 232 = .ok (.iadd, 1) := by decide +kernel
theorem dX10_sheet_233 : decode cX10_sheet 233 = .ok (.iconst (-1), 1) := by decide +kernel
theorem dX10_sheet_234 : decode cX10_sheet 234 = .ok (.iastore, 1) := by decide +kernel
theorem dX10_sheet_235 : decode cX10_sheet 235 = .ok (.iinc 6 1, 3) := by decide +kernel
theorem dX10_sheet_238 : decode cX10_sheet 238 = .ok (.goto (-24), 3) := by decide +kernel
theorem dX10_sheet_241 : decode cX10_sheet 241 = .ok (.iload 5, 2) := by decide +kernel
theorem dX10_sheet_243 : decode cX10_sheet 243 = .ok (.ireturn, 1) := by decide +kernel
def f_X10_sheet_L59 (k87 : Nat → Int32 → Int32 → Int32 → Int32 → Int32 → Hp → Option (Int32 × Hp)) : Nat → Nat → Int32 → Int32 → Int32 → Int32 → Int32 → Hp → Option (Int32 × Hp)
  | 0, _, _, _, _, _, _, _ => none
  | n + 1, l0, l1, l2, l3, l4, l5, h =>
    if l4 ≤ l5 then (
    k87 l0 l1 l2 l3 l4 l5 h) else (
    gd (okOb h l0 10) <|
    vl (gR h l0 9) fun r16 =>
    un r16 fun b17 =>
    gd (okAb h b17 11 (l2 + l5)) <|
    vl (gI h b17 (l2 + l5).toNatClampNeg) fun x19 =>
    if x19 < 0 then (
    vl (l5 + (1 : Int32)) fun x21 =>
    f_X10_sheet_L59 k87 n l0 l1 l2 l3 l4 x21 h) else (
    some ((-3 : Int32), h)))
set_option maxHeartbeats 4000000 in
set_option maxRecDepth 100000 in
theorem t_X10_sheet_L59 {X : Cx} {d : Nat} {h0 h' : Hp} {v : Int32} {k87 : Nat → Int32 → Int32 → Int32 → Int32 → Int32 → Hp → Option (Int32 × Hp)} (hD : 2 ≤ d) (hk87 : ∀ (z0 : Nat) (z1 : Int32) (z2 : Int32) (z3 : Int32) (z4 : Int32) (z5 : Int32) (h : Hp), k87 z0 z1 z2 z3 z4 z5 h = some (v, h') → EV X mX10_sheet d h0 (some (.int v)) h' 87 [some (.ref z0), some (.int z1), some (.int z2), some (.int z3), some (.int z4), some (.int z5), none] [] h) : ∀ (n : Nat) (l0 : Nat) (l1 : Int32) (l2 : Int32) (l3 : Int32) (l4 : Int32) (l5 : Int32) (h : Hp), f_X10_sheet_L59 k87 n l0 l1 l2 l3 l4 l5 h = some (v, h') → EV X mX10_sheet d h0 (some (.int v)) h' 59 [some (.ref l0), some (.int l1), some (.int l2), some (.int l3), some (.int l4), some (.int l5), none] [] h := by
  intro n
  induction n with
  | zero => intro l0 l1 l2 l3 l4 l5 h H; simp [f_X10_sheet_L59] at H
  | succ n ih =>
    intro l0 l1 l2 l3 l4 l5 h H
    rw [f_X10_sheet_L59] at H
    refine ev_iload dX10_sheet_59 rfl ?_
    refine ev_iload dX10_sheet_61 rfl ?_
    refine ev_icmp_ge (tgt := 87) dX10_sheet_63 (by decide) (fun c14 => ?_) (fun c14 => ?_)
    · rw [if_pos c14] at H
      exact hk87 l0 l1 l2 l3 l4 l5 h H
    · rw [if_neg c14] at H
      refine ev_aload_n dX10_sheet_66 rfl rfl rfl ?_
      replace H := gd_some H
      obtain ⟨g15, H⟩ := H
      replace H := vl_some H
      obtain ⟨r16, er16, H⟩ := H
      refine ev_getRx dX10_sheet_67 fgX10_34 rfl (okOb.p g15) er16 ?_
      refine ev_iload_n dX10_sheet_70 rfl rfl ?_
      refine ev_iload dX10_sheet_71 rfl ?_
      refine ev_iadd dX10_sheet_73 ?_
      replace H := un_some H
      obtain ⟨b17, eb17, H⟩ := H
      subst eb17
      replace H := gd_some H
      obtain ⟨g18, H⟩ := H
      replace H := vl_some H
      obtain ⟨x19, ex19, H⟩ := H
      refine ev_ialdx dX10_sheet_74 (okAb.p g18) ex19 ?_
      refine ev_if_lt (tgt := 81) dX10_sheet_75 (by decide) (fun c20 => ?_) (fun c20 => ?_)
      · rw [if_pos c20] at H
        replace H := vl_some H
        obtain ⟨x21, ex21, H⟩ := H
        refine ev_iincx (loc2 := [some (.ref l0), some (.int l1), some (.int l2), some (.int l3), some (.int l4), some (.int x21), none]) dX10_sheet_81 rfl (by decide) ex21 (by decide) rfl ?_
        refine ev_goto (tgt := 59) dX10_sheet_84 (by decide) ?_
        exact ih l0 l1 l2 l3 l4 x21 h H
      · rw [if_neg c20] at H
        refine ev_bipush (v := (-3 : Int32)) dX10_sheet_78 (by decide) ?_
        exact ev_iretx dX10_sheet_80 rfl rfl H
def f_X10_sheet_L150 (k174 : Nat → Int32 → Int32 → Int32 → Int32 → Int32 → Int32 → Hp → Option (Int32 × Hp)) : Nat → Nat → Int32 → Int32 → Int32 → Int32 → Int32 → Int32 → Hp → Option (Int32 × Hp)
  | 0, _, _, _, _, _, _, _, _ => none
  | n + 1, l0, l1, l2, l3, l4, l5, l6, h =>
    if l4 ≤ l6 then (
    k174 l0 l1 l2 l3 l4 l5 l6 h) else (
    gd (okOb h l0 10) <|
    vl (gR h l0 9) fun r53 =>
    un r53 fun b54 =>
    gd (okAb h b54 11 (l2 + l6)) <|
    vl (sI h b54 (l2 + l6).toNatClampNeg l5) fun h56 =>
    vl (l6 + (1 : Int32)) fun x57 =>
    f_X10_sheet_L150 k174 n l0 l1 l2 l3 l4 l5 x57 h56)
set_option maxHeartbeats 4000000 in
set_option maxRecDepth 100000 in
theorem t_X10_sheet_L150 {X : Cx} {d : Nat} {h0 h' : Hp} {v : Int32} {k174 : Nat → Int32 → Int32 → Int32 → Int32 → Int32 → Int32 → Hp → Option (Int32 × Hp)} (hD : 2 ≤ d) (hk174 : ∀ (z0 : Nat) (z1 : Int32) (z2 : Int32) (z3 : Int32) (z4 : Int32) (z5 : Int32) (z6 : Int32) (h : Hp), k174 z0 z1 z2 z3 z4 z5 z6 h = some (v, h') → EV X mX10_sheet d h0 (some (.int v)) h' 174 [some (.ref z0), some (.int z1), some (.int z2), some (.int z3), some (.int z4), some (.int z5), some (.int z6)] [] h) : ∀ (n : Nat) (l0 : Nat) (l1 : Int32) (l2 : Int32) (l3 : Int32) (l4 : Int32) (l5 : Int32) (l6 : Int32) (h : Hp), f_X10_sheet_L150 k174 n l0 l1 l2 l3 l4 l5 l6 h = some (v, h') → EV X mX10_sheet d h0 (some (.int v)) h' 150 [some (.ref l0), some (.int l1), some (.int l2), some (.int l3), some (.int l4), some (.int l5), some (.int l6)] [] h := by
  intro n
  induction n with
  | zero => intro l0 l1 l2 l3 l4 l5 l6 h H; simp [f_X10_sheet_L150] at H
  | succ n ih =>
    intro l0 l1 l2 l3 l4 l5 l6 h H
    rw [f_X10_sheet_L150] at H
    refine ev_iload dX10_sheet_150 rfl ?_
    refine ev_iload dX10_sheet_152 rfl ?_
    refine ev_icmp_ge (tgt := 174) dX10_sheet_154 (by decide) (fun c51 => ?_) (fun c51 => ?_)
    · rw [if_pos c51] at H
      exact hk174 l0 l1 l2 l3 l4 l5 l6 h H
    · rw [if_neg c51] at H
      refine ev_aload_n dX10_sheet_157 rfl rfl rfl ?_
      replace H := gd_some H
      obtain ⟨g52, H⟩ := H
      replace H := vl_some H
      obtain ⟨r53, er53, H⟩ := H
      refine ev_getRx dX10_sheet_158 fgX10_34 rfl (okOb.p g52) er53 ?_
      refine ev_iload_n dX10_sheet_161 rfl rfl ?_
      refine ev_iload dX10_sheet_162 rfl ?_
      refine ev_iadd dX10_sheet_164 ?_
      refine ev_iload dX10_sheet_165 rfl ?_
      replace H := un_some H
      obtain ⟨b54, eb54, H⟩ := H
      subst eb54
      replace H := gd_some H
      obtain ⟨g55, H⟩ := H
      replace H := vl_some H
      obtain ⟨h56, eh56, H⟩ := H
      refine ev_iast dX10_sheet_167 (okAb.p g55) eh56 ?_
      replace H := vl_some H
      obtain ⟨x57, ex57, H⟩ := H
      refine ev_iincx (loc2 := [some (.ref l0), some (.int l1), some (.int l2), some (.int l3), some (.int l4), some (.int l5), some (.int x57)]) dX10_sheet_168 rfl (by decide) ex57 (by decide) rfl ?_
      refine ev_goto (tgt := 150) dX10_sheet_171 (by decide) ?_
      exact ih l0 l1 l2 l3 l4 l5 x57 h56 H
def f_X10_sheet_L177 (k211 : Nat → Int32 → Int32 → Int32 → Int32 → Int32 → Int32 → Hp → Option (Int32 × Hp)) : Nat → Nat → Int32 → Int32 → Int32 → Int32 → Int32 → Int32 → Hp → Option (Int32 × Hp)
  | 0, _, _, _, _, _, _, _, _ => none
  | n + 1, l0, l1, l2, l3, l4, l5, l6, h =>
    if l4 ≤ l6 then (
    k211 l0 l1 l2 l3 l4 l5 l6 h) else (
    gd (okOb h l0 10) <|
    vl (gR h l0 10) fun r68 =>
    vl (gR h l0 15) fun r69 =>
    un r69 fun b70 =>
    gd (okAb h b70 11 (((16 : Int32) * l1) + l6)) <|
    vl (gI h b70 (((16 : Int32) * l1) + l6).toNatClampNeg) fun x72 =>
    un r68 fun b73 =>
    gd (okAb h b73 11 (l2 + x72)) <|
    vl (sI h b73 (l2 + x72).toNatClampNeg l6) fun h75 =>
    vl (l6 + (1 : Int32)) fun x76 =>
    f_X10_sheet_L177 k211 n l0 l1 l2 l3 l4 l5 x76 h75)
set_option maxHeartbeats 4000000 in
set_option maxRecDepth 100000 in
theorem t_X10_sheet_L177 {X : Cx} {d : Nat} {h0 h' : Hp} {v : Int32} {k211 : Nat → Int32 → Int32 → Int32 → Int32 → Int32 → Int32 → Hp → Option (Int32 × Hp)} (hD : 2 ≤ d) (hk211 : ∀ (z0 : Nat) (z1 : Int32) (z2 : Int32) (z3 : Int32) (z4 : Int32) (z5 : Int32) (z6 : Int32) (h : Hp), k211 z0 z1 z2 z3 z4 z5 z6 h = some (v, h') → EV X mX10_sheet d h0 (some (.int v)) h' 211 [some (.ref z0), some (.int z1), some (.int z2), some (.int z3), some (.int z4), some (.int z5), some (.int z6)] [] h) : ∀ (n : Nat) (l0 : Nat) (l1 : Int32) (l2 : Int32) (l3 : Int32) (l4 : Int32) (l5 : Int32) (l6 : Int32) (h : Hp), f_X10_sheet_L177 k211 n l0 l1 l2 l3 l4 l5 l6 h = some (v, h') → EV X mX10_sheet d h0 (some (.int v)) h' 177 [some (.ref l0), some (.int l1), some (.int l2), some (.int l3), some (.int l4), some (.int l5), some (.int l6)] [] h := by
  intro n
  induction n with
  | zero => intro l0 l1 l2 l3 l4 l5 l6 h H; simp [f_X10_sheet_L177] at H
  | succ n ih =>
    intro l0 l1 l2 l3 l4 l5 l6 h H
    rw [f_X10_sheet_L177] at H
    refine ev_iload dX10_sheet_177 rfl ?_
    refine ev_iload dX10_sheet_179 rfl ?_
    refine ev_icmp_ge (tgt := 211) dX10_sheet_181 (by decide) (fun c66 => ?_) (fun c66 => ?_)
    · rw [if_pos c66] at H
      exact hk211 l0 l1 l2 l3 l4 l5 l6 h H
    · rw [if_neg c66] at H
      refine ev_aload_n dX10_sheet_184 rfl rfl rfl ?_
      replace H := gd_some H
      obtain ⟨g67, H⟩ := H
      replace H := vl_some H
      obtain ⟨r68, er68, H⟩ := H
      refine ev_getRx dX10_sheet_185 fgX10_37 rfl (okOb.p g67) er68 ?_
      refine ev_iload_n dX10_sheet_188 rfl rfl ?_
      refine ev_aload_n dX10_sheet_189 rfl rfl rfl ?_
      replace H := vl_some H
      obtain ⟨r69, er69, H⟩ := H
      refine ev_getRx dX10_sheet_190 fgX10_49 rfl (okOb.p g67) er69 ?_
      refine ev_bipush (v := (16 : Int32)) dX10_sheet_193 (by decide) ?_
      refine ev_iload_n dX10_sheet_195 rfl rfl ?_
      refine ev_imul dX10_sheet_196 ?_
      refine ev_iload dX10_sheet_197 rfl ?_
      refine ev_iadd dX10_sheet_199 ?_
      replace H := un_some H
      obtain ⟨b70, eb70, H⟩ := H
      subst eb70
      replace H := gd_some H
      obtain ⟨g71, H⟩ := H
      replace H := vl_some H
      obtain ⟨x72, ex72, H⟩ := H
      refine ev_ialdx dX10_sheet_200 (okAb.p g71) ex72 ?_
      refine ev_iadd dX10_sheet_201 ?_
      refine ev_iload dX10_sheet_202 rfl ?_
      replace H := un_some H
      obtain ⟨b73, eb73, H⟩ := H
      subst eb73
      replace H := gd_some H
      obtain ⟨g74, H⟩ := H
      replace H := vl_some H
      obtain ⟨h75, eh75, H⟩ := H
      refine ev_iast dX10_sheet_204 (okAb.p g74) eh75 ?_
      replace H := vl_some H
      obtain ⟨x76, ex76, H⟩ := H
      refine ev_iincx (loc2 := [some (.ref l0), some (.int l1), some (.int l2), some (.int l3), some (.int l4), some (.int l5), some (.int x76)]) dX10_sheet_205 rfl (by decide) ex76 (by decide) rfl ?_
      refine ev_goto (tgt := 177) dX10_sheet_208 (by decide) ?_
      exact ih l0 l1 l2 l3 l4 l5 x76 h75 H
def f_X10_sheet_L214 : Nat → Nat → Int32 → Int32 → Int32 → Int32 → Int32 → Int32 → Hp → Option (Int32 × Hp)
  | 0, _, _, _, _, _, _, _, _ => none
  | n + 1, l0, l1, l2, l3, l4, l5, l6, h =>
    if (120 : Int32) ≤ l6 then (
    some (l5, h)) else (
    gd (okOb h l0 10) <|
    vl (gR h l0 28) fun r87 =>
    un r87 fun b88 =>
    gd (okAb h b88 11 (((120 : Int32) * l5) + l6)) <|
    vl (sI h b88 (((120 : Int32) * l5) + l6).toNatClampNeg (-1 : Int32)) fun h90 =>
    vl (l6 + (1 : Int32)) fun x91 =>
    f_X10_sheet_L214 n l0 l1 l2 l3 l4 l5 x91 h90)
set_option maxHeartbeats 4000000 in
set_option maxRecDepth 100000 in
theorem t_X10_sheet_L214 {X : Cx} {d : Nat} {h0 h' : Hp} {v : Int32} (hD : 2 ≤ d) : ∀ (n : Nat) (l0 : Nat) (l1 : Int32) (l2 : Int32) (l3 : Int32) (l4 : Int32) (l5 : Int32) (l6 : Int32) (h : Hp), f_X10_sheet_L214 n l0 l1 l2 l3 l4 l5 l6 h = some (v, h') → EV X mX10_sheet d h0 (some (.int v)) h' 214 [some (.ref l0), some (.int l1), some (.int l2), some (.int l3), some (.int l4), some (.int l5), some (.int l6)] [] h := by
  intro n
  induction n with
  | zero => intro l0 l1 l2 l3 l4 l5 l6 h H; simp [f_X10_sheet_L214] at H
  | succ n ih =>
    intro l0 l1 l2 l3 l4 l5 l6 h H
    rw [f_X10_sheet_L214] at H
    refine ev_iload dX10_sheet_214 rfl ?_
    refine ev_bipush (v := (120 : Int32)) dX10_sheet_216 (by decide) ?_
    refine ev_icmp_ge (tgt := 241) dX10_sheet_218 (by decide) (fun c85 => ?_) (fun c85 => ?_)
    · rw [if_pos c85] at H
      refine ev_iload dX10_sheet_241 rfl ?_
      exact ev_iretx dX10_sheet_243 rfl rfl H
    · rw [if_neg c85] at H
      refine ev_aload_n dX10_sheet_221 rfl rfl rfl ?_
      replace H := gd_some H
      obtain ⟨g86, H⟩ := H
      replace H := vl_some H
      obtain ⟨r87, er87, H⟩ := H
      refine ev_getRx dX10_sheet_222 fgX10_82 rfl (okOb.p g86) er87 ?_
      refine ev_bipush (v := (120 : Int32)) dX10_sheet_225 (by decide) ?_
      refine ev_iload dX10_sheet_227 rfl ?_
      refine ev_imul dX10_sheet_229 ?_
      refine ev_iload dX10_sheet_230 rfl ?_
      refine ev_iadd dX10_sheet_232 ?_
      refine ev_iconst (v := (-1 : Int32)) dX10_sheet_233 (by decide) ?_
      replace H := un_some H
      obtain ⟨b88, eb88, H⟩ := H
      subst eb88
      replace H := gd_some H
      obtain ⟨g89, H⟩ := H
      replace H := vl_some H
      obtain ⟨h90, eh90, H⟩ := H
      refine ev_iast dX10_sheet_234 (okAb.p g89) eh90 ?_
      replace H := vl_some H
      obtain ⟨x91, ex91, H⟩ := H
      refine ev_iincx (loc2 := [some (.ref l0), some (.int l1), some (.int l2), some (.int l3), some (.int l4), some (.int l5), some (.int x91)]) dX10_sheet_235 rfl (by decide) ex91 (by decide) rfl ?_
      refine ev_goto (tgt := 214) dX10_sheet_238 (by decide) ?_
      exact ih l0 l1 l2 l3 l4 l5 x91 h90 H
def f_X10_sheet (h : Hp) (a0 : Nat) (a1 : Int32) (a2 : Int32) (a3 : Int32) : Option (Int32 × Hp) :=
bnd (f_X10_isIn h (a1.toInt64) (1 : Int64) (3 : Int64)) fun v1 h2 =>
if v1 = 0 then (
some ((-2 : Int32), h2)) else (
bnd (f_X10_isIn h2 (a3.toInt64) (1 : Int64) (60 : Int64)) fun v4 h5 =>
if v4 = 0 then (
some ((-2 : Int32), h5)) else (
bnd (f_X10_leavesOf h5 a1) fun v7 h8 =>
vl ((2 : Int32) * v7) fun x9 =>
if a2 < 0 then (
some ((-1 : Int32), h8)) else (
gd (okOb h8 a0 10) <|
vl (gI h8 a0 11) fun x12 =>
if (lg_cmp ((a2.toInt64) + (x9.toInt64)) (x12.toInt64)) ≤ 0 then (
f_X10_sheet_L59 (fun y22 y23 y24 y25 y26 y27 h28 =>
gd (okOb h28 y22 10) <|
vl (gI h28 y22 23) fun x30 =>
if x30 = (6 : Int32) then (
some ((-4 : Int32), h28)) else (
vl (gI h28 y22 23) fun x32 =>
vl (gI h28 y22 23) fun x33 =>
vl (sI h28 y22 23 (x33 + (1 : Int32))) fun h34 =>
vl (gR h34 y22 19) fun r35 =>
un r35 fun b36 =>
gd (okAb h34 b36 11 x32) <|
vl (sI h34 b36 x32.toNatClampNeg y23) fun h38 =>
vl (gR h38 y22 20) fun r39 =>
un r39 fun b40 =>
gd (okAb h38 b40 11 x32) <|
vl (sI h38 b40 x32.toNatClampNeg y24) fun h42 =>
vl (gR h42 y22 21) fun r43 =>
un r43 fun b44 =>
gd (okAb h42 b44 11 x32) <|
vl (sI h42 b44 x32.toNatClampNeg y25) fun h46 =>
vl (gR h46 y22 22) fun r47 =>
un r47 fun b48 =>
gd (okAb h46 b48 11 x32) <|
vl (sI h46 b48 x32.toNatClampNeg (-1 : Int32)) fun h50 =>
f_X10_sheet_L150 (fun y58 y59 y60 y61 y62 y63 y64 h65 =>
f_X10_sheet_L177 (fun y77 y78 y79 y80 y81 y82 y83 h84 =>
f_X10_sheet_L214 6000 y77 y78 y79 y80 y81 y82 (0 : Int32) h84) 6000 y58 y59 y60 y61 y62 y63 (0 : Int32) h65) 6000 y22 y23 y24 y25 y26 x32 (0 : Int32) h50)) 6000 a0 a1 a2 a3 x9 (0 : Int32) h8) else (
some ((-1 : Int32), h8)))))
set_option maxHeartbeats 4000000 in
set_option maxRecDepth 100000 in
theorem t_X10_sheet {X : Cx} {d : Nat} {h : Hp} {a0 : Nat} {a1 : Int32} {a2 : Int32} {a3 : Int32} {v : Int32} {h' : Hp} (hD : 2 ≤ d) (H : f_X10_sheet h a0 a1 a2 a3 = some (v, h')) : PM X mX10_sheet d [.ref a0, .int a1, .int a2, .int a3] h (some (.int v)) h' := by
  unfold f_X10_sheet at H
  refine PM.of (loc := [some (.ref a0), some (.int a1), some (.int a2), some (.int a3), none, none, none]) (by decide) rfl (Nat.le_of_ble_eq_true rfl) ?_
  refine ev_iload_n dX10_sheet_0 rfl rfl ?_
  refine ev_i2l dX10_sheet_1 rfl ?_
  refine ev_lconst (v := (1 : Int64)) dX10_sheet_2 (by decide) ?_
  refine ev_ldc2 (v := (3 : Int64)) dX10_sheet_3 k5_158 ?_
  replace H := bnd_some H
  obtain ⟨v1, h2, eh2, H⟩ := H
  have ph2 := (t_X10_isIn (X := X) (d := 1) (by omega) eh2)
  refine ev_callS (as := [.long (a1.toInt64), .long (1 : Int64), .long (3 : Int64)]) dX10_sheet_6 ph2 ok_X10_isIn (by omega) rfl k5_88 k5_89 rfl (Nat.le_of_ble_eq_true rfl) ?_
  refine ev_if_eq (tgt := 24) dX10_sheet_9 (by decide) (fun c3 => ?_) (fun c3 => ?_)
  · rw [if_pos c3] at H
    refine ev_bipush (v := (-2 : Int32)) dX10_sheet_24 (by decide) ?_
    exact ev_iretx dX10_sheet_26 rfl rfl H
  · rw [if_neg c3] at H
    refine ev_iload_n dX10_sheet_12 rfl rfl ?_
    refine ev_i2l dX10_sheet_13 rfl ?_
    refine ev_lconst (v := (1 : Int64)) dX10_sheet_14 (by decide) ?_
    refine ev_ldc2 (v := (60 : Int64)) dX10_sheet_15 k5_163 ?_
    replace H := bnd_some H
    obtain ⟨v4, h5, eh5, H⟩ := H
    have ph5 := (t_X10_isIn (X := X) (d := 1) (by omega) eh5)
    refine ev_callS (as := [.long (a3.toInt64), .long (1 : Int64), .long (60 : Int64)]) dX10_sheet_18 ph5 ok_X10_isIn (by omega) rfl k5_88 k5_89 rfl (Nat.le_of_ble_eq_true rfl) ?_
    refine ev_if_ne (tgt := 27) dX10_sheet_21 (by decide) (fun c6 => ?_) (fun c6 => ?_)
    · rw [if_neg c6] at H
      refine ev_iconst (v := (2 : Int32)) dX10_sheet_27 (by decide) ?_
      refine ev_iload_n dX10_sheet_28 rfl rfl ?_
      replace H := bnd_some H
      obtain ⟨v7, h8, eh8, H⟩ := H
      have ph8 := (t_X10_leavesOf (X := X) (d := 1) (by omega) eh8)
      refine ev_callS (as := [.int a1]) dX10_sheet_29 ph8 ok_X10_leavesOf (by omega) rfl k4_156 k4_157 rfl (Nat.le_of_ble_eq_true rfl) ?_
      refine ev_imul dX10_sheet_32 ?_
      replace H := vl_some H
      obtain ⟨x9, ex9, H⟩ := H
      refine ev_istorex (loc2 := [some (.ref a0), some (.int a1), some (.int a2), some (.int a3), some (.int x9), none, none]) dX10_sheet_33 (by decide) ex9 rfl ?_
      refine ev_iload_n dX10_sheet_35 rfl rfl ?_
      refine ev_if_lt (tgt := 54) dX10_sheet_36 (by decide) (fun c10 => ?_) (fun c10 => ?_)
      · rw [if_pos c10] at H
        refine ev_iconst (v := (-1 : Int32)) dX10_sheet_54 (by decide) ?_
        exact ev_iretx dX10_sheet_55 rfl rfl H
      · rw [if_neg c10] at H
        refine ev_iload_n dX10_sheet_39 rfl rfl ?_
        refine ev_i2l dX10_sheet_40 rfl ?_
        refine ev_iload dX10_sheet_41 rfl ?_
        refine ev_i2l dX10_sheet_43 rfl ?_
        refine ev_ladd dX10_sheet_44 ?_
        refine ev_aload_n dX10_sheet_45 rfl rfl rfl ?_
        replace H := gd_some H
        obtain ⟨g11, H⟩ := H
        replace H := vl_some H
        obtain ⟨x12, ex12, H⟩ := H
        refine ev_getIx dX10_sheet_46 fgX10_141 rfl (okOb.p g11) ex12 ?_
        refine ev_i2l dX10_sheet_49 rfl ?_
        refine ev_lcmp dX10_sheet_50 ?_
        refine ev_if_le (tgt := 56) dX10_sheet_51 (by decide) (fun c13 => ?_) (fun c13 => ?_)
        · rw [if_pos c13] at H
          refine ev_iconst (v := (0 : Int32)) dX10_sheet_56 (by decide) ?_
          refine ev_istore (loc2 := [some (.ref a0), some (.int a1), some (.int a2), some (.int a3), some (.int x9), some (.int (0 : Int32)), none]) dX10_sheet_57 (by decide) rfl ?_
          refine t_X10_sheet_L59 hD ?_ 6000 a0 a1 a2 a3 x9 (0 : Int32) h8 H
          · intro y22 y23 y24 y25 y26 y27 h28 H
            refine ev_aload_n dX10_sheet_87 rfl rfl rfl ?_
            replace H := gd_some H
            obtain ⟨g29, H⟩ := H
            replace H := vl_some H
            obtain ⟨x30, ex30, H⟩ := H
            refine ev_getIx dX10_sheet_88 fgX10_199 rfl (okOb.p g29) ex30 ?_
            refine ev_bipush (v := (6 : Int32)) dX10_sheet_91 (by decide) ?_
            refine ev_icmp_ne (tgt := 99) dX10_sheet_93 (by decide) (fun c31 => ?_) (fun c31 => ?_)
            · rw [if_neg c31] at H
              refine ev_aload_n dX10_sheet_99 rfl rfl rfl ?_
              replace H := vl_some H
              obtain ⟨x32, ex32, H⟩ := H
              refine ev_getIx dX10_sheet_100 fgX10_199 rfl (okOb.p g29) ex32 ?_
              refine ev_istore (loc2 := [some (.ref y22), some (.int y23), some (.int y24), some (.int y25), some (.int y26), some (.int x32), none]) dX10_sheet_103 (by decide) rfl ?_
              refine ev_aload_n dX10_sheet_105 rfl rfl rfl ?_
              refine ev_dup dX10_sheet_106 rfl ?_
              replace H := vl_some H
              obtain ⟨x33, ex33, H⟩ := H
              refine ev_getIx dX10_sheet_107 fgX10_199 rfl (okOb.p g29) ex33 ?_
              refine ev_iconst (v := (1 : Int32)) dX10_sheet_110 (by decide) ?_
              refine ev_iadd dX10_sheet_111 ?_
              replace H := vl_some H
              obtain ⟨h34, eh34, H⟩ := H
              refine ev_putI dX10_sheet_112 fdX10_199 rfl rfl rfl (okOb.p g29) eh34 ?_
              refine ev_aload_n dX10_sheet_115 rfl rfl rfl ?_
              replace H := vl_some H
              obtain ⟨r35, er35, H⟩ := H
              refine ev_getRx dX10_sheet_116 fgX10_61 rfl (okO_sI eh34 (okOb.p g29)) er35 ?_
              refine ev_iload dX10_sheet_119 rfl ?_
              refine ev_iload_n dX10_sheet_121 rfl rfl ?_
              replace H := un_some H
              obtain ⟨b36, eb36, H⟩ := H
              subst eb36
              replace H := gd_some H
              obtain ⟨g37, H⟩ := H
              replace H := vl_some H
              obtain ⟨h38, eh38, H⟩ := H
              refine ev_iast dX10_sheet_122 (okAb.p g37) eh38 ?_
              refine ev_aload_n dX10_sheet_123 rfl rfl rfl ?_
              replace H := vl_some H
              obtain ⟨r39, er39, H⟩ := H
              refine ev_getRx dX10_sheet_124 fgX10_64 rfl (okO_sI eh38 (okO_sI eh34 (okOb.p g29))) er39 ?_
              refine ev_iload dX10_sheet_127 rfl ?_
              refine ev_iload_n dX10_sheet_129 rfl rfl ?_
              replace H := un_some H
              obtain ⟨b40, eb40, H⟩ := H
              subst eb40
              replace H := gd_some H
              obtain ⟨g41, H⟩ := H
              replace H := vl_some H
              obtain ⟨h42, eh42, H⟩ := H
              refine ev_iast dX10_sheet_130 (okAb.p g41) eh42 ?_
              refine ev_aload_n dX10_sheet_131 rfl rfl rfl ?_
              replace H := vl_some H
              obtain ⟨r43, er43, H⟩ := H
              refine ev_getRx dX10_sheet_132 fgX10_67 rfl (okO_sI eh42 (okO_sI eh38 (okO_sI eh34 (okOb.p g29)))) er43 ?_
              refine ev_iload dX10_sheet_135 rfl ?_
              refine ev_iload_n dX10_sheet_137 rfl rfl ?_
              replace H := un_some H
              obtain ⟨b44, eb44, H⟩ := H
              subst eb44
              replace H := gd_some H
              obtain ⟨g45, H⟩ := H
              replace H := vl_some H
              obtain ⟨h46, eh46, H⟩ := H
              refine ev_iast dX10_sheet_138 (okAb.p g45) eh46 ?_
              refine ev_aload_n dX10_sheet_139 rfl rfl rfl ?_
              replace H := vl_some H
              obtain ⟨r47, er47, H⟩ := H
              refine ev_getRx dX10_sheet_140 fgX10_70 rfl (okO_sI eh46 (okO_sI eh42 (okO_sI eh38 (okO_sI eh34 (okOb.p g29))))) er47 ?_
              refine ev_iload dX10_sheet_143 rfl ?_
              refine ev_iconst (v := (-1 : Int32)) dX10_sheet_145 (by decide) ?_
              replace H := un_some H
              obtain ⟨b48, eb48, H⟩ := H
              subst eb48
              replace H := gd_some H
              obtain ⟨g49, H⟩ := H
              replace H := vl_some H
              obtain ⟨h50, eh50, H⟩ := H
              refine ev_iast dX10_sheet_146 (okAb.p g49) eh50 ?_
              refine ev_iconst (v := (0 : Int32)) dX10_sheet_147 (by decide) ?_
              refine ev_istore (loc2 := [some (.ref y22), some (.int y23), some (.int y24), some (.int y25), some (.int y26), some (.int x32), some (.int (0 : Int32))]) dX10_sheet_148 (by decide) rfl ?_
              refine t_X10_sheet_L150 hD ?_ 6000 y22 y23 y24 y25 y26 x32 (0 : Int32) h50 H
              · intro y58 y59 y60 y61 y62 y63 y64 h65 H
                refine ev_iconst (v := (0 : Int32)) dX10_sheet_174 (by decide) ?_
                refine ev_istore (loc2 := [some (.ref y58), some (.int y59), some (.int y60), some (.int y61), some (.int y62), some (.int y63), some (.int (0 : Int32))]) dX10_sheet_175 (by decide) rfl ?_
                refine t_X10_sheet_L177 hD ?_ 6000 y58 y59 y60 y61 y62 y63 (0 : Int32) h65 H
                · intro y77 y78 y79 y80 y81 y82 y83 h84 H
                  refine ev_iconst (v := (0 : Int32)) dX10_sheet_211 (by decide) ?_
                  refine ev_istore (loc2 := [some (.ref y77), some (.int y78), some (.int y79), some (.int y80), some (.int y81), some (.int y82), some (.int (0 : Int32))]) dX10_sheet_212 (by decide) rfl ?_
                  refine t_X10_sheet_L214 hD  6000 y77 y78 y79 y80 y81 y82 (0 : Int32) h84 H
            · rw [if_pos c31] at H
              refine ev_bipush (v := (-4 : Int32)) dX10_sheet_96 (by decide) ?_
              exact ev_iretx dX10_sheet_98 rfl rfl H
        · rw [if_neg c13] at H
          refine ev_iconst (v := (-1 : Int32)) dX10_sheet_54 (by decide) ?_
          exact ev_iretx dX10_sheet_55 rfl rfl H
    · rw [if_pos c6] at H
      refine ev_bipush (v := (-2 : Int32)) dX10_sheet_24 (by decide) ?_
      exact ev_iretx dX10_sheet_26 rfl rfl H

theorem dX10_isSheet_0 : decode cX10_isSheet 0 = .ok (.iload_n 1, 1) := by decide +kernel
theorem dX10_isSheet_1 : decode cX10_isSheet 1 = .ok (.ifCond .lt 15, 3) := by decide +kernel
theorem dX10_isSheet_4 : decode cX10_isSheet 4 = .ok (.iload_n 1, 1) := by decide +kernel
theorem dX10_isSheet_5 : decode cX10_isSheet 5 = .ok (.aload_n 0, 1) := by decide +kernel
theorem dX10_isSheet_6 : decode cX10_isSheet 6 = .ok (.getfield 199, 3) := by decide +kernel
theorem dX10_isSheet_9 : decode cX10_isSheet 9 = .ok (.if_icmp .ge 7, 3) := by decide +kernel
theorem dX10_isSheet_12 : decode cX10_isSheet 12 = .ok (.iconst 1, 1) := by decide +kernel
theorem dX10_isSheet_13 : decode cX10_isSheet 13 = .ok (.goto 4, 3) := by decide +kernel
theorem dX10_isSheet_16 : decode cX10_isSheet 16 = .ok (.iconst 0, 1) := by decide +kernel
theorem dX10_isSheet_17 : decode cX10_isSheet 17 = .ok (.ireturn, 1) := by decide +kernel
def f_X10_isSheet (h : Hp) (a0 : Nat) (a1 : Int32) : Option (Int32 × Hp) :=
if a1 < 0 then (
some ((0 : Int32), h)) else (
gd (okOb h a0 10) <|
vl (gI h a0 23) fun x3 =>
if x3 ≤ a1 then (
some ((0 : Int32), h)) else (
some ((1 : Int32), h)))
set_option maxHeartbeats 4000000 in
set_option maxRecDepth 100000 in
theorem t_X10_isSheet {X : Cx} {d : Nat} {h : Hp} {a0 : Nat} {a1 : Int32} {v : Int32} {h' : Hp} (hD : 1 ≤ d) (H : f_X10_isSheet h a0 a1 = some (v, h')) : PM X mX10_isSheet d [.ref a0, .int a1] h (some (.int v)) h' := by
  unfold f_X10_isSheet at H
  refine PM.of (loc := [some (.ref a0), some (.int a1)]) (by decide) rfl (Nat.le_of_ble_eq_true rfl) ?_
  refine ev_iload_n dX10_isSheet_0 rfl rfl ?_
  refine ev_if_lt (tgt := 16) dX10_isSheet_1 (by decide) (fun c1 => ?_) (fun c1 => ?_)
  · rw [if_pos c1] at H
    refine ev_iconst (v := (0 : Int32)) dX10_isSheet_16 (by decide) ?_
    exact ev_iretx dX10_isSheet_17 rfl rfl H
  · rw [if_neg c1] at H
    refine ev_iload_n dX10_isSheet_4 rfl rfl ?_
    refine ev_aload_n dX10_isSheet_5 rfl rfl rfl ?_
    replace H := gd_some H
    obtain ⟨g2, H⟩ := H
    replace H := vl_some H
    obtain ⟨x3, ex3, H⟩ := H
    refine ev_getIx dX10_isSheet_6 fgX10_199 rfl (okOb.p g2) ex3 ?_
    refine ev_icmp_ge (tgt := 16) dX10_isSheet_9 (by decide) (fun c4 => ?_) (fun c4 => ?_)
    · rw [if_pos c4] at H
      refine ev_iconst (v := (0 : Int32)) dX10_isSheet_16 (by decide) ?_
      exact ev_iretx dX10_isSheet_17 rfl rfl H
    · rw [if_neg c4] at H
      refine ev_iconst (v := (1 : Int32)) dX10_isSheet_12 (by decide) ?_
      refine ev_goto (tgt := 17) dX10_isSheet_13 (by decide) ?_
      exact ev_iretx dX10_isSheet_17 rfl rfl H

theorem dX10_isForme_0 : decode cX10_isForme 0 = .ok (.iload_n 1, 1) := by decide +kernel
theorem dX10_isForme_1 : decode cX10_isForme 1 = .ok (.ifCond .lt 17, 3) := by decide +kernel
theorem dX10_isForme_4 : decode cX10_isForme 4 = .ok (.iload_n 1, 1) := by decide +kernel
theorem dX10_isForme_5 : decode cX10_isForme 5 = .ok (.iconst 2, 1) := by decide +kernel
theorem dX10_isForme_6 : decode cX10_isForme 6 = .ok (.aload_n 0, 1) := by decide +kernel
theorem dX10_isForme_7 : decode cX10_isForme 7 = .ok (.getfield 199, 3) := by decide +kernel
theorem dX10_isForme_10 : decode cX10_isForme 10 = .ok (.imul, 1) := by decide +kernel
theorem dX10_isForme_11 : decode cX10_isForme 11 = .ok (.if_icmp .ge 7, 3) := by decide +kernel
theorem dX10_isForme_14 : decode cX10_isForme 14 = .ok (.iconst 1, 1) := by decide +kernel
theorem dX10_isForme_15 : decode cX10_isForme 15 = .ok (.goto 4, 3) := by decide +kernel
theorem dX10_isForme_18 : decode cX10_isForme 18 = .ok (.iconst 0, 1) := by decide +kernel
theorem dX10_isForme_19 : decode cX10_isForme 19 = .ok (.ireturn, 1) := by decide +kernel
def f_X10_isForme (h : Hp) (a0 : Nat) (a1 : Int32) : Option (Int32 × Hp) :=
if a1 < 0 then (
some ((0 : Int32), h)) else (
gd (okOb h a0 10) <|
vl (gI h a0 23) fun x3 =>
if ((2 : Int32) * x3) ≤ a1 then (
some ((0 : Int32), h)) else (
some ((1 : Int32), h)))
set_option maxHeartbeats 4000000 in
set_option maxRecDepth 100000 in
theorem t_X10_isForme {X : Cx} {d : Nat} {h : Hp} {a0 : Nat} {a1 : Int32} {v : Int32} {h' : Hp} (hD : 1 ≤ d) (H : f_X10_isForme h a0 a1 = some (v, h')) : PM X mX10_isForme d [.ref a0, .int a1] h (some (.int v)) h' := by
  unfold f_X10_isForme at H
  refine PM.of (loc := [some (.ref a0), some (.int a1)]) (by decide) rfl (Nat.le_of_ble_eq_true rfl) ?_
  refine ev_iload_n dX10_isForme_0 rfl rfl ?_
  refine ev_if_lt (tgt := 18) dX10_isForme_1 (by decide) (fun c1 => ?_) (fun c1 => ?_)
  · rw [if_pos c1] at H
    refine ev_iconst (v := (0 : Int32)) dX10_isForme_18 (by decide) ?_
    exact ev_iretx dX10_isForme_19 rfl rfl H
  · rw [if_neg c1] at H
    refine ev_iload_n dX10_isForme_4 rfl rfl ?_
    refine ev_iconst (v := (2 : Int32)) dX10_isForme_5 (by decide) ?_
    refine ev_aload_n dX10_isForme_6 rfl rfl rfl ?_
    replace H := gd_some H
    obtain ⟨g2, H⟩ := H
    replace H := vl_some H
    obtain ⟨x3, ex3, H⟩ := H
    refine ev_getIx dX10_isForme_7 fgX10_199 rfl (okOb.p g2) ex3 ?_
    refine ev_imul dX10_isForme_10 ?_
    refine ev_icmp_ge (tgt := 18) dX10_isForme_11 (by decide) (fun c4 => ?_) (fun c4 => ?_)
    · rw [if_pos c4] at H
      refine ev_iconst (v := (0 : Int32)) dX10_isForme_18 (by decide) ?_
      exact ev_iretx dX10_isForme_19 rfl rfl H
    · rw [if_neg c4] at H
      refine ev_iconst (v := (1 : Int32)) dX10_isForme_14 (by decide) ?_
      refine ev_goto (tgt := 19) dX10_isForme_15 (by decide) ?_
      exact ev_iretx dX10_isForme_19 rfl rfl H

theorem dX10_pageIn_0 : decode cX10_pageIn 0 = .ok (.aload_n 0, 1) := by decide +kernel
theorem dX10_pageIn_1 : decode cX10_pageIn 1 = .ok (.getfield 64, 3) := by decide +kernel
theorem dX10_pageIn_4 : decode cX10_pageIn 4 = .ok (.iload_n 1, 1) := by decide +kernel
theorem dX10_pageIn_5 : decode cX10_pageIn 5 = .ok (.iconst 2, 1) := by decide +kernel
theorem dX10_pageIn_6 : decode cX10_pageIn 6 = .ok (.idiv, 1) := by decide +kernel
theorem dX10_pageIn_7 : decode cX10_pageIn 7 = .ok (.iaload, 1) := by decide +kernel
theorem dX10_pageIn_8 : decode cX10_pageIn 8 = .ok (.aload_n 0, 1) := by decide +kernel
theorem dX10_pageIn_9 : decode cX10_pageIn 9 = .ok (.getfield 49, 3) := by decide +kernel
theorem dX10_pageIn_12 : decode cX10_pageIn 12 = .ok (.bipush 16, 2) := by decide +kernel
theorem dX10_pageIn_14 : decode cX10_pageIn 14 = .ok (.aload_n 0, 1) := by decide +kernel
theorem dX10_pageIn_15 : decode cX10_pageIn 15 = .ok (.getfield 61, 3) := by decide +kernel
theorem dX10_pageIn_18 : decode cX10_pageIn 18 = .ok (.iload_n 1, 1) := by decide +kernel
theorem dX10_pageIn_19 : decode cX10_pageIn 19 = .ok (.iconst 2, 1) := by decide +kernel
theorem dX10_pageIn_20 : decode cX10_pageIn 20 = .ok (.idiv, 1) := by decide +kernel
theorem dX10_pageIn_21 : decode cX10_pageIn 21 = .ok (.iaload, 1) := by decide +kernel
theorem dX10_pageIn_22 : decode cX10_pageIn 22 = .ok (.imul, 1) := by decide +kernel
theorem dX10_pageIn_23 : decode cX10_pageIn 23 = .ok (.iconst 2, 1) := by decide +kernel
theorem dX10_pageIn_24 : decode cX10_pageIn 24 = .ok (.iload_n 2, 1) := by decide +kernel
theorem dX10_pageIn_25 : decode cX10_pageIn 25 = .ok (.imul, 1) := by decide +kernel
theorem dX10_pageIn_26 : decode cX10_pageIn 26 = .ok (.iadd, 1) := by decide +kernel
theorem dX10_pageIn_27 : decode cX10_pageIn 27 = .ok (.iload_n 1, 1) := by decide +kernel
theorem dX10_pageIn_28 : decode cX10_pageIn 28 = .ok (.iconst 2, 1) := by decide +kernel
theorem dX10_pageIn_29 : decode cX10_pageIn 29 = .ok (.irem, 1) := by decide +kernel
theorem dX10_pageIn_30 : decode cX10_pageIn 30 = .ok (.iadd, 1) := by decide +kernel
theorem dX10_pageIn_31 : decode cX10_pageIn 31 = .ok (.iaload, 1) := by decide +kernel
theorem dX10_pageIn_32 : decode cX10_pageIn 32 = .ok (.iadd, 1) := by decide +kernel
theorem dX10_pageIn_33 : decode cX10_pageIn 33 = .ok (.ireturn, 1) := by decide +kernel
def f_X10_pageIn (h : Hp) (a0 : Nat) (a1 : Int32) (a2 : Int32) : Option (Int32 × Hp) :=
gd (okOb h a0 10) <|
vl (gR h a0 20) fun r2 =>
un r2 fun b3 =>
gd (okAb h b3 11 (a1 / (2 : Int32))) <|
vl (gI h b3 (a1 / (2 : Int32)).toNatClampNeg) fun x5 =>
vl (gR h a0 15) fun r6 =>
vl (gR h a0 19) fun r7 =>
un r7 fun b8 =>
gd (okAb h b8 11 (a1 / (2 : Int32))) <|
vl (gI h b8 (a1 / (2 : Int32)).toNatClampNeg) fun x10 =>
un r6 fun b11 =>
gd (okAb h b11 11 ((((16 : Int32) * x10) + ((2 : Int32) * a2)) + (a1 - a1 / (2 : Int32) * (2 : Int32)))) <|
vl (gI h b11 ((((16 : Int32) * x10) + ((2 : Int32) * a2)) + (a1 - a1 / (2 : Int32) * (2 : Int32))).toNatClampNeg) fun x13 =>
some (x5 + x13, h)
set_option maxHeartbeats 4000000 in
set_option maxRecDepth 100000 in
theorem t_X10_pageIn {X : Cx} {d : Nat} {h : Hp} {a0 : Nat} {a1 : Int32} {a2 : Int32} {v : Int32} {h' : Hp} (hD : 1 ≤ d) (H : f_X10_pageIn h a0 a1 a2 = some (v, h')) : PM X mX10_pageIn d [.ref a0, .int a1, .int a2] h (some (.int v)) h' := by
  unfold f_X10_pageIn at H
  refine PM.of (loc := [some (.ref a0), some (.int a1), some (.int a2)]) (by decide) rfl (Nat.le_of_ble_eq_true rfl) ?_
  refine ev_aload_n dX10_pageIn_0 rfl rfl rfl ?_
  replace H := gd_some H
  obtain ⟨g1, H⟩ := H
  replace H := vl_some H
  obtain ⟨r2, er2, H⟩ := H
  refine ev_getRx dX10_pageIn_1 fgX10_64 rfl (okOb.p g1) er2 ?_
  refine ev_iload_n dX10_pageIn_4 rfl rfl ?_
  refine ev_iconst (v := (2 : Int32)) dX10_pageIn_5 (by decide) ?_
  refine ev_idiv dX10_pageIn_6 (by decide) ?_
  replace H := un_some H
  obtain ⟨b3, eb3, H⟩ := H
  subst eb3
  replace H := gd_some H
  obtain ⟨g4, H⟩ := H
  replace H := vl_some H
  obtain ⟨x5, ex5, H⟩ := H
  refine ev_ialdx dX10_pageIn_7 (okAb.p g4) ex5 ?_
  refine ev_aload_n dX10_pageIn_8 rfl rfl rfl ?_
  replace H := vl_some H
  obtain ⟨r6, er6, H⟩ := H
  refine ev_getRx dX10_pageIn_9 fgX10_49 rfl (okOb.p g1) er6 ?_
  refine ev_bipush (v := (16 : Int32)) dX10_pageIn_12 (by decide) ?_
  refine ev_aload_n dX10_pageIn_14 rfl rfl rfl ?_
  replace H := vl_some H
  obtain ⟨r7, er7, H⟩ := H
  refine ev_getRx dX10_pageIn_15 fgX10_61 rfl (okOb.p g1) er7 ?_
  refine ev_iload_n dX10_pageIn_18 rfl rfl ?_
  refine ev_iconst (v := (2 : Int32)) dX10_pageIn_19 (by decide) ?_
  refine ev_idiv dX10_pageIn_20 (by decide) ?_
  replace H := un_some H
  obtain ⟨b8, eb8, H⟩ := H
  subst eb8
  replace H := gd_some H
  obtain ⟨g9, H⟩ := H
  replace H := vl_some H
  obtain ⟨x10, ex10, H⟩ := H
  refine ev_ialdx dX10_pageIn_21 (okAb.p g9) ex10 ?_
  refine ev_imul dX10_pageIn_22 ?_
  refine ev_iconst (v := (2 : Int32)) dX10_pageIn_23 (by decide) ?_
  refine ev_iload_n dX10_pageIn_24 rfl rfl ?_
  refine ev_imul dX10_pageIn_25 ?_
  refine ev_iadd dX10_pageIn_26 ?_
  refine ev_iload_n dX10_pageIn_27 rfl rfl ?_
  refine ev_iconst (v := (2 : Int32)) dX10_pageIn_28 (by decide) ?_
  refine ev_irem dX10_pageIn_29 (by decide) ?_
  refine ev_iadd dX10_pageIn_30 ?_
  replace H := un_some H
  obtain ⟨b11, eb11, H⟩ := H
  subst eb11
  replace H := gd_some H
  obtain ⟨g12, H⟩ := H
  replace H := vl_some H
  obtain ⟨x13, ex13, H⟩ := H
  refine ev_ialdx dX10_pageIn_31 (okAb.p g12) ex13 ?_
  refine ev_iadd dX10_pageIn_32 ?_
  exact ev_iretx dX10_pageIn_33 rfl rfl H

theorem dX10_impose_0 : decode cX10_impose 0 = .ok (.aload_n 0, 1) := by decide +kernel
theorem dX10_impose_1 : decode cX10_impose 1 = .ok (.iload_n 1, 1) := by decide +kernel
theorem dX10_impose_2 : decode cX10_impose 2 = .ok (.invokevirtual 202, 3) := by decide +kernel
theorem dX10_impose_5 : decode cX10_impose 5 = .ok (.ifCond .eq 15, 3) := by decide +kernel
theorem dX10_impose_8 : decode cX10_impose 8 = .ok (.iload_n 2, 1) := by decide +kernel
theorem dX10_impose_9 : decode cX10_impose 9 = .ok (.i2l, 1) := by decide +kernel
theorem dX10_impose_10 : decode cX10_impose 10 = .ok (.lconst 0, 1) := by decide +kernel
theorem dX10_impose_11 : decode cX10_impose 11 = .ok (.ldc2_w 195, 3) := by decide +kernel
theorem dX10_impose_14 : decode cX10_impose 14 = .ok (.invokestatic 151, 3) := by decide +kernel
theorem dX10_impose_17 : decode cX10_impose 17 = .ok (.ifCond .ne 5, 3) := by decide +kernel
theorem dX10_impose_20 : decode cX10_impose 20 = .ok (.iconst (-1), 1) := by decide +kernel
theorem dX10_impose_21 : decode cX10_impose 21 = .ok (.ireturn, 1) := by decide +kernel
theorem dX10_impose_22 : decode cX10_impose 22 = .ok (.aload_n 0, 1) := by decide +kernel
theorem dX10_impose_23 : decode cX10_impose 23 = .ok (.getfield 73, 3) := by decide +kernel
theorem dX10_impose_26 : decode cX10_impose 26 = .ok (.iload_n 1, 1) := by decide +kernel
theorem dX10_impose_27 : decode cX10_impose 27 = .ok (.iaload, 1) := by decide +kernel
theorem dX10_impose_28 : decode cX10_impose 28 = .ok (.ifCond .ge 12, 3) := by decide +kernel
theorem dX10_impose_31 : decode cX10_impose 31 = .ok (.aload_n 0, 1) := by decide +kernel
theorem dX10_impose_32 : decode cX10_impose 32 = .ok (.getfield 76, 3) := by decide +kernel
theorem dX10_impose_35 : decode cX10_impose 35 = .ok (.iload_n 1, 1) := by decide +kernel
theorem dX10_impose_36 : decode cX10_impose 36 = .ok (.iaload, 1) := by decide +kernel
theorem dX10_impose_37 : decode cX10_impose 37 = .ok (.ifCond .le 6, 3) := by decide +kernel
theorem dX10_impose_40 : decode cX10_impose 40 = .ok (.bipush (-3), 2) := by decide +kernel
theorem dX10_impose_42 : decode cX10_impose 42 = .ok (.ireturn, 1) := by decide +kernel
theorem dX10_impose_43 : decode cX10_impose 43 = .ok (.iconst 0, 1) := by decide +kernel
theorem dX10_impose_44 : decode cX10_impose 44 = .ok (.istore_n 3, 1) := by decide +kernel
theorem dX10_impose_45 : decode cX10_impose 45 = .ok (.iload_n 3, 1) := by decide +kernel
theorem dX10_impose_46 : decode cX10_impose 46 = .ok (.bipush 12, 2) := by decide +kernel
theorem dX10_impose_48 : decode cX10_impose 48 = .ok (.if_icmp .ge 22, 3) := by decide +kernel
theorem dX10_impose_51 : decode cX10_impose 51 = .ok (.aload_n 0, 1) := by decide +kernel
theorem dX10_impose_52 : decode cX10_impose 52 = .ok (.getfield 73, 3) := by decide +kernel
theorem dX10_impose_55 : decode cX10_impose 55 = .ok (.iload_n 3, 1) := by decide +kernel
theorem dX10_impose_56 : decode cX10_impose 56 = .ok (.iaload, 1) := by decide +kernel
theorem dX10_impose_57 : decode cX10_impose 57 = .ok (.iload_n 2, 1) := by decide +kernel
theorem dX10_impose_58 : decode cX10_impose 58 = .ok (.if_icmp .ne 6, 3) := by decide +kernel
theorem dX10_impose_61 : decode cX10_impose 61 = .ok (.bipush (-3), 2) := by decide +kernel
theorem dX10_impose_63 : decode cX10_impose 63 = .ok (.ireturn, 1) := by decide +kernel
theorem dX10_impose_64 : decode cX10_impose 64 = .ok (.iinc 3 1, 3) := by decide +kernel
theorem dX10_impose_67 : decode cX10_impose 67 = .ok (.goto (-22), 3) := by decide +kernel
theorem dX10_impose_70 : decode cX10_impose 70 = .ok (.aload_n 0, 1) := by decide +kernel
theorem dX10_impose_71 : decode cX10_impose 71 = .ok (.getfield 61, 3) := by decide +kernel
theorem dX10_impose_74 : decode cX10_impose 74 = .ok (.iload_n 1, 1) := by decide +kernel
theorem dX10_impose_75 : decode cX10_impose 75 = .ok (.iconst 2, 1) := by decide +kernel
theorem dX10_impose_76 : decode cX10_impose 76 = .ok (.idiv, 1) := by decide +kernel
theorem dX10_impose_77 : decode cX10_impose 77 = .ok (.iaload, 1) := by decide +kernel
theorem dX10_impose_78 : decode cX10_impose 78 = .ok (.invokestatic 188, 3) := by decide +kernel
theorem dX10_impose_81 : decode cX10_impose 81 = .ok (.istore_n 3, 1) := by decide +kernel
theorem dX10_impose_82 : decode cX10_impose 82 = .ok (.iconst 0, 1) := by decide +kernel
theorem dX10_impose_83 : decode cX10_impose 83 = .ok (.istore 4, 2) := by decide +kernel
theorem dX10_impose_85 : decode cX10_impose 85 = .ok (.iload 4, 2) := by decide +kernel
theorem dX10_impose_87 : decode cX10_impose 87 = .ok (.iload_n 3, 1) := by decide +kernel
theorem dX10_impose_88 : decode cX10_impose 88 = .ok (.if_icmp .ge 41, 3) := by decide +kernel
theorem dX10_impose_91 : decode cX10_impose 91 = .ok (.aload_n 0, 1) := by decide +kernel
theorem dX10_impose_92 : decode cX10_impose 92 = .ok (.iload_n 1, 1) := by decide +kernel
theorem dX10_impose_93 : decode cX10_impose 93 = .ok (.iload 4, 2) := by decide +kernel
theorem dX10_impose_95 : decode cX10_impose 95 = .ok (.invokevirtual 205, 3) := by decide +kernel
theorem dX10_impose_98 : decode cX10_impose 98 = .ok (.istore 5, 2) := by decide +kernel
theorem dX10_impose_100 : decode cX10_impose 100 = .ok (.aload_n 0, 1) := by decide +kernel
theorem dX10_impose_101 : decode cX10_impose 101 = .ok (.getfield 28, 3) := by decide +kernel
theorem dX10_impose_104 : decode cX10_impose 104 = .ok (.iload 5, 2) := by decide +kernel
theorem dX10_impose_106 : decode cX10_impose 106 = .ok (.iaload, 1) := by decide +kernel
theorem dX10_impose_107 : decode cX10_impose 107 = .ok (.ifCond .lt 13, 3) := by decide +kernel
theorem dX10_impose_110 : decode cX10_impose 110 = .ok (.aload_n 0, 1) := by decide +kernel
theorem dX10_impose_111 : decode cX10_impose 111 = .ok (.getfield 31, 3) := by decide +kernel
theorem dX10_impose_114 : decode cX10_impose 114 = .ok (.iload 5, 2) := by decide +kernel
theorem dX10_impose_116 : decode cX10_impose 116 = .ok (.iaload, 1) := by decide +kernel
theorem dX10_impose_117 : decode cX10_impose 117 = .ok (.ifCond .lt 6, 3) := by decide +kernel
theorem dX10_impose_120 : decode cX10_impose 120 = .ok (.bipush (-3), 2) := by decide +kernel
theorem dX10_impose_122 : decode cX10_impose 122 = .ok (.ireturn, 1) := by decide +kernel
theorem dX10_impose_123 : decode cX10_impose 123 = .ok (.iinc 4 1, 3) := by decide +kernel
theorem dX10_impose_126 : decode cX10_impose 126 = .ok (.goto (-41), 3) := by decide +kernel
theorem dX10_impose_129 : decode cX10_impose 129 = .ok (.iconst 0, 1) := by decide +kernel
theorem dX10_impose_130 : decode cX10_impose 130 = .ok (.istore 4, 2) := by decide +kernel
theorem dX10_impose_132 : decode cX10_impose 132 = .ok (.iload 4, 2) := by decide +kernel
theorem dX10_impose_134 : decode cX10_impose 134 = .ok (.iload_n 3, 1) := by decide +kernel
theorem dX10_impose_135 : decode cX10_impose 135 = .ok (.if_icmp .ge 22, 3) := by decide +kernel
theorem dX10_impose_138 : decode cX10_impose 138 = .ok (.aload_n 0, 1) := by decide +kernel
theorem dX10_impose_139 : decode cX10_impose 139 = .ok (.getfield 31, 3) := by decide +kernel
theorem dX10_impose_142 : decode cX10_impose 142 = .ok (.aload_n 0, 1) := by decide +kernel
theorem dX10_impose_143 : decode cX10_impose 143 = .ok (.iload_n 1, 1) := by decide +kernel
theorem dX10_impose_144 : decode cX10_impose 144 = .ok (.iload 4, 2) := by decide +kernel
theorem dX10_impose_146 : decode cX10_impose 146 = .ok (.invokevirtual 205, 3) := by decide +kernel
theorem dX10_impose_149 : decode cX10_impose 149 = .ok (.iload_n 1, 1) := by decide +kernel
theorem dX10_impose_150 : decode cX10_impose 150 = .ok (.iastore, 1) := by decide +kernel
theorem dX10_impose_151 : decode cX10_impose 151 = .ok (.iinc 4 1, 3) := by decide +kernel
theorem dX10_impose_154 : decode cX10_impose 154 = .ok (.goto (-22), 3) := by decide +kernel
theorem dX10_impose_157 : decode cX10_impose 157 = .ok (.aload_n 0, 1) := by decide +kernel
theorem dX10_impose_158 : decode cX10_impose 158 = .ok (.getfield 73, 3) := by decide +kernel
theorem dX10_impose_161 : decode cX10_impose 161 = .ok (.iload_n 1, 1) := by decide +kernel
theorem dX10_impose_162 : decode cX10_impose 162 = .ok (.iload_n 2, 1) := by decide +kernel
theorem dX10_impose_163 : decode cX10_impose 163 = .ok (.iastore, 1) := by decide +kernel
theorem dX10_impose_164 : decode cX10_impose 164 = .ok (.iload_n 3, 1) := by decide +kernel
theorem dX10_impose_165 : decode cX10_impose 165 = .ok (.ireturn, 1) := by decide +kernel
def f_X10_impose_L45 (k70 : Nat → Int32 → Int32 → Int32 → Hp → Option (Int32 × Hp)) : Nat → Nat → Int32 → Int32 → Int32 → Hp → Option (Int32 × Hp)
  | 0, _, _, _, _, _ => none
  | n + 1, l0, l1, l2, l3, h =>
    if (12 : Int32) ≤ l3 then (
    k70 l0 l1 l2 l3 h) else (
    gd (okOb h l0 10) <|
    vl (gR h l0 25) fun r20 =>
    un r20 fun b21 =>
    gd (okAb h b21 11 l3) <|
    vl (gI h b21 l3.toNatClampNeg) fun x23 =>
    if x23 = l2 then (
    some ((-3 : Int32), h)) else (
    vl (l3 + (1 : Int32)) fun x25 =>
    f_X10_impose_L45 k70 n l0 l1 l2 x25 h))
set_option maxHeartbeats 4000000 in
set_option maxRecDepth 100000 in
theorem t_X10_impose_L45 {X : Cx} {d : Nat} {h0 h' : Hp} {v : Int32} {k70 : Nat → Int32 → Int32 → Int32 → Hp → Option (Int32 × Hp)} (hD : 2 ≤ d) (hk70 : ∀ (z0 : Nat) (z1 : Int32) (z2 : Int32) (z3 : Int32) (h : Hp), k70 z0 z1 z2 z3 h = some (v, h') → EV X mX10_impose d h0 (some (.int v)) h' 70 [some (.ref z0), some (.int z1), some (.int z2), some (.int z3), none, none] [] h) : ∀ (n : Nat) (l0 : Nat) (l1 : Int32) (l2 : Int32) (l3 : Int32) (h : Hp), f_X10_impose_L45 k70 n l0 l1 l2 l3 h = some (v, h') → EV X mX10_impose d h0 (some (.int v)) h' 45 [some (.ref l0), some (.int l1), some (.int l2), some (.int l3), none, none] [] h := by
  intro n
  induction n with
  | zero => intro l0 l1 l2 l3 h H; simp [f_X10_impose_L45] at H
  | succ n ih =>
    intro l0 l1 l2 l3 h H
    rw [f_X10_impose_L45] at H
    refine ev_iload_n dX10_impose_45 rfl rfl ?_
    refine ev_bipush (v := (12 : Int32)) dX10_impose_46 (by decide) ?_
    refine ev_icmp_ge (tgt := 70) dX10_impose_48 (by decide) (fun c18 => ?_) (fun c18 => ?_)
    · rw [if_pos c18] at H
      exact hk70 l0 l1 l2 l3 h H
    · rw [if_neg c18] at H
      refine ev_aload_n dX10_impose_51 rfl rfl rfl ?_
      replace H := gd_some H
      obtain ⟨g19, H⟩ := H
      replace H := vl_some H
      obtain ⟨r20, er20, H⟩ := H
      refine ev_getRx dX10_impose_52 fgX10_73 rfl (okOb.p g19) er20 ?_
      refine ev_iload_n dX10_impose_55 rfl rfl ?_
      replace H := un_some H
      obtain ⟨b21, eb21, H⟩ := H
      subst eb21
      replace H := gd_some H
      obtain ⟨g22, H⟩ := H
      replace H := vl_some H
      obtain ⟨x23, ex23, H⟩ := H
      refine ev_ialdx dX10_impose_56 (okAb.p g22) ex23 ?_
      refine ev_iload_n dX10_impose_57 rfl rfl ?_
      refine ev_icmp_ne (tgt := 64) dX10_impose_58 (by decide) (fun c24 => ?_) (fun c24 => ?_)
      · rw [if_neg c24] at H
        replace H := vl_some H
        obtain ⟨x25, ex25, H⟩ := H
        refine ev_iincx (loc2 := [some (.ref l0), some (.int l1), some (.int l2), some (.int x25), none, none]) dX10_impose_64 rfl (by decide) ex25 (by decide) rfl ?_
        refine ev_goto (tgt := 45) dX10_impose_67 (by decide) ?_
        exact ih l0 l1 l2 x25 h H
      · rw [if_pos c24] at H
        refine ev_bipush (v := (-3 : Int32)) dX10_impose_61 (by decide) ?_
        exact ev_iretx dX10_impose_63 rfl rfl H
def f_X10_impose_L85 (k129 : Nat → Int32 → Int32 → Int32 → Int32 → Hp → Option (Int32 × Hp)) : Nat → Nat → Int32 → Int32 → Int32 → Int32 → Hp → Option (Int32 × Hp)
  | 0, _, _, _, _, _, _ => none
  | n + 1, l0, l1, l2, l3, l4, h =>
    if l3 ≤ l4 then (
    k129 l0 l1 l2 l3 l4 h) else (
    gd (okOb h l0 10) <|
    bnd (f_X10_pageIn h l0 l1 l4) fun v40 h41 =>
    vl (gR h41 l0 7) fun r42 =>
    un r42 fun b43 =>
    gd (okAb h41 b43 11 v40) <|
    vl (gI h41 b43 v40.toNatClampNeg) fun x45 =>
    if x45 < 0 then (
    some ((-3 : Int32), h41)) else (
    vl (gR h41 l0 8) fun r47 =>
    un r47 fun b48 =>
    gd (okAb h41 b48 11 v40) <|
    vl (gI h41 b48 v40.toNatClampNeg) fun x50 =>
    if x50 < 0 then (
    vl (l4 + (1 : Int32)) fun x52 =>
    f_X10_impose_L85 k129 n l0 l1 l2 l3 x52 h41) else (
    some ((-3 : Int32), h41))))
set_option maxHeartbeats 4000000 in
set_option maxRecDepth 100000 in
theorem t_X10_impose_L85 {X : Cx} {d : Nat} {h0 h' : Hp} {v : Int32} {k129 : Nat → Int32 → Int32 → Int32 → Int32 → Hp → Option (Int32 × Hp)} (hD : 2 ≤ d) (hk129 : ∀ (z0 : Nat) (z1 : Int32) (z2 : Int32) (z3 : Int32) (z4 : Int32) (h : Hp), k129 z0 z1 z2 z3 z4 h = some (v, h') → EV X mX10_impose d h0 (some (.int v)) h' 129 [some (.ref z0), some (.int z1), some (.int z2), some (.int z3), some (.int z4), none] [] h) : ∀ (n : Nat) (l0 : Nat) (l1 : Int32) (l2 : Int32) (l3 : Int32) (l4 : Int32) (h : Hp), f_X10_impose_L85 k129 n l0 l1 l2 l3 l4 h = some (v, h') → EV X mX10_impose d h0 (some (.int v)) h' 85 [some (.ref l0), some (.int l1), some (.int l2), some (.int l3), some (.int l4), none] [] h := by
  intro n
  induction n with
  | zero => intro l0 l1 l2 l3 l4 h H; simp [f_X10_impose_L85] at H
  | succ n ih =>
    intro l0 l1 l2 l3 l4 h H
    rw [f_X10_impose_L85] at H
    refine ev_iload dX10_impose_85 rfl ?_
    refine ev_iload_n dX10_impose_87 rfl rfl ?_
    refine ev_icmp_ge (tgt := 129) dX10_impose_88 (by decide) (fun c38 => ?_) (fun c38 => ?_)
    · rw [if_pos c38] at H
      exact hk129 l0 l1 l2 l3 l4 h H
    · rw [if_neg c38] at H
      refine ev_aload_n dX10_impose_91 rfl rfl rfl ?_
      refine ev_iload_n dX10_impose_92 rfl rfl ?_
      refine ev_iload dX10_impose_93 rfl ?_
      replace H := gd_some H
      obtain ⟨g39, H⟩ := H
      replace H := bnd_some H
      obtain ⟨v40, h41, eh41, H⟩ := H
      have ph41 := (t_X10_pageIn (X := X) (d := 1) (by omega) eh41)
      refine ev_callV (as := [.int l1, .int l4]) dX10_impose_95 ph41 ok_X10_pageIn (by omega) rfl k5_172 k5_174 ks_32 (ci := 10) (by decide) rfl rfl (okOb.p g39) rfl (Nat.le_of_ble_eq_true rfl) ?_
      refine ev_istore (loc2 := [some (.ref l0), some (.int l1), some (.int l2), some (.int l3), some (.int l4), some (.int v40)]) dX10_impose_98 (by decide) rfl ?_
      refine ev_aload_n dX10_impose_100 rfl rfl rfl ?_
      replace H := vl_some H
      obtain ⟨r42, er42, H⟩ := H
      refine ev_getRx dX10_impose_101 fgX10_28 rfl (okO_ext ph41.1 (okOb.p g39)) er42 ?_
      refine ev_iload dX10_impose_104 rfl ?_
      replace H := un_some H
      obtain ⟨b43, eb43, H⟩ := H
      subst eb43
      replace H := gd_some H
      obtain ⟨g44, H⟩ := H
      replace H := vl_some H
      obtain ⟨x45, ex45, H⟩ := H
      refine ev_ialdx dX10_impose_106 (okAb.p g44) ex45 ?_
      refine ev_if_lt (tgt := 120) dX10_impose_107 (by decide) (fun c46 => ?_) (fun c46 => ?_)
      · rw [if_pos c46] at H
        refine ev_bipush (v := (-3 : Int32)) dX10_impose_120 (by decide) ?_
        exact ev_iretx dX10_impose_122 rfl rfl H
      · rw [if_neg c46] at H
        refine ev_aload_n dX10_impose_110 rfl rfl rfl ?_
        replace H := vl_some H
        obtain ⟨r47, er47, H⟩ := H
        refine ev_getRx dX10_impose_111 fgX10_31 rfl (okO_ext ph41.1 (okOb.p g39)) er47 ?_
        refine ev_iload dX10_impose_114 rfl ?_
        replace H := un_some H
        obtain ⟨b48, eb48, H⟩ := H
        subst eb48
        replace H := gd_some H
        obtain ⟨g49, H⟩ := H
        replace H := vl_some H
        obtain ⟨x50, ex50, H⟩ := H
        refine ev_ialdx dX10_impose_116 (okAb.p g49) ex50 ?_
        refine ev_if_lt (tgt := 123) dX10_impose_117 (by decide) (fun c51 => ?_) (fun c51 => ?_)
        · rw [if_pos c51] at H
          replace H := vl_some H
          obtain ⟨x52, ex52, H⟩ := H
          refine ev_iincx (loc2 := [some (.ref l0), some (.int l1), some (.int l2), some (.int l3), some (.int x52), some (.int v40)]) dX10_impose_123 rfl (by decide) ex52 (by decide) rfl ?_
          refine ev_goto (tgt := 85) dX10_impose_126 (by decide) ?_
          refine ev_drop (loc2 := [some (.ref l0), some (.int l1), some (.int l2), some (.int l3), some (.int x52), none]) [true, true, true, true, true, false] rfl ?_
          exact ih l0 l1 l2 l3 x52 h41 H
        · rw [if_neg c51] at H
          refine ev_bipush (v := (-3 : Int32)) dX10_impose_120 (by decide) ?_
          exact ev_iretx dX10_impose_122 rfl rfl H
def f_X10_impose_L132 : Nat → Nat → Int32 → Int32 → Int32 → Int32 → Hp → Option (Int32 × Hp)
  | 0, _, _, _, _, _, _ => none
  | n + 1, l0, l1, l2, l3, l4, h =>
    if l3 ≤ l4 then (
    gd (okOb h l0 10) <|
    vl (gR h l0 25) fun r61 =>
    un r61 fun b62 =>
    gd (okAb h b62 11 l1) <|
    vl (sI h b62 l1.toNatClampNeg l2) fun h64 =>
    some (l3, h64)) else (
    gd (okOb h l0 10) <|
    vl (gR h l0 8) fun r66 =>
    bnd (f_X10_pageIn h l0 l1 l4) fun v67 h68 =>
    un r66 fun b69 =>
    gd (okAb h68 b69 11 v67) <|
    vl (sI h68 b69 v67.toNatClampNeg l1) fun h71 =>
    vl (l4 + (1 : Int32)) fun x72 =>
    f_X10_impose_L132 n l0 l1 l2 l3 x72 h71)
set_option maxHeartbeats 4000000 in
set_option maxRecDepth 100000 in
theorem t_X10_impose_L132 {X : Cx} {d : Nat} {h0 h' : Hp} {v : Int32} (hD : 2 ≤ d) : ∀ (n : Nat) (l0 : Nat) (l1 : Int32) (l2 : Int32) (l3 : Int32) (l4 : Int32) (h : Hp), f_X10_impose_L132 n l0 l1 l2 l3 l4 h = some (v, h') → EV X mX10_impose d h0 (some (.int v)) h' 132 [some (.ref l0), some (.int l1), some (.int l2), some (.int l3), some (.int l4), none] [] h := by
  intro n
  induction n with
  | zero => intro l0 l1 l2 l3 l4 h H; simp [f_X10_impose_L132] at H
  | succ n ih =>
    intro l0 l1 l2 l3 l4 h H
    rw [f_X10_impose_L132] at H
    refine ev_iload dX10_impose_132 rfl ?_
    refine ev_iload_n dX10_impose_134 rfl rfl ?_
    refine ev_icmp_ge (tgt := 157) dX10_impose_135 (by decide) (fun c59 => ?_) (fun c59 => ?_)
    · rw [if_pos c59] at H
      refine ev_aload_n dX10_impose_157 rfl rfl rfl ?_
      replace H := gd_some H
      obtain ⟨g60, H⟩ := H
      replace H := vl_some H
      obtain ⟨r61, er61, H⟩ := H
      refine ev_getRx dX10_impose_158 fgX10_73 rfl (okOb.p g60) er61 ?_
      refine ev_iload_n dX10_impose_161 rfl rfl ?_
      refine ev_iload_n dX10_impose_162 rfl rfl ?_
      replace H := un_some H
      obtain ⟨b62, eb62, H⟩ := H
      subst eb62
      replace H := gd_some H
      obtain ⟨g63, H⟩ := H
      replace H := vl_some H
      obtain ⟨h64, eh64, H⟩ := H
      refine ev_iast dX10_impose_163 (okAb.p g63) eh64 ?_
      refine ev_iload_n dX10_impose_164 rfl rfl ?_
      exact ev_iretx dX10_impose_165 rfl rfl H
    · rw [if_neg c59] at H
      refine ev_aload_n dX10_impose_138 rfl rfl rfl ?_
      replace H := gd_some H
      obtain ⟨g65, H⟩ := H
      replace H := vl_some H
      obtain ⟨r66, er66, H⟩ := H
      refine ev_getRx dX10_impose_139 fgX10_31 rfl (okOb.p g65) er66 ?_
      refine ev_aload_n dX10_impose_142 rfl rfl rfl ?_
      refine ev_iload_n dX10_impose_143 rfl rfl ?_
      refine ev_iload dX10_impose_144 rfl ?_
      replace H := bnd_some H
      obtain ⟨v67, h68, eh68, H⟩ := H
      have ph68 := (t_X10_pageIn (X := X) (d := 1) (by omega) eh68)
      refine ev_callV (as := [.int l1, .int l4]) dX10_impose_146 ph68 ok_X10_pageIn (by omega) rfl k5_172 k5_174 ks_32 (ci := 10) (by decide) rfl rfl (okOb.p g65) rfl (by simp only [List.map_cons, List.map_nil, rv_cat]; exact Nat.le_of_ble_eq_true rfl) ?_
      refine ev_iload_n dX10_impose_149 rfl rfl ?_
      replace H := un_some H
      obtain ⟨b69, eb69, H⟩ := H
      subst eb69
      replace H := gd_some H
      obtain ⟨g70, H⟩ := H
      replace H := vl_some H
      obtain ⟨h71, eh71, H⟩ := H
      refine ev_iast dX10_impose_150 (okAb.p g70) eh71 ?_
      replace H := vl_some H
      obtain ⟨x72, ex72, H⟩ := H
      refine ev_iincx (loc2 := [some (.ref l0), some (.int l1), some (.int l2), some (.int l3), some (.int x72), none]) dX10_impose_151 rfl (by decide) ex72 (by decide) rfl ?_
      refine ev_goto (tgt := 132) dX10_impose_154 (by decide) ?_
      exact ih l0 l1 l2 l3 x72 h71 H
def f_X10_impose (h : Hp) (a0 : Nat) (a1 : Int32) (a2 : Int32) : Option (Int32 × Hp) :=
gd (okOb h a0 10) <|
bnd (f_X10_isForme h a0 a1) fun v2 h3 =>
if v2 = 0 then (
some ((-1 : Int32), h3)) else (
bnd (f_X10_isIn h3 (a2.toInt64) (0 : Int64) (3 : Int64)) fun v5 h6 =>
if v5 = 0 then (
some ((-1 : Int32), h6)) else (
vl (gR h6 a0 25) fun r8 =>
un r8 fun b9 =>
gd (okAb h6 b9 11 a1) <|
vl (gI h6 b9 a1.toNatClampNeg) fun x11 =>
if 0 ≤ x11 then (
some ((-3 : Int32), h6)) else (
vl (gR h6 a0 26) fun r13 =>
un r13 fun b14 =>
gd (okAb h6 b14 11 a1) <|
vl (gI h6 b14 a1.toNatClampNeg) fun x16 =>
if x16 ≤ 0 then (
f_X10_impose_L45 (fun y26 y27 y28 y29 h30 =>
gd (okOb h30 y26 10) <|
vl (gR h30 y26 19) fun r32 =>
un r32 fun b33 =>
gd (okAb h30 b33 11 (y27 / (2 : Int32))) <|
vl (gI h30 b33 (y27 / (2 : Int32)).toNatClampNeg) fun x35 =>
bnd (f_X10_leavesOf h30 x35) fun v36 h37 =>
f_X10_impose_L85 (fun y53 y54 y55 y56 y57 h58 =>
f_X10_impose_L132 6000 y53 y54 y55 y56 (0 : Int32) h58) 6000 y26 y27 y28 v36 (0 : Int32) h37) 6000 a0 a1 a2 (0 : Int32) h6) else (
some ((-3 : Int32), h6)))))
set_option maxHeartbeats 4000000 in
set_option maxRecDepth 100000 in
theorem t_X10_impose {X : Cx} {d : Nat} {h : Hp} {a0 : Nat} {a1 : Int32} {a2 : Int32} {v : Int32} {h' : Hp} (hD : 2 ≤ d) (H : f_X10_impose h a0 a1 a2 = some (v, h')) : PM X mX10_impose d [.ref a0, .int a1, .int a2] h (some (.int v)) h' := by
  unfold f_X10_impose at H
  refine PM.of (loc := [some (.ref a0), some (.int a1), some (.int a2), none, none, none]) (by decide) rfl (Nat.le_of_ble_eq_true rfl) ?_
  refine ev_aload_n dX10_impose_0 rfl rfl rfl ?_
  refine ev_iload_n dX10_impose_1 rfl rfl ?_
  replace H := gd_some H
  obtain ⟨g1, H⟩ := H
  replace H := bnd_some H
  obtain ⟨v2, h3, eh3, H⟩ := H
  have ph3 := (t_X10_isForme (X := X) (d := 1) (by omega) eh3)
  refine ev_callV (as := [.int a1]) dX10_impose_2 ph3 ok_X10_isForme (by omega) rfl k5_168 k5_170 ks_31 (ci := 10) (by decide) rfl rfl (okOb.p g1) rfl (Nat.le_of_ble_eq_true rfl) ?_
  refine ev_if_eq (tgt := 20) dX10_impose_5 (by decide) (fun c4 => ?_) (fun c4 => ?_)
  · rw [if_pos c4] at H
    refine ev_iconst (v := (-1 : Int32)) dX10_impose_20 (by decide) ?_
    exact ev_iretx dX10_impose_21 rfl rfl H
  · rw [if_neg c4] at H
    refine ev_iload_n dX10_impose_8 rfl rfl ?_
    refine ev_i2l dX10_impose_9 rfl ?_
    refine ev_lconst (v := (0 : Int64)) dX10_impose_10 (by decide) ?_
    refine ev_ldc2 (v := (3 : Int64)) dX10_impose_11 k5_158 ?_
    replace H := bnd_some H
    obtain ⟨v5, h6, eh6, H⟩ := H
    have ph6 := (t_X10_isIn (X := X) (d := 1) (by omega) eh6)
    refine ev_callS (as := [.long (a2.toInt64), .long (0 : Int64), .long (3 : Int64)]) dX10_impose_14 ph6 ok_X10_isIn (by omega) rfl k5_88 k5_89 rfl (Nat.le_of_ble_eq_true rfl) ?_
    refine ev_if_ne (tgt := 22) dX10_impose_17 (by decide) (fun c7 => ?_) (fun c7 => ?_)
    · rw [if_neg c7] at H
      refine ev_aload_n dX10_impose_22 rfl rfl rfl ?_
      replace H := vl_some H
      obtain ⟨r8, er8, H⟩ := H
      refine ev_getRx dX10_impose_23 fgX10_73 rfl (okO_ext ph6.1 (okO_ext ph3.1 (okOb.p g1))) er8 ?_
      refine ev_iload_n dX10_impose_26 rfl rfl ?_
      replace H := un_some H
      obtain ⟨b9, eb9, H⟩ := H
      subst eb9
      replace H := gd_some H
      obtain ⟨g10, H⟩ := H
      replace H := vl_some H
      obtain ⟨x11, ex11, H⟩ := H
      refine ev_ialdx dX10_impose_27 (okAb.p g10) ex11 ?_
      refine ev_if_ge (tgt := 40) dX10_impose_28 (by decide) (fun c12 => ?_) (fun c12 => ?_)
      · rw [if_pos c12] at H
        refine ev_bipush (v := (-3 : Int32)) dX10_impose_40 (by decide) ?_
        exact ev_iretx dX10_impose_42 rfl rfl H
      · rw [if_neg c12] at H
        refine ev_aload_n dX10_impose_31 rfl rfl rfl ?_
        replace H := vl_some H
        obtain ⟨r13, er13, H⟩ := H
        refine ev_getRx dX10_impose_32 fgX10_76 rfl (okO_ext ph6.1 (okO_ext ph3.1 (okOb.p g1))) er13 ?_
        refine ev_iload_n dX10_impose_35 rfl rfl ?_
        replace H := un_some H
        obtain ⟨b14, eb14, H⟩ := H
        subst eb14
        replace H := gd_some H
        obtain ⟨g15, H⟩ := H
        replace H := vl_some H
        obtain ⟨x16, ex16, H⟩ := H
        refine ev_ialdx dX10_impose_36 (okAb.p g15) ex16 ?_
        refine ev_if_le (tgt := 43) dX10_impose_37 (by decide) (fun c17 => ?_) (fun c17 => ?_)
        · rw [if_pos c17] at H
          refine ev_iconst (v := (0 : Int32)) dX10_impose_43 (by decide) ?_
          refine ev_istore_n (loc2 := [some (.ref a0), some (.int a1), some (.int a2), some (.int (0 : Int32)), none, none]) dX10_impose_44 rfl (by decide) rfl ?_
          refine t_X10_impose_L45 hD ?_ 6000 a0 a1 a2 (0 : Int32) h6 H
          · intro y26 y27 y28 y29 h30 H
            refine ev_aload_n dX10_impose_70 rfl rfl rfl ?_
            replace H := gd_some H
            obtain ⟨g31, H⟩ := H
            replace H := vl_some H
            obtain ⟨r32, er32, H⟩ := H
            refine ev_getRx dX10_impose_71 fgX10_61 rfl (okOb.p g31) er32 ?_
            refine ev_iload_n dX10_impose_74 rfl rfl ?_
            refine ev_iconst (v := (2 : Int32)) dX10_impose_75 (by decide) ?_
            refine ev_idiv dX10_impose_76 (by decide) ?_
            replace H := un_some H
            obtain ⟨b33, eb33, H⟩ := H
            subst eb33
            replace H := gd_some H
            obtain ⟨g34, H⟩ := H
            replace H := vl_some H
            obtain ⟨x35, ex35, H⟩ := H
            refine ev_ialdx dX10_impose_77 (okAb.p g34) ex35 ?_
            replace H := bnd_some H
            obtain ⟨v36, h37, eh37, H⟩ := H
            have ph37 := (t_X10_leavesOf (X := X) (d := 1) (by omega) eh37)
            refine ev_callS (as := [.int x35]) dX10_impose_78 ph37 ok_X10_leavesOf (by omega) rfl k4_156 k4_157 rfl (Nat.le_of_ble_eq_true rfl) ?_
            refine ev_istore_n (loc2 := [some (.ref y26), some (.int y27), some (.int y28), some (.int v36), none, none]) dX10_impose_81 rfl (by decide) rfl ?_
            refine ev_iconst (v := (0 : Int32)) dX10_impose_82 (by decide) ?_
            refine ev_istore (loc2 := [some (.ref y26), some (.int y27), some (.int y28), some (.int v36), some (.int (0 : Int32)), none]) dX10_impose_83 (by decide) rfl ?_
            refine t_X10_impose_L85 hD ?_ 6000 y26 y27 y28 v36 (0 : Int32) h37 H
            · intro y53 y54 y55 y56 y57 h58 H
              refine ev_iconst (v := (0 : Int32)) dX10_impose_129 (by decide) ?_
              refine ev_istore (loc2 := [some (.ref y53), some (.int y54), some (.int y55), some (.int y56), some (.int (0 : Int32)), none]) dX10_impose_130 (by decide) rfl ?_
              refine t_X10_impose_L132 hD  6000 y53 y54 y55 y56 (0 : Int32) h58 H
        · rw [if_neg c17] at H
          refine ev_bipush (v := (-3 : Int32)) dX10_impose_40 (by decide) ?_
          exact ev_iretx dX10_impose_42 rfl rfl H
    · rw [if_pos c7] at H
      refine ev_iconst (v := (-1 : Int32)) dX10_impose_20 (by decide) ?_
      exact ev_iretx dX10_impose_21 rfl rfl H

theorem dX10_breakUp_0 : decode cX10_breakUp 0 = .ok (.aload_n 0, 1) := by decide +kernel
theorem dX10_breakUp_1 : decode cX10_breakUp 1 = .ok (.iload_n 1, 1) := by decide +kernel
theorem dX10_breakUp_2 : decode cX10_breakUp 2 = .ok (.invokevirtual 202, 3) := by decide +kernel
theorem dX10_breakUp_5 : decode cX10_breakUp 5 = .ok (.ifCond .ne 5, 3) := by decide +kernel
theorem dX10_breakUp_8 : decode cX10_breakUp 8 = .ok (.iconst (-1), 1) := by decide +kernel
theorem dX10_breakUp_9 : decode cX10_breakUp 9 = .ok (.ireturn, 1) := by decide +kernel
theorem dX10_breakUp_10 : decode cX10_breakUp 10 = .ok (.aload_n 0, 1) := by decide +kernel
theorem dX10_breakUp_11 : decode cX10_breakUp 11 = .ok (.getfield 73, 3) := by decide +kernel
theorem dX10_breakUp_14 : decode cX10_breakUp 14 = .ok (.iload_n 1, 1) := by decide +kernel
theorem dX10_breakUp_15 : decode cX10_breakUp 15 = .ok (.iaload, 1) := by decide +kernel
theorem dX10_breakUp_16 : decode cX10_breakUp 16 = .ok (.ifCond .lt 29, 3) := by decide +kernel
theorem dX10_breakUp_19 : decode cX10_breakUp 19 = .ok (.aload_n 0, 1) := by decide +kernel
theorem dX10_breakUp_20 : decode cX10_breakUp 20 = .ok (.getfield 76, 3) := by decide +kernel
theorem dX10_breakUp_23 : decode cX10_breakUp 23 = .ok (.iload_n 1, 1) := by decide +kernel
theorem dX10_breakUp_24 : decode cX10_breakUp 24 = .ok (.iaload, 1) := by decide +kernel
theorem dX10_breakUp_25 : decode cX10_breakUp 25 = .ok (.ifCond .le 23, 3) := by decide +kernel
theorem dX10_breakUp_28 : decode cX10_breakUp 28 = .ok (.aload_n 0, 1) := by decide +kernel
theorem dX10_breakUp_29 : decode cX10_breakUp 29 = .ok (.getfield 76, 3) := by decide +kernel
theorem dX10_breakUp_32 : decode cX10_breakUp 32 = .ok (.iload_n 1, 1) := by decide +kernel
theorem dX10_breakUp_33 : decode cX10_breakUp 33 = .ok (.iaload, 1) := by decide +kernel
theorem dX10_breakUp_34 : decode cX10_breakUp 34 = .ok (.aload_n 0, 1) := by decide +kernel
theorem dX10_breakUp_35 : decode cX10_breakUp 35 = .ok (.getfield 67, 3) := by decide +kernel
theorem dX10_breakUp_38 : decode cX10_breakUp 38 = .ok (.iload_n 1, 1) := by decide +kernel
theorem dX10_breakUp_39 : decode cX10_breakUp 39 = .ok (.iconst 2, 1) := by decide +kernel
theorem dX10_breakUp_40 : decode cX10_breakUp 40 = .ok (.idiv, 1) := by decide +kernel
theorem dX10_breakUp_41 : decode cX10_breakUp 41 = .ok (.iaload, 1) := by decide +kernel
theorem dX10_breakUp_42 : decode cX10_breakUp 42 = .ok (.if_icmp .ge 6, 3) := by decide +kernel
theorem dX10_breakUp_45 : decode cX10_breakUp 45 = .ok (.bipush (-3), 2) := by decide +kernel
theorem dX10_breakUp_47 : decode cX10_breakUp 47 = .ok (.ireturn, 1) := by decide +kernel
theorem dX10_breakUp_48 : decode cX10_breakUp 48 = .ok (.aload_n 0, 1) := by decide +kernel
theorem dX10_breakUp_49 : decode cX10_breakUp 49 = .ok (.getfield 73, 3) := by decide +kernel
theorem dX10_breakUp_52 : decode cX10_breakUp 52 = .ok (.iload_n 1, 1) := by decide +kernel
theorem dX10_breakUp_53 : decode cX10_breakUp 53 = .ok (.iaload, 1) := by decide +kernel
theorem dX10_breakUp_54 : decode cX10_breakUp 54 = .ok (.istore_n 2, 1) := by decide +kernel
theorem dX10_breakUp_55 : decode cX10_breakUp 55 = .ok (.aload_n 0, 1) := by decide +kernel
theorem dX10_breakUp_56 : decode cX10_breakUp 56 = .ok (.getfield 73, 3) := by decide +kernel
theorem dX10_breakUp_59 : decode cX10_breakUp 59 = .ok (.iload_n 1, 1) := by decide +kernel
theorem dX10_breakUp_60 : decode cX10_breakUp 60 = .ok (.iconst (-1), 1) := by decide +kernel
theorem dX10_breakUp_61 : decode cX10_breakUp 61 = .ok (.iastore, 1) := by decide +kernel
theorem dX10_breakUp_62 : decode cX10_breakUp 62 = .ok (.iconst 0, 1) := by decide +kernel
theorem dX10_breakUp_63 : decode cX10_breakUp 63 = .ok (.istore_n 3, 1) := by decide +kernel
theorem dX10_breakUp_64 : decode cX10_breakUp 64 = .ok (.iload_n 3, 1) := by decide +kernel
theorem dX10_breakUp_65 : decode cX10_breakUp 65 = .ok (.aload_n 0, 1) := by decide +kernel
theorem dX10_breakUp_66 : decode cX10_breakUp 66 = .ok (.getfield 61, 3) := by decide +kernel
theorem dX10_breakUp_69 : decode cX10_breakUp 69 = .ok (.iload_n 1, 1) := by decide +kernel
theorem dX10_breakUp_70 : decode cX10_breakUp 70 = .ok (.iconst 2, 1) := by decide +kernel
theorem dX10_breakUp_71 : decode cX10_breakUp 71 = .ok (.idiv, 1) := by decide +kernel
theorem dX10_breakUp_72 : decode cX10_breakUp 72 = .ok (.iaload, 1) := by decide +kernel
theorem dX10_breakUp_73 : decode cX10_breakUp 73 = .ok (.invokestatic 188, 3) := by decide +kernel
theorem dX10_breakUp_76 : decode cX10_breakUp 76 = .ok (.if_icmp .ge 21, 3) := by decide +kernel
theorem dX10_breakUp_79 : decode cX10_breakUp 79 = .ok (.aload_n 0, 1) := by decide +kernel
theorem dX10_breakUp_80 : decode cX10_breakUp 80 = .ok (.getfield 31, 3) := by decide +kernel
theorem dX10_breakUp_83 : decode cX10_breakUp 83 = .ok (.aload_n 0, 1) := by decide +kernel
theorem dX10_breakUp_84 : decode cX10_breakUp 84 = .ok (.iload_n 1, 1) := by decide +kernel
theorem dX10_breakUp_85 : decode cX10_breakUp 85 = .ok (.iload_n 3, 1) := by decide +kernel
theorem dX10_breakUp_86 : decode cX10_breakUp 86 = .ok (.invokevirtual 205, 3) := by decide +kernel
theorem dX10_breakUp_89 : decode cX10_breakUp 89 = .ok (.iconst (-1), 1) := by decide +kernel
theorem dX10_breakUp_90 : decode cX10_breakUp 90 = .ok (.iastore, 1) := by decide +kernel
theorem dX10_breakUp_91 : decode cX10_breakUp 91 = .ok (.iinc 3 1, 3) := by decide +kernel
theorem dX10_breakUp_94 : decode cX10_breakUp 94 = .ok (.goto (-30), 3) := by decide +kernel
theorem dX10_breakUp_97 : decode cX10_breakUp 97 = .ok (.iload_n 2, 1) := by decide +kernel
theorem dX10_breakUp_98 : decode cX10_breakUp 98 = .ok (.ireturn, 1) := by decide +kernel
def f_X10_breakUp_L64 : Nat → Nat → Int32 → Int32 → Int32 → Hp → Option (Int32 × Hp)
  | 0, _, _, _, _, _ => none
  | n + 1, l0, l1, l2, l3, h =>
    gd (okOb h l0 10) <|
    vl (gR h l0 19) fun r25 =>
    un r25 fun b26 =>
    gd (okAb h b26 11 (l1 / (2 : Int32))) <|
    vl (gI h b26 (l1 / (2 : Int32)).toNatClampNeg) fun x28 =>
    bnd (f_X10_leavesOf h x28) fun v29 h30 =>
    if v29 ≤ l3 then (
    some (l2, h30)) else (
    vl (gR h30 l0 8) fun r32 =>
    bnd (f_X10_pageIn h30 l0 l1 l3) fun v33 h34 =>
    un r32 fun b35 =>
    gd (okAb h34 b35 11 v33) <|
    vl (sI h34 b35 v33.toNatClampNeg (-1 : Int32)) fun h37 =>
    vl (l3 + (1 : Int32)) fun x38 =>
    f_X10_breakUp_L64 n l0 l1 l2 x38 h37)
set_option maxHeartbeats 4000000 in
set_option maxRecDepth 100000 in
theorem t_X10_breakUp_L64 {X : Cx} {d : Nat} {h0 h' : Hp} {v : Int32} (hD : 2 ≤ d) : ∀ (n : Nat) (l0 : Nat) (l1 : Int32) (l2 : Int32) (l3 : Int32) (h : Hp), f_X10_breakUp_L64 n l0 l1 l2 l3 h = some (v, h') → EV X mX10_breakUp d h0 (some (.int v)) h' 64 [some (.ref l0), some (.int l1), some (.int l2), some (.int l3)] [] h := by
  intro n
  induction n with
  | zero => intro l0 l1 l2 l3 h H; simp [f_X10_breakUp_L64] at H
  | succ n ih =>
    intro l0 l1 l2 l3 h H
    rw [f_X10_breakUp_L64] at H
    refine ev_iload_n dX10_breakUp_64 rfl rfl ?_
    refine ev_aload_n dX10_breakUp_65 rfl rfl rfl ?_
    replace H := gd_some H
    obtain ⟨g24, H⟩ := H
    replace H := vl_some H
    obtain ⟨r25, er25, H⟩ := H
    refine ev_getRx dX10_breakUp_66 fgX10_61 rfl (okOb.p g24) er25 ?_
    refine ev_iload_n dX10_breakUp_69 rfl rfl ?_
    refine ev_iconst (v := (2 : Int32)) dX10_breakUp_70 (by decide) ?_
    refine ev_idiv dX10_breakUp_71 (by decide) ?_
    replace H := un_some H
    obtain ⟨b26, eb26, H⟩ := H
    subst eb26
    replace H := gd_some H
    obtain ⟨g27, H⟩ := H
    replace H := vl_some H
    obtain ⟨x28, ex28, H⟩ := H
    refine ev_ialdx dX10_breakUp_72 (okAb.p g27) ex28 ?_
    replace H := bnd_some H
    obtain ⟨v29, h30, eh30, H⟩ := H
    have ph30 := (t_X10_leavesOf (X := X) (d := 1) (by omega) eh30)
    refine ev_callS (as := [.int x28]) dX10_breakUp_73 ph30 ok_X10_leavesOf (by omega) rfl k4_156 k4_157 rfl (Nat.le_of_ble_eq_true rfl) ?_
    refine ev_icmp_ge (tgt := 97) dX10_breakUp_76 (by decide) (fun c31 => ?_) (fun c31 => ?_)
    · rw [if_pos c31] at H
      refine ev_iload_n dX10_breakUp_97 rfl rfl ?_
      exact ev_iretx dX10_breakUp_98 rfl rfl H
    · rw [if_neg c31] at H
      refine ev_aload_n dX10_breakUp_79 rfl rfl rfl ?_
      replace H := vl_some H
      obtain ⟨r32, er32, H⟩ := H
      refine ev_getRx dX10_breakUp_80 fgX10_31 rfl (okO_ext ph30.1 (okOb.p g24)) er32 ?_
      refine ev_aload_n dX10_breakUp_83 rfl rfl rfl ?_
      refine ev_iload_n dX10_breakUp_84 rfl rfl ?_
      refine ev_iload_n dX10_breakUp_85 rfl rfl ?_
      replace H := bnd_some H
      obtain ⟨v33, h34, eh34, H⟩ := H
      have ph34 := (t_X10_pageIn (X := X) (d := 1) (by omega) eh34)
      refine ev_callV (as := [.int l1, .int l3]) dX10_breakUp_86 ph34 ok_X10_pageIn (by omega) rfl k5_172 k5_174 ks_32 (ci := 10) (by decide) rfl rfl (okO_ext ph30.1 (okOb.p g24)) rfl (by simp only [List.map_cons, List.map_nil, rv_cat]; exact Nat.le_of_ble_eq_true rfl) ?_
      refine ev_iconst (v := (-1 : Int32)) dX10_breakUp_89 (by decide) ?_
      replace H := un_some H
      obtain ⟨b35, eb35, H⟩ := H
      subst eb35
      replace H := gd_some H
      obtain ⟨g36, H⟩ := H
      replace H := vl_some H
      obtain ⟨h37, eh37, H⟩ := H
      refine ev_iast dX10_breakUp_90 (okAb.p g36) eh37 ?_
      replace H := vl_some H
      obtain ⟨x38, ex38, H⟩ := H
      refine ev_iincx (loc2 := [some (.ref l0), some (.int l1), some (.int l2), some (.int x38)]) dX10_breakUp_91 rfl (by decide) ex38 (by decide) rfl ?_
      refine ev_goto (tgt := 64) dX10_breakUp_94 (by decide) ?_
      exact ih l0 l1 l2 x38 h37 H
def f_X10_breakUp_J48 (l0 : Nat) (l1 : Int32) (h : Hp) : Option (Int32 × Hp) :=
gd (okOb h l0 10) <|
vl (gR h l0 25) fun r16 =>
un r16 fun b17 =>
gd (okAb h b17 11 l1) <|
vl (gI h b17 l1.toNatClampNeg) fun x19 =>
vl (gR h l0 25) fun r20 =>
un r20 fun b21 =>
gd (okAb h b21 11 l1) <|
vl (sI h b21 l1.toNatClampNeg (-1 : Int32)) fun h23 =>
f_X10_breakUp_L64 6000 l0 l1 x19 (0 : Int32) h23
set_option maxHeartbeats 4000000 in
set_option maxRecDepth 100000 in
theorem t_X10_breakUp_J48 {X : Cx} {d : Nat} {h0 h' : Hp} {v : Int32} (hD : 2 ≤ d) : ∀ (l0 : Nat) (l1 : Int32) (h : Hp), f_X10_breakUp_J48 l0 l1 h = some (v, h') → EV X mX10_breakUp d h0 (some (.int v)) h' 48 [some (.ref l0), some (.int l1), none, none] [] h := by
  intro l0 l1 h H
  unfold f_X10_breakUp_J48 at H
  refine ev_aload_n dX10_breakUp_48 rfl rfl rfl ?_
  replace H := gd_some H
  obtain ⟨g15, H⟩ := H
  replace H := vl_some H
  obtain ⟨r16, er16, H⟩ := H
  refine ev_getRx dX10_breakUp_49 fgX10_73 rfl (okOb.p g15) er16 ?_
  refine ev_iload_n dX10_breakUp_52 rfl rfl ?_
  replace H := un_some H
  obtain ⟨b17, eb17, H⟩ := H
  subst eb17
  replace H := gd_some H
  obtain ⟨g18, H⟩ := H
  replace H := vl_some H
  obtain ⟨x19, ex19, H⟩ := H
  refine ev_ialdx dX10_breakUp_53 (okAb.p g18) ex19 ?_
  refine ev_istore_n (loc2 := [some (.ref l0), some (.int l1), some (.int x19), none]) dX10_breakUp_54 rfl (by decide) rfl ?_
  refine ev_aload_n dX10_breakUp_55 rfl rfl rfl ?_
  replace H := vl_some H
  obtain ⟨r20, er20, H⟩ := H
  refine ev_getRx dX10_breakUp_56 fgX10_73 rfl (okOb.p g15) er20 ?_
  refine ev_iload_n dX10_breakUp_59 rfl rfl ?_
  refine ev_iconst (v := (-1 : Int32)) dX10_breakUp_60 (by decide) ?_
  replace H := un_some H
  obtain ⟨b21, eb21, H⟩ := H
  subst eb21
  replace H := gd_some H
  obtain ⟨g22, H⟩ := H
  replace H := vl_some H
  obtain ⟨h23, eh23, H⟩ := H
  refine ev_iast dX10_breakUp_61 (okAb.p g22) eh23 ?_
  refine ev_iconst (v := (0 : Int32)) dX10_breakUp_62 (by decide) ?_
  refine ev_istore_n (loc2 := [some (.ref l0), some (.int l1), some (.int x19), some (.int (0 : Int32))]) dX10_breakUp_63 rfl (by decide) rfl ?_
  refine t_X10_breakUp_L64 hD  6000 l0 l1 x19 (0 : Int32) h23 H
def f_X10_breakUp (h : Hp) (a0 : Nat) (a1 : Int32) : Option (Int32 × Hp) :=
gd (okOb h a0 10) <|
bnd (f_X10_isForme h a0 a1) fun v2 h3 =>
if v2 = 0 then (
some ((-1 : Int32), h3)) else (
vl (gR h3 a0 25) fun r5 =>
un r5 fun b6 =>
gd (okAb h3 b6 11 a1) <|
vl (gI h3 b6 a1.toNatClampNeg) fun x8 =>
if x8 < 0 then (
some ((-3 : Int32), h3)) else (
vl (gR h3 a0 26) fun r10 =>
un r10 fun b11 =>
gd (okAb h3 b11 11 a1) <|
vl (gI h3 b11 a1.toNatClampNeg) fun x13 =>
if x13 ≤ 0 then (
f_X10_breakUp_J48 a0 a1 h3) else (
vl (gR h3 a0 26) fun r39 =>
un r39 fun b40 =>
gd (okAb h3 b40 11 a1) <|
vl (gI h3 b40 a1.toNatClampNeg) fun x42 =>
vl (gR h3 a0 21) fun r43 =>
un r43 fun b44 =>
gd (okAb h3 b44 11 (a1 / (2 : Int32))) <|
vl (gI h3 b44 (a1 / (2 : Int32)).toNatClampNeg) fun x46 =>
if x46 ≤ x42 then (
f_X10_breakUp_J48 a0 a1 h3) else (
some ((-3 : Int32), h3)))))
set_option maxHeartbeats 4000000 in
set_option maxRecDepth 100000 in
theorem t_X10_breakUp {X : Cx} {d : Nat} {h : Hp} {a0 : Nat} {a1 : Int32} {v : Int32} {h' : Hp} (hD : 2 ≤ d) (H : f_X10_breakUp h a0 a1 = some (v, h')) : PM X mX10_breakUp d [.ref a0, .int a1] h (some (.int v)) h' := by
  unfold f_X10_breakUp at H
  refine PM.of (loc := [some (.ref a0), some (.int a1), none, none]) (by decide) rfl (Nat.le_of_ble_eq_true rfl) ?_
  refine ev_aload_n dX10_breakUp_0 rfl rfl rfl ?_
  refine ev_iload_n dX10_breakUp_1 rfl rfl ?_
  replace H := gd_some H
  obtain ⟨g1, H⟩ := H
  replace H := bnd_some H
  obtain ⟨v2, h3, eh3, H⟩ := H
  have ph3 := (t_X10_isForme (X := X) (d := 1) (by omega) eh3)
  refine ev_callV (as := [.int a1]) dX10_breakUp_2 ph3 ok_X10_isForme (by omega) rfl k5_168 k5_170 ks_31 (ci := 10) (by decide) rfl rfl (okOb.p g1) rfl (Nat.le_of_ble_eq_true rfl) ?_
  refine ev_if_ne (tgt := 10) dX10_breakUp_5 (by decide) (fun c4 => ?_) (fun c4 => ?_)
  · rw [if_neg c4] at H
    refine ev_aload_n dX10_breakUp_10 rfl rfl rfl ?_
    replace H := vl_some H
    obtain ⟨r5, er5, H⟩ := H
    refine ev_getRx dX10_breakUp_11 fgX10_73 rfl (okO_ext ph3.1 (okOb.p g1)) er5 ?_
    refine ev_iload_n dX10_breakUp_14 rfl rfl ?_
    replace H := un_some H
    obtain ⟨b6, eb6, H⟩ := H
    subst eb6
    replace H := gd_some H
    obtain ⟨g7, H⟩ := H
    replace H := vl_some H
    obtain ⟨x8, ex8, H⟩ := H
    refine ev_ialdx dX10_breakUp_15 (okAb.p g7) ex8 ?_
    refine ev_if_lt (tgt := 45) dX10_breakUp_16 (by decide) (fun c9 => ?_) (fun c9 => ?_)
    · rw [if_pos c9] at H
      refine ev_bipush (v := (-3 : Int32)) dX10_breakUp_45 (by decide) ?_
      exact ev_iretx dX10_breakUp_47 rfl rfl H
    · rw [if_neg c9] at H
      refine ev_aload_n dX10_breakUp_19 rfl rfl rfl ?_
      replace H := vl_some H
      obtain ⟨r10, er10, H⟩ := H
      refine ev_getRx dX10_breakUp_20 fgX10_76 rfl (okO_ext ph3.1 (okOb.p g1)) er10 ?_
      refine ev_iload_n dX10_breakUp_23 rfl rfl ?_
      replace H := un_some H
      obtain ⟨b11, eb11, H⟩ := H
      subst eb11
      replace H := gd_some H
      obtain ⟨g12, H⟩ := H
      replace H := vl_some H
      obtain ⟨x13, ex13, H⟩ := H
      refine ev_ialdx dX10_breakUp_24 (okAb.p g12) ex13 ?_
      refine ev_if_le (tgt := 48) dX10_breakUp_25 (by decide) (fun c14 => ?_) (fun c14 => ?_)
      · rw [if_pos c14] at H
        exact t_X10_breakUp_J48 hD a0 a1 h3 H
      · rw [if_neg c14] at H
        refine ev_aload_n dX10_breakUp_28 rfl rfl rfl ?_
        replace H := vl_some H
        obtain ⟨r39, er39, H⟩ := H
        refine ev_getRx dX10_breakUp_29 fgX10_76 rfl (okO_ext ph3.1 (okOb.p g1)) er39 ?_
        refine ev_iload_n dX10_breakUp_32 rfl rfl ?_
        replace H := un_some H
        obtain ⟨b40, eb40, H⟩ := H
        subst eb40
        replace H := gd_some H
        obtain ⟨g41, H⟩ := H
        replace H := vl_some H
        obtain ⟨x42, ex42, H⟩ := H
        refine ev_ialdx dX10_breakUp_33 (okAb.p g41) ex42 ?_
        refine ev_aload_n dX10_breakUp_34 rfl rfl rfl ?_
        replace H := vl_some H
        obtain ⟨r43, er43, H⟩ := H
        refine ev_getRx dX10_breakUp_35 fgX10_67 rfl (okO_ext ph3.1 (okOb.p g1)) er43 ?_
        refine ev_iload_n dX10_breakUp_38 rfl rfl ?_
        refine ev_iconst (v := (2 : Int32)) dX10_breakUp_39 (by decide) ?_
        refine ev_idiv dX10_breakUp_40 (by decide) ?_
        replace H := un_some H
        obtain ⟨b44, eb44, H⟩ := H
        subst eb44
        replace H := gd_some H
        obtain ⟨g45, H⟩ := H
        replace H := vl_some H
        obtain ⟨x46, ex46, H⟩ := H
        refine ev_ialdx dX10_breakUp_41 (okAb.p g45) ex46 ?_
        refine ev_icmp_ge (tgt := 48) dX10_breakUp_42 (by decide) (fun c47 => ?_) (fun c47 => ?_)
        · rw [if_pos c47] at H
          exact t_X10_breakUp_J48 hD a0 a1 h3 H
        · rw [if_neg c47] at H
          refine ev_bipush (v := (-3 : Int32)) dX10_breakUp_45 (by decide) ?_
          exact ev_iretx dX10_breakUp_47 rfl rfl H
  · rw [if_pos c4] at H
    refine ev_iconst (v := (-1 : Int32)) dX10_breakUp_8 (by decide) ?_
    exact ev_iretx dX10_breakUp_9 rfl rfl H

theorem dX10_paper_0 : decode cX10_paper 0 = .ok (.iload_n 1, 1) := by decide +kernel
theorem dX10_paper_1 : decode cX10_paper 1 = .ok (.i2l, 1) := by decide +kernel
theorem dX10_paper_2 : decode cX10_paper 2 = .ok (.lconst 1, 1) := by decide +kernel
theorem dX10_paper_3 : decode cX10_paper 3 = .ok (.ldc2_w 197, 3) := by decide +kernel
theorem dX10_paper_6 : decode cX10_paper 6 = .ok (.invokestatic 151, 3) := by decide +kernel
theorem dX10_paper_9 : decode cX10_paper 9 = .ok (.ifCond .ne 6, 3) := by decide +kernel
theorem dX10_paper_12 : decode cX10_paper 12 = .ok (.bipush (-2), 2) := by decide +kernel
theorem dX10_paper_14 : decode cX10_paper 14 = .ok (.ireturn, 1) := by decide +kernel
theorem dX10_paper_15 : decode cX10_paper 15 = .ok (.aload_n 0, 1) := by decide +kernel
theorem dX10_paper_16 : decode cX10_paper 16 = .ok (.getfield 209, 3) := by decide +kernel
theorem dX10_paper_19 : decode cX10_paper 19 = .ok (.iload_n 1, 1) := by decide +kernel
theorem dX10_paper_20 : decode cX10_paper 20 = .ok (.iadd, 1) := by decide +kernel
theorem dX10_paper_21 : decode cX10_paper 21 = .ok (.sipush 10000, 3) := by decide +kernel
theorem dX10_paper_24 : decode cX10_paper 24 = .ok (.if_icmp .le 6, 3) := by decide +kernel
theorem dX10_paper_27 : decode cX10_paper 27 = .ok (.bipush (-4), 2) := by decide +kernel
theorem dX10_paper_29 : decode cX10_paper 29 = .ok (.ireturn, 1) := by decide +kernel
theorem dX10_paper_30 : decode cX10_paper 30 = .ok (.aload_n 0, 1) := by decide +kernel
theorem dX10_paper_31 : decode cX10_paper 31 = .ok (.dup, 1) := by decide +kernel
theorem dX10_paper_32 : decode cX10_paper 32 = .ok (.getfield 209, 3) := by decide +kernel
theorem dX10_paper_35 : decode cX10_paper 35 = .ok (.iload_n 1, 1) := by decide +kernel
theorem dX10_paper_36 : decode cX10_paper 36 = .ok (.iadd, 1) := by decide +kernel
theorem dX10_paper_37 : decode cX10_paper 37 = .ok (.putfield 209, 3) := by decide +kernel
theorem dX10_paper_40 : decode cX10_paper 40 = .ok (.aload_n 0, 1) := by decide +kernel
theorem dX10_paper_41 : decode cX10_paper 41 = .ok (.getfield 209, 3) := by decide +kernel
theorem dX10_paper_44 : decode cX10_paper 44 = .ok (.ireturn, 1) := by decide +kernel
def f_X10_paper (h : Hp) (a0 : Nat) (a1 : Int32) : Option (Int32 × Hp) :=
bnd (f_X10_isIn h (a1.toInt64) (1 : Int64) (60 : Int64)) fun v1 h2 =>
if v1 = 0 then (
some ((-2 : Int32), h2)) else (
gd (okOb h2 a0 10) <|
vl (gI h2 a0 24) fun x5 =>
if (x5 + a1) ≤ (10000 : Int32) then (
vl (gI h2 a0 24) fun x7 =>
vl (sI h2 a0 24 (x7 + a1)) fun h8 =>
vl (gI h8 a0 24) fun x9 =>
some (x9, h8)) else (
some ((-4 : Int32), h2)))
set_option maxHeartbeats 4000000 in
set_option maxRecDepth 100000 in
theorem t_X10_paper {X : Cx} {d : Nat} {h : Hp} {a0 : Nat} {a1 : Int32} {v : Int32} {h' : Hp} (hD : 2 ≤ d) (H : f_X10_paper h a0 a1 = some (v, h')) : PM X mX10_paper d [.ref a0, .int a1] h (some (.int v)) h' := by
  unfold f_X10_paper at H
  refine PM.of (loc := [some (.ref a0), some (.int a1)]) (by decide) rfl (Nat.le_of_ble_eq_true rfl) ?_
  refine ev_iload_n dX10_paper_0 rfl rfl ?_
  refine ev_i2l dX10_paper_1 rfl ?_
  refine ev_lconst (v := (1 : Int64)) dX10_paper_2 (by decide) ?_
  refine ev_ldc2 (v := (60 : Int64)) dX10_paper_3 k5_163 ?_
  replace H := bnd_some H
  obtain ⟨v1, h2, eh2, H⟩ := H
  have ph2 := (t_X10_isIn (X := X) (d := 1) (by omega) eh2)
  refine ev_callS (as := [.long (a1.toInt64), .long (1 : Int64), .long (60 : Int64)]) dX10_paper_6 ph2 ok_X10_isIn (by omega) rfl k5_88 k5_89 rfl (Nat.le_of_ble_eq_true rfl) ?_
  refine ev_if_ne (tgt := 15) dX10_paper_9 (by decide) (fun c3 => ?_) (fun c3 => ?_)
  · rw [if_neg c3] at H
    refine ev_aload_n dX10_paper_15 rfl rfl rfl ?_
    replace H := gd_some H
    obtain ⟨g4, H⟩ := H
    replace H := vl_some H
    obtain ⟨x5, ex5, H⟩ := H
    refine ev_getIx dX10_paper_16 fgX10_209 rfl (okOb.p g4) ex5 ?_
    refine ev_iload_n dX10_paper_19 rfl rfl ?_
    refine ev_iadd dX10_paper_20 ?_
    refine ev_sipush (v := (10000 : Int32)) dX10_paper_21 (by decide) ?_
    refine ev_icmp_le (tgt := 30) dX10_paper_24 (by decide) (fun c6 => ?_) (fun c6 => ?_)
    · rw [if_pos c6] at H
      refine ev_aload_n dX10_paper_30 rfl rfl rfl ?_
      refine ev_dup dX10_paper_31 rfl ?_
      replace H := vl_some H
      obtain ⟨x7, ex7, H⟩ := H
      refine ev_getIx dX10_paper_32 fgX10_209 rfl (okOb.p g4) ex7 ?_
      refine ev_iload_n dX10_paper_35 rfl rfl ?_
      refine ev_iadd dX10_paper_36 ?_
      replace H := vl_some H
      obtain ⟨h8, eh8, H⟩ := H
      refine ev_putI dX10_paper_37 fdX10_209 rfl rfl rfl (okOb.p g4) eh8 ?_
      refine ev_aload_n dX10_paper_40 rfl rfl rfl ?_
      replace H := vl_some H
      obtain ⟨x9, ex9, H⟩ := H
      refine ev_getIx dX10_paper_41 fgX10_209 rfl (okO_sI eh8 (okOb.p g4)) ex9 ?_
      exact ev_iretx dX10_paper_44 rfl rfl H
    · rw [if_neg c6] at H
      refine ev_bipush (v := (-4 : Int32)) dX10_paper_27 (by decide) ?_
      exact ev_iretx dX10_paper_29 rfl rfl H
  · rw [if_pos c3] at H
    refine ev_bipush (v := (-2 : Int32)) dX10_paper_12 (by decide) ?_
    exact ev_iretx dX10_paper_14 rfl rfl H

theorem dX10_shows_0 : decode cX10_shows 0 = .ok (.iconst 0, 1) := by decide +kernel
theorem dX10_shows_1 : decode cX10_shows 1 = .ok (.istore_n 2, 1) := by decide +kernel
theorem dX10_shows_2 : decode cX10_shows 2 = .ok (.iload_n 2, 1) := by decide +kernel
theorem dX10_shows_3 : decode cX10_shows 3 = .ok (.aload_n 0, 1) := by decide +kernel
theorem dX10_shows_4 : decode cX10_shows 4 = .ok (.getfield 61, 3) := by decide +kernel
theorem dX10_shows_7 : decode cX10_shows 7 = .ok (.iload_n 1, 1) := by decide +kernel
theorem dX10_shows_8 : decode cX10_shows 8 = .ok (.iconst 2, 1) := by decide +kernel
theorem dX10_shows_9 : decode cX10_shows 9 = .ok (.idiv, 1) := by decide +kernel
theorem dX10_shows_10 : decode cX10_shows 10 = .ok (.iaload, 1) := by decide +kernel
theorem dX10_shows_11 : decode cX10_shows 11 = .ok (.invokestatic 188, 3) := by decide +kernel
theorem dX10_shows_14 : decode cX10_shows 14 = .ok (.if_icmp .ge 60, 3) := by decide +kernel
theorem dX10_shows_17 : decode cX10_shows 17 = .ok (.aload_n 0, 1) := by decide +kernel
theorem dX10_shows_18 : decode cX10_shows 18 = .ok (.iload_n 1, 1) := by decide +kernel
theorem dX10_shows_19 : decode cX10_shows 19 = .ok (.iload_n 2, 1) := by decide +kernel
theorem dX10_shows_20 : decode cX10_shows 20 = .ok (.invokevirtual 205, 3) := by decide +kernel
theorem dX10_shows_23 : decode cX10_shows 23 = .ok (.istore_n 3, 1) := by decide +kernel
theorem dX10_shows_24 : decode cX10_shows 24 = .ok (.iconst 0, 1) := by decide +kernel
theorem dX10_shows_25 : decode cX10_shows 25 = .ok (.istore 4, 2) := by decide +kernel
theorem dX10_shows_27 : decode cX10_shows 27 = .ok (.iload 4, 2) := by decide +kernel
theorem dX10_shows_29 : decode cX10_shows 29 = .ok (.aload_n 0, 1) := by decide +kernel
theorem dX10_shows_30 : decode cX10_shows 30 = .ok (.getfield 16, 3) := by decide +kernel
theorem dX10_shows_33 : decode cX10_shows 33 = .ok (.iload_n 3, 1) := by decide +kernel
theorem dX10_shows_34 : decode cX10_shows 34 = .ok (.iaload, 1) := by decide +kernel
theorem dX10_shows_35 : decode cX10_shows 35 = .ok (.if_icmp .ge 33, 3) := by decide +kernel
theorem dX10_shows_38 : decode cX10_shows 38 = .ok (.aload_n 0, 1) := by decide +kernel
theorem dX10_shows_39 : decode cX10_shows 39 = .ok (.getfield 25, 3) := by decide +kernel
theorem dX10_shows_42 : decode cX10_shows 42 = .ok (.bipush 120, 2) := by decide +kernel
theorem dX10_shows_44 : decode cX10_shows 44 = .ok (.iload_n 3, 1) := by decide +kernel
theorem dX10_shows_45 : decode cX10_shows 45 = .ok (.imul, 1) := by decide +kernel
theorem dX10_shows_46 : decode cX10_shows 46 = .ok (.iload 4, 2) := by decide +kernel
theorem dX10_shows_48 : decode cX10_shows 48 = .ok (.iadd, 1) := by decide +kernel
theorem dX10_shows_49 : decode cX10_shows 49 = .ok (.aload_n 0, 1) := by decide +kernel
theorem dX10_shows_50 : decode cX10_shows 50 = .ok (.getfield 22, 3) := by decide +kernel
theorem dX10_shows_53 : decode cX10_shows 53 = .ok (.bipush 120, 2) := by decide +kernel
theorem dX10_shows_55 : decode cX10_shows 55 = .ok (.iload_n 3, 1) := by decide +kernel
theorem dX10_shows_56 : decode cX10_shows 56 = .ok (.imul, 1) := by decide +kernel
theorem dX10_shows_57 : decode cX10_shows 57 = .ok (.iload 4, 2) := by decide +kernel
theorem dX10_shows_59 : decode cX10_shows 59 = .ok (.iadd, 1) := by decide +kernel
theorem dX10_shows_60 : decode cX10_shows 60 = .ok (.iaload, 1) := by decide +kernel
theorem dX10_shows_61 : decode cX10_shows 61 = .ok (.iastore, 1) := by decide +kernel
theorem dX10_shows_62 : decode cX10_shows 62 = .ok (.iinc 4 1, 3) := by decide +kernel
theorem dX10_shows_65 : decode cX10_shows 65 = .ok (.goto (-38), 3) := by decide +kernel
theorem dX10_shows_68 : decode cX10_shows 68 = .ok (.iinc 2 1, 3) := by decide +kernel
theorem dX10_shows_71 : decode cX10_shows 71 = .ok (.goto (-69), 3) := by decide +kernel
theorem dX10_shows_74 : decode cX10_shows 74 = .ok (.return_, 1) := by decide +kernel
def f_X10_shows_L27 (k68 : Nat → Int32 → Int32 → Int32 → Int32 → Hp → Option (Unit × Hp)) : Nat → Nat → Int32 → Int32 → Int32 → Int32 → Hp → Option (Unit × Hp)
  | 0, _, _, _, _, _, _ => none
  | n + 1, l0, l1, l2, l3, l4, h =>
    gd (okOb h l0 10) <|
    vl (gR h l0 3) fun r12 =>
    un r12 fun b13 =>
    gd (okAb h b13 11 l3) <|
    vl (gI h b13 l3.toNatClampNeg) fun x15 =>
    if x15 ≤ l4 then (
    k68 l0 l1 l2 l3 l4 h) else (
    vl (gR h l0 6) fun r17 =>
    vl (gR h l0 5) fun r18 =>
    un r18 fun b19 =>
    gd (okAb h b19 11 (((120 : Int32) * l3) + l4)) <|
    vl (gI h b19 (((120 : Int32) * l3) + l4).toNatClampNeg) fun x21 =>
    un r17 fun b22 =>
    gd (okAb h b22 11 (((120 : Int32) * l3) + l4)) <|
    vl (sI h b22 (((120 : Int32) * l3) + l4).toNatClampNeg x21) fun h24 =>
    vl (l4 + (1 : Int32)) fun x25 =>
    f_X10_shows_L27 k68 n l0 l1 l2 l3 x25 h24)
set_option maxHeartbeats 4000000 in
set_option maxRecDepth 100000 in
theorem t_X10_shows_L27 {X : Cx} {d : Nat} {h0 h' : Hp} {v : Unit} {k68 : Nat → Int32 → Int32 → Int32 → Int32 → Hp → Option (Unit × Hp)} (hD : 2 ≤ d) (hk68 : ∀ (z0 : Nat) (z1 : Int32) (z2 : Int32) (z3 : Int32) (z4 : Int32) (h : Hp), k68 z0 z1 z2 z3 z4 h = some (v, h') → EV X mX10_shows d h0 (none) h' 68 [some (.ref z0), some (.int z1), some (.int z2), some (.int z3), some (.int z4)] [] h) : ∀ (n : Nat) (l0 : Nat) (l1 : Int32) (l2 : Int32) (l3 : Int32) (l4 : Int32) (h : Hp), f_X10_shows_L27 k68 n l0 l1 l2 l3 l4 h = some (v, h') → EV X mX10_shows d h0 (none) h' 27 [some (.ref l0), some (.int l1), some (.int l2), some (.int l3), some (.int l4)] [] h := by
  intro n
  induction n with
  | zero => intro l0 l1 l2 l3 l4 h H; simp [f_X10_shows_L27] at H
  | succ n ih =>
    intro l0 l1 l2 l3 l4 h H
    rw [f_X10_shows_L27] at H
    refine ev_iload dX10_shows_27 rfl ?_
    refine ev_aload_n dX10_shows_29 rfl rfl rfl ?_
    replace H := gd_some H
    obtain ⟨g11, H⟩ := H
    replace H := vl_some H
    obtain ⟨r12, er12, H⟩ := H
    refine ev_getRx dX10_shows_30 fgX10_16 rfl (okOb.p g11) er12 ?_
    refine ev_iload_n dX10_shows_33 rfl rfl ?_
    replace H := un_some H
    obtain ⟨b13, eb13, H⟩ := H
    subst eb13
    replace H := gd_some H
    obtain ⟨g14, H⟩ := H
    replace H := vl_some H
    obtain ⟨x15, ex15, H⟩ := H
    refine ev_ialdx dX10_shows_34 (okAb.p g14) ex15 ?_
    refine ev_icmp_ge (tgt := 68) dX10_shows_35 (by decide) (fun c16 => ?_) (fun c16 => ?_)
    · rw [if_pos c16] at H
      exact hk68 l0 l1 l2 l3 l4 h H
    · rw [if_neg c16] at H
      refine ev_aload_n dX10_shows_38 rfl rfl rfl ?_
      replace H := vl_some H
      obtain ⟨r17, er17, H⟩ := H
      refine ev_getRx dX10_shows_39 fgX10_25 rfl (okOb.p g11) er17 ?_
      refine ev_bipush (v := (120 : Int32)) dX10_shows_42 (by decide) ?_
      refine ev_iload_n dX10_shows_44 rfl rfl ?_
      refine ev_imul dX10_shows_45 ?_
      refine ev_iload dX10_shows_46 rfl ?_
      refine ev_iadd dX10_shows_48 ?_
      refine ev_aload_n dX10_shows_49 rfl rfl rfl ?_
      replace H := vl_some H
      obtain ⟨r18, er18, H⟩ := H
      refine ev_getRx dX10_shows_50 fgX10_22 rfl (okOb.p g11) er18 ?_
      refine ev_bipush (v := (120 : Int32)) dX10_shows_53 (by decide) ?_
      refine ev_iload_n dX10_shows_55 rfl rfl ?_
      refine ev_imul dX10_shows_56 ?_
      refine ev_iload dX10_shows_57 rfl ?_
      refine ev_iadd dX10_shows_59 ?_
      replace H := un_some H
      obtain ⟨b19, eb19, H⟩ := H
      subst eb19
      replace H := gd_some H
      obtain ⟨g20, H⟩ := H
      replace H := vl_some H
      obtain ⟨x21, ex21, H⟩ := H
      refine ev_ialdx dX10_shows_60 (okAb.p g20) ex21 ?_
      replace H := un_some H
      obtain ⟨b22, eb22, H⟩ := H
      subst eb22
      replace H := gd_some H
      obtain ⟨g23, H⟩ := H
      replace H := vl_some H
      obtain ⟨h24, eh24, H⟩ := H
      refine ev_iast dX10_shows_61 (okAb.p g23) eh24 ?_
      replace H := vl_some H
      obtain ⟨x25, ex25, H⟩ := H
      refine ev_iincx (loc2 := [some (.ref l0), some (.int l1), some (.int l2), some (.int l3), some (.int x25)]) dX10_shows_62 rfl (by decide) ex25 (by decide) rfl ?_
      refine ev_goto (tgt := 27) dX10_shows_65 (by decide) ?_
      exact ih l0 l1 l2 l3 x25 h24 H
def f_X10_shows_L2 : Nat → Nat → Int32 → Int32 → Hp → Option (Unit × Hp)
  | 0, _, _, _, _ => none
  | n + 1, l0, l1, l2, h =>
    gd (okOb h l0 10) <|
    vl (gR h l0 19) fun r2 =>
    un r2 fun b3 =>
    gd (okAb h b3 11 (l1 / (2 : Int32))) <|
    vl (gI h b3 (l1 / (2 : Int32)).toNatClampNeg) fun x5 =>
    bnd (f_X10_leavesOf h x5) fun v6 h7 =>
    if v6 ≤ l2 then (
    some ((), h7)) else (
    bnd (f_X10_pageIn h7 l0 l1 l2) fun v9 h10 =>
    f_X10_shows_L27 (fun y26 y27 y28 y29 y30 h31 =>
    vl (y28 + (1 : Int32)) fun x32 =>
    f_X10_shows_L2 n y26 y27 x32 h31) 6000 l0 l1 l2 v9 (0 : Int32) h10)
set_option maxHeartbeats 4000000 in
set_option maxRecDepth 100000 in
theorem t_X10_shows_L2 {X : Cx} {d : Nat} {h0 h' : Hp} {v : Unit} (hD : 2 ≤ d) : ∀ (n : Nat) (l0 : Nat) (l1 : Int32) (l2 : Int32) (h : Hp), f_X10_shows_L2 n l0 l1 l2 h = some (v, h') → EV X mX10_shows d h0 (none) h' 2 [some (.ref l0), some (.int l1), some (.int l2), none, none] [] h := by
  intro n
  induction n with
  | zero => intro l0 l1 l2 h H; simp [f_X10_shows_L2] at H
  | succ n ih =>
    intro l0 l1 l2 h H
    rw [f_X10_shows_L2] at H
    refine ev_iload_n dX10_shows_2 rfl rfl ?_
    refine ev_aload_n dX10_shows_3 rfl rfl rfl ?_
    replace H := gd_some H
    obtain ⟨g1, H⟩ := H
    replace H := vl_some H
    obtain ⟨r2, er2, H⟩ := H
    refine ev_getRx dX10_shows_4 fgX10_61 rfl (okOb.p g1) er2 ?_
    refine ev_iload_n dX10_shows_7 rfl rfl ?_
    refine ev_iconst (v := (2 : Int32)) dX10_shows_8 (by decide) ?_
    refine ev_idiv dX10_shows_9 (by decide) ?_
    replace H := un_some H
    obtain ⟨b3, eb3, H⟩ := H
    subst eb3
    replace H := gd_some H
    obtain ⟨g4, H⟩ := H
    replace H := vl_some H
    obtain ⟨x5, ex5, H⟩ := H
    refine ev_ialdx dX10_shows_10 (okAb.p g4) ex5 ?_
    replace H := bnd_some H
    obtain ⟨v6, h7, eh7, H⟩ := H
    have ph7 := (t_X10_leavesOf (X := X) (d := 1) (by omega) eh7)
    refine ev_callS (as := [.int x5]) dX10_shows_11 ph7 ok_X10_leavesOf (by omega) rfl k4_156 k4_157 rfl (Nat.le_of_ble_eq_true rfl) ?_
    refine ev_icmp_ge (tgt := 74) dX10_shows_14 (by decide) (fun c8 => ?_) (fun c8 => ?_)
    · rw [if_pos c8] at H
      exact ev_vretx dX10_shows_74 rfl H
    · rw [if_neg c8] at H
      refine ev_aload_n dX10_shows_17 rfl rfl rfl ?_
      refine ev_iload_n dX10_shows_18 rfl rfl ?_
      refine ev_iload_n dX10_shows_19 rfl rfl ?_
      replace H := bnd_some H
      obtain ⟨v9, h10, eh10, H⟩ := H
      have ph10 := (t_X10_pageIn (X := X) (d := 1) (by omega) eh10)
      refine ev_callV (as := [.int l1, .int l2]) dX10_shows_20 ph10 ok_X10_pageIn (by omega) rfl k5_172 k5_174 ks_32 (ci := 10) (by decide) rfl rfl (okO_ext ph7.1 (okOb.p g1)) rfl (Nat.le_of_ble_eq_true rfl) ?_
      refine ev_istore_n (loc2 := [some (.ref l0), some (.int l1), some (.int l2), some (.int v9), none]) dX10_shows_23 rfl (by decide) rfl ?_
      refine ev_iconst (v := (0 : Int32)) dX10_shows_24 (by decide) ?_
      refine ev_istore (loc2 := [some (.ref l0), some (.int l1), some (.int l2), some (.int v9), some (.int (0 : Int32))]) dX10_shows_25 (by decide) rfl ?_
      refine t_X10_shows_L27 hD ?_ 6000 l0 l1 l2 v9 (0 : Int32) h10 H
      · intro y26 y27 y28 y29 y30 h31 H
        replace H := vl_some H
        obtain ⟨x32, ex32, H⟩ := H
        refine ev_iincx (loc2 := [some (.ref y26), some (.int y27), some (.int x32), some (.int y29), some (.int y30)]) dX10_shows_68 rfl (by decide) ex32 (by decide) rfl ?_
        refine ev_goto (tgt := 2) dX10_shows_71 (by decide) ?_
        refine ev_drop (loc2 := [some (.ref y26), some (.int y27), some (.int x32), none, none]) [true, true, true, false, false] rfl ?_
        exact ih y26 y27 x32 h31 H
def f_X10_shows (h : Hp) (a0 : Nat) (a1 : Int32) : Option (Unit × Hp) :=
f_X10_shows_L2 6000 a0 a1 (0 : Int32) h
set_option maxHeartbeats 4000000 in
set_option maxRecDepth 100000 in
theorem t_X10_shows {X : Cx} {d : Nat} {h : Hp} {a0 : Nat} {a1 : Int32} {v : Unit} {h' : Hp} (hD : 2 ≤ d) (H : f_X10_shows h a0 a1 = some (v, h')) : PM X mX10_shows d [.ref a0, .int a1] h (none) h' := by
  unfold f_X10_shows at H
  refine PM.of (loc := [some (.ref a0), some (.int a1), none, none, none]) (by decide) rfl (Nat.le_of_ble_eq_true rfl) ?_
  refine ev_iconst (v := (0 : Int32)) dX10_shows_0 (by decide) ?_
  refine ev_istore_n (loc2 := [some (.ref a0), some (.int a1), some (.int (0 : Int32)), none, none]) dX10_shows_1 rfl (by decide) rfl ?_
  refine t_X10_shows_L2 hD  6000 a0 a1 (0 : Int32) h H

theorem dX10_print_0 : decode cX10_print 0 = .ok (.aload_n 0, 1) := by decide +kernel
theorem dX10_print_1 : decode cX10_print 1 = .ok (.iload_n 1, 1) := by decide +kernel
theorem dX10_print_2 : decode cX10_print 2 = .ok (.invokevirtual 202, 3) := by decide +kernel
theorem dX10_print_5 : decode cX10_print 5 = .ok (.ifCond .eq 10, 3) := by decide +kernel
theorem dX10_print_8 : decode cX10_print 8 = .ok (.iload_n 2, 1) := by decide +kernel
theorem dX10_print_9 : decode cX10_print 9 = .ok (.invokestatic 169, 3) := by decide +kernel
theorem dX10_print_12 : decode cX10_print 12 = .ok (.ifCond .ne 5, 3) := by decide +kernel
theorem dX10_print_15 : decode cX10_print 15 = .ok (.iconst (-1), 1) := by decide +kernel
theorem dX10_print_16 : decode cX10_print 16 = .ok (.ireturn, 1) := by decide +kernel
theorem dX10_print_17 : decode cX10_print 17 = .ok (.iload_n 3, 1) := by decide +kernel
theorem dX10_print_18 : decode cX10_print 18 = .ok (.i2l, 1) := by decide +kernel
theorem dX10_print_19 : decode cX10_print 19 = .ok (.lconst 1, 1) := by decide +kernel
theorem dX10_print_20 : decode cX10_print 20 = .ok (.ldc2_w 197, 3) := by decide +kernel
theorem dX10_print_23 : decode cX10_print 23 = .ok (.invokestatic 151, 3) := by decide +kernel
theorem dX10_print_26 : decode cX10_print 26 = .ok (.ifCond .ne 6, 3) := by decide +kernel
theorem dX10_print_29 : decode cX10_print 29 = .ok (.bipush (-2), 2) := by decide +kernel
theorem dX10_print_31 : decode cX10_print 31 = .ok (.ireturn, 1) := by decide +kernel
theorem dX10_print_32 : decode cX10_print 32 = .ok (.iload_n 1, 1) := by decide +kernel
theorem dX10_print_33 : decode cX10_print 33 = .ok (.iconst 2, 1) := by decide +kernel
theorem dX10_print_34 : decode cX10_print 34 = .ok (.idiv, 1) := by decide +kernel
theorem dX10_print_35 : decode cX10_print 35 = .ok (.istore 4, 2) := by decide +kernel
theorem dX10_print_37 : decode cX10_print 37 = .ok (.aload_n 0, 1) := by decide +kernel
theorem dX10_print_38 : decode cX10_print 38 = .ok (.getfield 73, 3) := by decide +kernel
theorem dX10_print_41 : decode cX10_print 41 = .ok (.iload_n 1, 1) := by decide +kernel
theorem dX10_print_42 : decode cX10_print 42 = .ok (.iaload, 1) := by decide +kernel
theorem dX10_print_43 : decode cX10_print 43 = .ok (.ifCond .lt 19, 3) := by decide +kernel
theorem dX10_print_46 : decode cX10_print 46 = .ok (.aload_n 0, 1) := by decide +kernel
theorem dX10_print_47 : decode cX10_print 47 = .ok (.getfield 76, 3) := by decide +kernel
theorem dX10_print_50 : decode cX10_print 50 = .ok (.iload_n 1, 1) := by decide +kernel
theorem dX10_print_51 : decode cX10_print 51 = .ok (.iaload, 1) := by decide +kernel
theorem dX10_print_52 : decode cX10_print 52 = .ok (.aload_n 0, 1) := by decide +kernel
theorem dX10_print_53 : decode cX10_print 53 = .ok (.getfield 67, 3) := by decide +kernel
theorem dX10_print_56 : decode cX10_print 56 = .ok (.iload 4, 2) := by decide +kernel
theorem dX10_print_58 : decode cX10_print 58 = .ok (.iaload, 1) := by decide +kernel
theorem dX10_print_59 : decode cX10_print 59 = .ok (.if_icmp .ne 6, 3) := by decide +kernel
theorem dX10_print_62 : decode cX10_print 62 = .ok (.bipush (-3), 2) := by decide +kernel
theorem dX10_print_64 : decode cX10_print 64 = .ok (.ireturn, 1) := by decide +kernel
theorem dX10_print_65 : decode cX10_print 65 = .ok (.aload_n 0, 1) := by decide +kernel
theorem dX10_print_66 : decode cX10_print 66 = .ok (.getfield 70, 3) := by decide +kernel
theorem dX10_print_69 : decode cX10_print 69 = .ok (.iload 4, 2) := by decide +kernel
theorem dX10_print_71 : decode cX10_print 71 = .ok (.iaload, 1) := by decide +kernel
theorem dX10_print_72 : decode cX10_print 72 = .ok (.ifCond .lt 16, 3) := by decide +kernel
theorem dX10_print_75 : decode cX10_print 75 = .ok (.aload_n 0, 1) := by decide +kernel
theorem dX10_print_76 : decode cX10_print 76 = .ok (.getfield 70, 3) := by decide +kernel
theorem dX10_print_79 : decode cX10_print 79 = .ok (.iload 4, 2) := by decide +kernel
theorem dX10_print_81 : decode cX10_print 81 = .ok (.iaload, 1) := by decide +kernel
theorem dX10_print_82 : decode cX10_print 82 = .ok (.iload_n 1, 1) := by decide +kernel
theorem dX10_print_83 : decode cX10_print 83 = .ok (.iconst 2, 1) := by decide +kernel
theorem dX10_print_84 : decode cX10_print 84 = .ok (.irem, 1) := by decide +kernel
theorem dX10_print_85 : decode cX10_print 85 = .ok (.if_icmp .ne 7, 3) := by decide +kernel
theorem dX10_print_88 : decode cX10_print 88 = .ok (.iconst 1, 1) := by decide +kernel
theorem dX10_print_89 : decode cX10_print 89 = .ok (.goto 4, 3) := by decide +kernel
theorem dX10_print_92 : decode cX10_print 92 = .ok (.iconst 0, 1) := by decide +kernel
theorem dX10_print_93 : decode cX10_print 93 = .ok (.istore 5, 2) := by decide +kernel
theorem dX10_print_95 : decode cX10_print 95 = .ok (.iload 5, 2) := by decide +kernel
theorem dX10_print_97 : decode cX10_print 97 = .ok (.ifCond .eq 13, 3) := by decide +kernel
theorem dX10_print_100 : decode cX10_print 100 = .ok (.aload_n 0, 1) := by decide +kernel
theorem dX10_print_101 : decode cX10_print 101 = .ok (.getfield 209, 3) := by decide +kernel
theorem dX10_print_104 : decode cX10_print 104 = .ok (.ifCond .ne 36, 3) := by decide +kernel
theorem dX10_print_107 : decode cX10_print 107 = .ok (.goto 30, 3) := by decide +kernel
theorem dX10_print_110 : decode cX10_print 110 = .ok (.aload_n 0, 1) := by decide +kernel
theorem dX10_print_111 : decode cX10_print 111 = .ok (.getfield 76, 3) := by decide +kernel
theorem dX10_print_114 : decode cX10_print 114 = .ok (.iconst 2, 1) := by decide +kernel
theorem dX10_print_115 : decode cX10_print 115 = .ok (.iload 4, 2) := by decide +kernel
theorem dX10_print_117 : decode cX10_print 117 = .ok (.imul, 1) := by decide +kernel
theorem dX10_print_118 : decode cX10_print 118 = .ok (.aload_n 0, 1) := by decide +kernel
theorem dX10_print_119 : decode cX10_print 119 = .ok (.getfield 70, 3) := by decide +kernel
theorem dX10_print_122 : decode cX10_print 122 = .ok (.iload 4, 2) := by decide +kernel
theorem dX10_print_124 : decode cX10_print 124 = .ok (.iaload, 1) := by decide +kernel
theorem dX10_print_125 : decode cX10_print 125 = .ok (.iadd, 1) := by decide +kernel
theorem dX10_print_126 : decode cX10_print 126 = .ok (.iaload, 1) := by decide +kernel
theorem dX10_print_127 : decode cX10_print 127 = .ok (.aload_n 0, 1) := by decide +kernel
theorem dX10_print_128 : decode cX10_print 128 = .ok (.getfield 67, 3) := by decide +kernel
theorem dX10_print_131 : decode cX10_print 131 = .ok (.iload 4, 2) := by decide +kernel
theorem dX10_print_133 : decode cX10_print 133 = .ok (.iaload, 1) := by decide +kernel
theorem dX10_print_134 : decode cX10_print 134 = .ok (.if_icmp .ge 6, 3) := by decide +kernel
theorem dX10_print_137 : decode cX10_print 137 = .ok (.bipush (-3), 2) := by decide +kernel
theorem dX10_print_139 : decode cX10_print 139 = .ok (.ireturn, 1) := by decide +kernel
theorem dX10_print_140 : decode cX10_print 140 = .ok (.aload_n 0, 1) := by decide +kernel
theorem dX10_print_141 : decode cX10_print 141 = .ok (.getfield 76, 3) := by decide +kernel
theorem dX10_print_144 : decode cX10_print 144 = .ok (.iload_n 1, 1) := by decide +kernel
theorem dX10_print_145 : decode cX10_print 145 = .ok (.iaload, 1) := by decide +kernel
theorem dX10_print_146 : decode cX10_print 146 = .ok (.ifCond .ne 8, 3) := by decide +kernel
theorem dX10_print_149 : decode cX10_print 149 = .ok (.aload_n 0, 1) := by decide +kernel
theorem dX10_print_150 : decode cX10_print 150 = .ok (.iload_n 1, 1) := by decide +kernel
theorem dX10_print_151 : decode cX10_print 151 = .ok (.invokevirtual 212, 3) := by decide +kernel
theorem dX10_print_154 : decode cX10_print 154 = .ok (.iload 5, 2) := by decide +kernel
theorem dX10_print_156 : decode cX10_print 156 = .ok (.ifCond .eq 13, 3) := by decide +kernel
theorem dX10_print_159 : decode cX10_print 159 = .ok (.aload_n 0, 1) := by decide +kernel
theorem dX10_print_160 : decode cX10_print 160 = .ok (.getfield 70, 3) := by decide +kernel
theorem dX10_print_163 : decode cX10_print 163 = .ok (.iload 4, 2) := by decide +kernel
theorem dX10_print_165 : decode cX10_print 165 = .ok (.iload_n 1, 1) := by decide +kernel
theorem dX10_print_166 : decode cX10_print 166 = .ok (.iconst 2, 1) := by decide +kernel
theorem dX10_print_167 : decode cX10_print 167 = .ok (.irem, 1) := by decide +kernel
theorem dX10_print_168 : decode cX10_print 168 = .ok (.iastore, 1) := by decide +kernel
theorem dX10_print_169 : decode cX10_print 169 = .ok (.iconst 0, 1) := by decide +kernel
theorem dX10_print_170 : decode cX10_print 170 = .ok (.istore 6, 2) := by decide +kernel
theorem dX10_print_172 : decode cX10_print 172 = .ok (.iload 6, 2) := by decide +kernel
theorem dX10_print_174 : decode cX10_print 174 = .ok (.iload_n 3, 1) := by decide +kernel
theorem dX10_print_175 : decode cX10_print 175 = .ok (.if_icmp .ge 112, 3) := by decide +kernel
theorem dX10_print_178 : decode cX10_print 178 = .ok (.aload_n 0, 1) := by decide +kernel
theorem dX10_print_179 : decode cX10_print 179 = .ok (.getfield 76, 3) := by decide +kernel
theorem dX10_print_182 : decode cX10_print 182 = .ok (.iload_n 1, 1) := by decide +kernel
theorem dX10_print_183 : decode cX10_print 183 = .ok (.iaload, 1) := by decide +kernel
theorem dX10_print_184 : decode cX10_print 184 = .ok (.aload_n 0, 1) := by decide +kernel
theorem dX10_print_185 : decode cX10_print 185 = .ok (.getfield 67, 3) := by decide +kernel
theorem dX10_print_188 : decode cX10_print 188 = .ok (.iload 4, 2) := by decide +kernel
theorem dX10_print_190 : decode cX10_print 190 = .ok (.iaload, 1) := by decide +kernel
theorem dX10_print_191 : decode cX10_print 191 = .ok (.if_icmp .ge 96, 3) := by decide +kernel
theorem dX10_print_194 : decode cX10_print 194 = .ok (.iload 5, 2) := by decide +kernel
theorem dX10_print_196 : decode cX10_print 196 = .ok (.ifCond .eq 10, 3) := by decide +kernel
theorem dX10_print_199 : decode cX10_print 199 = .ok (.aload_n 0, 1) := by decide +kernel
theorem dX10_print_200 : decode cX10_print 200 = .ok (.getfield 209, 3) := by decide +kernel
theorem dX10_print_203 : decode cX10_print 203 = .ok (.ifCond .le 84, 3) := by decide +kernel
theorem dX10_print_206 : decode cX10_print 206 = .ok (.iload 5, 2) := by decide +kernel
theorem dX10_print_208 : decode cX10_print 208 = .ok (.ifCond .eq 12, 3) := by decide +kernel
theorem dX10_print_211 : decode cX10_print 211 = .ok (.aload_n 0, 1) := by decide +kernel
theorem dX10_print_212 : decode cX10_print 212 = .ok (.getfield 76, 3) := by decide +kernel
theorem dX10_print_215 : decode cX10_print 215 = .ok (.iload_n 1, 1) := by decide +kernel
theorem dX10_print_216 : decode cX10_print 216 = .ok (.iaload, 1) := by decide +kernel
theorem dX10_print_217 : decode cX10_print 217 = .ok (.goto 19, 3) := by decide +kernel
theorem dX10_print_220 : decode cX10_print 220 = .ok (.aload_n 0, 1) := by decide +kernel
theorem dX10_print_221 : decode cX10_print 221 = .ok (.getfield 67, 3) := by decide +kernel
theorem dX10_print_224 : decode cX10_print 224 = .ok (.iload 4, 2) := by decide +kernel
theorem dX10_print_226 : decode cX10_print 226 = .ok (.iaload, 1) := by decide +kernel
theorem dX10_print_227 : decode cX10_print 227 = .ok (.iconst 1, 1) := by decide +kernel
theorem dX10_print_228 : decode cX10_print 228 = .ok (.isub, 1) := by decide +kernel
theorem dX10_print_229 : decode cX10_print 229 = .ok (.aload_n 0, 1) := by decide +kernel
theorem dX10_print_230 : decode cX10_print 230 = .ok (.getfield 76, 3) := by decide +kernel
theorem dX10_print_233 : decode cX10_print 233 = .ok (.iload_n 1, 1) := by decide +kernel
theorem dX10_print_234 : decode cX10_print 234 = .ok (.iaload, 1) := by decide +kernel
theorem dX10_print_235 : decode cX10_print 235 = .ok (.isub, 1) := by decide +kernel
theorem dX10_print_236 : decode cX10_print 236 = .ok (.istore 7, 2) := by decide +kernel
theorem dX10_print_238 : decode cX10_print 238 = .ok (.aload_n 0, 1) := by decide +kernel
theorem dX10_print_239 : decode cX10_print 239 = .ok (.getfield 82, 3) := by decide +kernel
theorem dX10_print_242 : decode cX10_print 242 = .ok (.bipush 60, 2) := by decide +kernel
theorem dX10_print_244 : decode cX10_print 244 = .ok (.iload_n 1, 1) := by decide +kernel
theorem dX10_print_245 : decode cX10_print 245 = .ok (.imul, 1) := by decide +kernel
theorem dX10_print_246 : decode cX10_print 246 = .ok (.iload 7, 2) := by decide +kernel
theorem dX10_print_248 : decode cX10_print 248 = .ok (.iadd, 1) := by decide +kernel
theorem dX10_print_249 : decode cX10_print 249 = .ok (.aload_n 0, 1) := by decide +kernel
theorem dX10_print_250 : decode cX10_print 250 = .ok (.getfield 79, 3) := by decide +kernel
theorem dX10_print_253 : decode cX10_print 253 = .ok (.iload_n 1, 1) := by decide +kernel
theorem dX10_print_254 : decode cX10_print 254 = .ok (.iaload, 1) := by decide +kernel
theorem dX10_print_255 : decode cX10_print 255 = .ok (.iastore, 1) := by decide +kernel
theorem dX10_print_256 : decode cX10_print 256 = .ok (.aload_n 0, 1) := by decide +kernel
theorem dX10_print_257 : decode cX10_print 257 = .ok (.getfield 76, 3) := by decide +kernel
theorem dX10_print_260 : decode cX10_print 260 = .ok (.iload_n 1, 1) := by decide +kernel
theorem dX10_print_261 : decode cX10_print 261 = .ok (.dup2, 1) := by decide +kernel
theorem dX10_print_262 : decode cX10_print 262 = .ok (.iaload, 1) := by decide +kernel
theorem dX10_print_263 : decode cX10_print 263 = .ok (.iconst 1, 1) := by decide +kernel
theorem dX10_print_264 : decode cX10_print 264 = .ok (.iadd, 1) := by decide +kernel
theorem dX10_print_265 : decode cX10_print 265 = .ok (.iastore, 1) := by decide +kernel
theorem dX10_print_266 : decode cX10_print 266 = .ok (.iload 5, 2) := by decide +kernel
theorem dX10_print_268 : decode cX10_print 268 = .ok (.ifCond .eq 13, 3) := by decide +kernel
theorem dX10_print_271 : decode cX10_print 271 = .ok (.aload_n 0, 1) := by decide +kernel
theorem dX10_print_272 : decode cX10_print 272 = .ok (.dup, 1) := by decide +kernel
theorem dX10_print_273 : decode cX10_print 273 = .ok (.getfield 209, 3) := by decide +kernel
theorem dX10_print_276 : decode cX10_print 276 = .ok (.iconst 1, 1) := by decide +kernel
theorem dX10_print_277 : decode cX10_print 277 = .ok (.isub, 1) := by decide +kernel
theorem dX10_print_278 : decode cX10_print 278 = .ok (.putfield 209, 3) := by decide +kernel
theorem dX10_print_281 : decode cX10_print 281 = .ok (.iinc 6 1, 3) := by decide +kernel
theorem dX10_print_284 : decode cX10_print 284 = .ok (.goto (-112), 3) := by decide +kernel
theorem dX10_print_287 : decode cX10_print 287 = .ok (.aload_n 0, 1) := by decide +kernel
theorem dX10_print_288 : decode cX10_print 288 = .ok (.getfield 43, 3) := by decide +kernel
theorem dX10_print_291 : decode cX10_print 291 = .ok (.iload_n 2, 1) := by decide +kernel
theorem dX10_print_292 : decode cX10_print 292 = .ok (.dup2, 1) := by decide +kernel
theorem dX10_print_293 : decode cX10_print 293 = .ok (.iaload, 1) := by decide +kernel
theorem dX10_print_294 : decode cX10_print 294 = .ok (.iload 6, 2) := by decide +kernel
theorem dX10_print_296 : decode cX10_print 296 = .ok (.iadd, 1) := by decide +kernel
theorem dX10_print_297 : decode cX10_print 297 = .ok (.iastore, 1) := by decide +kernel
theorem dX10_print_298 : decode cX10_print 298 = .ok (.iload 6, 2) := by decide +kernel
theorem dX10_print_300 : decode cX10_print 300 = .ok (.ireturn, 1) := by decide +kernel
def f_X10_print_J236 (k172 : Nat → Int32 → Int32 → Int32 → Int32 → Int32 → Int32 → Hp → Option (Int32 × Hp)) (l0 : Nat) (l1 : Int32) (l2 : Int32) (l3 : Int32) (l4 : Int32) (l5 : Int32) (l6 : Int32) (w0 : Int32) (h : Hp) : Option (Int32 × Hp) :=
gd (okOb h l0 10) <|
vl (gR h l0 28) fun r89 =>
vl (gR h l0 27) fun r90 =>
un r90 fun b91 =>
gd (okAb h b91 11 l1) <|
vl (gI h b91 l1.toNatClampNeg) fun x93 =>
un r89 fun b94 =>
gd (okAb h b94 11 (((60 : Int32) * l1) + w0)) <|
vl (sI h b94 (((60 : Int32) * l1) + w0).toNatClampNeg x93) fun h96 =>
vl (gR h96 l0 26) fun r97 =>
un r97 fun b98 =>
gd (okAb h96 b98 11 l1) <|
vl (gI h96 b98 l1.toNatClampNeg) fun x100 =>
gd (okAb h96 b98 11 l1) <|
vl (sI h96 b98 l1.toNatClampNeg (x100 + (1 : Int32))) fun h102 =>
if l5 = 0 then (
vl (l6 + (1 : Int32)) fun x104 =>
k172 l0 l1 l2 l3 l4 l5 x104 h102) else (
vl (gI h102 l0 24) fun x105 =>
vl (sI h102 l0 24 (x105 - (1 : Int32))) fun h106 =>
vl (l6 + (1 : Int32)) fun x107 =>
k172 l0 l1 l2 l3 l4 l5 x107 h106)
set_option maxHeartbeats 4000000 in
set_option maxRecDepth 100000 in
theorem t_X10_print_J236 {X : Cx} {d : Nat} {h0 h' : Hp} {v : Int32} {k172 : Nat → Int32 → Int32 → Int32 → Int32 → Int32 → Int32 → Hp → Option (Int32 × Hp)} (hD : 3 ≤ d) (hk172 : ∀ (z0 : Nat) (z1 : Int32) (z2 : Int32) (z3 : Int32) (z4 : Int32) (z5 : Int32) (z6 : Int32) (h : Hp), k172 z0 z1 z2 z3 z4 z5 z6 h = some (v, h') → EV X mX10_print d h0 (some (.int v)) h' 172 [some (.ref z0), some (.int z1), some (.int z2), some (.int z3), some (.int z4), some (.int z5), some (.int z6), none] [] h) : ∀ (l0 : Nat) (l1 : Int32) (l2 : Int32) (l3 : Int32) (l4 : Int32) (l5 : Int32) (l6 : Int32) (w0 : Int32) (h : Hp), f_X10_print_J236 k172 l0 l1 l2 l3 l4 l5 l6 w0 h = some (v, h') → EV X mX10_print d h0 (some (.int v)) h' 236 [some (.ref l0), some (.int l1), some (.int l2), some (.int l3), some (.int l4), some (.int l5), some (.int l6), none] [.int w0] h := by
  intro l0 l1 l2 l3 l4 l5 l6 w0 h H
  unfold f_X10_print_J236 at H
  refine ev_istore (loc2 := [some (.ref l0), some (.int l1), some (.int l2), some (.int l3), some (.int l4), some (.int l5), some (.int l6), some (.int w0)]) dX10_print_236 (by decide) rfl ?_
  refine ev_aload_n dX10_print_238 rfl rfl rfl ?_
  replace H := gd_some H
  obtain ⟨g88, H⟩ := H
  replace H := vl_some H
  obtain ⟨r89, er89, H⟩ := H
  refine ev_getRx dX10_print_239 fgX10_82 rfl (okOb.p g88) er89 ?_
  refine ev_bipush (v := (60 : Int32)) dX10_print_242 (by decide) ?_
  refine ev_iload_n dX10_print_244 rfl rfl ?_
  refine ev_imul dX10_print_245 ?_
  refine ev_iload dX10_print_246 rfl ?_
  refine ev_iadd dX10_print_248 ?_
  refine ev_aload_n dX10_print_249 rfl rfl rfl ?_
  replace H := vl_some H
  obtain ⟨r90, er90, H⟩ := H
  refine ev_getRx dX10_print_250 fgX10_79 rfl (okOb.p g88) er90 ?_
  refine ev_iload_n dX10_print_253 rfl rfl ?_
  replace H := un_some H
  obtain ⟨b91, eb91, H⟩ := H
  subst eb91
  replace H := gd_some H
  obtain ⟨g92, H⟩ := H
  replace H := vl_some H
  obtain ⟨x93, ex93, H⟩ := H
  refine ev_ialdx dX10_print_254 (okAb.p g92) ex93 ?_
  replace H := un_some H
  obtain ⟨b94, eb94, H⟩ := H
  subst eb94
  replace H := gd_some H
  obtain ⟨g95, H⟩ := H
  replace H := vl_some H
  obtain ⟨h96, eh96, H⟩ := H
  refine ev_iast dX10_print_255 (okAb.p g95) eh96 ?_
  refine ev_aload_n dX10_print_256 rfl rfl rfl ?_
  replace H := vl_some H
  obtain ⟨r97, er97, H⟩ := H
  refine ev_getRx dX10_print_257 fgX10_76 rfl (okO_sI eh96 (okOb.p g88)) er97 ?_
  refine ev_iload_n dX10_print_260 rfl rfl ?_
  refine ev_dup2 dX10_print_261 rfl (rv_cat _) ?_
  replace H := un_some H
  obtain ⟨b98, eb98, H⟩ := H
  subst eb98
  replace H := gd_some H
  obtain ⟨g99, H⟩ := H
  replace H := vl_some H
  obtain ⟨x100, ex100, H⟩ := H
  refine ev_ialdx dX10_print_262 (okAb.p g99) ex100 ?_
  refine ev_iconst (v := (1 : Int32)) dX10_print_263 (by decide) ?_
  refine ev_iadd dX10_print_264 ?_
  replace H := gd_some H
  obtain ⟨g101, H⟩ := H
  replace H := vl_some H
  obtain ⟨h102, eh102, H⟩ := H
  refine ev_iast dX10_print_265 (okAb.p g101) eh102 ?_
  refine ev_iload dX10_print_266 rfl ?_
  refine ev_if_eq (tgt := 281) dX10_print_268 (by decide) (fun c103 => ?_) (fun c103 => ?_)
  · rw [if_pos c103] at H
    replace H := vl_some H
    obtain ⟨x104, ex104, H⟩ := H
    refine ev_iincx (loc2 := [some (.ref l0), some (.int l1), some (.int l2), some (.int l3), some (.int l4), some (.int l5), some (.int x104), some (.int w0)]) dX10_print_281 rfl (by decide) ex104 (by decide) rfl ?_
    refine ev_goto (tgt := 172) dX10_print_284 (by decide) ?_
    refine ev_drop (loc2 := [some (.ref l0), some (.int l1), some (.int l2), some (.int l3), some (.int l4), some (.int l5), some (.int x104), none]) [true, true, true, true, true, true, true, false] rfl ?_
    exact hk172 l0 l1 l2 l3 l4 l5 x104 h102 H
  · rw [if_neg c103] at H
    refine ev_aload_n dX10_print_271 rfl rfl rfl ?_
    refine ev_dup dX10_print_272 rfl ?_
    replace H := vl_some H
    obtain ⟨x105, ex105, H⟩ := H
    refine ev_getIx dX10_print_273 fgX10_209 rfl (okO_sI eh102 (okO_sI eh96 (okOb.p g88))) ex105 ?_
    refine ev_iconst (v := (1 : Int32)) dX10_print_276 (by decide) ?_
    refine ev_isub dX10_print_277 ?_
    replace H := vl_some H
    obtain ⟨h106, eh106, H⟩ := H
    refine ev_putI dX10_print_278 fdX10_209 rfl rfl rfl (okO_sI eh102 (okO_sI eh96 (okOb.p g88))) eh106 ?_
    replace H := vl_some H
    obtain ⟨x107, ex107, H⟩ := H
    refine ev_iincx (loc2 := [some (.ref l0), some (.int l1), some (.int l2), some (.int l3), some (.int l4), some (.int l5), some (.int x107), some (.int w0)]) dX10_print_281 rfl (by decide) ex107 (by decide) rfl ?_
    refine ev_goto (tgt := 172) dX10_print_284 (by decide) ?_
    refine ev_drop (loc2 := [some (.ref l0), some (.int l1), some (.int l2), some (.int l3), some (.int l4), some (.int l5), some (.int x107), none]) [true, true, true, true, true, true, true, false] rfl ?_
    exact hk172 l0 l1 l2 l3 l4 l5 x107 h106 H
def f_X10_print_J206 (k172 : Nat → Int32 → Int32 → Int32 → Int32 → Int32 → Int32 → Hp → Option (Int32 × Hp)) (l0 : Nat) (l1 : Int32) (l2 : Int32) (l3 : Int32) (l4 : Int32) (l5 : Int32) (l6 : Int32) (h : Hp) : Option (Int32 × Hp) :=
if l5 = 0 then (
gd (okOb h l0 10) <|
vl (gR h l0 21) fun r80 =>
un r80 fun b81 =>
gd (okAb h b81 11 l4) <|
vl (gI h b81 l4.toNatClampNeg) fun x83 =>
vl (gR h l0 26) fun r84 =>
un r84 fun b85 =>
gd (okAb h b85 11 l1) <|
vl (gI h b85 l1.toNatClampNeg) fun x87 =>
f_X10_print_J236 k172 l0 l1 l2 l3 l4 l5 l6 ((x83 - (1 : Int32)) - x87) h) else (
gd (okOb h l0 10) <|
vl (gR h l0 26) fun r109 =>
un r109 fun b110 =>
gd (okAb h b110 11 l1) <|
vl (gI h b110 l1.toNatClampNeg) fun x112 =>
f_X10_print_J236 k172 l0 l1 l2 l3 l4 l5 l6 x112 h)
set_option maxHeartbeats 4000000 in
set_option maxRecDepth 100000 in
theorem t_X10_print_J206 {X : Cx} {d : Nat} {h0 h' : Hp} {v : Int32} {k172 : Nat → Int32 → Int32 → Int32 → Int32 → Int32 → Int32 → Hp → Option (Int32 × Hp)} (hD : 3 ≤ d) (hk172 : ∀ (z0 : Nat) (z1 : Int32) (z2 : Int32) (z3 : Int32) (z4 : Int32) (z5 : Int32) (z6 : Int32) (h : Hp), k172 z0 z1 z2 z3 z4 z5 z6 h = some (v, h') → EV X mX10_print d h0 (some (.int v)) h' 172 [some (.ref z0), some (.int z1), some (.int z2), some (.int z3), some (.int z4), some (.int z5), some (.int z6), none] [] h) : ∀ (l0 : Nat) (l1 : Int32) (l2 : Int32) (l3 : Int32) (l4 : Int32) (l5 : Int32) (l6 : Int32) (h : Hp), f_X10_print_J206 k172 l0 l1 l2 l3 l4 l5 l6 h = some (v, h') → EV X mX10_print d h0 (some (.int v)) h' 206 [some (.ref l0), some (.int l1), some (.int l2), some (.int l3), some (.int l4), some (.int l5), some (.int l6), none] [] h := by
  intro l0 l1 l2 l3 l4 l5 l6 h H
  unfold f_X10_print_J206 at H
  refine ev_iload dX10_print_206 rfl ?_
  refine ev_if_eq (tgt := 220) dX10_print_208 (by decide) (fun c78 => ?_) (fun c78 => ?_)
  · rw [if_pos c78] at H
    refine ev_aload_n dX10_print_220 rfl rfl rfl ?_
    replace H := gd_some H
    obtain ⟨g79, H⟩ := H
    replace H := vl_some H
    obtain ⟨r80, er80, H⟩ := H
    refine ev_getRx dX10_print_221 fgX10_67 rfl (okOb.p g79) er80 ?_
    refine ev_iload dX10_print_224 rfl ?_
    replace H := un_some H
    obtain ⟨b81, eb81, H⟩ := H
    subst eb81
    replace H := gd_some H
    obtain ⟨g82, H⟩ := H
    replace H := vl_some H
    obtain ⟨x83, ex83, H⟩ := H
    refine ev_ialdx dX10_print_226 (okAb.p g82) ex83 ?_
    refine ev_iconst (v := (1 : Int32)) dX10_print_227 (by decide) ?_
    refine ev_isub dX10_print_228 ?_
    refine ev_aload_n dX10_print_229 rfl rfl rfl ?_
    replace H := vl_some H
    obtain ⟨r84, er84, H⟩ := H
    refine ev_getRx dX10_print_230 fgX10_76 rfl (okOb.p g79) er84 ?_
    refine ev_iload_n dX10_print_233 rfl rfl ?_
    replace H := un_some H
    obtain ⟨b85, eb85, H⟩ := H
    subst eb85
    replace H := gd_some H
    obtain ⟨g86, H⟩ := H
    replace H := vl_some H
    obtain ⟨x87, ex87, H⟩ := H
    refine ev_ialdx dX10_print_234 (okAb.p g86) ex87 ?_
    refine ev_isub dX10_print_235 ?_
    exact t_X10_print_J236 hD hk172 l0 l1 l2 l3 l4 l5 l6 ((x83 - (1 : Int32)) - x87) h H
  · rw [if_neg c78] at H
    refine ev_aload_n dX10_print_211 rfl rfl rfl ?_
    replace H := gd_some H
    obtain ⟨g108, H⟩ := H
    replace H := vl_some H
    obtain ⟨r109, er109, H⟩ := H
    refine ev_getRx dX10_print_212 fgX10_76 rfl (okOb.p g108) er109 ?_
    refine ev_iload_n dX10_print_215 rfl rfl ?_
    replace H := un_some H
    obtain ⟨b110, eb110, H⟩ := H
    subst eb110
    replace H := gd_some H
    obtain ⟨g111, H⟩ := H
    replace H := vl_some H
    obtain ⟨x112, ex112, H⟩ := H
    refine ev_ialdx dX10_print_216 (okAb.p g111) ex112 ?_
    refine ev_goto (tgt := 236) dX10_print_217 (by decide) ?_
    exact t_X10_print_J236 hD hk172 l0 l1 l2 l3 l4 l5 l6 x112 h H
def f_X10_print_L172 : Nat → Nat → Int32 → Int32 → Int32 → Int32 → Int32 → Int32 → Hp → Option (Int32 × Hp)
  | 0, _, _, _, _, _, _, _, _ => none
  | n + 1, l0, l1, l2, l3, l4, l5, l6, h =>
    if l3 ≤ l6 then (
    gd (okOb h l0 10) <|
    vl (gR h l0 13) fun r55 =>
    un r55 fun b56 =>
    gd (okAb h b56 11 l2) <|
    vl (gI h b56 l2.toNatClampNeg) fun x58 =>
    gd (okAb h b56 11 l2) <|
    vl (sI h b56 l2.toNatClampNeg (x58 + l6)) fun h60 =>
    some (l6, h60)) else (
    gd (okOb h l0 10) <|
    vl (gR h l0 26) fun r62 =>
    un r62 fun b63 =>
    gd (okAb h b63 11 l1) <|
    vl (gI h b63 l1.toNatClampNeg) fun x65 =>
    vl (gR h l0 21) fun r66 =>
    un r66 fun b67 =>
    gd (okAb h b67 11 l4) <|
    vl (gI h b67 l4.toNatClampNeg) fun x69 =>
    if x69 ≤ x65 then (
    vl (gR h l0 13) fun r71 =>
    un r71 fun b72 =>
    gd (okAb h b72 11 l2) <|
    vl (gI h b72 l2.toNatClampNeg) fun x74 =>
    gd (okAb h b72 11 l2) <|
    vl (sI h b72 l2.toNatClampNeg (x74 + l6)) fun h76 =>
    some (l6, h76)) else (
    if l5 = 0 then (
    f_X10_print_J206 (f_X10_print_L172 n) l0 l1 l2 l3 l4 l5 l6 h) else (
    vl (gI h l0 24) fun x113 =>
    if x113 ≤ 0 then (
    vl (gR h l0 13) fun r115 =>
    un r115 fun b116 =>
    gd (okAb h b116 11 l2) <|
    vl (gI h b116 l2.toNatClampNeg) fun x118 =>
    gd (okAb h b116 11 l2) <|
    vl (sI h b116 l2.toNatClampNeg (x118 + l6)) fun h120 =>
    some (l6, h120)) else (
    f_X10_print_J206 (f_X10_print_L172 n) l0 l1 l2 l3 l4 l5 l6 h))))
set_option maxHeartbeats 4000000 in
set_option maxRecDepth 100000 in
theorem t_X10_print_L172 {X : Cx} {d : Nat} {h0 h' : Hp} {v : Int32} (hD : 3 ≤ d) : ∀ (n : Nat) (l0 : Nat) (l1 : Int32) (l2 : Int32) (l3 : Int32) (l4 : Int32) (l5 : Int32) (l6 : Int32) (h : Hp), f_X10_print_L172 n l0 l1 l2 l3 l4 l5 l6 h = some (v, h') → EV X mX10_print d h0 (some (.int v)) h' 172 [some (.ref l0), some (.int l1), some (.int l2), some (.int l3), some (.int l4), some (.int l5), some (.int l6), none] [] h := by
  intro n
  induction n with
  | zero => intro l0 l1 l2 l3 l4 l5 l6 h H; simp [f_X10_print_L172] at H
  | succ n ih =>
    intro l0 l1 l2 l3 l4 l5 l6 h H
    rw [f_X10_print_L172] at H
    refine ev_iload dX10_print_172 rfl ?_
    refine ev_iload_n dX10_print_174 rfl rfl ?_
    refine ev_icmp_ge (tgt := 287) dX10_print_175 (by decide) (fun c53 => ?_) (fun c53 => ?_)
    · rw [if_pos c53] at H
      refine ev_aload_n dX10_print_287 rfl rfl rfl ?_
      replace H := gd_some H
      obtain ⟨g54, H⟩ := H
      replace H := vl_some H
      obtain ⟨r55, er55, H⟩ := H
      refine ev_getRx dX10_print_288 fgX10_43 rfl (okOb.p g54) er55 ?_
      refine ev_iload_n dX10_print_291 rfl rfl ?_
      refine ev_dup2 dX10_print_292 rfl (rv_cat _) ?_
      replace H := un_some H
      obtain ⟨b56, eb56, H⟩ := H
      subst eb56
      replace H := gd_some H
      obtain ⟨g57, H⟩ := H
      replace H := vl_some H
      obtain ⟨x58, ex58, H⟩ := H
      refine ev_ialdx dX10_print_293 (okAb.p g57) ex58 ?_
      refine ev_iload dX10_print_294 rfl ?_
      refine ev_iadd dX10_print_296 ?_
      replace H := gd_some H
      obtain ⟨g59, H⟩ := H
      replace H := vl_some H
      obtain ⟨h60, eh60, H⟩ := H
      refine ev_iast dX10_print_297 (okAb.p g59) eh60 ?_
      refine ev_iload dX10_print_298 rfl ?_
      exact ev_iretx dX10_print_300 rfl rfl H
    · rw [if_neg c53] at H
      refine ev_aload_n dX10_print_178 rfl rfl rfl ?_
      replace H := gd_some H
      obtain ⟨g61, H⟩ := H
      replace H := vl_some H
      obtain ⟨r62, er62, H⟩ := H
      refine ev_getRx dX10_print_179 fgX10_76 rfl (okOb.p g61) er62 ?_
      refine ev_iload_n dX10_print_182 rfl rfl ?_
      replace H := un_some H
      obtain ⟨b63, eb63, H⟩ := H
      subst eb63
      replace H := gd_some H
      obtain ⟨g64, H⟩ := H
      replace H := vl_some H
      obtain ⟨x65, ex65, H⟩ := H
      refine ev_ialdx dX10_print_183 (okAb.p g64) ex65 ?_
      refine ev_aload_n dX10_print_184 rfl rfl rfl ?_
      replace H := vl_some H
      obtain ⟨r66, er66, H⟩ := H
      refine ev_getRx dX10_print_185 fgX10_67 rfl (okOb.p g61) er66 ?_
      refine ev_iload dX10_print_188 rfl ?_
      replace H := un_some H
      obtain ⟨b67, eb67, H⟩ := H
      subst eb67
      replace H := gd_some H
      obtain ⟨g68, H⟩ := H
      replace H := vl_some H
      obtain ⟨x69, ex69, H⟩ := H
      refine ev_ialdx dX10_print_190 (okAb.p g68) ex69 ?_
      refine ev_icmp_ge (tgt := 287) dX10_print_191 (by decide) (fun c70 => ?_) (fun c70 => ?_)
      · rw [if_pos c70] at H
        refine ev_aload_n dX10_print_287 rfl rfl rfl ?_
        replace H := vl_some H
        obtain ⟨r71, er71, H⟩ := H
        refine ev_getRx dX10_print_288 fgX10_43 rfl (okOb.p g61) er71 ?_
        refine ev_iload_n dX10_print_291 rfl rfl ?_
        refine ev_dup2 dX10_print_292 rfl (rv_cat _) ?_
        replace H := un_some H
        obtain ⟨b72, eb72, H⟩ := H
        subst eb72
        replace H := gd_some H
        obtain ⟨g73, H⟩ := H
        replace H := vl_some H
        obtain ⟨x74, ex74, H⟩ := H
        refine ev_ialdx dX10_print_293 (okAb.p g73) ex74 ?_
        refine ev_iload dX10_print_294 rfl ?_
        refine ev_iadd dX10_print_296 ?_
        replace H := gd_some H
        obtain ⟨g75, H⟩ := H
        replace H := vl_some H
        obtain ⟨h76, eh76, H⟩ := H
        refine ev_iast dX10_print_297 (okAb.p g75) eh76 ?_
        refine ev_iload dX10_print_298 rfl ?_
        exact ev_iretx dX10_print_300 rfl rfl H
      · rw [if_neg c70] at H
        refine ev_iload dX10_print_194 rfl ?_
        refine ev_if_eq (tgt := 206) dX10_print_196 (by decide) (fun c77 => ?_) (fun c77 => ?_)
        · rw [if_pos c77] at H
          exact t_X10_print_J206 hD ih l0 l1 l2 l3 l4 l5 l6 h H
        · rw [if_neg c77] at H
          refine ev_aload_n dX10_print_199 rfl rfl rfl ?_
          replace H := vl_some H
          obtain ⟨x113, ex113, H⟩ := H
          refine ev_getIx dX10_print_200 fgX10_209 rfl (okOb.p g61) ex113 ?_
          refine ev_if_le (tgt := 287) dX10_print_203 (by decide) (fun c114 => ?_) (fun c114 => ?_)
          · rw [if_pos c114] at H
            refine ev_aload_n dX10_print_287 rfl rfl rfl ?_
            replace H := vl_some H
            obtain ⟨r115, er115, H⟩ := H
            refine ev_getRx dX10_print_288 fgX10_43 rfl (okOb.p g61) er115 ?_
            refine ev_iload_n dX10_print_291 rfl rfl ?_
            refine ev_dup2 dX10_print_292 rfl (rv_cat _) ?_
            replace H := un_some H
            obtain ⟨b116, eb116, H⟩ := H
            subst eb116
            replace H := gd_some H
            obtain ⟨g117, H⟩ := H
            replace H := vl_some H
            obtain ⟨x118, ex118, H⟩ := H
            refine ev_ialdx dX10_print_293 (okAb.p g117) ex118 ?_
            refine ev_iload dX10_print_294 rfl ?_
            refine ev_iadd dX10_print_296 ?_
            replace H := gd_some H
            obtain ⟨g119, H⟩ := H
            replace H := vl_some H
            obtain ⟨h120, eh120, H⟩ := H
            refine ev_iast dX10_print_297 (okAb.p g119) eh120 ?_
            refine ev_iload dX10_print_298 rfl ?_
            exact ev_iretx dX10_print_300 rfl rfl H
          · rw [if_neg c114] at H
            exact t_X10_print_J206 hD ih l0 l1 l2 l3 l4 l5 l6 h H
def f_X10_print_J169 (l0 : Nat) (l1 : Int32) (l2 : Int32) (l3 : Int32) (l4 : Int32) (l5 : Int32) (h : Hp) : Option (Int32 × Hp) :=
f_X10_print_L172 6000 l0 l1 l2 l3 l4 l5 (0 : Int32) h
set_option maxHeartbeats 4000000 in
set_option maxRecDepth 100000 in
theorem t_X10_print_J169 {X : Cx} {d : Nat} {h0 h' : Hp} {v : Int32} (hD : 3 ≤ d) : ∀ (l0 : Nat) (l1 : Int32) (l2 : Int32) (l3 : Int32) (l4 : Int32) (l5 : Int32) (h : Hp), f_X10_print_J169 l0 l1 l2 l3 l4 l5 h = some (v, h') → EV X mX10_print d h0 (some (.int v)) h' 169 [some (.ref l0), some (.int l1), some (.int l2), some (.int l3), some (.int l4), some (.int l5), none, none] [] h := by
  intro l0 l1 l2 l3 l4 l5 h H
  unfold f_X10_print_J169 at H
  refine ev_iconst (v := (0 : Int32)) dX10_print_169 (by decide) ?_
  refine ev_istore (loc2 := [some (.ref l0), some (.int l1), some (.int l2), some (.int l3), some (.int l4), some (.int l5), some (.int (0 : Int32)), none]) dX10_print_170 (by decide) rfl ?_
  refine t_X10_print_L172 hD  6000 l0 l1 l2 l3 l4 l5 (0 : Int32) h H
def f_X10_print_J154 (l0 : Nat) (l1 : Int32) (l2 : Int32) (l3 : Int32) (l4 : Int32) (l5 : Int32) (h : Hp) : Option (Int32 × Hp) :=
if l5 = 0 then (
f_X10_print_J169 l0 l1 l2 l3 l4 l5 h) else (
gd (okOb h l0 10) <|
vl (gR h l0 22) fun r122 =>
un r122 fun b123 =>
gd (okAb h b123 11 l4) <|
vl (sI h b123 l4.toNatClampNeg (l1 - l1 / (2 : Int32) * (2 : Int32))) fun h125 =>
f_X10_print_J169 l0 l1 l2 l3 l4 l5 h125)
set_option maxHeartbeats 4000000 in
set_option maxRecDepth 100000 in
theorem t_X10_print_J154 {X : Cx} {d : Nat} {h0 h' : Hp} {v : Int32} (hD : 3 ≤ d) : ∀ (l0 : Nat) (l1 : Int32) (l2 : Int32) (l3 : Int32) (l4 : Int32) (l5 : Int32) (h : Hp), f_X10_print_J154 l0 l1 l2 l3 l4 l5 h = some (v, h') → EV X mX10_print d h0 (some (.int v)) h' 154 [some (.ref l0), some (.int l1), some (.int l2), some (.int l3), some (.int l4), some (.int l5), none, none] [] h := by
  intro l0 l1 l2 l3 l4 l5 h H
  unfold f_X10_print_J154 at H
  refine ev_iload dX10_print_154 rfl ?_
  refine ev_if_eq (tgt := 169) dX10_print_156 (by decide) (fun c52 => ?_) (fun c52 => ?_)
  · rw [if_pos c52] at H
    exact t_X10_print_J169 hD l0 l1 l2 l3 l4 l5 h H
  · rw [if_neg c52] at H
    refine ev_aload_n dX10_print_159 rfl rfl rfl ?_
    replace H := gd_some H
    obtain ⟨g121, H⟩ := H
    replace H := vl_some H
    obtain ⟨r122, er122, H⟩ := H
    refine ev_getRx dX10_print_160 fgX10_70 rfl (okOb.p g121) er122 ?_
    refine ev_iload dX10_print_163 rfl ?_
    refine ev_iload_n dX10_print_165 rfl rfl ?_
    refine ev_iconst (v := (2 : Int32)) dX10_print_166 (by decide) ?_
    refine ev_irem dX10_print_167 (by decide) ?_
    replace H := un_some H
    obtain ⟨b123, eb123, H⟩ := H
    subst eb123
    replace H := gd_some H
    obtain ⟨g124, H⟩ := H
    replace H := vl_some H
    obtain ⟨h125, eh125, H⟩ := H
    refine ev_iast dX10_print_168 (okAb.p g124) eh125 ?_
    exact t_X10_print_J169 hD l0 l1 l2 l3 l4 l5 h125 H
def f_X10_print_J140 (l0 : Nat) (l1 : Int32) (l2 : Int32) (l3 : Int32) (l4 : Int32) (l5 : Int32) (h : Hp) : Option (Int32 × Hp) :=
gd (okOb h l0 10) <|
vl (gR h l0 26) fun r47 =>
un r47 fun b48 =>
gd (okAb h b48 11 l1) <|
vl (gI h b48 l1.toNatClampNeg) fun x50 =>
if x50 = 0 then (
bnd (f_X10_shows h l0 l1) fun u126 h127 =>
f_X10_print_J154 l0 l1 l2 l3 l4 l5 h127) else (
f_X10_print_J154 l0 l1 l2 l3 l4 l5 h)
set_option maxHeartbeats 4000000 in
set_option maxRecDepth 100000 in
theorem t_X10_print_J140 {X : Cx} {d : Nat} {h0 h' : Hp} {v : Int32} (hD : 3 ≤ d) : ∀ (l0 : Nat) (l1 : Int32) (l2 : Int32) (l3 : Int32) (l4 : Int32) (l5 : Int32) (h : Hp), f_X10_print_J140 l0 l1 l2 l3 l4 l5 h = some (v, h') → EV X mX10_print d h0 (some (.int v)) h' 140 [some (.ref l0), some (.int l1), some (.int l2), some (.int l3), some (.int l4), some (.int l5), none, none] [] h := by
  intro l0 l1 l2 l3 l4 l5 h H
  unfold f_X10_print_J140 at H
  refine ev_aload_n dX10_print_140 rfl rfl rfl ?_
  replace H := gd_some H
  obtain ⟨g46, H⟩ := H
  replace H := vl_some H
  obtain ⟨r47, er47, H⟩ := H
  refine ev_getRx dX10_print_141 fgX10_76 rfl (okOb.p g46) er47 ?_
  refine ev_iload_n dX10_print_144 rfl rfl ?_
  replace H := un_some H
  obtain ⟨b48, eb48, H⟩ := H
  subst eb48
  replace H := gd_some H
  obtain ⟨g49, H⟩ := H
  replace H := vl_some H
  obtain ⟨x50, ex50, H⟩ := H
  refine ev_ialdx dX10_print_145 (okAb.p g49) ex50 ?_
  refine ev_if_ne (tgt := 154) dX10_print_146 (by decide) (fun c51 => ?_) (fun c51 => ?_)
  · rw [if_neg c51] at H
    exact t_X10_print_J154 hD l0 l1 l2 l3 l4 l5 h H
  · rw [if_pos c51] at H
    refine ev_aload_n dX10_print_149 rfl rfl rfl ?_
    refine ev_iload_n dX10_print_150 rfl rfl ?_
    replace H := bnd_some H
    obtain ⟨u126, h127, eh127, H⟩ := H
    have ph127 := (t_X10_shows (X := X) (d := 2) (by omega) eh127)
    refine ev_callV (as := [.int l1]) dX10_print_151 ph127 ok_X10_shows (by omega) rfl k5_188 k5_190 ks_33 (ci := 10) (by decide) rfl rfl (okOb.p g46) rfl (Nat.le_of_ble_eq_true rfl) ?_
    exact t_X10_print_J154 hD l0 l1 l2 l3 l4 l5 h127 H
def f_X10_print_J93 (l0 : Nat) (l1 : Int32) (l2 : Int32) (l3 : Int32) (l4 : Int32) (w0 : Int32) (h : Hp) : Option (Int32 × Hp) :=
if w0 = 0 then (
gd (okOb h l0 10) <|
vl (gR h l0 26) fun r33 =>
vl (gR h l0 22) fun r34 =>
un r34 fun b35 =>
gd (okAb h b35 11 l4) <|
vl (gI h b35 l4.toNatClampNeg) fun x37 =>
un r33 fun b38 =>
gd (okAb h b38 11 (((2 : Int32) * l4) + x37)) <|
vl (gI h b38 (((2 : Int32) * l4) + x37).toNatClampNeg) fun x40 =>
vl (gR h l0 21) fun r41 =>
un r41 fun b42 =>
gd (okAb h b42 11 l4) <|
vl (gI h b42 l4.toNatClampNeg) fun x44 =>
if x44 ≤ x40 then (
f_X10_print_J140 l0 l1 l2 l3 l4 w0 h) else (
some ((-3 : Int32), h))) else (
gd (okOb h l0 10) <|
vl (gI h l0 24) fun x129 =>
if x129 = 0 then (
some ((-3 : Int32), h)) else (
f_X10_print_J140 l0 l1 l2 l3 l4 w0 h))
set_option maxHeartbeats 4000000 in
set_option maxRecDepth 100000 in
theorem t_X10_print_J93 {X : Cx} {d : Nat} {h0 h' : Hp} {v : Int32} (hD : 3 ≤ d) : ∀ (l0 : Nat) (l1 : Int32) (l2 : Int32) (l3 : Int32) (l4 : Int32) (w0 : Int32) (h : Hp), f_X10_print_J93 l0 l1 l2 l3 l4 w0 h = some (v, h') → EV X mX10_print d h0 (some (.int v)) h' 93 [some (.ref l0), some (.int l1), some (.int l2), some (.int l3), some (.int l4), none, none, none] [.int w0] h := by
  intro l0 l1 l2 l3 l4 w0 h H
  unfold f_X10_print_J93 at H
  refine ev_istore (loc2 := [some (.ref l0), some (.int l1), some (.int l2), some (.int l3), some (.int l4), some (.int w0), none, none]) dX10_print_93 (by decide) rfl ?_
  refine ev_iload dX10_print_95 rfl ?_
  refine ev_if_eq (tgt := 110) dX10_print_97 (by decide) (fun c31 => ?_) (fun c31 => ?_)
  · rw [if_pos c31] at H
    refine ev_aload_n dX10_print_110 rfl rfl rfl ?_
    replace H := gd_some H
    obtain ⟨g32, H⟩ := H
    replace H := vl_some H
    obtain ⟨r33, er33, H⟩ := H
    refine ev_getRx dX10_print_111 fgX10_76 rfl (okOb.p g32) er33 ?_
    refine ev_iconst (v := (2 : Int32)) dX10_print_114 (by decide) ?_
    refine ev_iload dX10_print_115 rfl ?_
    refine ev_imul dX10_print_117 ?_
    refine ev_aload_n dX10_print_118 rfl rfl rfl ?_
    replace H := vl_some H
    obtain ⟨r34, er34, H⟩ := H
    refine ev_getRx dX10_print_119 fgX10_70 rfl (okOb.p g32) er34 ?_
    refine ev_iload dX10_print_122 rfl ?_
    replace H := un_some H
    obtain ⟨b35, eb35, H⟩ := H
    subst eb35
    replace H := gd_some H
    obtain ⟨g36, H⟩ := H
    replace H := vl_some H
    obtain ⟨x37, ex37, H⟩ := H
    refine ev_ialdx dX10_print_124 (okAb.p g36) ex37 ?_
    refine ev_iadd dX10_print_125 ?_
    replace H := un_some H
    obtain ⟨b38, eb38, H⟩ := H
    subst eb38
    replace H := gd_some H
    obtain ⟨g39, H⟩ := H
    replace H := vl_some H
    obtain ⟨x40, ex40, H⟩ := H
    refine ev_ialdx dX10_print_126 (okAb.p g39) ex40 ?_
    refine ev_aload_n dX10_print_127 rfl rfl rfl ?_
    replace H := vl_some H
    obtain ⟨r41, er41, H⟩ := H
    refine ev_getRx dX10_print_128 fgX10_67 rfl (okOb.p g32) er41 ?_
    refine ev_iload dX10_print_131 rfl ?_
    replace H := un_some H
    obtain ⟨b42, eb42, H⟩ := H
    subst eb42
    replace H := gd_some H
    obtain ⟨g43, H⟩ := H
    replace H := vl_some H
    obtain ⟨x44, ex44, H⟩ := H
    refine ev_ialdx dX10_print_133 (okAb.p g43) ex44 ?_
    refine ev_icmp_ge (tgt := 140) dX10_print_134 (by decide) (fun c45 => ?_) (fun c45 => ?_)
    · rw [if_pos c45] at H
      exact t_X10_print_J140 hD l0 l1 l2 l3 l4 w0 h H
    · rw [if_neg c45] at H
      refine ev_bipush (v := (-3 : Int32)) dX10_print_137 (by decide) ?_
      exact ev_iretx dX10_print_139 rfl rfl H
  · rw [if_neg c31] at H
    refine ev_aload_n dX10_print_100 rfl rfl rfl ?_
    replace H := gd_some H
    obtain ⟨g128, H⟩ := H
    replace H := vl_some H
    obtain ⟨x129, ex129, H⟩ := H
    refine ev_getIx dX10_print_101 fgX10_209 rfl (okOb.p g128) ex129 ?_
    refine ev_if_ne (tgt := 140) dX10_print_104 (by decide) (fun c130 => ?_) (fun c130 => ?_)
    · rw [if_neg c130] at H
      exact t_X10_print_J140 hD l0 l1 l2 l3 l4 w0 h H
    · rw [if_pos c130] at H
      refine ev_goto (tgt := 137) dX10_print_107 (by decide) ?_
      refine ev_bipush (v := (-3 : Int32)) dX10_print_137 (by decide) ?_
      exact ev_iretx dX10_print_139 rfl rfl H
def f_X10_print_J88 (l0 : Nat) (l1 : Int32) (l2 : Int32) (l3 : Int32) (l4 : Int32) (h : Hp) : Option (Int32 × Hp) :=
f_X10_print_J93 l0 l1 l2 l3 l4 (1 : Int32) h
set_option maxHeartbeats 4000000 in
set_option maxRecDepth 100000 in
theorem t_X10_print_J88 {X : Cx} {d : Nat} {h0 h' : Hp} {v : Int32} (hD : 3 ≤ d) : ∀ (l0 : Nat) (l1 : Int32) (l2 : Int32) (l3 : Int32) (l4 : Int32) (h : Hp), f_X10_print_J88 l0 l1 l2 l3 l4 h = some (v, h') → EV X mX10_print d h0 (some (.int v)) h' 88 [some (.ref l0), some (.int l1), some (.int l2), some (.int l3), some (.int l4), none, none, none] [] h := by
  intro l0 l1 l2 l3 l4 h H
  unfold f_X10_print_J88 at H
  refine ev_iconst (v := (1 : Int32)) dX10_print_88 (by decide) ?_
  refine ev_goto (tgt := 93) dX10_print_89 (by decide) ?_
  exact t_X10_print_J93 hD l0 l1 l2 l3 l4 (1 : Int32) h H
def f_X10_print_J169_7 (l0 : Nat) (l1 : Int32) (l2 : Int32) (l3 : Int32) (l4 : Int32) (l5 : Int32) (h : Hp) : Option (Int32 × Hp) :=
f_X10_print_L172 6000 l0 l1 l2 l3 l4 l5 (0 : Int32) h
set_option maxHeartbeats 4000000 in
set_option maxRecDepth 100000 in
theorem t_X10_print_J169_7 {X : Cx} {d : Nat} {h0 h' : Hp} {v : Int32} (hD : 3 ≤ d) : ∀ (l0 : Nat) (l1 : Int32) (l2 : Int32) (l3 : Int32) (l4 : Int32) (l5 : Int32) (h : Hp), f_X10_print_J169_7 l0 l1 l2 l3 l4 l5 h = some (v, h') → EV X mX10_print d h0 (some (.int v)) h' 169 [some (.ref l0), some (.int l1), some (.int l2), some (.int l3), some (.int l4), some (.int l5), none, none] [] h := by
  intro l0 l1 l2 l3 l4 l5 h H
  unfold f_X10_print_J169_7 at H
  refine ev_iconst (v := (0 : Int32)) dX10_print_169 (by decide) ?_
  refine ev_istore (loc2 := [some (.ref l0), some (.int l1), some (.int l2), some (.int l3), some (.int l4), some (.int l5), some (.int (0 : Int32)), none]) dX10_print_170 (by decide) rfl ?_
  refine t_X10_print_L172 hD  6000 l0 l1 l2 l3 l4 l5 (0 : Int32) h H
def f_X10_print_J154_7 (l0 : Nat) (l1 : Int32) (l2 : Int32) (l3 : Int32) (l4 : Int32) (l5 : Int32) (h : Hp) : Option (Int32 × Hp) :=
if l5 = 0 then (
f_X10_print_J169_7 l0 l1 l2 l3 l4 l5 h) else (
gd (okOb h l0 10) <|
vl (gR h l0 22) fun r159 =>
un r159 fun b160 =>
gd (okAb h b160 11 l4) <|
vl (sI h b160 l4.toNatClampNeg (l1 - l1 / (2 : Int32) * (2 : Int32))) fun h162 =>
f_X10_print_J169_7 l0 l1 l2 l3 l4 l5 h162)
set_option maxHeartbeats 4000000 in
set_option maxRecDepth 100000 in
theorem t_X10_print_J154_7 {X : Cx} {d : Nat} {h0 h' : Hp} {v : Int32} (hD : 3 ≤ d) : ∀ (l0 : Nat) (l1 : Int32) (l2 : Int32) (l3 : Int32) (l4 : Int32) (l5 : Int32) (h : Hp), f_X10_print_J154_7 l0 l1 l2 l3 l4 l5 h = some (v, h') → EV X mX10_print d h0 (some (.int v)) h' 154 [some (.ref l0), some (.int l1), some (.int l2), some (.int l3), some (.int l4), some (.int l5), none, none] [] h := by
  intro l0 l1 l2 l3 l4 l5 h H
  unfold f_X10_print_J154_7 at H
  refine ev_iload dX10_print_154 rfl ?_
  refine ev_if_eq (tgt := 169) dX10_print_156 (by decide) (fun c157 => ?_) (fun c157 => ?_)
  · rw [if_pos c157] at H
    exact t_X10_print_J169_7 hD l0 l1 l2 l3 l4 l5 h H
  · rw [if_neg c157] at H
    refine ev_aload_n dX10_print_159 rfl rfl rfl ?_
    replace H := gd_some H
    obtain ⟨g158, H⟩ := H
    replace H := vl_some H
    obtain ⟨r159, er159, H⟩ := H
    refine ev_getRx dX10_print_160 fgX10_70 rfl (okOb.p g158) er159 ?_
    refine ev_iload dX10_print_163 rfl ?_
    refine ev_iload_n dX10_print_165 rfl rfl ?_
    refine ev_iconst (v := (2 : Int32)) dX10_print_166 (by decide) ?_
    refine ev_irem dX10_print_167 (by decide) ?_
    replace H := un_some H
    obtain ⟨b160, eb160, H⟩ := H
    subst eb160
    replace H := gd_some H
    obtain ⟨g161, H⟩ := H
    replace H := vl_some H
    obtain ⟨h162, eh162, H⟩ := H
    refine ev_iast dX10_print_168 (okAb.p g161) eh162 ?_
    exact t_X10_print_J169_7 hD l0 l1 l2 l3 l4 l5 h162 H
def f_X10_print_J140_7 (l0 : Nat) (l1 : Int32) (l2 : Int32) (l3 : Int32) (l4 : Int32) (l5 : Int32) (h : Hp) : Option (Int32 × Hp) :=
gd (okOb h l0 10) <|
vl (gR h l0 26) fun r152 =>
un r152 fun b153 =>
gd (okAb h b153 11 l1) <|
vl (gI h b153 l1.toNatClampNeg) fun x155 =>
if x155 = 0 then (
bnd (f_X10_shows h l0 l1) fun u163 h164 =>
f_X10_print_J154_7 l0 l1 l2 l3 l4 l5 h164) else (
f_X10_print_J154_7 l0 l1 l2 l3 l4 l5 h)
set_option maxHeartbeats 4000000 in
set_option maxRecDepth 100000 in
theorem t_X10_print_J140_7 {X : Cx} {d : Nat} {h0 h' : Hp} {v : Int32} (hD : 3 ≤ d) : ∀ (l0 : Nat) (l1 : Int32) (l2 : Int32) (l3 : Int32) (l4 : Int32) (l5 : Int32) (h : Hp), f_X10_print_J140_7 l0 l1 l2 l3 l4 l5 h = some (v, h') → EV X mX10_print d h0 (some (.int v)) h' 140 [some (.ref l0), some (.int l1), some (.int l2), some (.int l3), some (.int l4), some (.int l5), none, none] [] h := by
  intro l0 l1 l2 l3 l4 l5 h H
  unfold f_X10_print_J140_7 at H
  refine ev_aload_n dX10_print_140 rfl rfl rfl ?_
  replace H := gd_some H
  obtain ⟨g151, H⟩ := H
  replace H := vl_some H
  obtain ⟨r152, er152, H⟩ := H
  refine ev_getRx dX10_print_141 fgX10_76 rfl (okOb.p g151) er152 ?_
  refine ev_iload_n dX10_print_144 rfl rfl ?_
  replace H := un_some H
  obtain ⟨b153, eb153, H⟩ := H
  subst eb153
  replace H := gd_some H
  obtain ⟨g154, H⟩ := H
  replace H := vl_some H
  obtain ⟨x155, ex155, H⟩ := H
  refine ev_ialdx dX10_print_145 (okAb.p g154) ex155 ?_
  refine ev_if_ne (tgt := 154) dX10_print_146 (by decide) (fun c156 => ?_) (fun c156 => ?_)
  · rw [if_neg c156] at H
    exact t_X10_print_J154_7 hD l0 l1 l2 l3 l4 l5 h H
  · rw [if_pos c156] at H
    refine ev_aload_n dX10_print_149 rfl rfl rfl ?_
    refine ev_iload_n dX10_print_150 rfl rfl ?_
    replace H := bnd_some H
    obtain ⟨u163, h164, eh164, H⟩ := H
    have ph164 := (t_X10_shows (X := X) (d := 2) (by omega) eh164)
    refine ev_callV (as := [.int l1]) dX10_print_151 ph164 ok_X10_shows (by omega) rfl k5_188 k5_190 ks_33 (ci := 10) (by decide) rfl rfl (okOb.p g151) rfl (Nat.le_of_ble_eq_true rfl) ?_
    exact t_X10_print_J154_7 hD l0 l1 l2 l3 l4 l5 h164 H
def f_X10_print_J93_7 (l0 : Nat) (l1 : Int32) (l2 : Int32) (l3 : Int32) (l4 : Int32) (w0 : Int32) (h : Hp) : Option (Int32 × Hp) :=
if w0 = 0 then (
gd (okOb h l0 10) <|
vl (gR h l0 26) fun r138 =>
vl (gR h l0 22) fun r139 =>
un r139 fun b140 =>
gd (okAb h b140 11 l4) <|
vl (gI h b140 l4.toNatClampNeg) fun x142 =>
un r138 fun b143 =>
gd (okAb h b143 11 (((2 : Int32) * l4) + x142)) <|
vl (gI h b143 (((2 : Int32) * l4) + x142).toNatClampNeg) fun x145 =>
vl (gR h l0 21) fun r146 =>
un r146 fun b147 =>
gd (okAb h b147 11 l4) <|
vl (gI h b147 l4.toNatClampNeg) fun x149 =>
if x149 ≤ x145 then (
f_X10_print_J140_7 l0 l1 l2 l3 l4 w0 h) else (
some ((-3 : Int32), h))) else (
gd (okOb h l0 10) <|
vl (gI h l0 24) fun x166 =>
if x166 = 0 then (
some ((-3 : Int32), h)) else (
f_X10_print_J140_7 l0 l1 l2 l3 l4 w0 h))
set_option maxHeartbeats 4000000 in
set_option maxRecDepth 100000 in
theorem t_X10_print_J93_7 {X : Cx} {d : Nat} {h0 h' : Hp} {v : Int32} (hD : 3 ≤ d) : ∀ (l0 : Nat) (l1 : Int32) (l2 : Int32) (l3 : Int32) (l4 : Int32) (w0 : Int32) (h : Hp), f_X10_print_J93_7 l0 l1 l2 l3 l4 w0 h = some (v, h') → EV X mX10_print d h0 (some (.int v)) h' 93 [some (.ref l0), some (.int l1), some (.int l2), some (.int l3), some (.int l4), none, none, none] [.int w0] h := by
  intro l0 l1 l2 l3 l4 w0 h H
  unfold f_X10_print_J93_7 at H
  refine ev_istore (loc2 := [some (.ref l0), some (.int l1), some (.int l2), some (.int l3), some (.int l4), some (.int w0), none, none]) dX10_print_93 (by decide) rfl ?_
  refine ev_iload dX10_print_95 rfl ?_
  refine ev_if_eq (tgt := 110) dX10_print_97 (by decide) (fun c136 => ?_) (fun c136 => ?_)
  · rw [if_pos c136] at H
    refine ev_aload_n dX10_print_110 rfl rfl rfl ?_
    replace H := gd_some H
    obtain ⟨g137, H⟩ := H
    replace H := vl_some H
    obtain ⟨r138, er138, H⟩ := H
    refine ev_getRx dX10_print_111 fgX10_76 rfl (okOb.p g137) er138 ?_
    refine ev_iconst (v := (2 : Int32)) dX10_print_114 (by decide) ?_
    refine ev_iload dX10_print_115 rfl ?_
    refine ev_imul dX10_print_117 ?_
    refine ev_aload_n dX10_print_118 rfl rfl rfl ?_
    replace H := vl_some H
    obtain ⟨r139, er139, H⟩ := H
    refine ev_getRx dX10_print_119 fgX10_70 rfl (okOb.p g137) er139 ?_
    refine ev_iload dX10_print_122 rfl ?_
    replace H := un_some H
    obtain ⟨b140, eb140, H⟩ := H
    subst eb140
    replace H := gd_some H
    obtain ⟨g141, H⟩ := H
    replace H := vl_some H
    obtain ⟨x142, ex142, H⟩ := H
    refine ev_ialdx dX10_print_124 (okAb.p g141) ex142 ?_
    refine ev_iadd dX10_print_125 ?_
    replace H := un_some H
    obtain ⟨b143, eb143, H⟩ := H
    subst eb143
    replace H := gd_some H
    obtain ⟨g144, H⟩ := H
    replace H := vl_some H
    obtain ⟨x145, ex145, H⟩ := H
    refine ev_ialdx dX10_print_126 (okAb.p g144) ex145 ?_
    refine ev_aload_n dX10_print_127 rfl rfl rfl ?_
    replace H := vl_some H
    obtain ⟨r146, er146, H⟩ := H
    refine ev_getRx dX10_print_128 fgX10_67 rfl (okOb.p g137) er146 ?_
    refine ev_iload dX10_print_131 rfl ?_
    replace H := un_some H
    obtain ⟨b147, eb147, H⟩ := H
    subst eb147
    replace H := gd_some H
    obtain ⟨g148, H⟩ := H
    replace H := vl_some H
    obtain ⟨x149, ex149, H⟩ := H
    refine ev_ialdx dX10_print_133 (okAb.p g148) ex149 ?_
    refine ev_icmp_ge (tgt := 140) dX10_print_134 (by decide) (fun c150 => ?_) (fun c150 => ?_)
    · rw [if_pos c150] at H
      exact t_X10_print_J140_7 hD l0 l1 l2 l3 l4 w0 h H
    · rw [if_neg c150] at H
      refine ev_bipush (v := (-3 : Int32)) dX10_print_137 (by decide) ?_
      exact ev_iretx dX10_print_139 rfl rfl H
  · rw [if_neg c136] at H
    refine ev_aload_n dX10_print_100 rfl rfl rfl ?_
    replace H := gd_some H
    obtain ⟨g165, H⟩ := H
    replace H := vl_some H
    obtain ⟨x166, ex166, H⟩ := H
    refine ev_getIx dX10_print_101 fgX10_209 rfl (okOb.p g165) ex166 ?_
    refine ev_if_ne (tgt := 140) dX10_print_104 (by decide) (fun c167 => ?_) (fun c167 => ?_)
    · rw [if_neg c167] at H
      exact t_X10_print_J140_7 hD l0 l1 l2 l3 l4 w0 h H
    · rw [if_pos c167] at H
      refine ev_goto (tgt := 137) dX10_print_107 (by decide) ?_
      refine ev_bipush (v := (-3 : Int32)) dX10_print_137 (by decide) ?_
      exact ev_iretx dX10_print_139 rfl rfl H
def f_X10_print (h : Hp) (a0 : Nat) (a1 : Int32) (a2 : Int32) (a3 : Int32) : Option (Int32 × Hp) :=
gd (okOb h a0 10) <|
bnd (f_X10_isForme h a0 a1) fun v2 h3 =>
if v2 = 0 then (
some ((-1 : Int32), h3)) else (
bnd (f_X10_isHand h3 a2) fun v5 h6 =>
if v5 = 0 then (
some ((-1 : Int32), h6)) else (
bnd (f_X10_isIn h6 (a3.toInt64) (1 : Int64) (60 : Int64)) fun v8 h9 =>
if v8 = 0 then (
some ((-2 : Int32), h9)) else (
vl (a1 / (2 : Int32)) fun x11 =>
vl (gR h9 a0 25) fun r12 =>
un r12 fun b13 =>
gd (okAb h9 b13 11 a1) <|
vl (gI h9 b13 a1.toNatClampNeg) fun x15 =>
if x15 < 0 then (
some ((-3 : Int32), h9)) else (
vl (gR h9 a0 26) fun r17 =>
un r17 fun b18 =>
gd (okAb h9 b18 11 a1) <|
vl (gI h9 b18 a1.toNatClampNeg) fun x20 =>
vl (gR h9 a0 21) fun r21 =>
un r21 fun b22 =>
gd (okAb h9 b22 11 x11) <|
vl (gI h9 b22 x11.toNatClampNeg) fun x24 =>
if x20 = x24 then (
some ((-3 : Int32), h9)) else (
vl (gR h9 a0 22) fun r26 =>
un r26 fun b27 =>
gd (okAb h9 b27 11 x11) <|
vl (gI h9 b27 x11.toNatClampNeg) fun x29 =>
if x29 < 0 then (
f_X10_print_J88 a0 a1 a2 a3 x11 h9) else (
vl (gR h9 a0 22) fun r131 =>
un r131 fun b132 =>
gd (okAb h9 b132 11 x11) <|
vl (gI h9 b132 x11.toNatClampNeg) fun x134 =>
if x134 = (a1 - a1 / (2 : Int32) * (2 : Int32)) then (
f_X10_print_J88 a0 a1 a2 a3 x11 h9) else (
f_X10_print_J93_7 a0 a1 a2 a3 x11 (0 : Int32) h9)))))))
set_option maxHeartbeats 4000000 in
set_option maxRecDepth 100000 in
theorem t_X10_print {X : Cx} {d : Nat} {h : Hp} {a0 : Nat} {a1 : Int32} {a2 : Int32} {a3 : Int32} {v : Int32} {h' : Hp} (hD : 3 ≤ d) (H : f_X10_print h a0 a1 a2 a3 = some (v, h')) : PM X mX10_print d [.ref a0, .int a1, .int a2, .int a3] h (some (.int v)) h' := by
  unfold f_X10_print at H
  refine PM.of (loc := [some (.ref a0), some (.int a1), some (.int a2), some (.int a3), none, none, none, none]) (by decide) rfl (Nat.le_of_ble_eq_true rfl) ?_
  refine ev_aload_n dX10_print_0 rfl rfl rfl ?_
  refine ev_iload_n dX10_print_1 rfl rfl ?_
  replace H := gd_some H
  obtain ⟨g1, H⟩ := H
  replace H := bnd_some H
  obtain ⟨v2, h3, eh3, H⟩ := H
  have ph3 := (t_X10_isForme (X := X) (d := 1) (by omega) eh3)
  refine ev_callV (as := [.int a1]) dX10_print_2 ph3 ok_X10_isForme (by omega) rfl k5_168 k5_170 ks_31 (ci := 10) (by decide) rfl rfl (okOb.p g1) rfl (Nat.le_of_ble_eq_true rfl) ?_
  refine ev_if_eq (tgt := 15) dX10_print_5 (by decide) (fun c4 => ?_) (fun c4 => ?_)
  · rw [if_pos c4] at H
    refine ev_iconst (v := (-1 : Int32)) dX10_print_15 (by decide) ?_
    exact ev_iretx dX10_print_16 rfl rfl H
  · rw [if_neg c4] at H
    refine ev_iload_n dX10_print_8 rfl rfl ?_
    replace H := bnd_some H
    obtain ⟨v5, h6, eh6, H⟩ := H
    have ph6 := (t_X10_isHand (X := X) (d := 1) (by omega) eh6)
    refine ev_callS (as := [.int a2]) dX10_print_9 ph6 ok_X10_isHand (by omega) rfl k5_119 k5_120 rfl (Nat.le_of_ble_eq_true rfl) ?_
    refine ev_if_ne (tgt := 17) dX10_print_12 (by decide) (fun c7 => ?_) (fun c7 => ?_)
    · rw [if_neg c7] at H
      refine ev_iload_n dX10_print_17 rfl rfl ?_
      refine ev_i2l dX10_print_18 rfl ?_
      refine ev_lconst (v := (1 : Int64)) dX10_print_19 (by decide) ?_
      refine ev_ldc2 (v := (60 : Int64)) dX10_print_20 k5_163 ?_
      replace H := bnd_some H
      obtain ⟨v8, h9, eh9, H⟩ := H
      have ph9 := (t_X10_isIn (X := X) (d := 1) (by omega) eh9)
      refine ev_callS (as := [.long (a3.toInt64), .long (1 : Int64), .long (60 : Int64)]) dX10_print_23 ph9 ok_X10_isIn (by omega) rfl k5_88 k5_89 rfl (Nat.le_of_ble_eq_true rfl) ?_
      refine ev_if_ne (tgt := 32) dX10_print_26 (by decide) (fun c10 => ?_) (fun c10 => ?_)
      · rw [if_neg c10] at H
        refine ev_iload_n dX10_print_32 rfl rfl ?_
        refine ev_iconst (v := (2 : Int32)) dX10_print_33 (by decide) ?_
        refine ev_idiv dX10_print_34 (by decide) ?_
        replace H := vl_some H
        obtain ⟨x11, ex11, H⟩ := H
        refine ev_istorex (loc2 := [some (.ref a0), some (.int a1), some (.int a2), some (.int a3), some (.int x11), none, none, none]) dX10_print_35 (by decide) ex11 rfl ?_
        refine ev_aload_n dX10_print_37 rfl rfl rfl ?_
        replace H := vl_some H
        obtain ⟨r12, er12, H⟩ := H
        refine ev_getRx dX10_print_38 fgX10_73 rfl (okO_ext ph9.1 (okO_ext ph6.1 (okO_ext ph3.1 (okOb.p g1)))) er12 ?_
        refine ev_iload_n dX10_print_41 rfl rfl ?_
        replace H := un_some H
        obtain ⟨b13, eb13, H⟩ := H
        subst eb13
        replace H := gd_some H
        obtain ⟨g14, H⟩ := H
        replace H := vl_some H
        obtain ⟨x15, ex15, H⟩ := H
        refine ev_ialdx dX10_print_42 (okAb.p g14) ex15 ?_
        refine ev_if_lt (tgt := 62) dX10_print_43 (by decide) (fun c16 => ?_) (fun c16 => ?_)
        · rw [if_pos c16] at H
          refine ev_bipush (v := (-3 : Int32)) dX10_print_62 (by decide) ?_
          exact ev_iretx dX10_print_64 rfl rfl H
        · rw [if_neg c16] at H
          refine ev_aload_n dX10_print_46 rfl rfl rfl ?_
          replace H := vl_some H
          obtain ⟨r17, er17, H⟩ := H
          refine ev_getRx dX10_print_47 fgX10_76 rfl (okO_ext ph9.1 (okO_ext ph6.1 (okO_ext ph3.1 (okOb.p g1)))) er17 ?_
          refine ev_iload_n dX10_print_50 rfl rfl ?_
          replace H := un_some H
          obtain ⟨b18, eb18, H⟩ := H
          subst eb18
          replace H := gd_some H
          obtain ⟨g19, H⟩ := H
          replace H := vl_some H
          obtain ⟨x20, ex20, H⟩ := H
          refine ev_ialdx dX10_print_51 (okAb.p g19) ex20 ?_
          refine ev_aload_n dX10_print_52 rfl rfl rfl ?_
          replace H := vl_some H
          obtain ⟨r21, er21, H⟩ := H
          refine ev_getRx dX10_print_53 fgX10_67 rfl (okO_ext ph9.1 (okO_ext ph6.1 (okO_ext ph3.1 (okOb.p g1)))) er21 ?_
          refine ev_iload dX10_print_56 rfl ?_
          replace H := un_some H
          obtain ⟨b22, eb22, H⟩ := H
          subst eb22
          replace H := gd_some H
          obtain ⟨g23, H⟩ := H
          replace H := vl_some H
          obtain ⟨x24, ex24, H⟩ := H
          refine ev_ialdx dX10_print_58 (okAb.p g23) ex24 ?_
          refine ev_icmp_ne (tgt := 65) dX10_print_59 (by decide) (fun c25 => ?_) (fun c25 => ?_)
          · rw [if_neg c25] at H
            refine ev_aload_n dX10_print_65 rfl rfl rfl ?_
            replace H := vl_some H
            obtain ⟨r26, er26, H⟩ := H
            refine ev_getRx dX10_print_66 fgX10_70 rfl (okO_ext ph9.1 (okO_ext ph6.1 (okO_ext ph3.1 (okOb.p g1)))) er26 ?_
            refine ev_iload dX10_print_69 rfl ?_
            replace H := un_some H
            obtain ⟨b27, eb27, H⟩ := H
            subst eb27
            replace H := gd_some H
            obtain ⟨g28, H⟩ := H
            replace H := vl_some H
            obtain ⟨x29, ex29, H⟩ := H
            refine ev_ialdx dX10_print_71 (okAb.p g28) ex29 ?_
            refine ev_if_lt (tgt := 88) dX10_print_72 (by decide) (fun c30 => ?_) (fun c30 => ?_)
            · rw [if_pos c30] at H
              exact t_X10_print_J88 hD a0 a1 a2 a3 x11 h9 H
            · rw [if_neg c30] at H
              refine ev_aload_n dX10_print_75 rfl rfl rfl ?_
              replace H := vl_some H
              obtain ⟨r131, er131, H⟩ := H
              refine ev_getRx dX10_print_76 fgX10_70 rfl (okO_ext ph9.1 (okO_ext ph6.1 (okO_ext ph3.1 (okOb.p g1)))) er131 ?_
              refine ev_iload dX10_print_79 rfl ?_
              replace H := un_some H
              obtain ⟨b132, eb132, H⟩ := H
              subst eb132
              replace H := gd_some H
              obtain ⟨g133, H⟩ := H
              replace H := vl_some H
              obtain ⟨x134, ex134, H⟩ := H
              refine ev_ialdx dX10_print_81 (okAb.p g133) ex134 ?_
              refine ev_iload_n dX10_print_82 rfl rfl ?_
              refine ev_iconst (v := (2 : Int32)) dX10_print_83 (by decide) ?_
              refine ev_irem dX10_print_84 (by decide) ?_
              refine ev_icmp_ne (tgt := 92) dX10_print_85 (by decide) (fun c135 => ?_) (fun c135 => ?_)
              · rw [if_neg c135] at H
                refine ev_iconst (v := (0 : Int32)) dX10_print_92 (by decide) ?_
                exact t_X10_print_J93_7 hD a0 a1 a2 a3 x11 (0 : Int32) h9 H
              · rw [if_pos c135] at H
                exact t_X10_print_J88 hD a0 a1 a2 a3 x11 h9 H
          · rw [if_pos c25] at H
            refine ev_bipush (v := (-3 : Int32)) dX10_print_62 (by decide) ?_
            exact ev_iretx dX10_print_64 rfl rfl H
      · rw [if_pos c10] at H
        refine ev_bipush (v := (-2 : Int32)) dX10_print_29 (by decide) ?_
        exact ev_iretx dX10_print_31 rfl rfl H
    · rw [if_pos c7] at H
      refine ev_iconst (v := (-1 : Int32)) dX10_print_15 (by decide) ?_
      exact ev_iretx dX10_print_16 rfl rfl H
