theorem dX8_init_0 : decode cX8_init 0 = .ok (.aload_n 0, 1) := by decide +kernel
theorem dX8_init_1 : decode cX8_init 1 = .ok (.invokespecial 3, 3) := by decide +kernel
theorem dX8_init_4 : decode cX8_init 4 = .ok (.aload_n 0, 1) := by decide +kernel
theorem dX8_init_5 : decode cX8_init 5 = .ok (.sipush 300, 3) := by decide +kernel
theorem dX8_init_8 : decode cX8_init 8 = .ok (.newarray .int, 2) := by decide +kernel
theorem dX8_init_10 : decode cX8_init 10 = .ok (.putfield 9, 3) := by decide +kernel
theorem dX8_init_13 : decode cX8_init 13 = .ok (.return_, 1) := by decide +kernel
def f_X8_init (h : Hp) (a0 : Nat) : Option (Unit × Hp) :=
vl (gN h) fun b1 =>
vl (nw h 11 (300 : Int32).toNatClampNeg (300 : Int32).toNatClampNeg) fun h2 =>
gd (okOb h2 a0 8) <|
vl (sR h2 a0 0 (some b1)) fun h4 =>
some ((), h4)
set_option maxHeartbeats 4000000 in
set_option maxRecDepth 100000 in
theorem t_X8_init {X : Cx} {d : Nat} {h : Hp} {a0 : Nat} {v : Unit} {h' : Hp} (hD : 1 ≤ d) (H : f_X8_init h a0 = some (v, h')) : PM X mX8_init d [.ref a0] h (none) h' := by
  unfold f_X8_init at H
  refine PM.of (loc := [some (.ref a0)]) (by decide) rfl (Nat.le_of_ble_eq_true rfl) ?_
  refine ev_aload_n dX8_init_0 rfl rfl rfl ?_
  refine ev_obj dX8_init_1 ⟨_, rfl⟩ k1_33 k1_26 k1_27 (by omega) (Nat.le_of_ble_eq_true rfl) ?_
  refine ev_aload_n dX8_init_4 rfl rfl rfl ?_
  refine ev_sipush (v := (300 : Int32)) dX8_init_5 (by decide) ?_
  replace H := vl_some H
  obtain ⟨b1, eb1, H⟩ := H
  replace H := vl_some H
  obtain ⟨h2, eh2, H⟩ := H
  refine ev_newaIx dX8_init_8 k1_44 (okN.p (by decide)) rfl eb1 eh2 ?_
  replace H := gd_some H
  obtain ⟨g3, H⟩ := H
  replace H := vl_some H
  obtain ⟨h4, eh4, H⟩ := H
  refine ev_putRF (x := (some b1)) dX8_init_10 fdX8_9 rfl (Or.inr ⟨_, rfl⟩) rfl (okOb.p g3) eh4 ?_
  exact ev_vretx dX8_init_13 rfl H

theorem dX3_init_0 : decode cX3_init 0 = .ok (.aload_n 0, 1) := by decide +kernel
theorem dX3_init_1 : decode cX3_init 1 = .ok (.invokespecial 3, 3) := by decide +kernel
theorem dX3_init_4 : decode cX3_init 4 = .ok (.aload_n 0, 1) := by decide +kernel
theorem dX3_init_5 : decode cX3_init 5 = .ok (.bipush 6, 2) := by decide +kernel
theorem dX3_init_7 : decode cX3_init 7 = .ok (.newarray .int, 2) := by decide +kernel
theorem dX3_init_9 : decode cX3_init 9 = .ok (.putfield 9, 3) := by decide +kernel
theorem dX3_init_12 : decode cX3_init 12 = .ok (.aload_n 0, 1) := by decide +kernel
theorem dX3_init_13 : decode cX3_init 13 = .ok (.bipush 6, 2) := by decide +kernel
theorem dX3_init_15 : decode cX3_init 15 = .ok (.newarray .int, 2) := by decide +kernel
theorem dX3_init_17 : decode cX3_init 17 = .ok (.putfield 15, 3) := by decide +kernel
theorem dX3_init_20 : decode cX3_init 20 = .ok (.aload_n 0, 1) := by decide +kernel
theorem dX3_init_21 : decode cX3_init 21 = .ok (.bipush 6, 2) := by decide +kernel
theorem dX3_init_23 : decode cX3_init 23 = .ok (.newarray .int, 2) := by decide +kernel
theorem dX3_init_25 : decode cX3_init 25 = .ok (.putfield 18, 3) := by decide +kernel
theorem dX3_init_28 : decode cX3_init 28 = .ok (.return_, 1) := by decide +kernel
def f_X3_init (h : Hp) (a0 : Nat) : Option (Unit × Hp) :=
vl (gN h) fun b1 =>
vl (nw h 11 (6 : Int32).toNatClampNeg (6 : Int32).toNatClampNeg) fun h2 =>
gd (okOb h2 a0 3) <|
vl (sR h2 a0 0 (some b1)) fun h4 =>
vl (gN h4) fun b5 =>
vl (nw h4 11 (6 : Int32).toNatClampNeg (6 : Int32).toNatClampNeg) fun h6 =>
vl (sR h6 a0 1 (some b5)) fun h7 =>
vl (gN h7) fun b8 =>
vl (nw h7 11 (6 : Int32).toNatClampNeg (6 : Int32).toNatClampNeg) fun h9 =>
vl (sR h9 a0 2 (some b8)) fun h10 =>
some ((), h10)
set_option maxHeartbeats 4000000 in
set_option maxRecDepth 100000 in
theorem t_X3_init {X : Cx} {d : Nat} {h : Hp} {a0 : Nat} {v : Unit} {h' : Hp} (hD : 1 ≤ d) (H : f_X3_init h a0 = some (v, h')) : PM X mX3_init d [.ref a0] h (none) h' := by
  unfold f_X3_init at H
  refine PM.of (loc := [some (.ref a0)]) (by decide) rfl (Nat.le_of_ble_eq_true rfl) ?_
  refine ev_aload_n dX3_init_0 rfl rfl rfl ?_
  refine ev_obj dX3_init_1 ⟨_, rfl⟩ k1_56 k1_26 k1_27 (by omega) (Nat.le_of_ble_eq_true rfl) ?_
  refine ev_aload_n dX3_init_4 rfl rfl rfl ?_
  refine ev_bipush (v := (6 : Int32)) dX3_init_5 (by decide) ?_
  replace H := vl_some H
  obtain ⟨b1, eb1, H⟩ := H
  replace H := vl_some H
  obtain ⟨h2, eh2, H⟩ := H
  refine ev_newaIx dX3_init_7 k1_44 (okN.p (by decide)) rfl eb1 eh2 ?_
  replace H := gd_some H
  obtain ⟨g3, H⟩ := H
  replace H := vl_some H
  obtain ⟨h4, eh4, H⟩ := H
  refine ev_putRF (x := (some b1)) dX3_init_9 fdX3_9 rfl (Or.inr ⟨_, rfl⟩) rfl (okOb.p g3) eh4 ?_
  refine ev_aload_n dX3_init_12 rfl rfl rfl ?_
  refine ev_bipush (v := (6 : Int32)) dX3_init_13 (by decide) ?_
  replace H := vl_some H
  obtain ⟨b5, eb5, H⟩ := H
  replace H := vl_some H
  obtain ⟨h6, eh6, H⟩ := H
  refine ev_newaIx dX3_init_15 k1_44 (okN.p (by decide)) rfl eb5 eh6 ?_
  replace H := vl_some H
  obtain ⟨h7, eh7, H⟩ := H
  refine ev_putRF (x := (some b5)) dX3_init_17 fdX3_15 rfl (Or.inr ⟨_, rfl⟩) rfl (okO_nw eh6 (okO_sR eh4 (okOb.p g3))) eh7 ?_
  refine ev_aload_n dX3_init_20 rfl rfl rfl ?_
  refine ev_bipush (v := (6 : Int32)) dX3_init_21 (by decide) ?_
  replace H := vl_some H
  obtain ⟨b8, eb8, H⟩ := H
  replace H := vl_some H
  obtain ⟨h9, eh9, H⟩ := H
  refine ev_newaIx dX3_init_23 k1_44 (okN.p (by decide)) rfl eb8 eh9 ?_
  replace H := vl_some H
  obtain ⟨h10, eh10, H⟩ := H
  refine ev_putRF (x := (some b8)) dX3_init_25 fdX3_18 rfl (Or.inr ⟨_, rfl⟩) rfl (okO_nw eh9 (okO_sR eh7 (okO_nw eh6 (okO_sR eh4 (okOb.p g3))))) eh10 ?_
  exact ev_vretx dX3_init_28 rfl H

theorem dJ7_fill_53178_0 : decode cJ7_fill_53178 0 = .ok (.iconst 0, 1) := by decide +kernel
theorem dJ7_fill_53178_1 : decode cJ7_fill_53178 1 = .ok (.istore_n 2, 1) := by decide +kernel
theorem dJ7_fill_53178_2 : decode cJ7_fill_53178 2 = .ok (.aload_n 0, 1) := by decide +kernel
theorem dJ7_fill_53178_3 : decode cJ7_fill_53178 3 = .ok (.arraylength, 1) := by decide +kernel
theorem dJ7_fill_53178_4 : decode cJ7_fill_53178 4 = .ok (.istore_n 3, 1) := by decide +kernel
theorem dJ7_fill_53178_5 : decode cJ7_fill_53178 5 = .ok (.iload_n 2, 1) := by decide +kernel
theorem dJ7_fill_53178_6 : decode cJ7_fill_53178 6 = .ok (.iload_n 3, 1) := by decide +kernel
theorem dJ7_fill_53178_7 : decode cJ7_fill_53178 7 = .ok (.if_icmp .ge 13, 3) := by decide +kernel
theorem dJ7_fill_53178_10 : decode cJ7_fill_53178 10 = .ok (.aload_n 0, 1) := by decide +kernel
theorem dJ7_fill_53178_11 : decode cJ7_fill_53178 11 = .ok (.iload_n 2, 1) := by decide +kernel
theorem dJ7_fill_53178_12 : decode cJ7_fill_53178 12 = .ok (.iload_n 1, 1) := by decide +kernel
theorem dJ7_fill_53178_13 : decode cJ7_fill_53178 13 = .ok (.iastore, 1) := by decide +kernel
theorem dJ7_fill_53178_14 : decode cJ7_fill_53178 14 = .ok (.iinc 2 1, 3) := by decide +kernel
theorem dJ7_fill_53178_17 : decode cJ7_fill_53178 17 = .ok (.goto (-12), 3) := by decide +kernel
theorem dJ7_fill_53178_20 : decode cJ7_fill_53178 20 = .ok (.return_, 1) := by decide +kernel
def f_J7_fill_53178_L5 : Nat → Nat → Int32 → Int32 → Int32 → Hp → Option (Unit × Hp)
  | 0, _, _, _, _, _ => none
  | n + 1, l0, l1, l2, l3, h =>
    if l3 ≤ l2 then (
    some ((), h)) else (
    gd (okAb h l0 11 l2) <|
    vl (sI h l0 l2.toNatClampNeg l1) fun h5 =>
    vl (l2 + (1 : Int32)) fun x6 =>
    f_J7_fill_53178_L5 n l0 l1 x6 l3 h5)
set_option maxHeartbeats 4000000 in
set_option maxRecDepth 100000 in
theorem t_J7_fill_53178_L5 {X : Cx} {d : Nat} {h0 h' : Hp} {v : Unit} (hD : 1 ≤ d) : ∀ (n : Nat) (l0 : Nat) (l1 : Int32) (l2 : Int32) (l3 : Int32) (h : Hp), f_J7_fill_53178_L5 n l0 l1 l2 l3 h = some (v, h') → EV X mJ7_fill_53178 d h0 (none) h' 5 [some (.ref l0), some (.int l1), some (.int l2), some (.int l3)] [] h := by
  intro n
  induction n with
  | zero => intro l0 l1 l2 l3 h H; simp [f_J7_fill_53178_L5] at H
  | succ n ih =>
    intro l0 l1 l2 l3 h H
    rw [f_J7_fill_53178_L5] at H
    refine ev_iload_n dJ7_fill_53178_5 rfl rfl ?_
    refine ev_iload_n dJ7_fill_53178_6 rfl rfl ?_
    refine ev_icmp_ge (tgt := 20) dJ7_fill_53178_7 (by decide) (fun c3 => ?_) (fun c3 => ?_)
    · rw [if_pos c3] at H
      exact ev_vretx dJ7_fill_53178_20 rfl H
    · rw [if_neg c3] at H
      refine ev_aload_n dJ7_fill_53178_10 rfl rfl rfl ?_
      refine ev_iload_n dJ7_fill_53178_11 rfl rfl ?_
      refine ev_iload_n dJ7_fill_53178_12 rfl rfl ?_
      replace H := gd_some H
      obtain ⟨g4, H⟩ := H
      replace H := vl_some H
      obtain ⟨h5, eh5, H⟩ := H
      refine ev_iast dJ7_fill_53178_13 (okAb.p g4) eh5 ?_
      replace H := vl_some H
      obtain ⟨x6, ex6, H⟩ := H
      refine ev_iincx (loc2 := [some (.ref l0), some (.int l1), some (.int x6), some (.int l3)]) dJ7_fill_53178_14 rfl (by decide) ex6 (by decide) rfl ?_
      refine ev_goto (tgt := 5) dJ7_fill_53178_17 (by decide) ?_
      exact ih l0 l1 x6 l3 h5 H
def f_J7_fill_53178 (h : Hp) (a0 : Nat) (a1 : Int32) : Option (Unit × Hp) :=
gd (okOb h a0 11) <|
vl (Int32.ofNat (gL h a0)) fun x2 =>
f_J7_fill_53178_L5 6000 a0 a1 (0 : Int32) x2 h
set_option maxHeartbeats 4000000 in
set_option maxRecDepth 100000 in
theorem t_J7_fill_53178 {X : Cx} {d : Nat} {h : Hp} {a0 : Nat} {a1 : Int32} {v : Unit} {h' : Hp} (hD : 1 ≤ d) (H : f_J7_fill_53178 h a0 a1 = some (v, h')) : PM X mJ7_fill_53178 d [.ref a0, .int a1] h (none) h' := by
  unfold f_J7_fill_53178 at H
  refine PM.of (loc := [some (.ref a0), some (.int a1), none, none]) (by decide) rfl (Nat.le_of_ble_eq_true rfl) ?_
  refine ev_iconst (v := (0 : Int32)) dJ7_fill_53178_0 (by decide) ?_
  refine ev_istore_n (loc2 := [some (.ref a0), some (.int a1), some (.int (0 : Int32)), none]) dJ7_fill_53178_1 rfl (by decide) rfl ?_
  refine ev_aload_n dJ7_fill_53178_2 rfl rfl rfl ?_
  replace H := gd_some H
  obtain ⟨g1, H⟩ := H
  refine ev_alen (kd := 11) (t0 := 0) dJ7_fill_53178_3 (by decide) (fun _ => rfl) (okOb.p g1) ?_
  replace H := vl_some H
  obtain ⟨x2, ex2, H⟩ := H
  refine ev_istore_nx (loc2 := [some (.ref a0), some (.int a1), some (.int (0 : Int32)), some (.int x2)]) dJ7_fill_53178_4 rfl (by decide) ex2 rfl ?_
  refine t_J7_fill_53178_L5 hD  6000 a0 a1 (0 : Int32) x2 h H

theorem dX8_append_0 : decode cX8_append 0 = .ok (.iload_n 3, 1) := by decide +kernel
theorem dX8_append_1 : decode cX8_append 1 = .ok (.iconst 1, 1) := by decide +kernel
theorem dX8_append_2 : decode cX8_append 2 = .ok (.isub, 1) := by decide +kernel
theorem dX8_append_3 : decode cX8_append 3 = .ok (.istore 4, 2) := by decide +kernel
theorem dX8_append_5 : decode cX8_append 5 = .ok (.iload 4, 2) := by decide +kernel
theorem dX8_append_7 : decode cX8_append 7 = .ok (.ifCond .lt 40, 3) := by decide +kernel
theorem dX8_append_10 : decode cX8_append 10 = .ok (.aload_n 0, 1) := by decide +kernel
theorem dX8_append_11 : decode cX8_append 11 = .ok (.getfield 9, 3) := by decide +kernel
theorem dX8_append_14 : decode cX8_append 14 = .ok (.aload_n 0, 1) := by decide +kernel
theorem dX8_append_15 : decode cX8_append 15 = .ok (.getfield 15, 3) := by decide +kernel
theorem dX8_append_18 : decode cX8_append 18 = .ok (.lload_n 1, 1) := by decide +kernel
theorem dX8_append_19 : decode cX8_append 19 = .ok (.bipush 8, 2) := by decide +kernel
theorem dX8_append_21 : decode cX8_append 21 = .ok (.iload 4, 2) := by decide +kernel
theorem dX8_append_23 : decode cX8_append 23 = .ok (.imul, 1) := by decide +kernel
theorem dX8_append_24 : decode cX8_append 24 = .ok (.lushr, 1) := by decide +kernel
theorem dX8_append_25 : decode cX8_append 25 = .ok (.l2i, 1) := by decide +kernel
theorem dX8_append_26 : decode cX8_append 26 = .ok (.sipush 255, 3) := by decide +kernel
theorem dX8_append_29 : decode cX8_append 29 = .ok (.iand, 1) := by decide +kernel
theorem dX8_append_30 : decode cX8_append 30 = .ok (.iastore, 1) := by decide +kernel
theorem dX8_append_31 : decode cX8_append 31 = .ok (.aload_n 0, 1) := by decide +kernel
theorem dX8_append_32 : decode cX8_append 32 = .ok (.dup, 1) := by decide +kernel
theorem dX8_append_33 : decode cX8_append 33 = .ok (.getfield 15, 3) := by decide +kernel
theorem dX8_append_36 : decode cX8_append 36 = .ok (.iconst 1, 1) := by decide +kernel
theorem dX8_append_37 : decode cX8_append 37 = .ok (.iadd, 1) := by decide +kernel
theorem dX8_append_38 : decode cX8_append 38 = .ok (.putfield 15, 3) := by decide +kernel
theorem dX8_append_41 : decode cX8_append 41 = .ok (.iinc 4 (-1), 3) := by decide +kernel
theorem dX8_append_44 : decode cX8_append 44 = .ok (.goto (-39), 3) := by decide +kernel
theorem dX8_append_47 : decode cX8_append 47 = .ok (.return_, 1) := by decide +kernel
def f_X8_append_L5 : Nat → Nat → Int64 → Int32 → Int32 → Hp → Option (Unit × Hp)
  | 0, _, _, _, _, _ => none
  | n + 1, l0, l1, l3, l4, h =>
    if l4 < 0 then (
    some ((), h)) else (
    gd (okOb h l0 8) <|
    vl (gR h l0 0) fun r4 =>
    vl (gI h l0 1) fun x5 =>
    un r4 fun b6 =>
    gd (okAb h b6 11 x5) <|
    vl (sI h b6 x5.toNatClampNeg ((((l1.toUInt64 >>> (((8 : Int32) * l4).toInt64.toUInt64 &&& Int64.toUInt64 63)).toInt64).toInt32) &&& (255 : Int32))) fun h8 =>
    vl (gI h8 l0 1) fun x9 =>
    vl (sI h8 l0 1 (x9 + (1 : Int32))) fun h10 =>
    vl (l4 + (-1 : Int32)) fun x11 =>
    f_X8_append_L5 n l0 l1 l3 x11 h10)
set_option maxHeartbeats 4000000 in
set_option maxRecDepth 100000 in
theorem t_X8_append_L5 {X : Cx} {d : Nat} {h0 h' : Hp} {v : Unit} (hD : 1 ≤ d) : ∀ (n : Nat) (l0 : Nat) (l1 : Int64) (l3 : Int32) (l4 : Int32) (h : Hp), f_X8_append_L5 n l0 l1 l3 l4 h = some (v, h') → EV X mX8_append d h0 (none) h' 5 [some (.ref l0), some (.long l1), none, some (.int l3), some (.int l4)] [] h := by
  intro n
  induction n with
  | zero => intro l0 l1 l3 l4 h H; simp [f_X8_append_L5] at H
  | succ n ih =>
    intro l0 l1 l3 l4 h H
    rw [f_X8_append_L5] at H
    refine ev_iload dX8_append_5 rfl ?_
    refine ev_if_lt (tgt := 47) dX8_append_7 (by decide) (fun c2 => ?_) (fun c2 => ?_)
    · rw [if_pos c2] at H
      exact ev_vretx dX8_append_47 rfl H
    · rw [if_neg c2] at H
      refine ev_aload_n dX8_append_10 rfl rfl rfl ?_
      replace H := gd_some H
      obtain ⟨g3, H⟩ := H
      replace H := vl_some H
      obtain ⟨r4, er4, H⟩ := H
      refine ev_getRx dX8_append_11 fgX8_9 rfl (okOb.p g3) er4 ?_
      refine ev_aload_n dX8_append_14 rfl rfl rfl ?_
      replace H := vl_some H
      obtain ⟨x5, ex5, H⟩ := H
      refine ev_getIx dX8_append_15 fgX8_15 rfl (okOb.p g3) ex5 ?_
      refine ev_lload_n dX8_append_18 rfl rfl ?_
      refine ev_bipush (v := (8 : Int32)) dX8_append_19 (by decide) ?_
      refine ev_iload dX8_append_21 rfl ?_
      refine ev_imul dX8_append_23 ?_
      refine ev_lushr dX8_append_24 rfl ?_
      refine ev_l2i dX8_append_25 rfl ?_
      refine ev_sipush (v := (255 : Int32)) dX8_append_26 (by decide) ?_
      refine ev_iand dX8_append_29 ?_
      replace H := un_some H
      obtain ⟨b6, eb6, H⟩ := H
      subst eb6
      replace H := gd_some H
      obtain ⟨g7, H⟩ := H
      replace H := vl_some H
      obtain ⟨h8, eh8, H⟩ := H
      refine ev_iast dX8_append_30 (okAb.p g7) eh8 ?_
      refine ev_aload_n dX8_append_31 rfl rfl rfl ?_
      refine ev_dup dX8_append_32 rfl ?_
      replace H := vl_some H
      obtain ⟨x9, ex9, H⟩ := H
      refine ev_getIx dX8_append_33 fgX8_15 rfl (okO_sI eh8 (okOb.p g3)) ex9 ?_
      refine ev_iconst (v := (1 : Int32)) dX8_append_36 (by decide) ?_
      refine ev_iadd dX8_append_37 ?_
      replace H := vl_some H
      obtain ⟨h10, eh10, H⟩ := H
      refine ev_putI dX8_append_38 fdX8_15 rfl rfl rfl (okO_sI eh8 (okOb.p g3)) eh10 ?_
      replace H := vl_some H
      obtain ⟨x11, ex11, H⟩ := H
      refine ev_iincx (loc2 := [some (.ref l0), some (.long l1), none, some (.int l3), some (.int x11)]) dX8_append_41 rfl (by decide) ex11 (by decide) rfl ?_
      refine ev_goto (tgt := 5) dX8_append_44 (by decide) ?_
      exact ih l0 l1 l3 x11 h10 H
def f_X8_append (h : Hp) (a0 : Nat) (a1 : Int64) (a3 : Int32) : Option (Unit × Hp) :=
vl (a3 - (1 : Int32)) fun x1 =>
f_X8_append_L5 6000 a0 a1 a3 x1 h
set_option maxHeartbeats 4000000 in
set_option maxRecDepth 100000 in
theorem t_X8_append {X : Cx} {d : Nat} {h : Hp} {a0 : Nat} {a1 : Int64} {a3 : Int32} {v : Unit} {h' : Hp} (hD : 1 ≤ d) (H : f_X8_append h a0 a1 a3 = some (v, h')) : PM X mX8_append d [.ref a0, .long a1, .int a3] h (none) h' := by
  unfold f_X8_append at H
  refine PM.of (loc := [some (.ref a0), some (.long a1), none, some (.int a3), none]) (by decide) rfl (Nat.le_of_ble_eq_true rfl) ?_
  refine ev_iload_n dX8_append_0 rfl rfl ?_
  refine ev_iconst (v := (1 : Int32)) dX8_append_1 (by decide) ?_
  refine ev_isub dX8_append_2 ?_
  replace H := vl_some H
  obtain ⟨x1, ex1, H⟩ := H
  refine ev_istorex (loc2 := [some (.ref a0), some (.long a1), none, some (.int a3), some (.int x1)]) dX8_append_3 (by decide) ex1 rfl ?_
  refine t_X8_append_L5 hD  6000 a0 a1 a3 x1 h H

theorem dX8_byteAt_0 : decode cX8_byteAt 0 = .ok (.iload_n 1, 1) := by decide +kernel
theorem dX8_byteAt_1 : decode cX8_byteAt 1 = .ok (.ifCond .lt 20, 3) := by decide +kernel
theorem dX8_byteAt_4 : decode cX8_byteAt 4 = .ok (.iload_n 1, 1) := by decide +kernel
theorem dX8_byteAt_5 : decode cX8_byteAt 5 = .ok (.aload_n 0, 1) := by decide +kernel
theorem dX8_byteAt_6 : decode cX8_byteAt 6 = .ok (.getfield 15, 3) := by decide +kernel
theorem dX8_byteAt_9 : decode cX8_byteAt 9 = .ok (.if_icmp .ge 12, 3) := by decide +kernel
theorem dX8_byteAt_12 : decode cX8_byteAt 12 = .ok (.aload_n 0, 1) := by decide +kernel
theorem dX8_byteAt_13 : decode cX8_byteAt 13 = .ok (.getfield 9, 3) := by decide +kernel
theorem dX8_byteAt_16 : decode cX8_byteAt 16 = .ok (.iload_n 1, 1) := by decide +kernel
theorem dX8_byteAt_17 : decode cX8_byteAt 17 = .ok (.iaload, 1) := by decide +kernel
theorem dX8_byteAt_18 : decode cX8_byteAt 18 = .ok (.goto 4, 3) := by decide +kernel
theorem dX8_byteAt_21 : decode cX8_byteAt 21 = .ok (.iconst (-1), 1) := by decide +kernel
theorem dX8_byteAt_22 : decode cX8_byteAt 22 = .ok (.ireturn, 1) := by decide +kernel
def f_X8_byteAt (h : Hp) (a0 : Nat) (a1 : Int32) : Option (Int32 × Hp) :=
if a1 < 0 then (
some ((-1 : Int32), h)) else (
gd (okOb h a0 8) <|
vl (gI h a0 1) fun x3 =>
if x3 ≤ a1 then (
some ((-1 : Int32), h)) else (
vl (gR h a0 0) fun r5 =>
un r5 fun b6 =>
gd (okAb h b6 11 a1) <|
vl (gI h b6 a1.toNatClampNeg) fun x8 =>
some (x8, h)))
set_option maxHeartbeats 4000000 in
set_option maxRecDepth 100000 in
theorem t_X8_byteAt {X : Cx} {d : Nat} {h : Hp} {a0 : Nat} {a1 : Int32} {v : Int32} {h' : Hp} (hD : 1 ≤ d) (H : f_X8_byteAt h a0 a1 = some (v, h')) : PM X mX8_byteAt d [.ref a0, .int a1] h (some (.int v)) h' := by
  unfold f_X8_byteAt at H
  refine PM.of (loc := [some (.ref a0), some (.int a1)]) (by decide) rfl (Nat.le_of_ble_eq_true rfl) ?_
  refine ev_iload_n dX8_byteAt_0 rfl rfl ?_
  refine ev_if_lt (tgt := 21) dX8_byteAt_1 (by decide) (fun c1 => ?_) (fun c1 => ?_)
  · rw [if_pos c1] at H
    refine ev_iconst (v := (-1 : Int32)) dX8_byteAt_21 (by decide) ?_
    exact ev_iretx dX8_byteAt_22 rfl rfl H
  · rw [if_neg c1] at H
    refine ev_iload_n dX8_byteAt_4 rfl rfl ?_
    refine ev_aload_n dX8_byteAt_5 rfl rfl rfl ?_
    replace H := gd_some H
    obtain ⟨g2, H⟩ := H
    replace H := vl_some H
    obtain ⟨x3, ex3, H⟩ := H
    refine ev_getIx dX8_byteAt_6 fgX8_15 rfl (okOb.p g2) ex3 ?_
    refine ev_icmp_ge (tgt := 21) dX8_byteAt_9 (by decide) (fun c4 => ?_) (fun c4 => ?_)
    · rw [if_pos c4] at H
      refine ev_iconst (v := (-1 : Int32)) dX8_byteAt_21 (by decide) ?_
      exact ev_iretx dX8_byteAt_22 rfl rfl H
    · rw [if_neg c4] at H
      refine ev_aload_n dX8_byteAt_12 rfl rfl rfl ?_
      replace H := vl_some H
      obtain ⟨r5, er5, H⟩ := H
      refine ev_getRx dX8_byteAt_13 fgX8_9 rfl (okOb.p g2) er5 ?_
      refine ev_iload_n dX8_byteAt_16 rfl rfl ?_
      replace H := un_some H
      obtain ⟨b6, eb6, H⟩ := H
      subst eb6
      replace H := gd_some H
      obtain ⟨g7, H⟩ := H
      replace H := vl_some H
      obtain ⟨x8, ex8, H⟩ := H
      refine ev_ialdx dX8_byteAt_17 (okAb.p g7) ex8 ?_
      refine ev_goto (tgt := 22) dX8_byteAt_18 (by decide) ?_
      exact ev_iretx dX8_byteAt_22 rfl rfl H

theorem dX8_codeAt_0 : decode cX8_codeAt 0 = .ok (.aload_n 0, 1) := by decide +kernel
theorem dX8_codeAt_1 : decode cX8_codeAt 1 = .ok (.iload_n 1, 1) := by decide +kernel
theorem dX8_codeAt_2 : decode cX8_codeAt 2 = .ok (.invokevirtual 19, 3) := by decide +kernel
theorem dX8_codeAt_5 : decode cX8_codeAt 5 = .ok (.istore_n 2, 1) := by decide +kernel
theorem dX8_codeAt_6 : decode cX8_codeAt 6 = .ok (.iload_n 2, 1) := by decide +kernel
theorem dX8_codeAt_7 : decode cX8_codeAt 7 = .ok (.bipush 97, 2) := by decide +kernel
theorem dX8_codeAt_9 : decode cX8_codeAt 9 = .ok (.if_icmp .lt 14, 3) := by decide +kernel
theorem dX8_codeAt_12 : decode cX8_codeAt 12 = .ok (.iload_n 2, 1) := by decide +kernel
theorem dX8_codeAt_13 : decode cX8_codeAt 13 = .ok (.bipush 122, 2) := by decide +kernel
theorem dX8_codeAt_15 : decode cX8_codeAt 15 = .ok (.if_icmp .gt 8, 3) := by decide +kernel
theorem dX8_codeAt_18 : decode cX8_codeAt 18 = .ok (.iload_n 2, 1) := by decide +kernel
theorem dX8_codeAt_19 : decode cX8_codeAt 19 = .ok (.bipush 97, 2) := by decide +kernel
theorem dX8_codeAt_21 : decode cX8_codeAt 21 = .ok (.isub, 1) := by decide +kernel
theorem dX8_codeAt_22 : decode cX8_codeAt 22 = .ok (.ireturn, 1) := by decide +kernel
theorem dX8_codeAt_23 : decode cX8_codeAt 23 = .ok (.iload_n 2, 1) := by decide +kernel
theorem dX8_codeAt_24 : decode cX8_codeAt 24 = .ok (.bipush 32, 2) := by decide +kernel
theorem dX8_codeAt_26 : decode cX8_codeAt 26 = .ok (.if_icmp .ne 6, 3) := by decide +kernel
theorem dX8_codeAt_29 : decode cX8_codeAt 29 = .ok (.bipush 32, 2) := by decide +kernel
theorem dX8_codeAt_31 : decode cX8_codeAt 31 = .ok (.ireturn, 1) := by decide +kernel
theorem dX8_codeAt_32 : decode cX8_codeAt 32 = .ok (.iload_n 2, 1) := by decide +kernel
theorem dX8_codeAt_33 : decode cX8_codeAt 33 = .ok (.bipush 10, 2) := by decide +kernel
theorem dX8_codeAt_35 : decode cX8_codeAt 35 = .ok (.if_icmp .ne 8, 3) := by decide +kernel
theorem dX8_codeAt_38 : decode cX8_codeAt 38 = .ok (.bipush 33, 2) := by decide +kernel
theorem dX8_codeAt_40 : decode cX8_codeAt 40 = .ok (.goto 4, 3) := by decide +kernel
theorem dX8_codeAt_43 : decode cX8_codeAt 43 = .ok (.iconst (-1), 1) := by decide +kernel
theorem dX8_codeAt_44 : decode cX8_codeAt 44 = .ok (.ireturn, 1) := by decide +kernel
def f_X8_codeAt (h : Hp) (a0 : Nat) (a1 : Int32) : Option (Int32 × Hp) :=
gd (okOb h a0 8) <|
bnd (f_X8_byteAt h a0 a1) fun v2 h3 =>
if v2 < (97 : Int32) then (
if v2 = (32 : Int32) then (
some ((32 : Int32), h3)) else (
if v2 = (10 : Int32) then (
some ((33 : Int32), h3)) else (
some ((-1 : Int32), h3)))) else (
if (122 : Int32) < v2 then (
if v2 = (32 : Int32) then (
some ((32 : Int32), h3)) else (
if v2 = (10 : Int32) then (
some ((33 : Int32), h3)) else (
some ((-1 : Int32), h3)))) else (
some (v2 - (97 : Int32), h3)))
set_option maxHeartbeats 4000000 in
set_option maxRecDepth 100000 in
theorem t_X8_codeAt {X : Cx} {d : Nat} {h : Hp} {a0 : Nat} {a1 : Int32} {v : Int32} {h' : Hp} (hD : 2 ≤ d) (H : f_X8_codeAt h a0 a1 = some (v, h')) : PM X mX8_codeAt d [.ref a0, .int a1] h (some (.int v)) h' := by
  unfold f_X8_codeAt at H
  refine PM.of (loc := [some (.ref a0), some (.int a1), none]) (by decide) rfl (Nat.le_of_ble_eq_true rfl) ?_
  refine ev_aload_n dX8_codeAt_0 rfl rfl rfl ?_
  refine ev_iload_n dX8_codeAt_1 rfl rfl ?_
  replace H := gd_some H
  obtain ⟨g1, H⟩ := H
  replace H := bnd_some H
  obtain ⟨v2, h3, eh3, H⟩ := H
  have ph3 := (t_X8_byteAt (X := X) (d := 1) (by omega) eh3)
  refine ev_callV (as := [.int a1]) dX8_codeAt_2 ph3 ok_X8_byteAt (by omega) rfl k2_39 k2_40 k2_41 (ci := 8) (by decide) rfl rfl (okOb.p g1) rfl (Nat.le_of_ble_eq_true rfl) ?_
  refine ev_istore_n (loc2 := [some (.ref a0), some (.int a1), some (.int v2)]) dX8_codeAt_5 rfl (by decide) rfl ?_
  refine ev_iload_n dX8_codeAt_6 rfl rfl ?_
  refine ev_bipush (v := (97 : Int32)) dX8_codeAt_7 (by decide) ?_
  refine ev_icmp_lt (tgt := 23) dX8_codeAt_9 (by decide) (fun c4 => ?_) (fun c4 => ?_)
  · rw [if_pos c4] at H
    refine ev_iload_n dX8_codeAt_23 rfl rfl ?_
    refine ev_bipush (v := (32 : Int32)) dX8_codeAt_24 (by decide) ?_
    refine ev_icmp_ne (tgt := 32) dX8_codeAt_26 (by decide) (fun c5 => ?_) (fun c5 => ?_)
    · rw [if_neg c5] at H
      refine ev_iload_n dX8_codeAt_32 rfl rfl ?_
      refine ev_bipush (v := (10 : Int32)) dX8_codeAt_33 (by decide) ?_
      refine ev_icmp_ne (tgt := 43) dX8_codeAt_35 (by decide) (fun c6 => ?_) (fun c6 => ?_)
      · rw [if_neg c6] at H
        refine ev_iconst (v := (-1 : Int32)) dX8_codeAt_43 (by decide) ?_
        exact ev_iretx dX8_codeAt_44 rfl rfl H
      · rw [if_pos c6] at H
        refine ev_bipush (v := (33 : Int32)) dX8_codeAt_38 (by decide) ?_
        refine ev_goto (tgt := 44) dX8_codeAt_40 (by decide) ?_
        exact ev_iretx dX8_codeAt_44 rfl rfl H
    · rw [if_pos c5] at H
      refine ev_bipush (v := (32 : Int32)) dX8_codeAt_29 (by decide) ?_
      exact ev_iretx dX8_codeAt_31 rfl rfl H
  · rw [if_neg c4] at H
    refine ev_iload_n dX8_codeAt_12 rfl rfl ?_
    refine ev_bipush (v := (122 : Int32)) dX8_codeAt_13 (by decide) ?_
    refine ev_icmp_gt (tgt := 23) dX8_codeAt_15 (by decide) (fun c7 => ?_) (fun c7 => ?_)
    · rw [if_pos c7] at H
      refine ev_iload_n dX8_codeAt_23 rfl rfl ?_
      refine ev_bipush (v := (32 : Int32)) dX8_codeAt_24 (by decide) ?_
      refine ev_icmp_ne (tgt := 32) dX8_codeAt_26 (by decide) (fun c8 => ?_) (fun c8 => ?_)
      · rw [if_neg c8] at H
        refine ev_iload_n dX8_codeAt_32 rfl rfl ?_
        refine ev_bipush (v := (10 : Int32)) dX8_codeAt_33 (by decide) ?_
        refine ev_icmp_ne (tgt := 43) dX8_codeAt_35 (by decide) (fun c9 => ?_) (fun c9 => ?_)
        · rw [if_neg c9] at H
          refine ev_iconst (v := (-1 : Int32)) dX8_codeAt_43 (by decide) ?_
          exact ev_iretx dX8_codeAt_44 rfl rfl H
        · rw [if_pos c9] at H
          refine ev_bipush (v := (33 : Int32)) dX8_codeAt_38 (by decide) ?_
          refine ev_goto (tgt := 44) dX8_codeAt_40 (by decide) ?_
          exact ev_iretx dX8_codeAt_44 rfl rfl H
      · rw [if_pos c8] at H
        refine ev_bipush (v := (32 : Int32)) dX8_codeAt_29 (by decide) ?_
        exact ev_iretx dX8_codeAt_31 rfl rfl H
    · rw [if_neg c7] at H
      refine ev_iload_n dX8_codeAt_18 rfl rfl ?_
      refine ev_bipush (v := (97 : Int32)) dX8_codeAt_19 (by decide) ?_
      refine ev_isub dX8_codeAt_21 ?_
      exact ev_iretx dX8_codeAt_22 rfl rfl H

theorem dX8_firstNotOfCopy_0 : decode cX8_firstNotOfCopy 0 = .ok (.aload_n 0, 1) := by decide +kernel
theorem dX8_firstNotOfCopy_1 : decode cX8_firstNotOfCopy 1 = .ok (.getfield 15, 3) := by decide +kernel
theorem dX8_firstNotOfCopy_4 : decode cX8_firstNotOfCopy 4 = .ok (.bipush 120, 2) := by decide +kernel
theorem dX8_firstNotOfCopy_6 : decode cX8_firstNotOfCopy 6 = .ok (.invokestatic 23, 3) := by decide +kernel
theorem dX8_firstNotOfCopy_9 : decode cX8_firstNotOfCopy 9 = .ok (.istore_n 1, 1) := by decide +kernel
theorem dX8_firstNotOfCopy_10 : decode cX8_firstNotOfCopy 10 = .ok (.iconst 0, 1) := by decide +kernel
theorem dX8_firstNotOfCopy_11 : decode cX8_firstNotOfCopy 11 = .ok (.istore_n 2, 1) := by decide +kernel
theorem dX8_firstNotOfCopy_12 : decode cX8_firstNotOfCopy 12 = .ok (.iload_n 2, 1) := by decide +kernel
theorem dX8_firstNotOfCopy_13 : decode cX8_firstNotOfCopy 13 = .ok (.iload_n 1, 1) := by decide +kernel
theorem dX8_firstNotOfCopy_14 : decode cX8_firstNotOfCopy 14 = .ok (.if_icmp .ge 20, 3) := by decide +kernel
theorem dX8_firstNotOfCopy_17 : decode cX8_firstNotOfCopy 17 = .ok (.aload_n 0, 1) := by decide +kernel
theorem dX8_firstNotOfCopy_18 : decode cX8_firstNotOfCopy 18 = .ok (.iload_n 2, 1) := by decide +kernel
theorem dX8_firstNotOfCopy_19 : decode cX8_firstNotOfCopy 19 = .ok (.invokevirtual 29, 3) := by decide +kernel
theorem dX8_firstNotOfCopy_22 : decode cX8_firstNotOfCopy 22 = .ok (.iconst (-1), 1) := by decide +kernel
theorem dX8_firstNotOfCopy_23 : decode cX8_firstNotOfCopy 23 = .ok (.if_icmp .ne 5, 3) := by decide +kernel
theorem dX8_firstNotOfCopy_26 : decode cX8_firstNotOfCopy 26 = .ok (.iload_n 2, 1) := by decide +kernel
theorem dX8_firstNotOfCopy_27 : decode cX8_firstNotOfCopy 27 = .ok (.ireturn, 1) := by decide +kernel
theorem dX8_firstNotOfCopy_28 : decode cX8_firstNotOfCopy 28 = .ok (.iinc 2 1, 3) := by decide +kernel
theorem dX8_firstNotOfCopy_31 : decode cX8_firstNotOfCopy 31 = .ok (.goto (-19), 3) := by decide +kernel
theorem dX8_firstNotOfCopy_34 : decode cX8_firstNotOfCopy 34 = .ok (.aload_n 0, 1) := by decide +kernel
theorem dX8_firstNotOfCopy_35 : decode cX8_firstNotOfCopy 35 = .ok (.getfield 15, 3) := by decide +kernel
theorem dX8_firstNotOfCopy_38 : decode cX8_firstNotOfCopy 38 = .ok (.bipush 120, 2) := by decide +kernel
theorem dX8_firstNotOfCopy_40 : decode cX8_firstNotOfCopy 40 = .ok (.if_icmp .le 8, 3) := by decide +kernel
theorem dX8_firstNotOfCopy_43 : decode cX8_firstNotOfCopy 43 = .ok (.bipush 120, 2) := by decide +kernel
theorem dX8_firstNotOfCopy_45 : decode cX8_firstNotOfCopy 45 = .ok (.goto 4, 3) := by decide +kernel
theorem dX8_firstNotOfCopy_48 : decode cX8_firstNotOfCopy 48 = .ok (.iconst (-1), 1) := by decide +kernel
theorem dX8_firstNotOfCopy_49 : decode cX8_firstNotOfCopy 49 = .ok (.ireturn, 1) := by decide +kernel
def f_X8_firstNotOfCopy_L12 : Nat → Nat → Int32 → Int32 → Hp → Option (Int32 × Hp)
  | 0, _, _, _, _ => none
  | n + 1, l0, l1, l2, h =>
    if l1 ≤ l2 then (
    gd (okOb h l0 8) <|
    vl (gI h l0 1) fun x6 =>
    if x6 ≤ (120 : Int32) then (
    some ((-1 : Int32), h)) else (
    some ((120 : Int32), h))) else (
    gd (okOb h l0 8) <|
    bnd (f_X8_codeAt h l0 l2) fun v9 h10 =>
    if v9 = (-1 : Int32) then (
    some (l2, h10)) else (
    vl (l2 + (1 : Int32)) fun x12 =>
    f_X8_firstNotOfCopy_L12 n l0 l1 x12 h10))
set_option maxHeartbeats 4000000 in
set_option maxRecDepth 100000 in
theorem t_X8_firstNotOfCopy_L12 {X : Cx} {d : Nat} {h0 h' : Hp} {v : Int32} (hD : 3 ≤ d) : ∀ (n : Nat) (l0 : Nat) (l1 : Int32) (l2 : Int32) (h : Hp), f_X8_firstNotOfCopy_L12 n l0 l1 l2 h = some (v, h') → EV X mX8_firstNotOfCopy d h0 (some (.int v)) h' 12 [some (.ref l0), some (.int l1), some (.int l2)] [] h := by
  intro n
  induction n with
  | zero => intro l0 l1 l2 h H; simp [f_X8_firstNotOfCopy_L12] at H
  | succ n ih =>
    intro l0 l1 l2 h H
    rw [f_X8_firstNotOfCopy_L12] at H
    refine ev_iload_n dX8_firstNotOfCopy_12 rfl rfl ?_
    refine ev_iload_n dX8_firstNotOfCopy_13 rfl rfl ?_
    refine ev_icmp_ge (tgt := 34) dX8_firstNotOfCopy_14 (by decide) (fun c4 => ?_) (fun c4 => ?_)
    · rw [if_pos c4] at H
      refine ev_aload_n dX8_firstNotOfCopy_34 rfl rfl rfl ?_
      replace H := gd_some H
      obtain ⟨g5, H⟩ := H
      replace H := vl_some H
      obtain ⟨x6, ex6, H⟩ := H
      refine ev_getIx dX8_firstNotOfCopy_35 fgX8_15 rfl (okOb.p g5) ex6 ?_
      refine ev_bipush (v := (120 : Int32)) dX8_firstNotOfCopy_38 (by decide) ?_
      refine ev_icmp_le (tgt := 48) dX8_firstNotOfCopy_40 (by decide) (fun c7 => ?_) (fun c7 => ?_)
      · rw [if_pos c7] at H
        refine ev_iconst (v := (-1 : Int32)) dX8_firstNotOfCopy_48 (by decide) ?_
        exact ev_iretx dX8_firstNotOfCopy_49 rfl rfl H
      · rw [if_neg c7] at H
        refine ev_bipush (v := (120 : Int32)) dX8_firstNotOfCopy_43 (by decide) ?_
        refine ev_goto (tgt := 49) dX8_firstNotOfCopy_45 (by decide) ?_
        exact ev_iretx dX8_firstNotOfCopy_49 rfl rfl H
    · rw [if_neg c4] at H
      refine ev_aload_n dX8_firstNotOfCopy_17 rfl rfl rfl ?_
      refine ev_iload_n dX8_firstNotOfCopy_18 rfl rfl ?_
      replace H := gd_some H
      obtain ⟨g8, H⟩ := H
      replace H := bnd_some H
      obtain ⟨v9, h10, eh10, H⟩ := H
      have ph10 := (t_X8_codeAt (X := X) (d := 2) (by omega) eh10)
      refine ev_callV (as := [.int l2]) dX8_firstNotOfCopy_19 ph10 ok_X8_codeAt (by omega) rfl k2_35 k2_36 k2_37 (ci := 8) (by decide) rfl rfl (okOb.p g8) rfl (Nat.le_of_ble_eq_true rfl) ?_
      refine ev_iconst (v := (-1 : Int32)) dX8_firstNotOfCopy_22 (by decide) ?_
      refine ev_icmp_ne (tgt := 28) dX8_firstNotOfCopy_23 (by decide) (fun c11 => ?_) (fun c11 => ?_)
      · rw [if_neg c11] at H
        replace H := vl_some H
        obtain ⟨x12, ex12, H⟩ := H
        refine ev_iincx (loc2 := [some (.ref l0), some (.int l1), some (.int x12)]) dX8_firstNotOfCopy_28 rfl (by decide) ex12 (by decide) rfl ?_
        refine ev_goto (tgt := 12) dX8_firstNotOfCopy_31 (by decide) ?_
        exact ih l0 l1 x12 h10 H
      · rw [if_pos c11] at H
        refine ev_iload_n dX8_firstNotOfCopy_26 rfl rfl ?_
        exact ev_iretx dX8_firstNotOfCopy_27 rfl rfl H
def f_X8_firstNotOfCopy (h : Hp) (a0 : Nat) : Option (Int32 × Hp) :=
gd (okOb h a0 8) <|
vl (gI h a0 1) fun x2 =>
vl (if (120 : Int32) < x2 then (120 : Int32) else x2) fun x3 =>
f_X8_firstNotOfCopy_L12 6000 a0 x3 (0 : Int32) h
set_option maxHeartbeats 4000000 in
set_option maxRecDepth 100000 in
theorem t_X8_firstNotOfCopy {X : Cx} {d : Nat} {h : Hp} {a0 : Nat} {v : Int32} {h' : Hp} (hD : 3 ≤ d) (H : f_X8_firstNotOfCopy h a0 = some (v, h')) : PM X mX8_firstNotOfCopy d [.ref a0] h (some (.int v)) h' := by
  unfold f_X8_firstNotOfCopy at H
  refine PM.of (loc := [some (.ref a0), none, none]) (by decide) rfl (Nat.le_of_ble_eq_true rfl) ?_
  refine ev_aload_n dX8_firstNotOfCopy_0 rfl rfl rfl ?_
  replace H := gd_some H
  obtain ⟨g1, H⟩ := H
  replace H := vl_some H
  obtain ⟨x2, ex2, H⟩ := H
  refine ev_getIx dX8_firstNotOfCopy_1 fgX8_15 rfl (okOb.p g1) ex2 ?_
  refine ev_bipush (v := (120 : Int32)) dX8_firstNotOfCopy_4 (by decide) ?_
  refine ev_mmin dX8_firstNotOfCopy_6 k2_32 k2_33 k1_10 k2_34 (by omega) (Nat.le_of_ble_eq_true rfl) ?_
  replace H := vl_some H
  obtain ⟨x3, ex3, H⟩ := H
  refine ev_istore_nx (loc2 := [some (.ref a0), some (.int x3), none]) dX8_firstNotOfCopy_9 rfl (by decide) ex3 rfl ?_
  refine ev_iconst (v := (0 : Int32)) dX8_firstNotOfCopy_10 (by decide) ?_
  refine ev_istore_n (loc2 := [some (.ref a0), some (.int x3), some (.int (0 : Int32))]) dX8_firstNotOfCopy_11 rfl (by decide) rfl ?_
  refine t_X8_firstNotOfCopy_L12 hD  6000 a0 x3 (0 : Int32) h H

theorem dJ6_bitCount_0f7a4_0 : decode cJ6_bitCount_0f7a4 0 = .ok (.iload_n 0, 1) := by decide +kernel
theorem dJ6_bitCount_0f7a4_1 : decode cJ6_bitCount_0f7a4 1 = .ok (.iload_n 0, 1) := by decide +kernel
theorem dJ6_bitCount_0f7a4_2 : decode cJ6_bitCount_0f7a4 2 = .ok (.iconst 1, 1) := by decide +kernel
theorem dJ6_bitCount_0f7a4_3 : decode cJ6_bitCount_0f7a4 3 = .ok (.iushr, 1) := by decide +kernel
theorem dJ6_bitCount_0f7a4_4 : decode cJ6_bitCount_0f7a4 4 = .ok (.ldc_w 265, 3) := by decide +kernel
theorem dJ6_bitCount_0f7a4_7 : decode cJ6_bitCount_0f7a4 7 = .ok (.iand, 1) := by decide +kernel
theorem dJ6_bitCount_0f7a4_8 : decode cJ6_bitCount_0f7a4 8 = .ok (.isub, 1) := by decide +kernel
theorem dJ6_bitCount_0f7a4_9 : decode cJ6_bitCount_0f7a4 9 = .ok (.istore_n 0, 1) := by decide +kernel
theorem dJ6_bitCount_0f7a4_10 : decode cJ6_bitCount_0f7a4 10 = .ok (.iload_n 0, 1) := by decide +kernel
theorem dJ6_bitCount_0f7a4_11 : decode cJ6_bitCount_0f7a4 11 = .ok (.ldc_w 266, 3) := by decide +kernel
theorem dJ6_bitCount_0f7a4_14 : decode cJ6_bitCount_0f7a4 14 = .ok (.iand, 1) := by decide +kernel
theorem dJ6_bitCount_0f7a4_15 : decode cJ6_bitCount_0f7a4 15 = .ok (.iload_n 0, 1) := by decide +kernel
theorem dJ6_bitCount_0f7a4_16 : decode cJ6_bitCount_0f7a4 16 = .ok (.iconst 2, 1) := by decide +kernel
theorem dJ6_bitCount_0f7a4_17 : decode cJ6_bitCount_0f7a4 17 = .ok (.iushr, 1) := by decide +kernel
theorem dJ6_bitCount_0f7a4_18 : decode cJ6_bitCount_0f7a4 18 = .ok (.ldc_w 266, 3) := by decide +kernel
theorem dJ6_bitCount_0f7a4_21 : decode cJ6_bitCount_0f7a4 21 = .ok (.iand, 1) := by decide +kernel
theorem dJ6_bitCount_0f7a4_22 : decode cJ6_bitCount_0f7a4 22 = .ok (.iadd, 1) := by decide +kernel
theorem dJ6_bitCount_0f7a4_23 : decode cJ6_bitCount_0f7a4 23 = .ok (.istore_n 0, 1) := by decide +kernel
theorem dJ6_bitCount_0f7a4_24 : decode cJ6_bitCount_0f7a4 24 = .ok (.iload_n 0, 1) := by decide +kernel
theorem dJ6_bitCount_0f7a4_25 : decode cJ6_bitCount_0f7a4 25 = .ok (.iload_n 0, 1) := by decide +kernel
theorem dJ6_bitCount_0f7a4_26 : decode cJ6_bitCount_0f7a4 26 = .ok (.iconst 4, 1) := by decide +kernel
theorem dJ6_bitCount_0f7a4_27 : decode cJ6_bitCount_0f7a4 27 = .ok (.iushr, 1) := by decide +kernel
theorem dJ6_bitCount_0f7a4_28 : decode cJ6_bitCount_0f7a4 28 = .ok (.iadd, 1) := by decide +kernel
theorem dJ6_bitCount_0f7a4_29 : decode cJ6_bitCount_0f7a4 29 = .ok (.ldc_w 267, 3) := by decide +kernel
theorem dJ6_bitCount_0f7a4_32 : decode cJ6_bitCount_0f7a4 32 = .ok (.iand, 1) := by decide +kernel
theorem dJ6_bitCount_0f7a4_33 : decode cJ6_bitCount_0f7a4 33 = .ok (.istore_n 0, 1) := by decide +kernel
theorem dJ6_bitCount_0f7a4_34 : decode cJ6_bitCount_0f7a4 34 = .ok (.iload_n 0, 1) := by decide +kernel
theorem dJ6_bitCount_0f7a4_35 : decode cJ6_bitCount_0f7a4 35 = .ok (.iload_n 0, 1) := by decide +kernel
theorem dJ6_bitCount_0f7a4_36 : decode cJ6_bitCount_0f7a4 36 = .ok (.bipush 8, 2) := by decide +kernel
theorem dJ6_bitCount_0f7a4_38 : decode cJ6_bitCount_0f7a4 38 = .ok (.iushr, 1) := by decide +kernel
theorem dJ6_bitCount_0f7a4_39 : decode cJ6_bitCount_0f7a4 39 = .ok (.iadd, 1) := by decide +kernel
theorem dJ6_bitCount_0f7a4_40 : decode cJ6_bitCount_0f7a4 40 = .ok (.istore_n 0, 1) := by decide +kernel
theorem dJ6_bitCount_0f7a4_41 : decode cJ6_bitCount_0f7a4 41 = .ok (.iload_n 0, 1) := by decide +kernel
theorem dJ6_bitCount_0f7a4_42 : decode cJ6_bitCount_0f7a4 42 = .ok (.iload_n 0, 1) := by decide +kernel
theorem dJ6_bitCount_0f7a4_43 : decode cJ6_bitCount_0f7a4 43 = .ok (.bipush 16, 2) := by decide +kernel
theorem dJ6_bitCount_0f7a4_45 : decode cJ6_bitCount_0f7a4 45 = .ok (.iushr, 1) := by decide +kernel
theorem dJ6_bitCount_0f7a4_46 : decode cJ6_bitCount_0f7a4 46 = .ok (.iadd, 1) := by decide +kernel
theorem dJ6_bitCount_0f7a4_47 : decode cJ6_bitCount_0f7a4 47 = .ok (.istore_n 0, 1) := by decide +kernel
theorem dJ6_bitCount_0f7a4_48 : decode cJ6_bitCount_0f7a4 48 = .ok (.iload_n 0, 1) := by decide +kernel
theorem dJ6_bitCount_0f7a4_49 : decode cJ6_bitCount_0f7a4 49 = .ok (.bipush 63, 2) := by decide +kernel
theorem dJ6_bitCount_0f7a4_51 : decode cJ6_bitCount_0f7a4 51 = .ok (.iand, 1) := by decide +kernel
theorem dJ6_bitCount_0f7a4_52 : decode cJ6_bitCount_0f7a4 52 = .ok (.ireturn, 1) := by decide +kernel
def f_J6_bitCount_0f7a4 (h : Hp) (a0 : Int32) : Option (Int32 × Hp) :=
vl (a0 - (((a0.toUInt32 >>> ((1 : Int32).toUInt32 &&& Int32.toUInt32 31)).toInt32) &&& (1431655765 : Int32))) fun x1 =>
vl ((x1 &&& (858993459 : Int32)) + (((x1.toUInt32 >>> ((2 : Int32).toUInt32 &&& Int32.toUInt32 31)).toInt32) &&& (858993459 : Int32))) fun x2 =>
vl ((x2 + ((x2.toUInt32 >>> ((4 : Int32).toUInt32 &&& Int32.toUInt32 31)).toInt32)) &&& (252645135 : Int32)) fun x3 =>
vl (x3 + ((x3.toUInt32 >>> ((8 : Int32).toUInt32 &&& Int32.toUInt32 31)).toInt32)) fun x4 =>
vl (x4 + ((x4.toUInt32 >>> ((16 : Int32).toUInt32 &&& Int32.toUInt32 31)).toInt32)) fun x5 =>
some (x5 &&& (63 : Int32), h)
set_option maxHeartbeats 4000000 in
set_option maxRecDepth 100000 in
theorem t_J6_bitCount_0f7a4 {X : Cx} {d : Nat} {h : Hp} {a0 : Int32} {v : Int32} {h' : Hp} (hD : 1 ≤ d) (H : f_J6_bitCount_0f7a4 h a0 = some (v, h')) : PM X mJ6_bitCount_0f7a4 d [.int a0] h (some (.int v)) h' := by
  unfold f_J6_bitCount_0f7a4 at H
  refine PM.of (loc := [some (.int a0)]) (by decide) rfl (Nat.le_of_ble_eq_true rfl) ?_
  refine ev_iload_n dJ6_bitCount_0f7a4_0 rfl rfl ?_
  refine ev_iload_n dJ6_bitCount_0f7a4_1 rfl rfl ?_
  refine ev_iconst (v := (1 : Int32)) dJ6_bitCount_0f7a4_2 (by decide) ?_
  refine ev_iushr dJ6_bitCount_0f7a4_3 rfl ?_
  refine ev_ldcw (v := (1431655765 : Int32)) dJ6_bitCount_0f7a4_4 k3_181 ?_
  refine ev_iand dJ6_bitCount_0f7a4_7 ?_
  refine ev_isub dJ6_bitCount_0f7a4_8 ?_
  replace H := vl_some H
  obtain ⟨x1, ex1, H⟩ := H
  refine ev_istore_nx (loc2 := [some (.int x1)]) dJ6_bitCount_0f7a4_9 rfl (by decide) ex1 rfl ?_
  refine ev_iload_n dJ6_bitCount_0f7a4_10 rfl rfl ?_
  refine ev_ldcw (v := (858993459 : Int32)) dJ6_bitCount_0f7a4_11 k3_182 ?_
  refine ev_iand dJ6_bitCount_0f7a4_14 ?_
  refine ev_iload_n dJ6_bitCount_0f7a4_15 rfl rfl ?_
  refine ev_iconst (v := (2 : Int32)) dJ6_bitCount_0f7a4_16 (by decide) ?_
  refine ev_iushr dJ6_bitCount_0f7a4_17 rfl ?_
  refine ev_ldcw (v := (858993459 : Int32)) dJ6_bitCount_0f7a4_18 k3_182 ?_
  refine ev_iand dJ6_bitCount_0f7a4_21 ?_
  refine ev_iadd dJ6_bitCount_0f7a4_22 ?_
  replace H := vl_some H
  obtain ⟨x2, ex2, H⟩ := H
  refine ev_istore_nx (loc2 := [some (.int x2)]) dJ6_bitCount_0f7a4_23 rfl (by decide) ex2 rfl ?_
  refine ev_iload_n dJ6_bitCount_0f7a4_24 rfl rfl ?_
  refine ev_iload_n dJ6_bitCount_0f7a4_25 rfl rfl ?_
  refine ev_iconst (v := (4 : Int32)) dJ6_bitCount_0f7a4_26 (by decide) ?_
  refine ev_iushr dJ6_bitCount_0f7a4_27 rfl ?_
  refine ev_iadd dJ6_bitCount_0f7a4_28 ?_
  refine ev_ldcw (v := (252645135 : Int32)) dJ6_bitCount_0f7a4_29 k3_183 ?_
  refine ev_iand dJ6_bitCount_0f7a4_32 ?_
  replace H := vl_some H
  obtain ⟨x3, ex3, H⟩ := H
  refine ev_istore_nx (loc2 := [some (.int x3)]) dJ6_bitCount_0f7a4_33 rfl (by decide) ex3 rfl ?_
  refine ev_iload_n dJ6_bitCount_0f7a4_34 rfl rfl ?_
  refine ev_iload_n dJ6_bitCount_0f7a4_35 rfl rfl ?_
  refine ev_bipush (v := (8 : Int32)) dJ6_bitCount_0f7a4_36 (by decide) ?_
  refine ev_iushr dJ6_bitCount_0f7a4_38 rfl ?_
  refine ev_iadd dJ6_bitCount_0f7a4_39 ?_
  replace H := vl_some H
  obtain ⟨x4, ex4, H⟩ := H
  refine ev_istore_nx (loc2 := [some (.int x4)]) dJ6_bitCount_0f7a4_40 rfl (by decide) ex4 rfl ?_
  refine ev_iload_n dJ6_bitCount_0f7a4_41 rfl rfl ?_
  refine ev_iload_n dJ6_bitCount_0f7a4_42 rfl rfl ?_
  refine ev_bipush (v := (16 : Int32)) dJ6_bitCount_0f7a4_43 (by decide) ?_
  refine ev_iushr dJ6_bitCount_0f7a4_45 rfl ?_
  refine ev_iadd dJ6_bitCount_0f7a4_46 ?_
  replace H := vl_some H
  obtain ⟨x5, ex5, H⟩ := H
  refine ev_istore_nx (loc2 := [some (.int x5)]) dJ6_bitCount_0f7a4_47 rfl (by decide) ex5 rfl ?_
  refine ev_iload_n dJ6_bitCount_0f7a4_48 rfl rfl ?_
  refine ev_bipush (v := (63 : Int32)) dJ6_bitCount_0f7a4_49 (by decide) ?_
  refine ev_iand dJ6_bitCount_0f7a4_51 ?_
  exact ev_iretx dJ6_bitCount_0f7a4_52 rfl rfl H

theorem dJ0_coder_7d493_0 : decode cJ0_coder_7d493 0 = .ok (.getstatic 38, 3) := by decide +kernel
theorem dJ0_coder_7d493_3 : decode cJ0_coder_7d493 3 = .ok (.ifCond .eq 10, 3) := by decide +kernel
theorem dJ0_coder_7d493_6 : decode cJ0_coder_7d493 6 = .ok (.aload_n 0, 1) := by decide +kernel
theorem dJ0_coder_7d493_7 : decode cJ0_coder_7d493 7 = .ok (.getfield 15, 3) := by decide +kernel
theorem dJ0_coder_7d493_10 : decode cJ0_coder_7d493 10 = .ok (.goto 4, 3) := by decide +kernel
theorem dJ0_coder_7d493_13 : decode cJ0_coder_7d493 13 = .ok (.iconst 1, 1) := by decide +kernel
theorem dJ0_coder_7d493_14 : decode cJ0_coder_7d493 14 = .ok (.ireturn, 1) := by decide +kernel
def f_J0_coder_7d493 (h : Hp) (a0 : Nat) : Option (Int32 × Hp) :=
if (1 : Int32) = 0 then (
some ((1 : Int32), h)) else (
gd (decide (a0 < 4)) <|
some ((0 : Int32), h))
set_option maxHeartbeats 4000000 in
set_option maxRecDepth 100000 in
theorem t_J0_coder_7d493 {X : Cx} {d : Nat} {h : Hp} {a0 : Nat} {v : Int32} {h' : Hp} (hD : 1 ≤ d) (H : f_J0_coder_7d493 h a0 = some (v, h')) : PM X mJ0_coder_7d493 d [.float (UInt32.ofNat a0)] h (some (.int v)) h' := by
  unfold f_J0_coder_7d493 at H
  refine PM.of (loc := [some (.float (UInt32.ofNat a0))]) (by decide) rfl (Nat.le_of_ble_eq_true rfl) ?_
  refine ev_gsC dJ0_coder_7d493_0 k4_16 ?_
  refine ev_if_eq (tgt := 13) dJ0_coder_7d493_3 (by decide) (fun c1 => ?_) (fun c1 => ?_)
  · rw [if_pos c1] at H
    refine ev_iconst (v := (1 : Int32)) dJ0_coder_7d493_13 (by decide) ?_
    exact ev_iretx dJ0_coder_7d493_14 rfl rfl H
  · rw [if_neg c1] at H
    refine ev_aload_n dJ0_coder_7d493_6 rfl rfl rfl ?_
    replace H := gd_some H
    obtain ⟨g2, H⟩ := H
    refine ev_sCod dJ0_coder_7d493_7 (of_decide_eq_true g2) k6_116 ?_
    refine ev_goto (tgt := 14) dJ0_coder_7d493_10 (by decide) ?_
    exact ev_iretx dJ0_coder_7d493_14 rfl rfl H

theorem dJ0_length_8abf5_0 : decode cJ0_length_8abf5 0 = .ok (.aload_n 0, 1) := by decide +kernel
theorem dJ0_length_8abf5_1 : decode cJ0_length_8abf5 1 = .ok (.getfield 9, 3) := by decide +kernel
theorem dJ0_length_8abf5_4 : decode cJ0_length_8abf5 4 = .ok (.arraylength, 1) := by decide +kernel
theorem dJ0_length_8abf5_5 : decode cJ0_length_8abf5 5 = .ok (.aload_n 0, 1) := by decide +kernel
theorem dJ0_length_8abf5_6 : decode cJ0_length_8abf5 6 = .ok (.invokevirtual 335, 3) := by decide +kernel
theorem dJ0_length_8abf5_9 : decode cJ0_length_8abf5 9 = .ok (.ishr, 1) := by decide +kernel
theorem dJ0_length_8abf5_10 : decode cJ0_length_8abf5 10 = .ok (.ireturn, 1) := by decide +kernel
def f_J0_length_8abf5 (h : Hp) (a0 : Nat) : Option (Int32 × Hp) :=
gd (decide (a0 < 4)) <|
gd (decide (a0 < 4)) <|
gd (decide (a0 < 4)) <|
bnd (f_J0_coder_7d493 h a0) fun v4 h5 =>
some ((Int32.ofNat (strL.getD a0 0)) >>> (v4 &&& 31), h5)
set_option maxHeartbeats 4000000 in
set_option maxRecDepth 100000 in
theorem t_J0_length_8abf5 {X : Cx} {d : Nat} {h : Hp} {a0 : Nat} {v : Int32} {h' : Hp} (hD : 2 ≤ d) (H : f_J0_length_8abf5 h a0 = some (v, h')) : PM X mJ0_length_8abf5 d [.float (UInt32.ofNat a0)] h (some (.int v)) h' := by
  unfold f_J0_length_8abf5 at H
  refine PM.of (loc := [some (.float (UInt32.ofNat a0))]) (by decide) rfl (Nat.le_of_ble_eq_true rfl) ?_
  refine ev_aload_n dJ0_length_8abf5_0 rfl rfl rfl ?_
  replace H := gd_some H
  obtain ⟨g1, H⟩ := H
  refine ev_sVal dJ0_length_8abf5_1 (of_decide_eq_true g1) k6_115 ?_
  replace H := gd_some H
  obtain ⟨g2, H⟩ := H
  refine ev_sLen dJ0_length_8abf5_4 (of_decide_eq_true g2) ?_
  refine ev_aload_n dJ0_length_8abf5_5 rfl rfl rfl ?_
  replace H := gd_some H
  obtain ⟨g3, H⟩ := H
  replace H := bnd_some H
  obtain ⟨v4, h5, eh5, H⟩ := H
  have ph5 := (t_J0_coder_7d493 (X := X) (d := 1) (by omega) eh5)
  refine ev_callStr (as := []) dJ0_length_8abf5_6 ph5 ok_J0_coder_7d493 (by omega) rfl k4_12 k4_13 k4_14 (of_decide_eq_true g3) rfl rfl (Nat.le_of_ble_eq_true rfl) ?_
  refine ev_ishr dJ0_length_8abf5_9 ?_
  exact ev_iretx dJ0_length_8abf5_10 rfl rfl H

theorem dJ0_isLatin1_aae02_0 : decode cJ0_isLatin1_aae02 0 = .ok (.getstatic 38, 3) := by decide +kernel
theorem dJ0_isLatin1_aae02_3 : decode cJ0_isLatin1_aae02 3 = .ok (.ifCond .eq 14, 3) := by decide +kernel
theorem dJ0_isLatin1_aae02_6 : decode cJ0_isLatin1_aae02 6 = .ok (.aload_n 0, 1) := by decide +kernel
theorem dJ0_isLatin1_aae02_7 : decode cJ0_isLatin1_aae02 7 = .ok (.getfield 15, 3) := by decide +kernel
theorem dJ0_isLatin1_aae02_10 : decode cJ0_isLatin1_aae02 10 = .ok (.ifCond .ne 7, 3) := by decide +kernel
theorem dJ0_isLatin1_aae02_13 : decode cJ0_isLatin1_aae02 13 = .ok (.iconst 1, 1) := by decide +kernel
theorem dJ0_isLatin1_aae02_14 : decode cJ0_isLatin1_aae02 14 = .ok (.goto 4, 3) := by decide +kernel
theorem dJ0_isLatin1_aae02_17 : decode cJ0_isLatin1_aae02 17 = .ok (.iconst 0, 1) := by decide +kernel
theorem dJ0_isLatin1_aae02_18 : decode cJ0_isLatin1_aae02 18 = .ok (.ireturn, 1) := by decide +kernel
def f_J0_isLatin1_aae02 (h : Hp) (a0 : Nat) : Option (Int32 × Hp) :=
if (1 : Int32) = 0 then (
some ((0 : Int32), h)) else (
gd (decide (a0 < 4)) <|
if (0 : Int32) = 0 then (
some ((1 : Int32), h)) else (
some ((0 : Int32), h)))
set_option maxHeartbeats 4000000 in
set_option maxRecDepth 100000 in
theorem t_J0_isLatin1_aae02 {X : Cx} {d : Nat} {h : Hp} {a0 : Nat} {v : Int32} {h' : Hp} (hD : 1 ≤ d) (H : f_J0_isLatin1_aae02 h a0 = some (v, h')) : PM X mJ0_isLatin1_aae02 d [.float (UInt32.ofNat a0)] h (some (.int v)) h' := by
  unfold f_J0_isLatin1_aae02 at H
  refine PM.of (loc := [some (.float (UInt32.ofNat a0))]) (by decide) rfl (Nat.le_of_ble_eq_true rfl) ?_
  refine ev_gsC dJ0_isLatin1_aae02_0 k4_16 ?_
  refine ev_if_eq (tgt := 17) dJ0_isLatin1_aae02_3 (by decide) (fun c1 => ?_) (fun c1 => ?_)
  · rw [if_pos c1] at H
    refine ev_iconst (v := (0 : Int32)) dJ0_isLatin1_aae02_17 (by decide) ?_
    exact ev_iretx dJ0_isLatin1_aae02_18 rfl rfl H
  · rw [if_neg c1] at H
    refine ev_aload_n dJ0_isLatin1_aae02_6 rfl rfl rfl ?_
    replace H := gd_some H
    obtain ⟨g2, H⟩ := H
    refine ev_sCod dJ0_isLatin1_aae02_7 (of_decide_eq_true g2) k6_116 ?_
    refine ev_if_ne (tgt := 17) dJ0_isLatin1_aae02_10 (by decide) (fun c3 => ?_) (fun c3 => ?_)
    · rw [if_neg c3] at H
      refine ev_iconst (v := (0 : Int32)) dJ0_isLatin1_aae02_17 (by decide) ?_
      exact ev_iretx dJ0_isLatin1_aae02_18 rfl rfl H
    · rw [if_pos c3] at H
      refine ev_iconst (v := (1 : Int32)) dJ0_isLatin1_aae02_13 (by decide) ?_
      refine ev_goto (tgt := 18) dJ0_isLatin1_aae02_14 (by decide) ?_
      exact ev_iretx dJ0_isLatin1_aae02_18 rfl rfl H

theorem dJ3_checkIndex_8e157_0 : decode cJ3_checkIndex_8e157 0 = .ok (.iload_n 0, 1) := by decide +kernel
theorem dJ3_checkIndex_8e157_1 : decode cJ3_checkIndex_8e157 1 = .ok (.ifCond .lt 8, 3) := by decide +kernel
theorem dJ3_checkIndex_8e157_4 : decode cJ3_checkIndex_8e157 4 = .ok (.iload_n 0, 1) := by decide +kernel
theorem dJ3_checkIndex_8e157_5 : decode cJ3_checkIndex_8e157 5 = .ok (.iload_n 1, 1) := by decide +kernel
theorem dJ3_checkIndex_8e157_6 : decode cJ3_checkIndex_8e157 6 = .ok (.if_icmp .lt 10, 3) := by decide +kernel
theorem dJ3_checkIndex_8e157_9 : decode cJ3_checkIndex_8e157 9 = .ok (.aload_n 2, 1) := by decide +kernel
theorem dJ3_checkIndex_8e157_10 : decode cJ3_checkIndex_8e157 10 = .ok (.iload_n 0, 1) := by decide +kernel
theorem dJ3_checkIndex_8e157_11 : decode cJ3_checkIndex_8e157 11 = .ok (.iload_n 1, 1) := by decide +kernel
theorem dJ3_checkIndex_8e157_12 : decode cJ3_checkIndex_8e157 12 = .ok (.invokestatic 95, 3) := by decide +kernel
theorem dJ3_checkIndex_8e157_15 : decode cJ3_checkIndex_8e157 15 = .ok (.athrow, 1) := by decide +kernel
theorem dJ3_checkIndex_8e157_16 : decode cJ3_checkIndex_8e157 16 = .ok (.iload_n 0, 1) := by decide +kernel
theorem dJ3_checkIndex_8e157_17 : decode cJ3_checkIndex_8e157 17 = .ok (.ireturn, 1) := by decide +kernel
def f_J3_checkIndex_8e157 (h : Hp) (a0 : Int32) (a1 : Int32) (a2 : Unit) : Option (Int32 × Hp) :=
if a0 < 0 then (
none) else (
if a0 < a1 then (
some (a0, h)) else (
none))
set_option maxHeartbeats 4000000 in
set_option maxRecDepth 100000 in
theorem t_J3_checkIndex_8e157 {X : Cx} {d : Nat} {h : Hp} {a0 : Int32} {a1 : Int32} {a2 : Unit} {v : Int32} {h' : Hp} (hD : 1 ≤ d) (H : f_J3_checkIndex_8e157 h a0 a1 a2 = some (v, h')) : PM X mJ3_checkIndex_8e157 d [.int a0, .int a1, .retAddr 1] h (some (.int v)) h' := by
  unfold f_J3_checkIndex_8e157 at H
  refine PM.of (loc := [some (.int a0), some (.int a1), some (.retAddr 1)]) (by decide) rfl (Nat.le_of_ble_eq_true rfl) ?_
  refine ev_iload_n dJ3_checkIndex_8e157_0 rfl rfl ?_
  refine ev_if_lt (tgt := 9) dJ3_checkIndex_8e157_1 (by decide) (fun c1 => ?_) (fun c1 => ?_)
  · rw [if_pos c1] at H
    cases H
  · rw [if_neg c1] at H
    refine ev_iload_n dJ3_checkIndex_8e157_4 rfl rfl ?_
    refine ev_iload_n dJ3_checkIndex_8e157_5 rfl rfl ?_
    refine ev_icmp_lt (tgt := 16) dJ3_checkIndex_8e157_6 (by decide) (fun c2 => ?_) (fun c2 => ?_)
    · rw [if_pos c2] at H
      refine ev_iload_n dJ3_checkIndex_8e157_16 rfl rfl ?_
      exact ev_iretx dJ3_checkIndex_8e157_17 rfl rfl H
    · rw [if_neg c2] at H
      cases H

theorem dJ0_checkIndex_df160_0 : decode cJ0_checkIndex_df160 0 = .ok (.iload_n 0, 1) := by decide +kernel
theorem dJ0_checkIndex_df160_1 : decode cJ0_checkIndex_df160 1 = .ok (.iload_n 1, 1) := by decide +kernel
theorem dJ0_checkIndex_df160_2 : decode cJ0_checkIndex_df160 2 = .ok (.getstatic 1053, 3) := by decide +kernel
theorem dJ0_checkIndex_df160_5 : decode cJ0_checkIndex_df160 5 = .ok (.invokestatic 1059, 3) := by decide +kernel
theorem dJ0_checkIndex_df160_8 : decode cJ0_checkIndex_df160 8 = .ok (.pop, 1) := by decide +kernel
theorem dJ0_checkIndex_df160_9 : decode cJ0_checkIndex_df160 9 = .ok (.return_, 1) := by decide +kernel
def f_J0_checkIndex_df160 (h : Hp) (a0 : Int32) (a1 : Int32) : Option (Unit × Hp) :=
bnd (f_J3_checkIndex_8e157 h a0 a1 ()) fun v1 h2 =>
some ((), h2)
set_option maxHeartbeats 4000000 in
set_option maxRecDepth 100000 in
theorem t_J0_checkIndex_df160 {X : Cx} {d : Nat} {h : Hp} {a0 : Int32} {a1 : Int32} {v : Unit} {h' : Hp} (hD : 2 ≤ d) (H : f_J0_checkIndex_df160 h a0 a1 = some (v, h')) : PM X mJ0_checkIndex_df160 d [.int a0, .int a1] h (none) h' := by
  unfold f_J0_checkIndex_df160 at H
  refine PM.of (loc := [some (.int a0), some (.int a1)]) (by decide) rfl (Nat.le_of_ble_eq_true rfl) ?_
  refine ev_iload_n dJ0_checkIndex_df160_0 rfl rfl ?_
  refine ev_iload_n dJ0_checkIndex_df160_1 rfl rfl ?_
  refine ev_gsF dJ0_checkIndex_df160_2 k4_33 ?_
  replace H := bnd_some H
  obtain ⟨v1, h2, eh2, H⟩ := H
  have ph2 := (t_J3_checkIndex_8e157 (X := X) (d := 1) (by omega) eh2)
  refine ev_callS (as := [.int a0, .int a1, .retAddr 1]) dJ0_checkIndex_df160_5 ph2 ok_J3_checkIndex_8e157 (by omega) rfl k4_35 k4_36 rfl (Nat.le_of_ble_eq_true rfl) ?_
  refine ev_pop dJ0_checkIndex_df160_8 rfl ?_
  exact ev_vretx dJ0_checkIndex_df160_9 rfl H

theorem dJ1_charAt_3b067_0 : decode cJ1_charAt_3b067 0 = .ok (.iload_n 1, 1) := by decide +kernel
theorem dJ1_charAt_3b067_1 : decode cJ1_charAt_3b067 1 = .ok (.aload_n 0, 1) := by decide +kernel
theorem dJ1_charAt_3b067_2 : decode cJ1_charAt_3b067 2 = .ok (.arraylength, 1) := by decide +kernel
theorem dJ1_charAt_3b067_3 : decode cJ1_charAt_3b067 3 = .ok (.invokestatic 9, 3) := by decide +kernel
theorem dJ1_charAt_3b067_6 : decode cJ1_charAt_3b067 6 = .ok (.aload_n 0, 1) := by decide +kernel
theorem dJ1_charAt_3b067_7 : decode cJ1_charAt_3b067 7 = .ok (.iload_n 1, 1) := by decide +kernel
theorem dJ1_charAt_3b067_8 : decode cJ1_charAt_3b067 8 = .ok (.baload, 1) := by decide +kernel
theorem dJ1_charAt_3b067_9 : decode cJ1_charAt_3b067 9 = .ok (.sipush 255, 3) := by decide +kernel
theorem dJ1_charAt_3b067_12 : decode cJ1_charAt_3b067 12 = .ok (.iand, 1) := by decide +kernel
theorem dJ1_charAt_3b067_13 : decode cJ1_charAt_3b067 13 = .ok (.i2c, 1) := by decide +kernel
theorem dJ1_charAt_3b067_14 : decode cJ1_charAt_3b067 14 = .ok (.ireturn, 1) := by decide +kernel
def f_J1_charAt_3b067 (h : Hp) (a0 : Nat) (a1 : Int32) : Option (Int32 × Hp) :=
gd (decide (a0 < 4)) <|
bnd (f_J0_checkIndex_df160 h a1 (Int32.ofNat (strL.getD a0 0))) fun u2 h3 =>
gd (okS a0 a1) <|
gd (chOk (((((strB.getD a0 []).getD a1.toNatClampNeg 0) &&& (255 : Int32)).toUInt32 % 65536).toInt32)) <|
some (((((strB.getD a0 []).getD a1.toNatClampNeg 0) &&& (255 : Int32)).toUInt32 % 65536).toInt32, h3)
set_option maxHeartbeats 4000000 in
set_option maxRecDepth 100000 in
theorem t_J1_charAt_3b067 {X : Cx} {d : Nat} {h : Hp} {a0 : Nat} {a1 : Int32} {v : Int32} {h' : Hp} (hD : 3 ≤ d) (H : f_J1_charAt_3b067 h a0 a1 = some (v, h')) : PM X mJ1_charAt_3b067 d [.float (UInt32.ofNat (4 + a0)), .int a1] h (some (.int v)) h' := by
  unfold f_J1_charAt_3b067 at H
  refine PM.of (loc := [some (.float (UInt32.ofNat (4 + a0))), some (.int a1)]) (by decide) rfl (Nat.le_of_ble_eq_true rfl) ?_
  refine ev_iload_n dJ1_charAt_3b067_0 rfl rfl ?_
  refine ev_aload_n dJ1_charAt_3b067_1 rfl rfl rfl ?_
  replace H := gd_some H
  obtain ⟨g1, H⟩ := H
  refine ev_sLen dJ1_charAt_3b067_2 (of_decide_eq_true g1) ?_
  replace H := bnd_some H
  obtain ⟨u2, h3, eh3, H⟩ := H
  have ph3 := (t_J0_checkIndex_df160 (X := X) (d := 2) (by omega) eh3)
  refine ev_callS (as := [.int a1, .int (Int32.ofNat (strL.getD a0 0))]) dJ1_charAt_3b067_3 ph3 ok_J0_checkIndex_df160 (by omega) rfl k4_30 k4_31 rfl (Nat.le_of_ble_eq_true rfl) ?_
  refine ev_aload_n dJ1_charAt_3b067_6 rfl rfl rfl ?_
  refine ev_iload_n dJ1_charAt_3b067_7 rfl rfl ?_
  replace H := gd_some H
  obtain ⟨g4, H⟩ := H
  refine ev_sBal dJ1_charAt_3b067_8 (okS.p g4) ?_
  refine ev_sipush (v := (255 : Int32)) dJ1_charAt_3b067_9 (by decide) ?_
  refine ev_iand dJ1_charAt_3b067_12 ?_
  refine ev_i2c dJ1_charAt_3b067_13 rfl ?_
  replace H := gd_some H
  obtain ⟨g5, H⟩ := H
  exact ev_iretx dJ1_charAt_3b067_14 rfl (of_decide_eq_true g5) H

theorem dJ0_charAt_5068e_0 : decode cJ0_charAt_5068e 0 = .ok (.aload_n 0, 1) := by decide +kernel
theorem dJ0_charAt_5068e_1 : decode cJ0_charAt_5068e 1 = .ok (.invokevirtual 492, 3) := by decide +kernel
theorem dJ0_charAt_5068e_4 : decode cJ0_charAt_5068e 4 = .ok (.ifCond .eq 12, 3) := by decide +kernel
theorem dJ0_charAt_5068e_7 : decode cJ0_charAt_5068e 7 = .ok (.aload_n 0, 1) := by decide +kernel
theorem dJ0_charAt_5068e_8 : decode cJ0_charAt_5068e 8 = .ok (.getfield 9, 3) := by decide +kernel
theorem dJ0_charAt_5068e_11 : decode cJ0_charAt_5068e 11 = .ok (.iload_n 1, 1) := by decide +kernel
theorem dJ0_charAt_5068e_12 : decode cJ0_charAt_5068e 12 = .ok (.invokestatic 495, 3) := by decide +kernel
theorem dJ0_charAt_5068e_15 : decode cJ0_charAt_5068e 15 = .ok (.ireturn, 1) := by decide +kernel
theorem dJ0_charAt_5068e_16 : decode cJ0_charAt_5068e 16 = .ok (.aload_n 0, 1) := by decide +kernel
theorem dJ0_charAt_5068e_17 : decode cJ0_charAt_5068e 17 = .ok (.getfield 9, 3) := by decide +kernel
theorem dJ0_charAt_5068e_20 : decode cJ0_charAt_5068e 20 = .ok (.iload_n 1, 1) := by decide +kernel
theorem dJ0_charAt_5068e_21 : decode cJ0_charAt_5068e 21 = .ok (.invokestatic 498, 3) := by decide +kernel
theorem dJ0_charAt_5068e_24 : decode cJ0_charAt_5068e 24 = .ok (.ireturn, 1) := by decide +kernel
def f_J0_charAt_5068e (h : Hp) (a0 : Nat) (a1 : Int32) : Option (Int32 × Hp) :=
gd (decide (a0 < 4)) <|
bnd (f_J0_isLatin1_aae02 h a0) fun v2 h3 =>
if v2 = 0 then (
gd (decide (a0 < 4)) <|
none) else (
gd (decide (a0 < 4)) <|
bnd (f_J1_charAt_3b067 h3 a0 a1) fun v7 h8 =>
gd (chOk v7) <|
some (v7, h8))
set_option maxHeartbeats 4000000 in
set_option maxRecDepth 100000 in
theorem t_J0_charAt_5068e {X : Cx} {d : Nat} {h : Hp} {a0 : Nat} {a1 : Int32} {v : Int32} {h' : Hp} (hD : 4 ≤ d) (H : f_J0_charAt_5068e h a0 a1 = some (v, h')) : PM X mJ0_charAt_5068e d [.float (UInt32.ofNat a0), .int a1] h (some (.int v)) h' := by
  unfold f_J0_charAt_5068e at H
  refine PM.of (loc := [some (.float (UInt32.ofNat a0)), some (.int a1)]) (by decide) rfl (Nat.le_of_ble_eq_true rfl) ?_
  refine ev_aload_n dJ0_charAt_5068e_0 rfl rfl rfl ?_
  replace H := gd_some H
  obtain ⟨g1, H⟩ := H
  replace H := bnd_some H
  obtain ⟨v2, h3, eh3, H⟩ := H
  have ph3 := (t_J0_isLatin1_aae02 (X := X) (d := 1) (by omega) eh3)
  refine ev_callStr (as := []) dJ0_charAt_5068e_1 ph3 ok_J0_isLatin1_aae02 (by omega) rfl k4_23 k4_24 k4_25 (of_decide_eq_true g1) rfl rfl (Nat.le_of_ble_eq_true rfl) ?_
  refine ev_if_eq (tgt := 16) dJ0_charAt_5068e_4 (by decide) (fun c4 => ?_) (fun c4 => ?_)
  · rw [if_pos c4] at H
    refine ev_aload_n dJ0_charAt_5068e_16 rfl rfl rfl ?_
    replace H := gd_some H
    obtain ⟨g5, H⟩ := H
    refine ev_sVal dJ0_charAt_5068e_17 (of_decide_eq_true g5) k6_115 ?_
    refine ev_iload_n dJ0_charAt_5068e_20 rfl rfl ?_
    cases H
  · rw [if_neg c4] at H
    refine ev_aload_n dJ0_charAt_5068e_7 rfl rfl rfl ?_
    replace H := gd_some H
    obtain ⟨g6, H⟩ := H
    refine ev_sVal dJ0_charAt_5068e_8 (of_decide_eq_true g6) k6_115 ?_
    refine ev_iload_n dJ0_charAt_5068e_11 rfl rfl ?_
    replace H := bnd_some H
    obtain ⟨v7, h8, eh8, H⟩ := H
    have ph8 := (t_J1_charAt_3b067 (X := X) (d := 3) (by omega) eh8)
    refine ev_callS (as := [.float (UInt32.ofNat (4 + a0)), .int a1]) dJ0_charAt_5068e_12 ph8 ok_J1_charAt_3b067 (by omega) rfl k4_27 k4_28 rfl (Nat.le_of_ble_eq_true rfl) ?_
    replace H := gd_some H
    obtain ⟨g9, H⟩ := H
    exact ev_iretx dJ0_charAt_5068e_15 rfl (of_decide_eq_true g9) H

theorem dX3_total_0 : decode cX3_total 0 = .ok (.iconst 0, 1) := by decide +kernel
theorem dX3_total_1 : decode cX3_total 1 = .ok (.istore_n 2, 1) := by decide +kernel
theorem dX3_total_2 : decode cX3_total 2 = .ok (.aload_n 1, 1) := by decide +kernel
theorem dX3_total_3 : decode cX3_total 3 = .ok (.astore_n 3, 1) := by decide +kernel
theorem dX3_total_4 : decode cX3_total 4 = .ok (.aload_n 3, 1) := by decide +kernel
theorem dX3_total_5 : decode cX3_total 5 = .ok (.arraylength, 1) := by decide +kernel
theorem dX3_total_6 : decode cX3_total 6 = .ok (.istore 4, 2) := by decide +kernel
theorem dX3_total_8 : decode cX3_total 8 = .ok (.iconst 0, 1) := by decide +kernel
theorem dX3_total_9 : decode cX3_total 9 = .ok (.istore 5, 2) := by decide +kernel
theorem dX3_total_11 : decode cX3_total 11 = .ok (.iload 5, 2) := by decide +kernel
theorem dX3_total_13 : decode cX3_total 13 = .ok (.iload 4, 2) := by decide +kernel
theorem dX3_total_15 : decode cX3_total 15 = .ok (.if_icmp .ge 20, 3) := by decide +kernel
theorem dX3_total_18 : decode cX3_total 18 = .ok (.aload_n 3, 1) := by decide +kernel
theorem dX3_total_19 : decode cX3_total 19 = .ok (.iload 5, 2) := by decide +kernel
theorem dX3_total_21 : decode cX3_total 21 = .ok (.iaload, 1) := by decide +kernel
theorem dX3_total_22 : decode cX3_total 22 = .ok (.istore 6, 2) := by decide +kernel
theorem dX3_total_24 : decode cX3_total 24 = .ok (.iload_n 2, 1) := by decide +kernel
theorem dX3_total_25 : decode cX3_total 25 = .ok (.iload 6, 2) := by decide +kernel
theorem dX3_total_27 : decode cX3_total 27 = .ok (.iadd, 1) := by decide +kernel
theorem dX3_total_28 : decode cX3_total 28 = .ok (.istore_n 2, 1) := by decide +kernel
theorem dX3_total_29 : decode cX3_total 29 = .ok (.iinc 5 1, 3) := by decide +kernel
theorem dX3_total_32 : decode cX3_total 32 = .ok (.goto (-21), 3) := by decide +kernel
theorem dX3_total_35 : decode cX3_total 35 = .ok (.iload_n 2, 1) := by decide +kernel
theorem dX3_total_36 : decode cX3_total 36 = .ok (.ireturn, 1) := by decide +kernel
def f_X3_total_L11 : Nat → Nat → Nat → Int32 → Nat → Int32 → Int32 → Hp → Option (Int32 × Hp)
  | 0, _, _, _, _, _, _, _ => none
  | n + 1, l0, l1, l2, l3, l4, l5, h =>
    if l4 ≤ l5 then (
    some (l2, h)) else (
    gd (okAb h l3 11 l5) <|
    vl (gI h l3 l5.toNatClampNeg) fun x5 =>
    vl (l2 + x5) fun x6 =>
    vl (l5 + (1 : Int32)) fun x7 =>
    f_X3_total_L11 n l0 l1 x6 l3 l4 x7 h)
set_option maxHeartbeats 4000000 in
set_option maxRecDepth 100000 in
theorem t_X3_total_L11 {X : Cx} {d : Nat} {h0 h' : Hp} {v : Int32} (hD : 1 ≤ d) : ∀ (n : Nat) (l0 : Nat) (l1 : Nat) (l2 : Int32) (l3 : Nat) (l4 : Int32) (l5 : Int32) (h : Hp), f_X3_total_L11 n l0 l1 l2 l3 l4 l5 h = some (v, h') → EV X mX3_total d h0 (some (.int v)) h' 11 [some (.ref l0), some (.ref l1), some (.int l2), some (.ref l3), some (.int l4), some (.int l5), none] [] h := by
  intro n
  induction n with
  | zero => intro l0 l1 l2 l3 l4 l5 h H; simp [f_X3_total_L11] at H
  | succ n ih =>
    intro l0 l1 l2 l3 l4 l5 h H
    rw [f_X3_total_L11] at H
    refine ev_iload dX3_total_11 rfl ?_
    refine ev_iload dX3_total_13 rfl ?_
    refine ev_icmp_ge (tgt := 35) dX3_total_15 (by decide) (fun c3 => ?_) (fun c3 => ?_)
    · rw [if_pos c3] at H
      refine ev_iload_n dX3_total_35 rfl rfl ?_
      exact ev_iretx dX3_total_36 rfl rfl H
    · rw [if_neg c3] at H
      refine ev_aload_n dX3_total_18 rfl rfl rfl ?_
      refine ev_iload dX3_total_19 rfl ?_
      replace H := gd_some H
      obtain ⟨g4, H⟩ := H
      replace H := vl_some H
      obtain ⟨x5, ex5, H⟩ := H
      refine ev_ialdx dX3_total_21 (okAb.p g4) ex5 ?_
      refine ev_istore (loc2 := [some (.ref l0), some (.ref l1), some (.int l2), some (.ref l3), some (.int l4), some (.int l5), some (.int x5)]) dX3_total_22 (by decide) rfl ?_
      refine ev_iload_n dX3_total_24 rfl rfl ?_
      refine ev_iload dX3_total_25 rfl ?_
      refine ev_iadd dX3_total_27 ?_
      replace H := vl_some H
      obtain ⟨x6, ex6, H⟩ := H
      refine ev_istore_nx (loc2 := [some (.ref l0), some (.ref l1), some (.int x6), some (.ref l3), some (.int l4), some (.int l5), some (.int x5)]) dX3_total_28 rfl (by decide) ex6 rfl ?_
      replace H := vl_some H
      obtain ⟨x7, ex7, H⟩ := H
      refine ev_iincx (loc2 := [some (.ref l0), some (.ref l1), some (.int x6), some (.ref l3), some (.int l4), some (.int x7), some (.int x5)]) dX3_total_29 rfl (by decide) ex7 (by decide) rfl ?_
      refine ev_goto (tgt := 11) dX3_total_32 (by decide) ?_
      refine ev_drop (loc2 := [some (.ref l0), some (.ref l1), some (.int x6), some (.ref l3), some (.int l4), some (.int x7), none]) [true, true, true, true, true, true, false] rfl ?_
      exact ih l0 l1 x6 l3 l4 x7 h H
def f_X3_total (h : Hp) (a0 : Nat) (a1 : Nat) : Option (Int32 × Hp) :=
gd (okOb h a1 11) <|
vl (Int32.ofNat (gL h a1)) fun x2 =>
f_X3_total_L11 6000 a0 a1 (0 : Int32) a1 x2 (0 : Int32) h
set_option maxHeartbeats 4000000 in
set_option maxRecDepth 100000 in
theorem t_X3_total {X : Cx} {d : Nat} {h : Hp} {a0 : Nat} {a1 : Nat} {v : Int32} {h' : Hp} (hD : 1 ≤ d) (H : f_X3_total h a0 a1 = some (v, h')) : PM X mX3_total d [.ref a0, .ref a1] h (some (.int v)) h' := by
  unfold f_X3_total at H
  refine PM.of (loc := [some (.ref a0), some (.ref a1), none, none, none, none, none]) (by decide) rfl (Nat.le_of_ble_eq_true rfl) ?_
  refine ev_iconst (v := (0 : Int32)) dX3_total_0 (by decide) ?_
  refine ev_istore_n (loc2 := [some (.ref a0), some (.ref a1), some (.int (0 : Int32)), none, none, none, none]) dX3_total_1 rfl (by decide) rfl ?_
  refine ev_aload_n dX3_total_2 rfl rfl rfl ?_
  refine ev_astore_n (loc2 := [some (.ref a0), some (.ref a1), some (.int (0 : Int32)), some (.ref a1), none, none, none]) dX3_total_3 rfl (by decide) rfl rfl ?_
  refine ev_aload_n dX3_total_4 rfl rfl rfl ?_
  replace H := gd_some H
  obtain ⟨g1, H⟩ := H
  refine ev_alen (kd := 11) (t0 := 0) dX3_total_5 (by decide) (fun _ => rfl) (okOb.p g1) ?_
  replace H := vl_some H
  obtain ⟨x2, ex2, H⟩ := H
  refine ev_istorex (loc2 := [some (.ref a0), some (.ref a1), some (.int (0 : Int32)), some (.ref a1), some (.int x2), none, none]) dX3_total_6 (by decide) ex2 rfl ?_
  refine ev_iconst (v := (0 : Int32)) dX3_total_8 (by decide) ?_
  refine ev_istore (loc2 := [some (.ref a0), some (.ref a1), some (.int (0 : Int32)), some (.ref a1), some (.int x2), some (.int (0 : Int32)), none]) dX3_total_9 (by decide) rfl ?_
  refine t_X3_total_L11 hD  6000 a0 a1 (0 : Int32) a1 x2 (0 : Int32) h H
