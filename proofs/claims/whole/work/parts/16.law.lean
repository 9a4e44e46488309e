theorem dX5_init_0 : decode cX5_init 0 = .ok (.aload_n 0, 1) := by decide +kernel
theorem dX5_init_1 : decode cX5_init 1 = .ok (.invokespecial 3, 3) := by decide +kernel
theorem dX5_init_4 : decode cX5_init 4 = .ok (.aload_n 0, 1) := by decide +kernel
theorem dX5_init_5 : decode cX5_init 5 = .ok (.iconst 4, 1) := by decide +kernel
theorem dX5_init_6 : decode cX5_init 6 = .ok (.newarray .int, 2) := by decide +kernel
theorem dX5_init_8 : decode cX5_init 8 = .ok (.putfield 9, 3) := by decide +kernel
theorem dX5_init_11 : decode cX5_init 11 = .ok (.aload_n 0, 1) := by decide +kernel
theorem dX5_init_12 : decode cX5_init 12 = .ok (.iconst 4, 1) := by decide +kernel
theorem dX5_init_13 : decode cX5_init 13 = .ok (.newarray .int, 2) := by decide +kernel
theorem dX5_init_15 : decode cX5_init 15 = .ok (.putfield 15, 3) := by decide +kernel
theorem dX5_init_18 : decode cX5_init 18 = .ok (.aload_n 0, 1) := by decide +kernel
theorem dX5_init_19 : decode cX5_init 19 = .ok (.iconst 4, 1) := by decide +kernel
theorem dX5_init_20 : decode cX5_init 20 = .ok (.newarray .int, 2) := by decide +kernel
theorem dX5_init_22 : decode cX5_init 22 = .ok (.putfield 18, 3) := by decide +kernel
theorem dX5_init_25 : decode cX5_init 25 = .ok (.aload_n 0, 1) := by decide +kernel
theorem dX5_init_26 : decode cX5_init 26 = .ok (.iconst 4, 1) := by decide +kernel
theorem dX5_init_27 : decode cX5_init 27 = .ok (.newarray .int, 2) := by decide +kernel
theorem dX5_init_29 : decode cX5_init 29 = .ok (.putfield 21, 3) := by decide +kernel
theorem dX5_init_32 : decode cX5_init 32 = .ok (.aload_n 0, 1) := by decide +kernel
theorem dX5_init_33 : decode cX5_init 33 = .ok (.getfield 15, 3) := by decide +kernel
theorem dX5_init_36 : decode cX5_init 36 = .ok (.iconst 1, 1) := by decide +kernel
theorem dX5_init_37 : decode cX5_init 37 = .ok (.invokestatic 24, 3) := by decide +kernel
theorem dX5_init_40 : decode cX5_init 40 = .ok (.return_, 1) := by decide +kernel
def f_X5_init (h : Hp) (a0 : Nat) : Option (Unit × Hp) :=
vl (gN h) fun b1 =>
vl (nw h 11 (4 : Int32).toNatClampNeg (4 : Int32).toNatClampNeg) fun h2 =>
gd (okOb h2 a0 5) <|
vl (sR h2 a0 0 (some b1)) fun h4 =>
vl (gN h4) fun b5 =>
vl (nw h4 11 (4 : Int32).toNatClampNeg (4 : Int32).toNatClampNeg) fun h6 =>
vl (sR h6 a0 1 (some b5)) fun h7 =>
vl (gN h7) fun b8 =>
vl (nw h7 11 (4 : Int32).toNatClampNeg (4 : Int32).toNatClampNeg) fun h9 =>
vl (sR h9 a0 2 (some b8)) fun h10 =>
vl (gN h10) fun b11 =>
vl (nw h10 11 (4 : Int32).toNatClampNeg (4 : Int32).toNatClampNeg) fun h12 =>
vl (sR h12 a0 3 (some b11)) fun h13 =>
vl (gR h13 a0 1) fun r14 =>
un r14 fun b15 =>
bnd (f_J7_fill_53178 h13 b15 (1 : Int32)) fun u16 h17 =>
some ((), h17)
set_option maxHeartbeats 4000000 in
set_option maxRecDepth 100000 in
theorem t_X5_init {X : Cx} {d : Nat} {h : Hp} {a0 : Nat} {v : Unit} {h' : Hp} (hD : 2 ≤ d) (H : f_X5_init h a0 = some (v, h')) : PM X mX5_init d [.ref a0] h (none) h' := by
  unfold f_X5_init at H
  refine PM.of (loc := [some (.ref a0)]) (by decide) rfl (Nat.le_of_ble_eq_true rfl) ?_
  refine ev_aload_n dX5_init_0 rfl rfl rfl ?_
  refine ev_obj dX5_init_1 ⟨_, rfl⟩ k1_113 k1_26 k1_27 (by omega) (Nat.le_of_ble_eq_true rfl) ?_
  refine ev_aload_n dX5_init_4 rfl rfl rfl ?_
  refine ev_iconst (v := (4 : Int32)) dX5_init_5 (by decide) ?_
  replace H := vl_some H
  obtain ⟨b1, eb1, H⟩ := H
  replace H := vl_some H
  obtain ⟨h2, eh2, H⟩ := H
  refine ev_newaIx dX5_init_6 k1_44 (okN.p (by decide)) rfl eb1 eh2 ?_
  replace H := gd_some H
  obtain ⟨g3, H⟩ := H
  replace H := vl_some H
  obtain ⟨h4, eh4, H⟩ := H
  refine ev_putRF (x := (some b1)) dX5_init_8 fdX5_9 rfl (Or.inr ⟨_, rfl⟩) rfl (okOb.p g3) eh4 ?_
  refine ev_aload_n dX5_init_11 rfl rfl rfl ?_
  refine ev_iconst (v := (4 : Int32)) dX5_init_12 (by decide) ?_
  replace H := vl_some H
  obtain ⟨b5, eb5, H⟩ := H
  replace H := vl_some H
  obtain ⟨h6, eh6, H⟩ := H
  refine ev_newaIx dX5_init_13 k1_44 (okN.p (by decide)) rfl eb5 eh6 ?_
  replace H := vl_some H
  obtain ⟨h7, eh7, H⟩ := H
  refine ev_putRF (x := (some b5)) dX5_init_15 fdX5_15 rfl (Or.inr ⟨_, rfl⟩) rfl (okO_nw eh6 (okO_sR eh4 (okOb.p g3))) eh7 ?_
  refine ev_aload_n dX5_init_18 rfl rfl rfl ?_
  refine ev_iconst (v := (4 : Int32)) dX5_init_19 (by decide) ?_
  replace H := vl_some H
  obtain ⟨b8, eb8, H⟩ := H
  replace H := vl_some H
  obtain ⟨h9, eh9, H⟩ := H
  refine ev_newaIx dX5_init_20 k1_44 (okN.p (by decide)) rfl eb8 eh9 ?_
  replace H := vl_some H
  obtain ⟨h10, eh10, H⟩ := H
  refine ev_putRF (x := (some b8)) dX5_init_22 fdX5_18 rfl (Or.inr ⟨_, rfl⟩) rfl (okO_nw eh9 (okO_sR eh7 (okO_nw eh6 (okO_sR eh4 (okOb.p g3))))) eh10 ?_
  refine ev_aload_n dX5_init_25 rfl rfl rfl ?_
  refine ev_iconst (v := (4 : Int32)) dX5_init_26 (by decide) ?_
  replace H := vl_some H
  obtain ⟨b11, eb11, H⟩ := H
  replace H := vl_some H
  obtain ⟨h12, eh12, H⟩ := H
  refine ev_newaIx dX5_init_27 k1_44 (okN.p (by decide)) rfl eb11 eh12 ?_
  replace H := vl_some H
  obtain ⟨h13, eh13, H⟩ := H
  refine ev_putRF (x := (some b11)) dX5_init_29 fdX5_21 rfl (Or.inr ⟨_, rfl⟩) rfl (okO_nw eh12 (okO_sR eh10 (okO_nw eh9 (okO_sR eh7 (okO_nw eh6 (okO_sR eh4 (okOb.p g3))))))) eh13 ?_
  refine ev_aload_n dX5_init_32 rfl rfl rfl ?_
  replace H := vl_some H
  obtain ⟨r14, er14, H⟩ := H
  refine ev_getRx dX5_init_33 fgX5_15 rfl (okO_sR eh13 (okO_nw eh12 (okO_sR eh10 (okO_nw eh9 (okO_sR eh7 (okO_nw eh6 (okO_sR eh4 (okOb.p g3)))))))) er14 ?_
  refine ev_iconst (v := (1 : Int32)) dX5_init_36 (by decide) ?_
  replace H := un_some H
  obtain ⟨b15, eb15, H⟩ := H
  subst eb15
  replace H := bnd_some H
  obtain ⟨u16, h17, eh17, H⟩ := H
  have ph17 := (t_J7_fill_53178 (X := X) (d := 1) (by omega) eh17)
  refine ev_callS (as := [.ref b15, .int (1 : Int32)]) dX5_init_37 ph17 ok_J7_fill_53178 (by omega) rfl k1_114 k1_78 rfl (Nat.le_of_ble_eq_true rfl) ?_
  exact ev_vretx dX5_init_40 rfl H

theorem dX5_textOf_0 : decode cX5_textOf 0 = .ok (.iload_n 0, 1) := by decide +kernel
theorem dX5_textOf_1 : decode cX5_textOf 1 = .ok (.tableswitch 36 0 2 #[27, 30, 33], 27) := by decide +kernel
theorem dX5_textOf_28 : decode cX5_textOf 28 = .ok (.ldc 85, 2) := by decide +kernel
theorem dX5_textOf_30 : decode cX5_textOf 30 = .ok (.areturn, 1) := by decide +kernel
theorem dX5_textOf_31 : decode cX5_textOf 31 = .ok (.ldc 87, 2) := by decide +kernel
theorem dX5_textOf_33 : decode cX5_textOf 33 = .ok (.areturn, 1) := by decide +kernel
theorem dX5_textOf_34 : decode cX5_textOf 34 = .ok (.ldc 89, 2) := by decide +kernel
theorem dX5_textOf_36 : decode cX5_textOf 36 = .ok (.areturn, 1) := by decide +kernel
theorem dX5_textOf_37 : decode cX5_textOf 37 = .ok (.ldc 91, 2) := by decide +kernel
theorem dX5_textOf_39 : decode cX5_textOf 39 = .ok (.areturn, 1) := by decide +kernel
def f_X5_textOf (h : Hp) (a0 : Int32) : Option (Nat × Hp) :=
if a0 = (0 : Int32) then (
some (0, h)) else if a0 = (1 : Int32) then (
some (1, h)) else if a0 = (2 : Int32) then (
some (2, h)) else (
some (3, h))
set_option maxHeartbeats 4000000 in
set_option maxRecDepth 100000 in
theorem t_X5_textOf {X : Cx} {d : Nat} {h : Hp} {a0 : Int32} {v : Nat} {h' : Hp} (hD : 1 ≤ d) (H : f_X5_textOf h a0 = some (v, h')) : PM X mX5_textOf d [.int a0] h (some (.float (UInt32.ofNat v))) h' := by
  unfold f_X5_textOf at H
  refine PM.of (loc := [some (.int a0)]) (by decide) rfl (Nat.le_of_ble_eq_true rfl) ?_
  refine ev_iload_n dX5_textOf_0 rfl rfl ?_
  by_cases c1 : a0 = (0 : Int32)
  · rw [if_pos c1] at H
    refine ev_tsIn (tgt := 28) dX5_textOf_1 (by rw [c1]; decide) (by rw [c1]; decide) (by rw [c1]; rfl) (by decide) ?_
    refine ev_ldcS (i := 0) dX5_textOf_28 (by decide) rfl rfl ?_
    exact ev_aretS dX5_textOf_30 rfl (Or.inl ⟨_, rfl⟩) H
  rw [if_neg c1] at H
  by_cases c2 : a0 = (1 : Int32)
  · rw [if_pos c2] at H
    refine ev_tsIn (tgt := 31) dX5_textOf_1 (by rw [c2]; decide) (by rw [c2]; decide) (by rw [c2]; rfl) (by decide) ?_
    refine ev_ldcS (i := 1) dX5_textOf_31 (by decide) rfl rfl ?_
    exact ev_aretS dX5_textOf_33 rfl (Or.inl ⟨_, rfl⟩) H
  rw [if_neg c2] at H
  by_cases c3 : a0 = (2 : Int32)
  · rw [if_pos c3] at H
    refine ev_tsIn (tgt := 34) dX5_textOf_1 (by rw [c3]; decide) (by rw [c3]; decide) (by rw [c3]; rfl) (by decide) ?_
    refine ev_ldcS (i := 2) dX5_textOf_34 (by decide) rfl rfl ?_
    exact ev_aretS dX5_textOf_36 rfl (Or.inl ⟨_, rfl⟩) H
  rw [if_neg c3] at H
  refine ev_tsOut (tgt := 37) dX5_textOf_1 (ts_out (n := 3) (by decide) (by decide) (fun j hj => ?_)) (by decide) ?_
  · match j, hj with
    | 0, _ => exact fun q => c1 (by rw [q]; decide)
    | 1, _ => exact fun q => c2 (by rw [q]; decide)
    | 2, _ => exact fun q => c3 (by rw [q]; decide)
  refine ev_ldcS (i := 3) dX5_textOf_37 (by decide) rfl rfl ?_
  exact ev_aretS dX5_textOf_39 rfl (Or.inl ⟨_, rfl⟩) H

theorem dX5_sameAs_0 : decode cX5_sameAs 0 = .ok (.iconst 0, 1) := by decide +kernel
theorem dX5_sameAs_1 : decode cX5_sameAs 1 = .ok (.istore_n 3, 1) := by decide +kernel
theorem dX5_sameAs_2 : decode cX5_sameAs 2 = .ok (.iload_n 3, 1) := by decide +kernel
theorem dX5_sameAs_3 : decode cX5_sameAs 3 = .ok (.aload_n 2, 1) := by decide +kernel
theorem dX5_sameAs_4 : decode cX5_sameAs 4 = .ok (.invokevirtual 73, 3) := by decide +kernel
theorem dX5_sameAs_7 : decode cX5_sameAs 7 = .ok (.if_icmp .ge 29, 3) := by decide +kernel
theorem dX5_sameAs_10 : decode cX5_sameAs 10 = .ok (.aload_n 1, 1) := by decide +kernel
theorem dX5_sameAs_11 : decode cX5_sameAs 11 = .ok (.aload_n 0, 1) := by decide +kernel
theorem dX5_sameAs_12 : decode cX5_sameAs 12 = .ok (.getfield 30, 3) := by decide +kernel
theorem dX5_sameAs_15 : decode cX5_sameAs 15 = .ok (.iload_n 3, 1) := by decide +kernel
theorem dX5_sameAs_16 : decode cX5_sameAs 16 = .ok (.iadd, 1) := by decide +kernel
theorem dX5_sameAs_17 : decode cX5_sameAs 17 = .ok (.invokevirtual 61, 3) := by decide +kernel
theorem dX5_sameAs_20 : decode cX5_sameAs 20 = .ok (.aload_n 2, 1) := by decide +kernel
theorem dX5_sameAs_21 : decode cX5_sameAs 21 = .ok (.iload_n 3, 1) := by decide +kernel
theorem dX5_sameAs_22 : decode cX5_sameAs 22 = .ok (.invokevirtual 93, 3) := by decide +kernel
theorem dX5_sameAs_25 : decode cX5_sameAs 25 = .ok (.if_icmp .eq 5, 3) := by decide +kernel
theorem dX5_sameAs_28 : decode cX5_sameAs 28 = .ok (.iload_n 3, 1) := by decide +kernel
theorem dX5_sameAs_29 : decode cX5_sameAs 29 = .ok (.ireturn, 1) := by decide +kernel
theorem dX5_sameAs_30 : decode cX5_sameAs 30 = .ok (.iinc 3 1, 3) := by decide +kernel
theorem dX5_sameAs_33 : decode cX5_sameAs 33 = .ok (.goto (-31), 3) := by decide +kernel
theorem dX5_sameAs_36 : decode cX5_sameAs 36 = .ok (.aload_n 2, 1) := by decide +kernel
theorem dX5_sameAs_37 : decode cX5_sameAs 37 = .ok (.invokevirtual 73, 3) := by decide +kernel
theorem dX5_sameAs_40 : decode cX5_sameAs 40 = .ok (.ireturn, 1) := by decide +kernel
def f_X5_sameAs_L2 : Nat → Nat → Nat → Nat → Int32 → Hp → Option (Int32 × Hp)
  | 0, _, _, _, _, _ => none
  | n + 1, l0, l1, l2, l3, h =>
    gd (decide (l2 < 4)) <|
    bnd (f_J0_length_8abf5 h l2) fun v2 h3 =>
    if v2 ≤ l3 then (
    gd (decide (l2 < 4)) <|
    bnd (f_J0_length_8abf5 h3 l2) fun v6 h7 =>
    some (v6, h7)) else (
    gd (okOb h3 l0 5) <|
    vl (gI h3 l0 4) fun x9 =>
    gd (okOb h3 l1 8) <|
    bnd (f_X8_byteAt h3 l1 (x9 + l3)) fun v11 h12 =>
    gd (decide (l2 < 4)) <|
    bnd (f_J0_charAt_5068e h12 l2 l3) fun v14 h15 =>
    if v11 = v14 then (
    vl (l3 + (1 : Int32)) fun x17 =>
    f_X5_sameAs_L2 n l0 l1 l2 x17 h15) else (
    some (l3, h15)))
set_option maxHeartbeats 4000000 in
set_option maxRecDepth 100000 in
theorem t_X5_sameAs_L2 {X : Cx} {d : Nat} {h0 h' : Hp} {v : Int32} (hD : 5 ≤ d) : ∀ (n : Nat) (l0 : Nat) (l1 : Nat) (l2 : Nat) (l3 : Int32) (h : Hp), f_X5_sameAs_L2 n l0 l1 l2 l3 h = some (v, h') → EV X mX5_sameAs d h0 (some (.int v)) h' 2 [some (.ref l0), some (.ref l1), some (.float (UInt32.ofNat l2)), some (.int l3)] [] h := by
  intro n
  induction n with
  | zero => intro l0 l1 l2 l3 h H; simp [f_X5_sameAs_L2] at H
  | succ n ih =>
    intro l0 l1 l2 l3 h H
    rw [f_X5_sameAs_L2] at H
    refine ev_iload_n dX5_sameAs_2 rfl rfl ?_
    refine ev_aload_n dX5_sameAs_3 rfl rfl rfl ?_
    replace H := gd_some H
    obtain ⟨g1, H⟩ := H
    replace H := bnd_some H
    obtain ⟨v2, h3, eh3, H⟩ := H
    have ph3 := (t_J0_length_8abf5 (X := X) (d := 2) (by omega) eh3)
    refine ev_callStr (as := []) dX5_sameAs_4 ph3 ok_J0_length_8abf5 (by omega) rfl k4_8 k4_9 k4_10 (of_decide_eq_true g1) rfl rfl (Nat.le_of_ble_eq_true rfl) ?_
    refine ev_icmp_ge (tgt := 36) dX5_sameAs_7 (by decide) (fun c4 => ?_) (fun c4 => ?_)
    · rw [if_pos c4] at H
      refine ev_aload_n dX5_sameAs_36 rfl rfl rfl ?_
      replace H := gd_some H
      obtain ⟨g5, H⟩ := H
      replace H := bnd_some H
      obtain ⟨v6, h7, eh7, H⟩ := H
      have ph7 := (t_J0_length_8abf5 (X := X) (d := 2) (by omega) eh7)
      refine ev_callStr (as := []) dX5_sameAs_37 ph7 ok_J0_length_8abf5 (by omega) rfl k4_8 k4_9 k4_10 (of_decide_eq_true g5) rfl rfl (Nat.le_of_ble_eq_true rfl) ?_
      exact ev_iretx dX5_sameAs_40 rfl rfl H
    · rw [if_neg c4] at H
      refine ev_aload_n dX5_sameAs_10 rfl rfl rfl ?_
      refine ev_aload_n dX5_sameAs_11 rfl rfl rfl ?_
      replace H := gd_some H
      obtain ⟨g8, H⟩ := H
      replace H := vl_some H
      obtain ⟨x9, ex9, H⟩ := H
      refine ev_getIx dX5_sameAs_12 fgX5_30 rfl (okOb.p g8) ex9 ?_
      refine ev_iload_n dX5_sameAs_15 rfl rfl ?_
      refine ev_iadd dX5_sameAs_16 ?_
      replace H := gd_some H
      obtain ⟨g10, H⟩ := H
      replace H := bnd_some H
      obtain ⟨v11, h12, eh12, H⟩ := H
      have ph12 := (t_X8_byteAt (X := X) (d := 1) (by omega) eh12)
      refine ev_callV (as := [.int (x9 + l3)]) dX5_sameAs_17 ph12 ok_X8_byteAt (by omega) rfl k4_18 k2_40 k2_41 (ci := 8) (by decide) rfl rfl (okOb.p g10) rfl (Nat.le_of_ble_eq_true rfl) ?_
      refine ev_aload_n dX5_sameAs_20 rfl rfl rfl ?_
      refine ev_iload_n dX5_sameAs_21 rfl rfl ?_
      replace H := gd_some H
      obtain ⟨g13, H⟩ := H
      replace H := bnd_some H
      obtain ⟨v14, h15, eh15, H⟩ := H
      have ph15 := (t_J0_charAt_5068e (X := X) (d := 4) (by omega) eh15)
      refine ev_callStr (as := [.int l3]) dX5_sameAs_22 ph15 ok_J0_charAt_5068e (by omega) rfl k4_19 k4_20 k4_21 (of_decide_eq_true g13) rfl rfl (Nat.le_of_ble_eq_true rfl) ?_
      refine ev_icmp_eq (tgt := 30) dX5_sameAs_25 (by decide) (fun c16 => ?_) (fun c16 => ?_)
      · rw [if_pos c16] at H
        replace H := vl_some H
        obtain ⟨x17, ex17, H⟩ := H
        refine ev_iincx (loc2 := [some (.ref l0), some (.ref l1), some (.float (UInt32.ofNat l2)), some (.int x17)]) dX5_sameAs_30 rfl (by decide) ex17 (by decide) rfl ?_
        refine ev_goto (tgt := 2) dX5_sameAs_33 (by decide) ?_
        exact ih l0 l1 l2 x17 h15 H
      · rw [if_neg c16] at H
        refine ev_iload_n dX5_sameAs_28 rfl rfl ?_
        exact ev_iretx dX5_sameAs_29 rfl rfl H
def f_X5_sameAs (h : Hp) (a0 : Nat) (a1 : Nat) (a2 : Nat) : Option (Int32 × Hp) :=
f_X5_sameAs_L2 6000 a0 a1 a2 (0 : Int32) h
set_option maxHeartbeats 4000000 in
set_option maxRecDepth 100000 in
theorem t_X5_sameAs {X : Cx} {d : Nat} {h : Hp} {a0 : Nat} {a1 : Nat} {a2 : Nat} {v : Int32} {h' : Hp} (hD : 5 ≤ d) (H : f_X5_sameAs h a0 a1 a2 = some (v, h')) : PM X mX5_sameAs d [.ref a0, .ref a1, .float (UInt32.ofNat a2)] h (some (.int v)) h' := by
  unfold f_X5_sameAs at H
  refine PM.of (loc := [some (.ref a0), some (.ref a1), some (.float (UInt32.ofNat a2)), none]) (by decide) rfl (Nat.le_of_ble_eq_true rfl) ?_
  refine ev_iconst (v := (0 : Int32)) dX5_sameAs_0 (by decide) ?_
  refine ev_istore_n (loc2 := [some (.ref a0), some (.ref a1), some (.float (UInt32.ofNat a2)), some (.int (0 : Int32))]) dX5_sameAs_1 rfl (by decide) rfl ?_
  refine t_X5_sameAs_L2 hD  6000 a0 a1 a2 (0 : Int32) h H

theorem dX5_readWord_0 : decode cX5_readWord 0 = .ok (.iconst 0, 1) := by decide +kernel
theorem dX5_readWord_1 : decode cX5_readWord 1 = .ok (.istore_n 2, 1) := by decide +kernel
theorem dX5_readWord_2 : decode cX5_readWord 2 = .ok (.iconst 0, 1) := by decide +kernel
theorem dX5_readWord_3 : decode cX5_readWord 3 = .ok (.istore_n 3, 1) := by decide +kernel
theorem dX5_readWord_4 : decode cX5_readWord 4 = .ok (.iload_n 3, 1) := by decide +kernel
theorem dX5_readWord_5 : decode cX5_readWord 5 = .ok (.iconst 4, 1) := by decide +kernel
theorem dX5_readWord_6 : decode cX5_readWord 6 = .ok (.if_icmp .ge 54, 3) := by decide +kernel
theorem dX5_readWord_9 : decode cX5_readWord 9 = .ok (.iload_n 3, 1) := by decide +kernel
theorem dX5_readWord_10 : decode cX5_readWord 10 = .ok (.invokestatic 65, 3) := by decide +kernel
theorem dX5_readWord_13 : decode cX5_readWord 13 = .ok (.astore 4, 2) := by decide +kernel
theorem dX5_readWord_15 : decode cX5_readWord 15 = .ok (.aload_n 0, 1) := by decide +kernel
theorem dX5_readWord_16 : decode cX5_readWord 16 = .ok (.aload_n 1, 1) := by decide +kernel
theorem dX5_readWord_17 : decode cX5_readWord 17 = .ok (.aload 4, 2) := by decide +kernel
theorem dX5_readWord_19 : decode cX5_readWord 19 = .ok (.invokevirtual 69, 3) := by decide +kernel
theorem dX5_readWord_22 : decode cX5_readWord 22 = .ok (.istore 5, 2) := by decide +kernel
theorem dX5_readWord_24 : decode cX5_readWord 24 = .ok (.iload 5, 2) := by decide +kernel
theorem dX5_readWord_26 : decode cX5_readWord 26 = .ok (.aload 4, 2) := by decide +kernel
theorem dX5_readWord_28 : decode cX5_readWord 28 = .ok (.invokevirtual 73, 3) := by decide +kernel
theorem dX5_readWord_31 : decode cX5_readWord 31 = .ok (.if_icmp .ne 16, 3) := by decide +kernel
theorem dX5_readWord_34 : decode cX5_readWord 34 = .ok (.aload_n 0, 1) := by decide +kernel
theorem dX5_readWord_35 : decode cX5_readWord 35 = .ok (.dup, 1) := by decide +kernel
theorem dX5_readWord_36 : decode cX5_readWord 36 = .ok (.getfield 30, 3) := by decide +kernel
theorem dX5_readWord_39 : decode cX5_readWord 39 = .ok (.iload 5, 2) := by decide +kernel
theorem dX5_readWord_41 : decode cX5_readWord 41 = .ok (.iadd, 1) := by decide +kernel
theorem dX5_readWord_42 : decode cX5_readWord 42 = .ok (.putfield 30, 3) := by decide +kernel
theorem dX5_readWord_45 : decode cX5_readWord 45 = .ok (.iload_n 3, 1) := by decide +kernel
theorem dX5_readWord_46 : decode cX5_readWord 46 = .ok (.ireturn, 1) := by decide +kernel
theorem dX5_readWord_47 : decode cX5_readWord 47 = .ok (.iload_n 2, 1) := by decide +kernel
theorem dX5_readWord_48 : decode cX5_readWord 48 = .ok (.iload 5, 2) := by decide +kernel
theorem dX5_readWord_50 : decode cX5_readWord 50 = .ok (.invokestatic 79, 3) := by decide +kernel
theorem dX5_readWord_53 : decode cX5_readWord 53 = .ok (.istore_n 2, 1) := by decide +kernel
theorem dX5_readWord_54 : decode cX5_readWord 54 = .ok (.iinc 3 1, 3) := by decide +kernel
theorem dX5_readWord_57 : decode cX5_readWord 57 = .ok (.goto (-53), 3) := by decide +kernel
theorem dX5_readWord_60 : decode cX5_readWord 60 = .ok (.aload_n 0, 1) := by decide +kernel
theorem dX5_readWord_61 : decode cX5_readWord 61 = .ok (.dup, 1) := by decide +kernel
theorem dX5_readWord_62 : decode cX5_readWord 62 = .ok (.getfield 30, 3) := by decide +kernel
theorem dX5_readWord_65 : decode cX5_readWord 65 = .ok (.iload_n 2, 1) := by decide +kernel
theorem dX5_readWord_66 : decode cX5_readWord 66 = .ok (.iadd, 1) := by decide +kernel
theorem dX5_readWord_67 : decode cX5_readWord 67 = .ok (.putfield 30, 3) := by decide +kernel
theorem dX5_readWord_70 : decode cX5_readWord 70 = .ok (.iconst (-1), 1) := by decide +kernel
theorem dX5_readWord_71 : decode cX5_readWord 71 = .ok (.ireturn, 1) := by decide +kernel
def f_X5_readWord_L4 : Nat → Nat → Nat → Int32 → Int32 → Hp → Option (Int32 × Hp)
  | 0, _, _, _, _, _ => none
  | n + 1, l0, l1, l2, l3, h =>
    if (4 : Int32) ≤ l3 then (
    gd (okOb h l0 5) <|
    vl (gI h l0 4) fun x3 =>
    vl (sI h l0 4 (x3 + l2)) fun h4 =>
    some ((-1 : Int32), h4)) else (
    bnd (f_X5_textOf h l3) fun v5 h6 =>
    gd (okOb h6 l0 5) <|
    bnd (f_X5_sameAs h6 l0 l1 v5) fun v8 h9 =>
    gd (decide (v5 < 4)) <|
    bnd (f_J0_length_8abf5 h9 v5) fun v11 h12 =>
    if v8 = v11 then (
    vl (gI h12 l0 4) fun x16 =>
    vl (sI h12 l0 4 (x16 + v8)) fun h17 =>
    some (l3, h17)) else (
    vl (if l2 < v8 then v8 else l2) fun x14 =>
    vl (l3 + (1 : Int32)) fun x15 =>
    f_X5_readWord_L4 n l0 l1 x14 x15 h12))
set_option maxHeartbeats 4000000 in
set_option maxRecDepth 100000 in
theorem t_X5_readWord_L4 {X : Cx} {d : Nat} {h0 h' : Hp} {v : Int32} (hD : 6 ≤ d) : ∀ (n : Nat) (l0 : Nat) (l1 : Nat) (l2 : Int32) (l3 : Int32) (h : Hp), f_X5_readWord_L4 n l0 l1 l2 l3 h = some (v, h') → EV X mX5_readWord d h0 (some (.int v)) h' 4 [some (.ref l0), some (.ref l1), some (.int l2), some (.int l3), none, none] [] h := by
  intro n
  induction n with
  | zero => intro l0 l1 l2 l3 h H; simp [f_X5_readWord_L4] at H
  | succ n ih =>
    intro l0 l1 l2 l3 h H
    rw [f_X5_readWord_L4] at H
    refine ev_iload_n dX5_readWord_4 rfl rfl ?_
    refine ev_iconst (v := (4 : Int32)) dX5_readWord_5 (by decide) ?_
    refine ev_icmp_ge (tgt := 60) dX5_readWord_6 (by decide) (fun c1 => ?_) (fun c1 => ?_)
    · rw [if_pos c1] at H
      refine ev_aload_n dX5_readWord_60 rfl rfl rfl ?_
      refine ev_dup dX5_readWord_61 rfl ?_
      replace H := gd_some H
      obtain ⟨g2, H⟩ := H
      replace H := vl_some H
      obtain ⟨x3, ex3, H⟩ := H
      refine ev_getIx dX5_readWord_62 fgX5_30 rfl (okOb.p g2) ex3 ?_
      refine ev_iload_n dX5_readWord_65 rfl rfl ?_
      refine ev_iadd dX5_readWord_66 ?_
      replace H := vl_some H
      obtain ⟨h4, eh4, H⟩ := H
      refine ev_putI dX5_readWord_67 fdX5_30 rfl rfl rfl (okOb.p g2) eh4 ?_
      refine ev_iconst (v := (-1 : Int32)) dX5_readWord_70 (by decide) ?_
      exact ev_iretx dX5_readWord_71 rfl rfl H
    · rw [if_neg c1] at H
      refine ev_iload_n dX5_readWord_9 rfl rfl ?_
      replace H := bnd_some H
      obtain ⟨v5, h6, eh6, H⟩ := H
      have ph6 := (t_X5_textOf (X := X) (d := 1) (by omega) eh6)
      refine ev_callS (as := [.int l3]) dX5_readWord_10 ph6 ok_X5_textOf (by omega) rfl k3_237 k3_238 rfl (Nat.le_of_ble_eq_true rfl) ?_
      refine ev_astore (loc2 := [some (.ref l0), some (.ref l1), some (.int l2), some (.int l3), some (.float (UInt32.ofNat v5)), none]) dX5_readWord_13 (by decide) rfl rfl ?_
      refine ev_aload_n dX5_readWord_15 rfl rfl rfl ?_
      refine ev_aload_n dX5_readWord_16 rfl rfl rfl ?_
      refine ev_aload dX5_readWord_17 rfl rfl ?_
      replace H := gd_some H
      obtain ⟨g7, H⟩ := H
      replace H := bnd_some H
      obtain ⟨v8, h9, eh9, H⟩ := H
      have ph9 := (t_X5_sameAs (X := X) (d := 5) (by omega) eh9)
      refine ev_callV (as := [.ref l1, .float (UInt32.ofNat v5)]) dX5_readWord_19 ph9 ok_X5_sameAs (by omega) rfl k4_4 k4_6 ks_16 (ci := 5) (by decide) rfl rfl (okOb.p g7) rfl (Nat.le_of_ble_eq_true rfl) ?_
      refine ev_istore (loc2 := [some (.ref l0), some (.ref l1), some (.int l2), some (.int l3), some (.float (UInt32.ofNat v5)), some (.int v8)]) dX5_readWord_22 (by decide) rfl ?_
      refine ev_iload dX5_readWord_24 rfl ?_
      refine ev_aload dX5_readWord_26 rfl rfl ?_
      replace H := gd_some H
      obtain ⟨g10, H⟩ := H
      replace H := bnd_some H
      obtain ⟨v11, h12, eh12, H⟩ := H
      have ph12 := (t_J0_length_8abf5 (X := X) (d := 2) (by omega) eh12)
      refine ev_callStr (as := []) dX5_readWord_28 ph12 ok_J0_length_8abf5 (by omega) rfl k4_8 k4_9 k4_10 (of_decide_eq_true g10) rfl rfl (Nat.le_of_ble_eq_true rfl) ?_
      refine ev_icmp_ne (tgt := 47) dX5_readWord_31 (by decide) (fun c13 => ?_) (fun c13 => ?_)
      · rw [if_neg c13] at H
        refine ev_iload_n dX5_readWord_47 rfl rfl ?_
        refine ev_iload dX5_readWord_48 rfl ?_
        refine ev_mmax dX5_readWord_50 k4_57 k4_58 k1_10 k4_59 (by omega) (Nat.le_of_ble_eq_true rfl) ?_
        replace H := vl_some H
        obtain ⟨x14, ex14, H⟩ := H
        refine ev_istore_nx (loc2 := [some (.ref l0), some (.ref l1), some (.int x14), some (.int l3), some (.float (UInt32.ofNat v5)), some (.int v8)]) dX5_readWord_53 rfl (by decide) ex14 rfl ?_
        replace H := vl_some H
        obtain ⟨x15, ex15, H⟩ := H
        refine ev_iincx (loc2 := [some (.ref l0), some (.ref l1), some (.int x14), some (.int x15), some (.float (UInt32.ofNat v5)), some (.int v8)]) dX5_readWord_54 rfl (by decide) ex15 (by decide) rfl ?_
        refine ev_goto (tgt := 4) dX5_readWord_57 (by decide) ?_
        refine ev_drop (loc2 := [some (.ref l0), some (.ref l1), some (.int x14), some (.int x15), none, none]) [true, true, true, true, false, false] rfl ?_
        exact ih l0 l1 x14 x15 h12 H
      · rw [if_pos c13] at H
        refine ev_aload_n dX5_readWord_34 rfl rfl rfl ?_
        refine ev_dup dX5_readWord_35 rfl ?_
        replace H := vl_some H
        obtain ⟨x16, ex16, H⟩ := H
        refine ev_getIx dX5_readWord_36 fgX5_30 rfl (okO_ext ph12.1 (okO_ext ph9.1 (okOb.p g7))) ex16 ?_
        refine ev_iload dX5_readWord_39 rfl ?_
        refine ev_iadd dX5_readWord_41 ?_
        replace H := vl_some H
        obtain ⟨h17, eh17, H⟩ := H
        refine ev_putI dX5_readWord_42 fdX5_30 rfl rfl rfl (okO_ext ph12.1 (okO_ext ph9.1 (okOb.p g7))) eh17 ?_
        refine ev_iload_n dX5_readWord_45 rfl rfl ?_
        exact ev_iretx dX5_readWord_46 rfl rfl H
def f_X5_readWord (h : Hp) (a0 : Nat) (a1 : Nat) : Option (Int32 × Hp) :=
f_X5_readWord_L4 6000 a0 a1 (0 : Int32) (0 : Int32) h
set_option maxHeartbeats 4000000 in
set_option maxRecDepth 100000 in
theorem t_X5_readWord {X : Cx} {d : Nat} {h : Hp} {a0 : Nat} {a1 : Nat} {v : Int32} {h' : Hp} (hD : 6 ≤ d) (H : f_X5_readWord h a0 a1 = some (v, h')) : PM X mX5_readWord d [.ref a0, .ref a1] h (some (.int v)) h' := by
  unfold f_X5_readWord at H
  refine PM.of (loc := [some (.ref a0), some (.ref a1), none, none, none, none]) (by decide) rfl (Nat.le_of_ble_eq_true rfl) ?_
  refine ev_iconst (v := (0 : Int32)) dX5_readWord_0 (by decide) ?_
  refine ev_istore_n (loc2 := [some (.ref a0), some (.ref a1), some (.int (0 : Int32)), none, none, none]) dX5_readWord_1 rfl (by decide) rfl ?_
  refine ev_iconst (v := (0 : Int32)) dX5_readWord_2 (by decide) ?_
  refine ev_istore_n (loc2 := [some (.ref a0), some (.ref a1), some (.int (0 : Int32)), some (.int (0 : Int32)), none, none]) dX5_readWord_3 rfl (by decide) rfl ?_
  refine t_X5_readWord_L4 hD  6000 a0 a1 (0 : Int32) (0 : Int32) h H

theorem dX5_skip_0 : decode cX5_skip 0 = .ok (.aload_n 1, 1) := by decide +kernel
theorem dX5_skip_1 : decode cX5_skip 1 = .ok (.aload_n 0, 1) := by decide +kernel
theorem dX5_skip_2 : decode cX5_skip 2 = .ok (.getfield 30, 3) := by decide +kernel
theorem dX5_skip_5 : decode cX5_skip 5 = .ok (.invokevirtual 61, 3) := by decide +kernel
theorem dX5_skip_8 : decode cX5_skip 8 = .ok (.iload_n 2, 1) := by decide +kernel
theorem dX5_skip_9 : decode cX5_skip 9 = .ok (.if_icmp .eq 5, 3) := by decide +kernel
theorem dX5_skip_12 : decode cX5_skip 12 = .ok (.iconst 0, 1) := by decide +kernel
theorem dX5_skip_13 : decode cX5_skip 13 = .ok (.ireturn, 1) := by decide +kernel
theorem dX5_skip_14 : decode cX5_skip 14 = .ok (.aload_n 0, 1) := by decide +kernel
theorem dX5_skip_15 : decode cX5_skip 15 = .ok (.dup, 1) := by decide +kernel
theorem dX5_skip_16 : decode cX5_skip 16 = .ok (.getfield 30, 3) := by decide +kernel
theorem dX5_skip_19 : decode cX5_skip 19 = .ok (.iconst 1, 1) := by decide +kernel
theorem dX5_skip_20 : decode cX5_skip 20 = .ok (.iadd, 1) := by decide +kernel
theorem dX5_skip_21 : decode cX5_skip 21 = .ok (.putfield 30, 3) := by decide +kernel
theorem dX5_skip_24 : decode cX5_skip 24 = .ok (.iconst 1, 1) := by decide +kernel
theorem dX5_skip_25 : decode cX5_skip 25 = .ok (.ireturn, 1) := by decide +kernel
def f_X5_skip (h : Hp) (a0 : Nat) (a1 : Nat) (a2 : Int32) : Option (Int32 × Hp) :=
gd (okOb h a0 5) <|
vl (gI h a0 4) fun x2 =>
gd (okOb h a1 8) <|
bnd (f_X8_byteAt h a1 x2) fun v4 h5 =>
if v4 = a2 then (
vl (gI h5 a0 4) fun x7 =>
vl (sI h5 a0 4 (x7 + (1 : Int32))) fun h8 =>
some ((1 : Int32), h8)) else (
some ((0 : Int32), h5))
set_option maxHeartbeats 4000000 in
set_option maxRecDepth 100000 in
theorem t_X5_skip {X : Cx} {d : Nat} {h : Hp} {a0 : Nat} {a1 : Nat} {a2 : Int32} {v : Int32} {h' : Hp} (hD : 2 ≤ d) (H : f_X5_skip h a0 a1 a2 = some (v, h')) : PM X mX5_skip d [.ref a0, .ref a1, .int a2] h (some (.int v)) h' := by
  unfold f_X5_skip at H
  refine PM.of (loc := [some (.ref a0), some (.ref a1), some (.int a2)]) (by decide) rfl (Nat.le_of_ble_eq_true rfl) ?_
  refine ev_aload_n dX5_skip_0 rfl rfl rfl ?_
  refine ev_aload_n dX5_skip_1 rfl rfl rfl ?_
  replace H := gd_some H
  obtain ⟨g1, H⟩ := H
  replace H := vl_some H
  obtain ⟨x2, ex2, H⟩ := H
  refine ev_getIx dX5_skip_2 fgX5_30 rfl (okOb.p g1) ex2 ?_
  replace H := gd_some H
  obtain ⟨g3, H⟩ := H
  replace H := bnd_some H
  obtain ⟨v4, h5, eh5, H⟩ := H
  have ph5 := (t_X8_byteAt (X := X) (d := 1) (by omega) eh5)
  refine ev_callV (as := [.int x2]) dX5_skip_5 ph5 ok_X8_byteAt (by omega) rfl k4_18 k2_40 k2_41 (ci := 8) (by decide) rfl rfl (okOb.p g3) rfl (Nat.le_of_ble_eq_true rfl) ?_
  refine ev_iload_n dX5_skip_8 rfl rfl ?_
  refine ev_icmp_eq (tgt := 14) dX5_skip_9 (by decide) (fun c6 => ?_) (fun c6 => ?_)
  · rw [if_pos c6] at H
    refine ev_aload_n dX5_skip_14 rfl rfl rfl ?_
    refine ev_dup dX5_skip_15 rfl ?_
    replace H := vl_some H
    obtain ⟨x7, ex7, H⟩ := H
    refine ev_getIx dX5_skip_16 fgX5_30 rfl (okO_ext ph5.1 (okOb.p g1)) ex7 ?_
    refine ev_iconst (v := (1 : Int32)) dX5_skip_19 (by decide) ?_
    refine ev_iadd dX5_skip_20 ?_
    replace H := vl_some H
    obtain ⟨h8, eh8, H⟩ := H
    refine ev_putI dX5_skip_21 fdX5_30 rfl rfl rfl (okO_ext ph5.1 (okOb.p g1)) eh8 ?_
    refine ev_iconst (v := (1 : Int32)) dX5_skip_24 (by decide) ?_
    exact ev_iretx dX5_skip_25 rfl rfl H
  · rw [if_neg c6] at H
    refine ev_iconst (v := (0 : Int32)) dX5_skip_12 (by decide) ?_
    exact ev_iretx dX5_skip_13 rfl rfl H

theorem dX5_digitHere_0 : decode cX5_digitHere 0 = .ok (.aload_n 1, 1) := by decide +kernel
theorem dX5_digitHere_1 : decode cX5_digitHere 1 = .ok (.aload_n 0, 1) := by decide +kernel
theorem dX5_digitHere_2 : decode cX5_digitHere 2 = .ok (.getfield 30, 3) := by decide +kernel
theorem dX5_digitHere_5 : decode cX5_digitHere 5 = .ok (.invokevirtual 61, 3) := by decide +kernel
theorem dX5_digitHere_8 : decode cX5_digitHere 8 = .ok (.istore_n 2, 1) := by decide +kernel
theorem dX5_digitHere_9 : decode cX5_digitHere 9 = .ok (.iload_n 2, 1) := by decide +kernel
theorem dX5_digitHere_10 : decode cX5_digitHere 10 = .ok (.bipush 48, 2) := by decide +kernel
theorem dX5_digitHere_12 : decode cX5_digitHere 12 = .ok (.if_icmp .lt 16, 3) := by decide +kernel
theorem dX5_digitHere_15 : decode cX5_digitHere 15 = .ok (.iload_n 2, 1) := by decide +kernel
theorem dX5_digitHere_16 : decode cX5_digitHere 16 = .ok (.bipush 57, 2) := by decide +kernel
theorem dX5_digitHere_18 : decode cX5_digitHere 18 = .ok (.if_icmp .gt 10, 3) := by decide +kernel
theorem dX5_digitHere_21 : decode cX5_digitHere 21 = .ok (.iload_n 2, 1) := by decide +kernel
theorem dX5_digitHere_22 : decode cX5_digitHere 22 = .ok (.bipush 48, 2) := by decide +kernel
theorem dX5_digitHere_24 : decode cX5_digitHere 24 = .ok (.isub, 1) := by decide +kernel
theorem dX5_digitHere_25 : decode cX5_digitHere 25 = .ok (.goto 4, 3) := by decide +kernel
theorem dX5_digitHere_28 : decode cX5_digitHere 28 = .ok (.iconst (-1), 1) := by decide +kernel
theorem dX5_digitHere_29 : decode cX5_digitHere 29 = .ok (.ireturn, 1) := by decide +kernel
def f_X5_digitHere (h : Hp) (a0 : Nat) (a1 : Nat) : Option (Int32 × Hp) :=
gd (okOb h a0 5) <|
vl (gI h a0 4) fun x2 =>
gd (okOb h a1 8) <|
bnd (f_X8_byteAt h a1 x2) fun v4 h5 =>
if v4 < (48 : Int32) then (
some ((-1 : Int32), h5)) else (
if (57 : Int32) < v4 then (
some ((-1 : Int32), h5)) else (
some (v4 - (48 : Int32), h5)))
set_option maxHeartbeats 4000000 in
set_option maxRecDepth 100000 in
theorem t_X5_digitHere {X : Cx} {d : Nat} {h : Hp} {a0 : Nat} {a1 : Nat} {v : Int32} {h' : Hp} (hD : 2 ≤ d) (H : f_X5_digitHere h a0 a1 = some (v, h')) : PM X mX5_digitHere d [.ref a0, .ref a1] h (some (.int v)) h' := by
  unfold f_X5_digitHere at H
  refine PM.of (loc := [some (.ref a0), some (.ref a1), none]) (by decide) rfl (Nat.le_of_ble_eq_true rfl) ?_
  refine ev_aload_n dX5_digitHere_0 rfl rfl rfl ?_
  refine ev_aload_n dX5_digitHere_1 rfl rfl rfl ?_
  replace H := gd_some H
  obtain ⟨g1, H⟩ := H
  replace H := vl_some H
  obtain ⟨x2, ex2, H⟩ := H
  refine ev_getIx dX5_digitHere_2 fgX5_30 rfl (okOb.p g1) ex2 ?_
  replace H := gd_some H
  obtain ⟨g3, H⟩ := H
  replace H := bnd_some H
  obtain ⟨v4, h5, eh5, H⟩ := H
  have ph5 := (t_X8_byteAt (X := X) (d := 1) (by omega) eh5)
  refine ev_callV (as := [.int x2]) dX5_digitHere_5 ph5 ok_X8_byteAt (by omega) rfl k4_18 k2_40 k2_41 (ci := 8) (by decide) rfl rfl (okOb.p g3) rfl (Nat.le_of_ble_eq_true rfl) ?_
  refine ev_istore_n (loc2 := [some (.ref a0), some (.ref a1), some (.int v4)]) dX5_digitHere_8 rfl (by decide) rfl ?_
  refine ev_iload_n dX5_digitHere_9 rfl rfl ?_
  refine ev_bipush (v := (48 : Int32)) dX5_digitHere_10 (by decide) ?_
  refine ev_icmp_lt (tgt := 28) dX5_digitHere_12 (by decide) (fun c6 => ?_) (fun c6 => ?_)
  · rw [if_pos c6] at H
    refine ev_iconst (v := (-1 : Int32)) dX5_digitHere_28 (by decide) ?_
    exact ev_iretx dX5_digitHere_29 rfl rfl H
  · rw [if_neg c6] at H
    refine ev_iload_n dX5_digitHere_15 rfl rfl ?_
    refine ev_bipush (v := (57 : Int32)) dX5_digitHere_16 (by decide) ?_
    refine ev_icmp_gt (tgt := 28) dX5_digitHere_18 (by decide) (fun c7 => ?_) (fun c7 => ?_)
    · rw [if_pos c7] at H
      refine ev_iconst (v := (-1 : Int32)) dX5_digitHere_28 (by decide) ?_
      exact ev_iretx dX5_digitHere_29 rfl rfl H
    · rw [if_neg c7] at H
      refine ev_iload_n dX5_digitHere_21 rfl rfl ?_
      refine ev_bipush (v := (48 : Int32)) dX5_digitHere_22 (by decide) ?_
      refine ev_isub dX5_digitHere_24 ?_
      refine ev_goto (tgt := 29) dX5_digitHere_25 (by decide) ?_
      exact ev_iretx dX5_digitHere_29 rfl rfl H

theorem dX5_readNumber_0 : decode cX5_readNumber 0 = .ok (.aload_n 0, 1) := by decide +kernel
theorem dX5_readNumber_1 : decode cX5_readNumber 1 = .ok (.aload_n 1, 1) := by decide +kernel
theorem dX5_readNumber_2 : decode cX5_readNumber 2 = .ok (.invokevirtual 97, 3) := by decide +kernel
theorem dX5_readNumber_5 : decode cX5_readNumber 5 = .ok (.istore_n 3, 1) := by decide +kernel
theorem dX5_readNumber_6 : decode cX5_readNumber 6 = .ok (.iload_n 3, 1) := by decide +kernel
theorem dX5_readNumber_7 : decode cX5_readNumber 7 = .ok (.iload_n 2, 1) := by decide +kernel
theorem dX5_readNumber_8 : decode cX5_readNumber 8 = .ok (.if_icmp .ge 5, 3) := by decide +kernel
theorem dX5_readNumber_11 : decode cX5_readNumber 11 = .ok (.iconst (-1), 1) := by decide +kernel
theorem dX5_readNumber_12 : decode cX5_readNumber 12 = .ok (.ireturn, 1) := by decide +kernel
theorem dX5_readNumber_13 : decode cX5_readNumber 13 = .ok (.aload_n 0, 1) := by decide +kernel
theorem dX5_readNumber_14 : decode cX5_readNumber 14 = .ok (.dup, 1) := by decide +kernel
theorem dX5_readNumber_15 : decode cX5_readNumber 15 = .ok (.getfield 30, 3) := by decide +kernel
theorem dX5_readNumber_18 : decode cX5_readNumber 18 = .ok (.iconst 1, 1) := by decide +kernel
theorem dX5_readNumber_19 : decode cX5_readNumber 19 = .ok (.iadd, 1) := by decide +kernel
theorem dX5_readNumber_20 : decode cX5_readNumber 20 = .ok (.putfield 30, 3) := by decide +kernel
theorem dX5_readNumber_23 : decode cX5_readNumber 23 = .ok (.iconst 1, 1) := by decide +kernel
theorem dX5_readNumber_24 : decode cX5_readNumber 24 = .ok (.istore 4, 2) := by decide +kernel
theorem dX5_readNumber_26 : decode cX5_readNumber 26 = .ok (.iload 4, 2) := by decide +kernel
theorem dX5_readNumber_28 : decode cX5_readNumber 28 = .ok (.iconst 4, 1) := by decide +kernel
theorem dX5_readNumber_29 : decode cX5_readNumber 29 = .ok (.if_icmp .ge 47, 3) := by decide +kernel
theorem dX5_readNumber_32 : decode cX5_readNumber 32 = .ok (.iload_n 3, 1) := by decide +kernel
theorem dX5_readNumber_33 : decode cX5_readNumber 33 = .ok (.ifCond .le 43, 3) := by decide +kernel
theorem dX5_readNumber_36 : decode cX5_readNumber 36 = .ok (.aload_n 0, 1) := by decide +kernel
theorem dX5_readNumber_37 : decode cX5_readNumber 37 = .ok (.aload_n 1, 1) := by decide +kernel
theorem dX5_readNumber_38 : decode cX5_readNumber 38 = .ok (.invokevirtual 97, 3) := by decide +kernel
theorem dX5_readNumber_41 : decode cX5_readNumber 41 = .ok (.istore 5, 2) := by decide +kernel
theorem dX5_readNumber_43 : decode cX5_readNumber 43 = .ok (.iload 5, 2) := by decide +kernel
theorem dX5_readNumber_45 : decode cX5_readNumber 45 = .ok (.iconst (-1), 1) := by decide +kernel
theorem dX5_readNumber_46 : decode cX5_readNumber 46 = .ok (.if_icmp .ne 6, 3) := by decide +kernel
theorem dX5_readNumber_49 : decode cX5_readNumber 49 = .ok (.goto 27, 3) := by decide +kernel
theorem dX5_readNumber_52 : decode cX5_readNumber 52 = .ok (.bipush 10, 2) := by decide +kernel
theorem dX5_readNumber_54 : decode cX5_readNumber 54 = .ok (.iload_n 3, 1) := by decide +kernel
theorem dX5_readNumber_55 : decode cX5_readNumber 55 = .ok (.imul, 1) := by decide +kernel
theorem dX5_readNumber_56 : decode cX5_readNumber 56 = .ok (.iload 5, 2) := by decide +kernel
theorem dX5_readNumber_58 : decode cX5_readNumber 58 = .ok (.iadd, 1) := by decide +kernel
theorem dX5_readNumber_59 : decode cX5_readNumber 59 = .ok (.istore_n 3, 1) := by decide +kernel
theorem dX5_readNumber_60 : decode cX5_readNumber 60 = .ok (.aload_n 0, 1) := by decide +kernel
theorem dX5_readNumber_61 : decode cX5_readNumber 61 = .ok (.dup, 1) := by decide +kernel
theorem dX5_readNumber_62 : decode cX5_readNumber 62 = .ok (.getfield 30, 3) := by decide +kernel
theorem dX5_readNumber_65 : decode cX5_readNumber 65 = .ok (.iconst 1, 1) := by decide +kernel
theorem dX5_readNumber_66 : decode cX5_readNumber 66 = .ok (.iadd, 1) := by decide +kernel
theorem dX5_readNumber_67 : decode cX5_readNumber 67 = .ok (.putfield 30, 3) := by decide +kernel
theorem dX5_readNumber_70 : decode cX5_readNumber 70 = .ok (.iinc 4 1, 3) := by decide +kernel
theorem dX5_readNumber_73 : decode cX5_readNumber 73 = .ok (.goto (-47), 3) := by decide +kernel
theorem dX5_readNumber_76 : decode cX5_readNumber 76 = .ok (.iload_n 3, 1) := by decide +kernel
theorem dX5_readNumber_77 : decode cX5_readNumber 77 = .ok (.ireturn, 1) := by decide +kernel
def f_X5_readNumber_L26 : Nat → Nat → Nat → Int32 → Int32 → Int32 → Hp → Option (Int32 × Hp)
  | 0, _, _, _, _, _, _ => none
  | n + 1, l0, l1, l2, l3, l4, h =>
    if (4 : Int32) ≤ l4 then (
    some (l3, h)) else (
    if l3 ≤ 0 then (
    some (l3, h)) else (
    gd (okOb h l0 5) <|
    bnd (f_X5_digitHere h l0 l1) fun v10 h11 =>
    if v10 = (-1 : Int32) then (
    some (l3, h11)) else (
    vl (((10 : Int32) * l3) + v10) fun x13 =>
    vl (gI h11 l0 4) fun x14 =>
    vl (sI h11 l0 4 (x14 + (1 : Int32))) fun h15 =>
    vl (l4 + (1 : Int32)) fun x16 =>
    f_X5_readNumber_L26 n l0 l1 l2 x13 x16 h15)))
set_option maxHeartbeats 4000000 in
set_option maxRecDepth 100000 in
theorem t_X5_readNumber_L26 {X : Cx} {d : Nat} {h0 h' : Hp} {v : Int32} (hD : 3 ≤ d) : ∀ (n : Nat) (l0 : Nat) (l1 : Nat) (l2 : Int32) (l3 : Int32) (l4 : Int32) (h : Hp), f_X5_readNumber_L26 n l0 l1 l2 l3 l4 h = some (v, h') → EV X mX5_readNumber d h0 (some (.int v)) h' 26 [some (.ref l0), some (.ref l1), some (.int l2), some (.int l3), some (.int l4), none] [] h := by
  intro n
  induction n with
  | zero => intro l0 l1 l2 l3 l4 h H; simp [f_X5_readNumber_L26] at H
  | succ n ih =>
    intro l0 l1 l2 l3 l4 h H
    rw [f_X5_readNumber_L26] at H
    refine ev_iload dX5_readNumber_26 rfl ?_
    refine ev_iconst (v := (4 : Int32)) dX5_readNumber_28 (by decide) ?_
    refine ev_icmp_ge (tgt := 76) dX5_readNumber_29 (by decide) (fun c7 => ?_) (fun c7 => ?_)
    · rw [if_pos c7] at H
      refine ev_iload_n dX5_readNumber_76 rfl rfl ?_
      exact ev_iretx dX5_readNumber_77 rfl rfl H
    · rw [if_neg c7] at H
      refine ev_iload_n dX5_readNumber_32 rfl rfl ?_
      refine ev_if_le (tgt := 76) dX5_readNumber_33 (by decide) (fun c8 => ?_) (fun c8 => ?_)
      · rw [if_pos c8] at H
        refine ev_iload_n dX5_readNumber_76 rfl rfl ?_
        exact ev_iretx dX5_readNumber_77 rfl rfl H
      · rw [if_neg c8] at H
        refine ev_aload_n dX5_readNumber_36 rfl rfl rfl ?_
        refine ev_aload_n dX5_readNumber_37 rfl rfl rfl ?_
        replace H := gd_some H
        obtain ⟨g9, H⟩ := H
        replace H := bnd_some H
        obtain ⟨v10, h11, eh11, H⟩ := H
        have ph11 := (t_X5_digitHere (X := X) (d := 2) (by omega) eh11)
        refine ev_callV (as := [.ref l1]) dX5_readNumber_38 ph11 ok_X5_digitHere (by omega) rfl k4_68 k4_70 ks_19 (ci := 5) (by decide) rfl rfl (okOb.p g9) rfl (Nat.le_of_ble_eq_true rfl) ?_
        refine ev_istore (loc2 := [some (.ref l0), some (.ref l1), some (.int l2), some (.int l3), some (.int l4), some (.int v10)]) dX5_readNumber_41 (by decide) rfl ?_
        refine ev_iload dX5_readNumber_43 rfl ?_
        refine ev_iconst (v := (-1 : Int32)) dX5_readNumber_45 (by decide) ?_
        refine ev_icmp_ne (tgt := 52) dX5_readNumber_46 (by decide) (fun c12 => ?_) (fun c12 => ?_)
        · rw [if_neg c12] at H
          refine ev_bipush (v := (10 : Int32)) dX5_readNumber_52 (by decide) ?_
          refine ev_iload_n dX5_readNumber_54 rfl rfl ?_
          refine ev_imul dX5_readNumber_55 ?_
          refine ev_iload dX5_readNumber_56 rfl ?_
          refine ev_iadd dX5_readNumber_58 ?_
          replace H := vl_some H
          obtain ⟨x13, ex13, H⟩ := H
          refine ev_istore_nx (loc2 := [some (.ref l0), some (.ref l1), some (.int l2), some (.int x13), some (.int l4), some (.int v10)]) dX5_readNumber_59 rfl (by decide) ex13 rfl ?_
          refine ev_aload_n dX5_readNumber_60 rfl rfl rfl ?_
          refine ev_dup dX5_readNumber_61 rfl ?_
          replace H := vl_some H
          obtain ⟨x14, ex14, H⟩ := H
          refine ev_getIx dX5_readNumber_62 fgX5_30 rfl (okO_ext ph11.1 (okOb.p g9)) ex14 ?_
          refine ev_iconst (v := (1 : Int32)) dX5_readNumber_65 (by decide) ?_
          refine ev_iadd dX5_readNumber_66 ?_
          replace H := vl_some H
          obtain ⟨h15, eh15, H⟩ := H
          refine ev_putI dX5_readNumber_67 fdX5_30 rfl rfl rfl (okO_ext ph11.1 (okOb.p g9)) eh15 ?_
          replace H := vl_some H
          obtain ⟨x16, ex16, H⟩ := H
          refine ev_iincx (loc2 := [some (.ref l0), some (.ref l1), some (.int l2), some (.int x13), some (.int x16), some (.int v10)]) dX5_readNumber_70 rfl (by decide) ex16 (by decide) rfl ?_
          refine ev_goto (tgt := 26) dX5_readNumber_73 (by decide) ?_
          refine ev_drop (loc2 := [some (.ref l0), some (.ref l1), some (.int l2), some (.int x13), some (.int x16), none]) [true, true, true, true, true, false] rfl ?_
          exact ih l0 l1 l2 x13 x16 h15 H
        · rw [if_pos c12] at H
          refine ev_goto (tgt := 76) dX5_readNumber_49 (by decide) ?_
          refine ev_iload_n dX5_readNumber_76 rfl rfl ?_
          exact ev_iretx dX5_readNumber_77 rfl rfl H
def f_X5_readNumber (h : Hp) (a0 : Nat) (a1 : Nat) (a2 : Int32) : Option (Int32 × Hp) :=
gd (okOb h a0 5) <|
bnd (f_X5_digitHere h a0 a1) fun v2 h3 =>
if a2 ≤ v2 then (
vl (gI h3 a0 4) fun x5 =>
vl (sI h3 a0 4 (x5 + (1 : Int32))) fun h6 =>
f_X5_readNumber_L26 6000 a0 a1 a2 v2 (1 : Int32) h6) else (
some ((-1 : Int32), h3))
set_option maxHeartbeats 4000000 in
set_option maxRecDepth 100000 in
theorem t_X5_readNumber {X : Cx} {d : Nat} {h : Hp} {a0 : Nat} {a1 : Nat} {a2 : Int32} {v : Int32} {h' : Hp} (hD : 3 ≤ d) (H : f_X5_readNumber h a0 a1 a2 = some (v, h')) : PM X mX5_readNumber d [.ref a0, .ref a1, .int a2] h (some (.int v)) h' := by
  unfold f_X5_readNumber at H
  refine PM.of (loc := [some (.ref a0), some (.ref a1), some (.int a2), none, none, none]) (by decide) rfl (Nat.le_of_ble_eq_true rfl) ?_
  refine ev_aload_n dX5_readNumber_0 rfl rfl rfl ?_
  refine ev_aload_n dX5_readNumber_1 rfl rfl rfl ?_
  replace H := gd_some H
  obtain ⟨g1, H⟩ := H
  replace H := bnd_some H
  obtain ⟨v2, h3, eh3, H⟩ := H
  have ph3 := (t_X5_digitHere (X := X) (d := 2) (by omega) eh3)
  refine ev_callV (as := [.ref a1]) dX5_readNumber_2 ph3 ok_X5_digitHere (by omega) rfl k4_68 k4_70 ks_19 (ci := 5) (by decide) rfl rfl (okOb.p g1) rfl (Nat.le_of_ble_eq_true rfl) ?_
  refine ev_istore_n (loc2 := [some (.ref a0), some (.ref a1), some (.int a2), some (.int v2), none, none]) dX5_readNumber_5 rfl (by decide) rfl ?_
  refine ev_iload_n dX5_readNumber_6 rfl rfl ?_
  refine ev_iload_n dX5_readNumber_7 rfl rfl ?_
  refine ev_icmp_ge (tgt := 13) dX5_readNumber_8 (by decide) (fun c4 => ?_) (fun c4 => ?_)
  · rw [if_pos c4] at H
    refine ev_aload_n dX5_readNumber_13 rfl rfl rfl ?_
    refine ev_dup dX5_readNumber_14 rfl ?_
    replace H := vl_some H
    obtain ⟨x5, ex5, H⟩ := H
    refine ev_getIx dX5_readNumber_15 fgX5_30 rfl (okO_ext ph3.1 (okOb.p g1)) ex5 ?_
    refine ev_iconst (v := (1 : Int32)) dX5_readNumber_18 (by decide) ?_
    refine ev_iadd dX5_readNumber_19 ?_
    replace H := vl_some H
    obtain ⟨h6, eh6, H⟩ := H
    refine ev_putI dX5_readNumber_20 fdX5_30 rfl rfl rfl (okO_ext ph3.1 (okOb.p g1)) eh6 ?_
    refine ev_iconst (v := (1 : Int32)) dX5_readNumber_23 (by decide) ?_
    refine ev_istore (loc2 := [some (.ref a0), some (.ref a1), some (.int a2), some (.int v2), some (.int (1 : Int32)), none]) dX5_readNumber_24 (by decide) rfl ?_
    refine t_X5_readNumber_L26 hD  6000 a0 a1 a2 v2 (1 : Int32) h6 H
  · rw [if_neg c4] at H
    refine ev_iconst (v := (-1 : Int32)) dX5_readNumber_11 (by decide) ?_
    exact ev_iretx dX5_readNumber_12 rfl rfl H

theorem dX5_readClause_0 : decode cX5_readClause 0 = .ok (.aload_n 0, 1) := by decide +kernel
theorem dX5_readClause_1 : decode cX5_readClause 1 = .ok (.aload_n 1, 1) := by decide +kernel
theorem dX5_readClause_2 : decode cX5_readClause 2 = .ok (.invokevirtual 53, 3) := by decide +kernel
theorem dX5_readClause_5 : decode cX5_readClause 5 = .ok (.istore_n 2, 1) := by decide +kernel
theorem dX5_readClause_6 : decode cX5_readClause 6 = .ok (.iload_n 2, 1) := by decide +kernel
theorem dX5_readClause_7 : decode cX5_readClause 7 = .ok (.iconst (-1), 1) := by decide +kernel
theorem dX5_readClause_8 : decode cX5_readClause 8 = .ok (.if_icmp .eq 13, 3) := by decide +kernel
theorem dX5_readClause_11 : decode cX5_readClause 11 = .ok (.aload_n 0, 1) := by decide +kernel
theorem dX5_readClause_12 : decode cX5_readClause 12 = .ok (.aload_n 1, 1) := by decide +kernel
theorem dX5_readClause_13 : decode cX5_readClause 13 = .ok (.bipush 61, 2) := by decide +kernel
theorem dX5_readClause_15 : decode cX5_readClause 15 = .ok (.invokevirtual 38, 3) := by decide +kernel
theorem dX5_readClause_18 : decode cX5_readClause 18 = .ok (.ifCond .ne 5, 3) := by decide +kernel
theorem dX5_readClause_21 : decode cX5_readClause 21 = .ok (.iconst 0, 1) := by decide +kernel
theorem dX5_readClause_22 : decode cX5_readClause 22 = .ok (.ireturn, 1) := by decide +kernel
theorem dX5_readClause_23 : decode cX5_readClause 23 = .ok (.aload_n 0, 1) := by decide +kernel
theorem dX5_readClause_24 : decode cX5_readClause 24 = .ok (.aload_n 1, 1) := by decide +kernel
theorem dX5_readClause_25 : decode cX5_readClause 25 = .ok (.iconst 0, 1) := by decide +kernel
theorem dX5_readClause_26 : decode cX5_readClause 26 = .ok (.invokevirtual 57, 3) := by decide +kernel
theorem dX5_readClause_29 : decode cX5_readClause 29 = .ok (.istore_n 3, 1) := by decide +kernel
theorem dX5_readClause_30 : decode cX5_readClause 30 = .ok (.iload_n 3, 1) := by decide +kernel
theorem dX5_readClause_31 : decode cX5_readClause 31 = .ok (.iconst (-1), 1) := by decide +kernel
theorem dX5_readClause_32 : decode cX5_readClause 32 = .ok (.if_icmp .ne 5, 3) := by decide +kernel
theorem dX5_readClause_35 : decode cX5_readClause 35 = .ok (.iconst 0, 1) := by decide +kernel
theorem dX5_readClause_36 : decode cX5_readClause 36 = .ok (.ireturn, 1) := by decide +kernel
theorem dX5_readClause_37 : decode cX5_readClause 37 = .ok (.iconst 1, 1) := by decide +kernel
theorem dX5_readClause_38 : decode cX5_readClause 38 = .ok (.istore 4, 2) := by decide +kernel
theorem dX5_readClause_40 : decode cX5_readClause 40 = .ok (.aload_n 0, 1) := by decide +kernel
theorem dX5_readClause_41 : decode cX5_readClause 41 = .ok (.aload_n 1, 1) := by decide +kernel
theorem dX5_readClause_42 : decode cX5_readClause 42 = .ok (.bipush 47, 2) := by decide +kernel
theorem dX5_readClause_44 : decode cX5_readClause 44 = .ok (.invokevirtual 38, 3) := by decide +kernel
theorem dX5_readClause_47 : decode cX5_readClause 47 = .ok (.ifCond .eq 19, 3) := by decide +kernel
theorem dX5_readClause_50 : decode cX5_readClause 50 = .ok (.aload_n 0, 1) := by decide +kernel
theorem dX5_readClause_51 : decode cX5_readClause 51 = .ok (.aload_n 1, 1) := by decide +kernel
theorem dX5_readClause_52 : decode cX5_readClause 52 = .ok (.iconst 1, 1) := by decide +kernel
theorem dX5_readClause_53 : decode cX5_readClause 53 = .ok (.invokevirtual 57, 3) := by decide +kernel
theorem dX5_readClause_56 : decode cX5_readClause 56 = .ok (.istore 4, 2) := by decide +kernel
theorem dX5_readClause_58 : decode cX5_readClause 58 = .ok (.iload 4, 2) := by decide +kernel
theorem dX5_readClause_60 : decode cX5_readClause 60 = .ok (.iconst (-1), 1) := by decide +kernel
theorem dX5_readClause_61 : decode cX5_readClause 61 = .ok (.if_icmp .ne 5, 3) := by decide +kernel
theorem dX5_readClause_64 : decode cX5_readClause 64 = .ok (.iconst 0, 1) := by decide +kernel
theorem dX5_readClause_65 : decode cX5_readClause 65 = .ok (.ireturn, 1) := by decide +kernel
theorem dX5_readClause_66 : decode cX5_readClause 66 = .ok (.aload_n 0, 1) := by decide +kernel
theorem dX5_readClause_67 : decode cX5_readClause 67 = .ok (.getfield 18, 3) := by decide +kernel
theorem dX5_readClause_70 : decode cX5_readClause 70 = .ok (.iload_n 2, 1) := by decide +kernel
theorem dX5_readClause_71 : decode cX5_readClause 71 = .ok (.iload_n 3, 1) := by decide +kernel
theorem dX5_readClause_72 : decode cX5_readClause 72 = .ok (.iastore, 1) := by decide +kernel
theorem dX5_readClause_73 : decode cX5_readClause 73 = .ok (.aload_n 0, 1) := by decide +kernel
theorem dX5_readClause_74 : decode cX5_readClause 74 = .ok (.getfield 21, 3) := by decide +kernel
theorem dX5_readClause_77 : decode cX5_readClause 77 = .ok (.iload_n 2, 1) := by decide +kernel
theorem dX5_readClause_78 : decode cX5_readClause 78 = .ok (.iload 4, 2) := by decide +kernel
theorem dX5_readClause_80 : decode cX5_readClause 80 = .ok (.iastore, 1) := by decide +kernel
theorem dX5_readClause_81 : decode cX5_readClause 81 = .ok (.iconst 1, 1) := by decide +kernel
theorem dX5_readClause_82 : decode cX5_readClause 82 = .ok (.ireturn, 1) := by decide +kernel
def f_X5_readClause (h : Hp) (a0 : Nat) (a1 : Nat) : Option (Int32 × Hp) :=
gd (okOb h a0 5) <|
bnd (f_X5_readWord h a0 a1) fun v2 h3 =>
if v2 = (-1 : Int32) then (
some ((0 : Int32), h3)) else (
bnd (f_X5_skip h3 a0 a1 (61 : Int32)) fun v5 h6 =>
if v5 = 0 then (
some ((0 : Int32), h6)) else (
bnd (f_X5_readNumber h6 a0 a1 (0 : Int32)) fun v8 h9 =>
if v8 = (-1 : Int32) then (
some ((0 : Int32), h9)) else (
bnd (f_X5_skip h9 a0 a1 (47 : Int32)) fun v11 h12 =>
if v11 = 0 then (
vl (gR h12 a0 2) fun r14 =>
un r14 fun b15 =>
gd (okAb h12 b15 11 v2) <|
vl (sI h12 b15 v2.toNatClampNeg v8) fun h17 =>
vl (gR h17 a0 3) fun r18 =>
un r18 fun b19 =>
gd (okAb h17 b19 11 v2) <|
vl (sI h17 b19 v2.toNatClampNeg (1 : Int32)) fun h21 =>
some ((1 : Int32), h21)) else (
bnd (f_X5_readNumber h12 a0 a1 (1 : Int32)) fun v22 h23 =>
if v22 = (-1 : Int32) then (
some ((0 : Int32), h23)) else (
vl (gR h23 a0 2) fun r25 =>
un r25 fun b26 =>
gd (okAb h23 b26 11 v2) <|
vl (sI h23 b26 v2.toNatClampNeg v8) fun h28 =>
vl (gR h28 a0 3) fun r29 =>
un r29 fun b30 =>
gd (okAb h28 b30 11 v2) <|
vl (sI h28 b30 v2.toNatClampNeg v22) fun h32 =>
some ((1 : Int32), h32))))))
set_option maxHeartbeats 4000000 in
set_option maxRecDepth 100000 in
theorem t_X5_readClause {X : Cx} {d : Nat} {h : Hp} {a0 : Nat} {a1 : Nat} {v : Int32} {h' : Hp} (hD : 7 ≤ d) (H : f_X5_readClause h a0 a1 = some (v, h')) : PM X mX5_readClause d [.ref a0, .ref a1] h (some (.int v)) h' := by
  unfold f_X5_readClause at H
  refine PM.of (loc := [some (.ref a0), some (.ref a1), none, none, none]) (by decide) rfl (Nat.le_of_ble_eq_true rfl) ?_
  refine ev_aload_n dX5_readClause_0 rfl rfl rfl ?_
  refine ev_aload_n dX5_readClause_1 rfl rfl rfl ?_
  replace H := gd_some H
  obtain ⟨g1, H⟩ := H
  replace H := bnd_some H
  obtain ⟨v2, h3, eh3, H⟩ := H
  have ph3 := (t_X5_readWord (X := X) (d := 6) (by omega) eh3)
  refine ev_callV (as := [.ref a1]) dX5_readClause_2 ph3 ok_X5_readWord (by omega) rfl k3_233 k3_235 ks_15 (ci := 5) (by decide) rfl rfl (okOb.p g1) rfl (Nat.le_of_ble_eq_true rfl) ?_
  refine ev_istore_n (loc2 := [some (.ref a0), some (.ref a1), some (.int v2), none, none]) dX5_readClause_5 rfl (by decide) rfl ?_
  refine ev_iload_n dX5_readClause_6 rfl rfl ?_
  refine ev_iconst (v := (-1 : Int32)) dX5_readClause_7 (by decide) ?_
  refine ev_icmp_eq (tgt := 21) dX5_readClause_8 (by decide) (fun c4 => ?_) (fun c4 => ?_)
  · rw [if_pos c4] at H
    refine ev_iconst (v := (0 : Int32)) dX5_readClause_21 (by decide) ?_
    exact ev_iretx dX5_readClause_22 rfl rfl H
  · rw [if_neg c4] at H
    refine ev_aload_n dX5_readClause_11 rfl rfl rfl ?_
    refine ev_aload_n dX5_readClause_12 rfl rfl rfl ?_
    refine ev_bipush (v := (61 : Int32)) dX5_readClause_13 (by decide) ?_
    replace H := bnd_some H
    obtain ⟨v5, h6, eh6, H⟩ := H
    have ph6 := (t_X5_skip (X := X) (d := 2) (by omega) eh6)
    refine ev_callV (as := [.ref a1, .int (61 : Int32)]) dX5_readClause_15 ph6 ok_X5_skip (by omega) rfl k4_60 k4_62 ks_17 (ci := 5) (by decide) rfl rfl (okO_ext ph3.1 (okOb.p g1)) rfl (Nat.le_of_ble_eq_true rfl) ?_
    refine ev_if_ne (tgt := 23) dX5_readClause_18 (by decide) (fun c7 => ?_) (fun c7 => ?_)
    · rw [if_neg c7] at H
      refine ev_aload_n dX5_readClause_23 rfl rfl rfl ?_
      refine ev_aload_n dX5_readClause_24 rfl rfl rfl ?_
      refine ev_iconst (v := (0 : Int32)) dX5_readClause_25 (by decide) ?_
      replace H := bnd_some H
      obtain ⟨v8, h9, eh9, H⟩ := H
      have ph9 := (t_X5_readNumber (X := X) (d := 3) (by omega) eh9)
      refine ev_callV (as := [.ref a1, .int (0 : Int32)]) dX5_readClause_26 ph9 ok_X5_readNumber (by omega) rfl k4_64 k4_66 ks_18 (ci := 5) (by decide) rfl rfl (okO_ext ph6.1 (okO_ext ph3.1 (okOb.p g1))) rfl (Nat.le_of_ble_eq_true rfl) ?_
      refine ev_istore_n (loc2 := [some (.ref a0), some (.ref a1), some (.int v2), some (.int v8), none]) dX5_readClause_29 rfl (by decide) rfl ?_
      refine ev_iload_n dX5_readClause_30 rfl rfl ?_
      refine ev_iconst (v := (-1 : Int32)) dX5_readClause_31 (by decide) ?_
      refine ev_icmp_ne (tgt := 37) dX5_readClause_32 (by decide) (fun c10 => ?_) (fun c10 => ?_)
      · rw [if_neg c10] at H
        refine ev_iconst (v := (1 : Int32)) dX5_readClause_37 (by decide) ?_
        refine ev_istore (loc2 := [some (.ref a0), some (.ref a1), some (.int v2), some (.int v8), some (.int (1 : Int32))]) dX5_readClause_38 (by decide) rfl ?_
        refine ev_aload_n dX5_readClause_40 rfl rfl rfl ?_
        refine ev_aload_n dX5_readClause_41 rfl rfl rfl ?_
        refine ev_bipush (v := (47 : Int32)) dX5_readClause_42 (by decide) ?_
        replace H := bnd_some H
        obtain ⟨v11, h12, eh12, H⟩ := H
        have ph12 := (t_X5_skip (X := X) (d := 2) (by omega) eh12)
        refine ev_callV (as := [.ref a1, .int (47 : Int32)]) dX5_readClause_44 ph12 ok_X5_skip (by omega) rfl k4_60 k4_62 ks_17 (ci := 5) (by decide) rfl rfl (okO_ext ph9.1 (okO_ext ph6.1 (okO_ext ph3.1 (okOb.p g1)))) rfl (Nat.le_of_ble_eq_true rfl) ?_
        refine ev_if_eq (tgt := 66) dX5_readClause_47 (by decide) (fun c13 => ?_) (fun c13 => ?_)
        · rw [if_pos c13] at H
          refine ev_aload_n dX5_readClause_66 rfl rfl rfl ?_
          replace H := vl_some H
          obtain ⟨r14, er14, H⟩ := H
          refine ev_getRx dX5_readClause_67 fgX5_18 rfl (okO_ext ph12.1 (okO_ext ph9.1 (okO_ext ph6.1 (okO_ext ph3.1 (okOb.p g1))))) er14 ?_
          refine ev_iload_n dX5_readClause_70 rfl rfl ?_
          refine ev_iload_n dX5_readClause_71 rfl rfl ?_
          replace H := un_some H
          obtain ⟨b15, eb15, H⟩ := H
          subst eb15
          replace H := gd_some H
          obtain ⟨g16, H⟩ := H
          replace H := vl_some H
          obtain ⟨h17, eh17, H⟩ := H
          refine ev_iast dX5_readClause_72 (okAb.p g16) eh17 ?_
          refine ev_aload_n dX5_readClause_73 rfl rfl rfl ?_
          replace H := vl_some H
          obtain ⟨r18, er18, H⟩ := H
          refine ev_getRx dX5_readClause_74 fgX5_21 rfl (okO_sI eh17 (okO_ext ph12.1 (okO_ext ph9.1 (okO_ext ph6.1 (okO_ext ph3.1 (okOb.p g1)))))) er18 ?_
          refine ev_iload_n dX5_readClause_77 rfl rfl ?_
          refine ev_iload dX5_readClause_78 rfl ?_
          replace H := un_some H
          obtain ⟨b19, eb19, H⟩ := H
          subst eb19
          replace H := gd_some H
          obtain ⟨g20, H⟩ := H
          replace H := vl_some H
          obtain ⟨h21, eh21, H⟩ := H
          refine ev_iast dX5_readClause_80 (okAb.p g20) eh21 ?_
          refine ev_iconst (v := (1 : Int32)) dX5_readClause_81 (by decide) ?_
          exact ev_iretx dX5_readClause_82 rfl rfl H
        · rw [if_neg c13] at H
          refine ev_aload_n dX5_readClause_50 rfl rfl rfl ?_
          refine ev_aload_n dX5_readClause_51 rfl rfl rfl ?_
          refine ev_iconst (v := (1 : Int32)) dX5_readClause_52 (by decide) ?_
          replace H := bnd_some H
          obtain ⟨v22, h23, eh23, H⟩ := H
          have ph23 := (t_X5_readNumber (X := X) (d := 3) (by omega) eh23)
          refine ev_callV (as := [.ref a1, .int (1 : Int32)]) dX5_readClause_53 ph23 ok_X5_readNumber (by omega) rfl k4_64 k4_66 ks_18 (ci := 5) (by decide) rfl rfl (okO_ext ph12.1 (okO_ext ph9.1 (okO_ext ph6.1 (okO_ext ph3.1 (okOb.p g1))))) rfl (Nat.le_of_ble_eq_true rfl) ?_
          refine ev_istore (loc2 := [some (.ref a0), some (.ref a1), some (.int v2), some (.int v8), some (.int v22)]) dX5_readClause_56 (by decide) rfl ?_
          refine ev_iload dX5_readClause_58 rfl ?_
          refine ev_iconst (v := (-1 : Int32)) dX5_readClause_60 (by decide) ?_
          refine ev_icmp_ne (tgt := 66) dX5_readClause_61 (by decide) (fun c24 => ?_) (fun c24 => ?_)
          · rw [if_neg c24] at H
            refine ev_aload_n dX5_readClause_66 rfl rfl rfl ?_
            replace H := vl_some H
            obtain ⟨r25, er25, H⟩ := H
            refine ev_getRx dX5_readClause_67 fgX5_18 rfl (okO_ext ph23.1 (okO_ext ph12.1 (okO_ext ph9.1 (okO_ext ph6.1 (okO_ext ph3.1 (okOb.p g1)))))) er25 ?_
            refine ev_iload_n dX5_readClause_70 rfl rfl ?_
            refine ev_iload_n dX5_readClause_71 rfl rfl ?_
            replace H := un_some H
            obtain ⟨b26, eb26, H⟩ := H
            subst eb26
            replace H := gd_some H
            obtain ⟨g27, H⟩ := H
            replace H := vl_some H
            obtain ⟨h28, eh28, H⟩ := H
            refine ev_iast dX5_readClause_72 (okAb.p g27) eh28 ?_
            refine ev_aload_n dX5_readClause_73 rfl rfl rfl ?_
            replace H := vl_some H
            obtain ⟨r29, er29, H⟩ := H
            refine ev_getRx dX5_readClause_74 fgX5_21 rfl (okO_sI eh28 (okO_ext ph23.1 (okO_ext ph12.1 (okO_ext ph9.1 (okO_ext ph6.1 (okO_ext ph3.1 (okOb.p g1))))))) er29 ?_
            refine ev_iload_n dX5_readClause_77 rfl rfl ?_
            refine ev_iload dX5_readClause_78 rfl ?_
            replace H := un_some H
            obtain ⟨b30, eb30, H⟩ := H
            subst eb30
            replace H := gd_some H
            obtain ⟨g31, H⟩ := H
            replace H := vl_some H
            obtain ⟨h32, eh32, H⟩ := H
            refine ev_iast dX5_readClause_80 (okAb.p g31) eh32 ?_
            refine ev_iconst (v := (1 : Int32)) dX5_readClause_81 (by decide) ?_
            exact ev_iretx dX5_readClause_82 rfl rfl H
          · rw [if_pos c24] at H
            refine ev_iconst (v := (0 : Int32)) dX5_readClause_64 (by decide) ?_
            exact ev_iretx dX5_readClause_65 rfl rfl H
      · rw [if_pos c10] at H
        refine ev_iconst (v := (0 : Int32)) dX5_readClause_35 (by decide) ?_
        exact ev_iretx dX5_readClause_36 rfl rfl H
    · rw [if_pos c7] at H
      refine ev_iconst (v := (0 : Int32)) dX5_readClause_21 (by decide) ?_
      exact ev_iretx dX5_readClause_22 rfl rfl H

theorem dX5_take_0 : decode cX5_take 0 = .ok (.aload_n 0, 1) := by decide +kernel
theorem dX5_take_1 : decode cX5_take 1 = .ok (.getfield 18, 3) := by decide +kernel
theorem dX5_take_4 : decode cX5_take 4 = .ok (.iconst 0, 1) := by decide +kernel
theorem dX5_take_5 : decode cX5_take 5 = .ok (.invokestatic 24, 3) := by decide +kernel
theorem dX5_take_8 : decode cX5_take 8 = .ok (.aload_n 0, 1) := by decide +kernel
theorem dX5_take_9 : decode cX5_take 9 = .ok (.getfield 21, 3) := by decide +kernel
theorem dX5_take_12 : decode cX5_take 12 = .ok (.iconst 1, 1) := by decide +kernel
theorem dX5_take_13 : decode cX5_take 13 = .ok (.invokestatic 24, 3) := by decide +kernel
theorem dX5_take_16 : decode cX5_take 16 = .ok (.aload_n 0, 1) := by decide +kernel
theorem dX5_take_17 : decode cX5_take 17 = .ok (.iconst 0, 1) := by decide +kernel
theorem dX5_take_18 : decode cX5_take 18 = .ok (.putfield 30, 3) := by decide +kernel
theorem dX5_take_21 : decode cX5_take 21 = .ok (.iconst 0, 1) := by decide +kernel
theorem dX5_take_22 : decode cX5_take 22 = .ok (.istore_n 2, 1) := by decide +kernel
theorem dX5_take_23 : decode cX5_take 23 = .ok (.aload_n 0, 1) := by decide +kernel
theorem dX5_take_24 : decode cX5_take 24 = .ok (.aload_n 1, 1) := by decide +kernel
theorem dX5_take_25 : decode cX5_take 25 = .ok (.invokevirtual 34, 3) := by decide +kernel
theorem dX5_take_28 : decode cX5_take 28 = .ok (.ifCond .ne 11, 3) := by decide +kernel
theorem dX5_take_31 : decode cX5_take 31 = .ok (.bipush (-10), 2) := by decide +kernel
theorem dX5_take_33 : decode cX5_take 33 = .ok (.aload_n 0, 1) := by decide +kernel
theorem dX5_take_34 : decode cX5_take 34 = .ok (.getfield 30, 3) := by decide +kernel
theorem dX5_take_37 : decode cX5_take 37 = .ok (.isub, 1) := by decide +kernel
theorem dX5_take_38 : decode cX5_take 38 = .ok (.ireturn, 1) := by decide +kernel
theorem dX5_take_39 : decode cX5_take 39 = .ok (.iinc 2 1, 3) := by decide +kernel
theorem dX5_take_42 : decode cX5_take 42 = .ok (.iload_n 2, 1) := by decide +kernel
theorem dX5_take_43 : decode cX5_take 43 = .ok (.bipush 8, 2) := by decide +kernel
theorem dX5_take_45 : decode cX5_take 45 = .ok (.if_icmp .ge 13, 3) := by decide +kernel
theorem dX5_take_48 : decode cX5_take 48 = .ok (.aload_n 0, 1) := by decide +kernel
theorem dX5_take_49 : decode cX5_take 49 = .ok (.aload_n 1, 1) := by decide +kernel
theorem dX5_take_50 : decode cX5_take 50 = .ok (.bipush 59, 2) := by decide +kernel
theorem dX5_take_52 : decode cX5_take 52 = .ok (.invokevirtual 38, 3) := by decide +kernel
theorem dX5_take_55 : decode cX5_take 55 = .ok (.ifCond .ne (-32), 3) := by decide +kernel
theorem dX5_take_58 : decode cX5_take 58 = .ok (.aload_n 0, 1) := by decide +kernel
theorem dX5_take_59 : decode cX5_take 59 = .ok (.getfield 30, 3) := by decide +kernel
theorem dX5_take_62 : decode cX5_take 62 = .ok (.aload_n 1, 1) := by decide +kernel
theorem dX5_take_63 : decode cX5_take 63 = .ok (.getfield 42, 3) := by decide +kernel
theorem dX5_take_66 : decode cX5_take 66 = .ok (.if_icmp .ge 11, 3) := by decide +kernel
theorem dX5_take_69 : decode cX5_take 69 = .ok (.bipush (-10), 2) := by decide +kernel
theorem dX5_take_71 : decode cX5_take 71 = .ok (.aload_n 0, 1) := by decide +kernel
theorem dX5_take_72 : decode cX5_take 72 = .ok (.getfield 30, 3) := by decide +kernel
theorem dX5_take_75 : decode cX5_take 75 = .ok (.isub, 1) := by decide +kernel
theorem dX5_take_76 : decode cX5_take 76 = .ok (.ireturn, 1) := by decide +kernel
theorem dX5_take_77 : decode cX5_take 77 = .ok (.aload_n 0, 1) := by decide +kernel
theorem dX5_take_78 : decode cX5_take 78 = .ok (.getfield 18, 3) := by decide +kernel
theorem dX5_take_81 : decode cX5_take 81 = .ok (.iconst 0, 1) := by decide +kernel
theorem dX5_take_82 : decode cX5_take 82 = .ok (.aload_n 0, 1) := by decide +kernel
theorem dX5_take_83 : decode cX5_take 83 = .ok (.getfield 9, 3) := by decide +kernel
theorem dX5_take_86 : decode cX5_take 86 = .ok (.iconst 0, 1) := by decide +kernel
theorem dX5_take_87 : decode cX5_take 87 = .ok (.iconst 4, 1) := by decide +kernel
theorem dX5_take_88 : decode cX5_take 88 = .ok (.invokestatic 47, 3) := by decide +kernel
theorem dX5_take_91 : decode cX5_take 91 = .ok (.aload_n 0, 1) := by decide +kernel
theorem dX5_take_92 : decode cX5_take 92 = .ok (.getfield 21, 3) := by decide +kernel
theorem dX5_take_95 : decode cX5_take 95 = .ok (.iconst 0, 1) := by decide +kernel
theorem dX5_take_96 : decode cX5_take 96 = .ok (.aload_n 0, 1) := by decide +kernel
theorem dX5_take_97 : decode cX5_take 97 = .ok (.getfield 15, 3) := by decide +kernel
theorem dX5_take_100 : decode cX5_take 100 = .ok (.iconst 0, 1) := by decide +kernel
theorem dX5_take_101 : decode cX5_take 101 = .ok (.iconst 4, 1) := by decide +kernel
theorem dX5_take_102 : decode cX5_take 102 = .ok (.invokestatic 47, 3) := by decide +kernel
theorem dX5_take_105 : decode cX5_take 105 = .ok (.iload_n 2, 1) := by decide +kernel
theorem dX5_take_106 : decode cX5_take 106 = .ok (.ireturn, 1) := by decide +kernel
def f_X5_take_L23 (k58 : Nat → Nat → Int32 → Hp → Option (Int32 × Hp)) : Nat → Nat → Nat → Int32 → Hp → Option (Int32 × Hp)
  | 0, _, _, _, _ => none
  | n + 1, l0, l1, l2, h =>
    gd (okOb h l0 5) <|
    bnd (f_X5_readClause h l0 l1) fun v12 h13 =>
    if v12 = 0 then (
    vl (gI h13 l0 4) fun x20 =>
    some ((-10 : Int32) - x20, h13)) else (
    vl (l2 + (1 : Int32)) fun x15 =>
    if (8 : Int32) ≤ x15 then (
    k58 l0 l1 x15 h13) else (
    bnd (f_X5_skip h13 l0 l1 (59 : Int32)) fun v17 h18 =>
    if v17 = 0 then (
    k58 l0 l1 x15 h18) else (
    f_X5_take_L23 k58 n l0 l1 x15 h18)))
set_option maxHeartbeats 4000000 in
set_option maxRecDepth 100000 in
theorem t_X5_take_L23 {X : Cx} {d : Nat} {h0 h' : Hp} {v : Int32} {k58 : Nat → Nat → Int32 → Hp → Option (Int32 × Hp)} (hD : 8 ≤ d) (hk58 : ∀ (z0 : Nat) (z1 : Nat) (z2 : Int32) (h : Hp), k58 z0 z1 z2 h = some (v, h') → EV X mX5_take d h0 (some (.int v)) h' 58 [some (.ref z0), some (.ref z1), some (.int z2)] [] h) : ∀ (n : Nat) (l0 : Nat) (l1 : Nat) (l2 : Int32) (h : Hp), f_X5_take_L23 k58 n l0 l1 l2 h = some (v, h') → EV X mX5_take d h0 (some (.int v)) h' 23 [some (.ref l0), some (.ref l1), some (.int l2)] [] h := by
  intro n
  induction n with
  | zero => intro l0 l1 l2 h H; simp [f_X5_take_L23] at H
  | succ n ih =>
    intro l0 l1 l2 h H
    rw [f_X5_take_L23] at H
    refine ev_aload_n dX5_take_23 rfl rfl rfl ?_
    refine ev_aload_n dX5_take_24 rfl rfl rfl ?_
    replace H := gd_some H
    obtain ⟨g11, H⟩ := H
    replace H := bnd_some H
    obtain ⟨v12, h13, eh13, H⟩ := H
    have ph13 := (t_X5_readClause (X := X) (d := 7) (by omega) eh13)
    refine ev_callV (as := [.ref l1]) dX5_take_25 ph13 ok_X5_readClause (by omega) rfl k3_229 k3_231 ks_14 (ci := 5) (by decide) rfl rfl (okOb.p g11) rfl (Nat.le_of_ble_eq_true rfl) ?_
    refine ev_if_ne (tgt := 39) dX5_take_28 (by decide) (fun c14 => ?_) (fun c14 => ?_)
    · rw [if_neg c14] at H
      replace H := vl_some H
      obtain ⟨x15, ex15, H⟩ := H
      refine ev_iincx (loc2 := [some (.ref l0), some (.ref l1), some (.int x15)]) dX5_take_39 rfl (by decide) ex15 (by decide) rfl ?_
      refine ev_iload_n dX5_take_42 rfl rfl ?_
      refine ev_bipush (v := (8 : Int32)) dX5_take_43 (by decide) ?_
      refine ev_icmp_ge (tgt := 58) dX5_take_45 (by decide) (fun c16 => ?_) (fun c16 => ?_)
      · rw [if_pos c16] at H
        exact hk58 l0 l1 x15 h13 H
      · rw [if_neg c16] at H
        refine ev_aload_n dX5_take_48 rfl rfl rfl ?_
        refine ev_aload_n dX5_take_49 rfl rfl rfl ?_
        refine ev_bipush (v := (59 : Int32)) dX5_take_50 (by decide) ?_
        replace H := bnd_some H
        obtain ⟨v17, h18, eh18, H⟩ := H
        have ph18 := (t_X5_skip (X := X) (d := 2) (by omega) eh18)
        refine ev_callV (as := [.ref l1, .int (59 : Int32)]) dX5_take_52 ph18 ok_X5_skip (by omega) rfl k4_60 k4_62 ks_17 (ci := 5) (by decide) rfl rfl (okO_ext ph13.1 (okOb.p g11)) rfl (Nat.le_of_ble_eq_true rfl) ?_
        refine ev_if_ne (tgt := 23) dX5_take_55 (by decide) (fun c19 => ?_) (fun c19 => ?_)
        · rw [if_neg c19] at H
          exact ih l0 l1 x15 h18 H
        · rw [if_pos c19] at H
          exact hk58 l0 l1 x15 h18 H
    · rw [if_pos c14] at H
      refine ev_bipush (v := (-10 : Int32)) dX5_take_31 (by decide) ?_
      refine ev_aload_n dX5_take_33 rfl rfl rfl ?_
      replace H := vl_some H
      obtain ⟨x20, ex20, H⟩ := H
      refine ev_getIx dX5_take_34 fgX5_30 rfl (okO_ext ph13.1 (okOb.p g11)) ex20 ?_
      refine ev_isub dX5_take_37 ?_
      exact ev_iretx dX5_take_38 rfl rfl H
def f_X5_take_J58 (l0 : Nat) (l1 : Nat) (l2 : Int32) (h : Hp) : Option (Int32 × Hp) :=
gd (okOb h l0 5) <|
vl (gI h l0 4) fun x26 =>
gd (okOb h l1 8) <|
vl (gI h l1 1) fun x28 =>
if x28 ≤ x26 then (
vl (gR h l0 2) fun r30 =>
vl (gR h l0 0) fun r31 =>
un r31 fun b32 =>
un r30 fun b33 =>
gd (okC h b33 b32 (0 : Int32) (0 : Int32) (4 : Int32)) <|
vl (sW h b32 (va_cpy (gI h b33) (gI h b32) (0 : Int32).toNatClampNeg (0 : Int32).toNatClampNeg (4 : Int32).toNatClampNeg)) fun h35 =>
vl (gR h35 l0 3) fun r36 =>
vl (gR h35 l0 1) fun r37 =>
un r37 fun b38 =>
un r36 fun b39 =>
gd (okC h35 b39 b38 (0 : Int32) (0 : Int32) (4 : Int32)) <|
vl (sW h35 b38 (va_cpy (gI h35 b39) (gI h35 b38) (0 : Int32).toNatClampNeg (0 : Int32).toNatClampNeg (4 : Int32).toNatClampNeg)) fun h41 =>
some (l2, h41)) else (
vl (gI h l0 4) fun x42 =>
some ((-10 : Int32) - x42, h))
set_option maxHeartbeats 4000000 in
set_option maxRecDepth 100000 in
theorem t_X5_take_J58 {X : Cx} {d : Nat} {h0 h' : Hp} {v : Int32} (hD : 8 ≤ d) : ∀ (l0 : Nat) (l1 : Nat) (l2 : Int32) (h : Hp), f_X5_take_J58 l0 l1 l2 h = some (v, h') → EV X mX5_take d h0 (some (.int v)) h' 58 [some (.ref l0), some (.ref l1), some (.int l2)] [] h := by
  intro l0 l1 l2 h H
  unfold f_X5_take_J58 at H
  refine ev_aload_n dX5_take_58 rfl rfl rfl ?_
  replace H := gd_some H
  obtain ⟨g25, H⟩ := H
  replace H := vl_some H
  obtain ⟨x26, ex26, H⟩ := H
  refine ev_getIx dX5_take_59 fgX5_30 rfl (okOb.p g25) ex26 ?_
  refine ev_aload_n dX5_take_62 rfl rfl rfl ?_
  replace H := gd_some H
  obtain ⟨g27, H⟩ := H
  replace H := vl_some H
  obtain ⟨x28, ex28, H⟩ := H
  refine ev_getIx dX5_take_63 fgX5_42 rfl (okOb.p g27) ex28 ?_
  refine ev_icmp_ge (tgt := 77) dX5_take_66 (by decide) (fun c29 => ?_) (fun c29 => ?_)
  · rw [if_pos c29] at H
    refine ev_aload_n dX5_take_77 rfl rfl rfl ?_
    replace H := vl_some H
    obtain ⟨r30, er30, H⟩ := H
    refine ev_getRx dX5_take_78 fgX5_18 rfl (okOb.p g25) er30 ?_
    refine ev_iconst (v := (0 : Int32)) dX5_take_81 (by decide) ?_
    refine ev_aload_n dX5_take_82 rfl rfl rfl ?_
    replace H := vl_some H
    obtain ⟨r31, er31, H⟩ := H
    refine ev_getRx dX5_take_83 fgX5_9 rfl (okOb.p g25) er31 ?_
    refine ev_iconst (v := (0 : Int32)) dX5_take_86 (by decide) ?_
    refine ev_iconst (v := (4 : Int32)) dX5_take_87 (by decide) ?_
    replace H := un_some H
    obtain ⟨b32, eb32, H⟩ := H
    subst eb32
    replace H := un_some H
    obtain ⟨b33, eb33, H⟩ := H
    subst eb33
    replace H := gd_some H
    obtain ⟨g34, H⟩ := H
    replace H := vl_some H
    obtain ⟨h35, eh35, H⟩ := H
    refine ev_copy dX5_take_88 k4_72 k2_108 k2_107 k1_12 (by omega) (Nat.le_of_ble_eq_true rfl) (okC.p g34).1 (okC.p g34).2.1 (okC.p g34).2.2 eh35 ?_
    refine ev_aload_n dX5_take_91 rfl rfl rfl ?_
    replace H := vl_some H
    obtain ⟨r36, er36, H⟩ := H
    refine ev_getRx dX5_take_92 fgX5_21 rfl (okO_sW eh35 (okOb.p g25)) er36 ?_
    refine ev_iconst (v := (0 : Int32)) dX5_take_95 (by decide) ?_
    refine ev_aload_n dX5_take_96 rfl rfl rfl ?_
    replace H := vl_some H
    obtain ⟨r37, er37, H⟩ := H
    refine ev_getRx dX5_take_97 fgX5_15 rfl (okO_sW eh35 (okOb.p g25)) er37 ?_
    refine ev_iconst (v := (0 : Int32)) dX5_take_100 (by decide) ?_
    refine ev_iconst (v := (4 : Int32)) dX5_take_101 (by decide) ?_
    replace H := un_some H
    obtain ⟨b38, eb38, H⟩ := H
    subst eb38
    replace H := un_some H
    obtain ⟨b39, eb39, H⟩ := H
    subst eb39
    replace H := gd_some H
    obtain ⟨g40, H⟩ := H
    replace H := vl_some H
    obtain ⟨h41, eh41, H⟩ := H
    refine ev_copy dX5_take_102 k4_72 k2_108 k2_107 k1_12 (by omega) (Nat.le_of_ble_eq_true rfl) (okC.p g40).1 (okC.p g40).2.1 (okC.p g40).2.2 eh41 ?_
    refine ev_iload_n dX5_take_105 rfl rfl ?_
    exact ev_iretx dX5_take_106 rfl rfl H
  · rw [if_neg c29] at H
    refine ev_bipush (v := (-10 : Int32)) dX5_take_69 (by decide) ?_
    refine ev_aload_n dX5_take_71 rfl rfl rfl ?_
    replace H := vl_some H
    obtain ⟨x42, ex42, H⟩ := H
    refine ev_getIx dX5_take_72 fgX5_30 rfl (okOb.p g25) ex42 ?_
    refine ev_isub dX5_take_75 ?_
    exact ev_iretx dX5_take_76 rfl rfl H
def f_X5_take (h : Hp) (a0 : Nat) (a1 : Nat) : Option (Int32 × Hp) :=
gd (okOb h a0 5) <|
vl (gR h a0 2) fun r2 =>
un r2 fun b3 =>
bnd (f_J7_fill_53178 h b3 (0 : Int32)) fun u4 h5 =>
vl (gR h5 a0 3) fun r6 =>
un r6 fun b7 =>
bnd (f_J7_fill_53178 h5 b7 (1 : Int32)) fun u8 h9 =>
vl (sI h9 a0 4 (0 : Int32)) fun h10 =>
f_X5_take_L23 (fun y21 y22 y23 h24 =>
f_X5_take_J58 y21 y22 y23 h24) 6000 a0 a1 (0 : Int32) h10
set_option maxHeartbeats 4000000 in
set_option maxRecDepth 100000 in
theorem t_X5_take {X : Cx} {d : Nat} {h : Hp} {a0 : Nat} {a1 : Nat} {v : Int32} {h' : Hp} (hD : 8 ≤ d) (H : f_X5_take h a0 a1 = some (v, h')) : PM X mX5_take d [.ref a0, .ref a1] h (some (.int v)) h' := by
  unfold f_X5_take at H
  refine PM.of (loc := [some (.ref a0), some (.ref a1), none]) (by decide) rfl (Nat.le_of_ble_eq_true rfl) ?_
  refine ev_aload_n dX5_take_0 rfl rfl rfl ?_
  replace H := gd_some H
  obtain ⟨g1, H⟩ := H
  replace H := vl_some H
  obtain ⟨r2, er2, H⟩ := H
  refine ev_getRx dX5_take_1 fgX5_18 rfl (okOb.p g1) er2 ?_
  refine ev_iconst (v := (0 : Int32)) dX5_take_4 (by decide) ?_
  replace H := un_some H
  obtain ⟨b3, eb3, H⟩ := H
  subst eb3
  replace H := bnd_some H
  obtain ⟨u4, h5, eh5, H⟩ := H
  have ph5 := (t_J7_fill_53178 (X := X) (d := 1) (by omega) eh5)
  refine ev_callS (as := [.ref b3, .int (0 : Int32)]) dX5_take_5 ph5 ok_J7_fill_53178 (by omega) rfl k1_114 k1_78 rfl (Nat.le_of_ble_eq_true rfl) ?_
  refine ev_aload_n dX5_take_8 rfl rfl rfl ?_
  replace H := vl_some H
  obtain ⟨r6, er6, H⟩ := H
  refine ev_getRx dX5_take_9 fgX5_21 rfl (okO_ext ph5.1 (okOb.p g1)) er6 ?_
  refine ev_iconst (v := (1 : Int32)) dX5_take_12 (by decide) ?_
  replace H := un_some H
  obtain ⟨b7, eb7, H⟩ := H
  subst eb7
  replace H := bnd_some H
  obtain ⟨u8, h9, eh9, H⟩ := H
  have ph9 := (t_J7_fill_53178 (X := X) (d := 1) (by omega) eh9)
  refine ev_callS (as := [.ref b7, .int (1 : Int32)]) dX5_take_13 ph9 ok_J7_fill_53178 (by omega) rfl k1_114 k1_78 rfl (Nat.le_of_ble_eq_true rfl) ?_
  refine ev_aload_n dX5_take_16 rfl rfl rfl ?_
  refine ev_iconst (v := (0 : Int32)) dX5_take_17 (by decide) ?_
  replace H := vl_some H
  obtain ⟨h10, eh10, H⟩ := H
  refine ev_putI dX5_take_18 fdX5_30 rfl rfl rfl (okO_ext ph9.1 (okO_ext ph5.1 (okOb.p g1))) eh10 ?_
  refine ev_iconst (v := (0 : Int32)) dX5_take_21 (by decide) ?_
  refine ev_istore_n (loc2 := [some (.ref a0), some (.ref a1), some (.int (0 : Int32))]) dX5_take_22 rfl (by decide) rfl ?_
  refine t_X5_take_L23 hD ?_ 6000 a0 a1 (0 : Int32) h10 H
  · intro y21 y22 y23 h24 H
    exact t_X5_take_J58 hD y21 y22 y23 h24 H

theorem dX5_amount_0 : decode cX5_amount 0 = .ok (.aload_n 0, 1) := by decide +kernel
theorem dX5_amount_1 : decode cX5_amount 1 = .ok (.getfield 15, 3) := by decide +kernel
theorem dX5_amount_4 : decode cX5_amount 4 = .ok (.iload_n 1, 1) := by decide +kernel
theorem dX5_amount_5 : decode cX5_amount 5 = .ok (.iaload, 1) := by decide +kernel
theorem dX5_amount_6 : decode cX5_amount 6 = .ok (.ifCond .le 24, 3) := by decide +kernel
theorem dX5_amount_9 : decode cX5_amount 9 = .ok (.iload_n 2, 1) := by decide +kernel
theorem dX5_amount_10 : decode cX5_amount 10 = .ok (.i2l, 1) := by decide +kernel
theorem dX5_amount_11 : decode cX5_amount 11 = .ok (.aload_n 0, 1) := by decide +kernel
theorem dX5_amount_12 : decode cX5_amount 12 = .ok (.getfield 9, 3) := by decide +kernel
theorem dX5_amount_15 : decode cX5_amount 15 = .ok (.iload_n 1, 1) := by decide +kernel
theorem dX5_amount_16 : decode cX5_amount 16 = .ok (.iaload, 1) := by decide +kernel
theorem dX5_amount_17 : decode cX5_amount 17 = .ok (.i2l, 1) := by decide +kernel
theorem dX5_amount_18 : decode cX5_amount 18 = .ok (.lmul, 1) := by decide +kernel
theorem dX5_amount_19 : decode cX5_amount 19 = .ok (.aload_n 0, 1) := by decide +kernel
theorem dX5_amount_20 : decode cX5_amount 20 = .ok (.getfield 15, 3) := by decide +kernel
theorem dX5_amount_23 : decode cX5_amount 23 = .ok (.iload_n 1, 1) := by decide +kernel
theorem dX5_amount_24 : decode cX5_amount 24 = .ok (.iaload, 1) := by decide +kernel
theorem dX5_amount_25 : decode cX5_amount 25 = .ok (.i2l, 1) := by decide +kernel
theorem dX5_amount_26 : decode cX5_amount 26 = .ok (.ldiv, 1) := by decide +kernel
theorem dX5_amount_27 : decode cX5_amount 27 = .ok (.goto 4, 3) := by decide +kernel
theorem dX5_amount_30 : decode cX5_amount 30 = .ok (.lconst 0, 1) := by decide +kernel
theorem dX5_amount_31 : decode cX5_amount 31 = .ok (.lreturn, 1) := by decide +kernel
def f_X5_amount (h : Hp) (a0 : Nat) (a1 : Int32) (a2 : Int32) : Option (Int64 × Hp) :=
gd (okOb h a0 5) <|
vl (gR h a0 1) fun r2 =>
un r2 fun b3 =>
gd (okAb h b3 11 a1) <|
vl (gI h b3 a1.toNatClampNeg) fun x5 =>
if x5 ≤ 0 then (
some ((0 : Int64), h)) else (
vl (gR h a0 0) fun r7 =>
un r7 fun b8 =>
gd (okAb h b8 11 a1) <|
vl (gI h b8 a1.toNatClampNeg) fun x10 =>
vl (gR h a0 1) fun r11 =>
un r11 fun b12 =>
gd (okAb h b12 11 a1) <|
vl (gI h b12 a1.toNatClampNeg) fun x14 =>
gd (decide (¬ (x14.toInt64) = 0)) <|
some (((a2.toInt64) * (x10.toInt64)) / (x14.toInt64), h))
set_option maxHeartbeats 4000000 in
set_option maxRecDepth 100000 in
theorem t_X5_amount {X : Cx} {d : Nat} {h : Hp} {a0 : Nat} {a1 : Int32} {a2 : Int32} {v : Int64} {h' : Hp} (hD : 1 ≤ d) (H : f_X5_amount h a0 a1 a2 = some (v, h')) : PM X mX5_amount d [.ref a0, .int a1, .int a2] h (some (.long v)) h' := by
  unfold f_X5_amount at H
  refine PM.of (loc := [some (.ref a0), some (.int a1), some (.int a2)]) (by decide) rfl (Nat.le_of_ble_eq_true rfl) ?_
  refine ev_aload_n dX5_amount_0 rfl rfl rfl ?_
  replace H := gd_some H
  obtain ⟨g1, H⟩ := H
  replace H := vl_some H
  obtain ⟨r2, er2, H⟩ := H
  refine ev_getRx dX5_amount_1 fgX5_15 rfl (okOb.p g1) er2 ?_
  refine ev_iload_n dX5_amount_4 rfl rfl ?_
  replace H := un_some H
  obtain ⟨b3, eb3, H⟩ := H
  subst eb3
  replace H := gd_some H
  obtain ⟨g4, H⟩ := H
  replace H := vl_some H
  obtain ⟨x5, ex5, H⟩ := H
  refine ev_ialdx dX5_amount_5 (okAb.p g4) ex5 ?_
  refine ev_if_le (tgt := 30) dX5_amount_6 (by decide) (fun c6 => ?_) (fun c6 => ?_)
  · rw [if_pos c6] at H
    refine ev_lconst (v := (0 : Int64)) dX5_amount_30 (by decide) ?_
    exact ev_lretx dX5_amount_31 rfl H
  · rw [if_neg c6] at H
    refine ev_iload_n dX5_amount_9 rfl rfl ?_
    refine ev_i2l dX5_amount_10 rfl ?_
    refine ev_aload_n dX5_amount_11 rfl rfl rfl ?_
    replace H := vl_some H
    obtain ⟨r7, er7, H⟩ := H
    refine ev_getRx dX5_amount_12 fgX5_9 rfl (okOb.p g1) er7 ?_
    refine ev_iload_n dX5_amount_15 rfl rfl ?_
    replace H := un_some H
    obtain ⟨b8, eb8, H⟩ := H
    subst eb8
    replace H := gd_some H
    obtain ⟨g9, H⟩ := H
    replace H := vl_some H
    obtain ⟨x10, ex10, H⟩ := H
    refine ev_ialdx dX5_amount_16 (okAb.p g9) ex10 ?_
    refine ev_i2l dX5_amount_17 rfl ?_
    refine ev_lmul dX5_amount_18 ?_
    refine ev_aload_n dX5_amount_19 rfl rfl rfl ?_
    replace H := vl_some H
    obtain ⟨r11, er11, H⟩ := H
    refine ev_getRx dX5_amount_20 fgX5_15 rfl (okOb.p g1) er11 ?_
    refine ev_iload_n dX5_amount_23 rfl rfl ?_
    replace H := un_some H
    obtain ⟨b12, eb12, H⟩ := H
    subst eb12
    replace H := gd_some H
    obtain ⟨g13, H⟩ := H
    replace H := vl_some H
    obtain ⟨x14, ex14, H⟩ := H
    refine ev_ialdx dX5_amount_24 (okAb.p g13) ex14 ?_
    refine ev_i2l dX5_amount_25 rfl ?_
    replace H := gd_some H
    obtain ⟨g15, H⟩ := H
    refine ev_ldiv dX5_amount_26 (of_decide_eq_true g15) ?_
    refine ev_goto (tgt := 31) dX5_amount_27 (by decide) ?_
    exact ev_lretx dX5_amount_31 rfl H
