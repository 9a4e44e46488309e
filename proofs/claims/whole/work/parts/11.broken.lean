theorem dX0_init_0 : decode cX0_init 0 = .ok (.aload_n 0, 1) := by decide +kernel
theorem dX0_init_1 : decode cX0_init 1 = .ok (.invokespecial 3, 3) := by decide +kernel
theorem dX0_init_4 : decode cX0_init 4 = .ok (.aload_n 0, 1) := by decide +kernel
theorem dX0_init_5 : decode cX0_init 5 = .ok (.bipush 72, 2) := by decide +kernel
theorem dX0_init_7 : decode cX0_init 7 = .ok (.newarray .int, 2) := by decide +kernel
theorem dX0_init_9 : decode cX0_init 9 = .ok (.putfield 9, 3) := by decide +kernel
theorem dX0_init_12 : decode cX0_init 12 = .ok (.aload_n 0, 1) := by decide +kernel
theorem dX0_init_13 : decode cX0_init 13 = .ok (.bipush 7, 2) := by decide +kernel
theorem dX0_init_15 : decode cX0_init 15 = .ok (.newarray .int, 2) := by decide +kernel
theorem dX0_init_17 : decode cX0_init 17 = .ok (.putfield 15, 3) := by decide +kernel
theorem dX0_init_20 : decode cX0_init 20 = .ok (.aload_n 0, 1) := by decide +kernel
theorem dX0_init_21 : decode cX0_init 21 = .ok (.bipush 49, 2) := by decide +kernel
theorem dX0_init_23 : decode cX0_init 23 = .ok (.newarray .int, 2) := by decide +kernel
theorem dX0_init_25 : decode cX0_init 25 = .ok (.putfield 18, 3) := by decide +kernel
theorem dX0_init_28 : decode cX0_init 28 = .ok (.aload_n 0, 1) := by decide +kernel
theorem dX0_init_29 : decode cX0_init 29 = .ok (.sipush 128, 3) := by decide +kernel
theorem dX0_init_32 : decode cX0_init 32 = .ok (.newarray .int, 2) := by decide +kernel
theorem dX0_init_34 : decode cX0_init 34 = .ok (.putfield 21, 3) := by decide +kernel
theorem dX0_init_37 : decode cX0_init 37 = .ok (.aload_n 0, 1) := by decide +kernel
theorem dX0_init_38 : decode cX0_init 38 = .ok (.sipush 128, 3) := by decide +kernel
theorem dX0_init_41 : decode cX0_init 41 = .ok (.newarray .int, 2) := by decide +kernel
theorem dX0_init_43 : decode cX0_init 43 = .ok (.putfield 24, 3) := by decide +kernel
theorem dX0_init_46 : decode cX0_init 46 = .ok (.aload_n 0, 1) := by decide +kernel
theorem dX0_init_47 : decode cX0_init 47 = .ok (.bipush 7, 2) := by decide +kernel
theorem dX0_init_49 : decode cX0_init 49 = .ok (.newarray .int, 2) := by decide +kernel
theorem dX0_init_51 : decode cX0_init 51 = .ok (.putfield 27, 3) := by decide +kernel
theorem dX0_init_54 : decode cX0_init 54 = .ok (.aload_n 0, 1) := by decide +kernel
theorem dX0_init_55 : decode cX0_init 55 = .ok (.getfield 9, 3) := by decide +kernel
theorem dX0_init_58 : decode cX0_init 58 = .ok (.iconst (-1), 1) := by decide +kernel
theorem dX0_init_59 : decode cX0_init 59 = .ok (.invokestatic 30, 3) := by decide +kernel
theorem dX0_init_62 : decode cX0_init 62 = .ok (.return_, 1) := by decide +kernel
def f_X0_init (h : Hp) (a0 : Nat) : Option (Unit × Hp) :=
vl (gN h) fun b1 =>
vl (nw h 11 (72 : Int32).toNatClampNeg (72 : Int32).toNatClampNeg) fun h2 =>
gd (okOb h2 a0 0) <|
vl (sR h2 a0 0 (some b1)) fun h4 =>
vl (gN h4) fun b5 =>
vl (nw h4 11 (7 : Int32).toNatClampNeg (7 : Int32).toNatClampNeg) fun h6 =>
vl (sR h6 a0 1 (some b5)) fun h7 =>
vl (gN h7) fun b8 =>
vl (nw h7 11 (49 : Int32).toNatClampNeg (49 : Int32).toNatClampNeg) fun h9 =>
vl (sR h9 a0 2 (some b8)) fun h10 =>
vl (gN h10) fun b11 =>
vl (nw h10 11 (128 : Int32).toNatClampNeg (128 : Int32).toNatClampNeg) fun h12 =>
vl (sR h12 a0 3 (some b11)) fun h13 =>
vl (gN h13) fun b14 =>
vl (nw h13 11 (128 : Int32).toNatClampNeg (128 : Int32).toNatClampNeg) fun h15 =>
vl (sR h15 a0 4 (some b14)) fun h16 =>
vl (gN h16) fun b17 =>
vl (nw h16 11 (7 : Int32).toNatClampNeg (7 : Int32).toNatClampNeg) fun h18 =>
vl (sR h18 a0 5 (some b17)) fun h19 =>
vl (gR h19 a0 0) fun r20 =>
un r20 fun b21 =>
bnd (f_J7_fill_53178 h19 b21 (-1 : Int32)) fun u22 h23 =>
some ((), h23)
set_option maxHeartbeats 4000000 in
set_option maxRecDepth 100000 in
theorem t_X0_init {X : Cx} {d : Nat} {h : Hp} {a0 : Nat} {v : Unit} {h' : Hp} (hD : 2 ≤ d) (H : f_X0_init h a0 = some (v, h')) : PM X mX0_init d [.ref a0] h (none) h' := by
  unfold f_X0_init at H
  refine PM.of (loc := [some (.ref a0)]) (by decide) rfl (Nat.le_of_ble_eq_true rfl) ?_
  refine ev_aload_n dX0_init_0 rfl rfl rfl ?_
  refine ev_obj dX0_init_1 ⟨_, rfl⟩ k1_76 k1_26 k1_27 (by omega) (Nat.le_of_ble_eq_true rfl) ?_
  refine ev_aload_n dX0_init_4 rfl rfl rfl ?_
  refine ev_bipush (v := (72 : Int32)) dX0_init_5 (by decide) ?_
  replace H := vl_some H
  obtain ⟨b1, eb1, H⟩ := H
  replace H := vl_some H
  obtain ⟨h2, eh2, H⟩ := H
  refine ev_newaIx dX0_init_7 k1_44 (okN.p (by decide)) rfl eb1 eh2 ?_
  replace H := gd_some H
  obtain ⟨g3, H⟩ := H
  replace H := vl_some H
  obtain ⟨h4, eh4, H⟩ := H
  refine ev_putRF (x := (some b1)) dX0_init_9 fdX0_9 rfl (Or.inr ⟨_, rfl⟩) rfl (okOb.p g3) eh4 ?_
  refine ev_aload_n dX0_init_12 rfl rfl rfl ?_
  refine ev_bipush (v := (7 : Int32)) dX0_init_13 (by decide) ?_
  replace H := vl_some H
  obtain ⟨b5, eb5, H⟩ := H
  replace H := vl_some H
  obtain ⟨h6, eh6, H⟩ := H
  refine ev_newaIx dX0_init_15 k1_44 (okN.p (by decide)) rfl eb5 eh6 ?_
  replace H := vl_some H
  obtain ⟨h7, eh7, H⟩ := H
  refine ev_putRF (x := (some b5)) dX0_init_17 fdX0_15 rfl (Or.inr ⟨_, rfl⟩) rfl (okO_nw eh6 (okO_sR eh4 (okOb.p g3))) eh7 ?_
  refine ev_aload_n dX0_init_20 rfl rfl rfl ?_
  refine ev_bipush (v := (49 : Int32)) dX0_init_21 (by decide) ?_
  replace H := vl_some H
  obtain ⟨b8, eb8, H⟩ := H
  replace H := vl_some H
  obtain ⟨h9, eh9, H⟩ := H
  refine ev_newaIx dX0_init_23 k1_44 (okN.p (by decide)) rfl eb8 eh9 ?_
  replace H := vl_some H
  obtain ⟨h10, eh10, H⟩ := H
  refine ev_putRF (x := (some b8)) dX0_init_25 fdX0_18 rfl (Or.inr ⟨_, rfl⟩) rfl (okO_nw eh9 (okO_sR eh7 (okO_nw eh6 (okO_sR eh4 (okOb.p g3))))) eh10 ?_
  refine ev_aload_n dX0_init_28 rfl rfl rfl ?_
  refine ev_sipush (v := (128 : Int32)) dX0_init_29 (by decide) ?_
  replace H := vl_some H
  obtain ⟨b11, eb11, H⟩ := H
  replace H := vl_some H
  obtain ⟨h12, eh12, H⟩ := H
  refine ev_newaIx dX0_init_32 k1_44 (okN.p (by decide)) rfl eb11 eh12 ?_
  replace H := vl_some H
  obtain ⟨h13, eh13, H⟩ := H
  refine ev_putRF (x := (some b11)) dX0_init_34 fdX0_21 rfl (Or.inr ⟨_, rfl⟩) rfl (okO_nw eh12 (okO_sR eh10 (okO_nw eh9 (okO_sR eh7 (okO_nw eh6 (okO_sR eh4 (okOb.p g3))))))) eh13 ?_
  refine ev_aload_n dX0_init_37 rfl rfl rfl ?_
  refine ev_sipush (v := (128 : Int32)) dX0_init_38 (by decide) ?_
  replace H := vl_some H
  obtain ⟨b14, eb14, H⟩ := H
  replace H := vl_some H
  obtain ⟨h15, eh15, H⟩ := H
  refine ev_newaIx dX0_init_41 k1_44 (okN.p (by decide)) rfl eb14 eh15 ?_
  replace H := vl_some H
  obtain ⟨h16, eh16, H⟩ := H
  refine ev_putRF (x := (some b14)) dX0_init_43 fdX0_24 rfl (Or.inr ⟨_, rfl⟩) rfl (okO_nw eh15 (okO_sR eh13 (okO_nw eh12 (okO_sR eh10 (okO_nw eh9 (okO_sR eh7 (okO_nw eh6 (okO_sR eh4 (okOb.p g3))))))))) eh16 ?_
  refine ev_aload_n dX0_init_46 rfl rfl rfl ?_
  refine ev_bipush (v := (7 : Int32)) dX0_init_47 (by decide) ?_
  replace H := vl_some H
  obtain ⟨b17, eb17, H⟩ := H
  replace H := vl_some H
  obtain ⟨h18, eh18, H⟩ := H
  refine ev_newaIx dX0_init_49 k1_44 (okN.p (by decide)) rfl eb17 eh18 ?_
  replace H := vl_some H
  obtain ⟨h19, eh19, H⟩ := H
  refine ev_putRF (x := (some b17)) dX0_init_51 fdX0_27 rfl (Or.inr ⟨_, rfl⟩) rfl (okO_nw eh18 (okO_sR eh16 (okO_nw eh15 (okO_sR eh13 (okO_nw eh12 (okO_sR eh10 (okO_nw eh9 (okO_sR eh7 (okO_nw eh6 (okO_sR eh4 (okOb.p g3))))))))))) eh19 ?_
  refine ev_aload_n dX0_init_54 rfl rfl rfl ?_
  replace H := vl_some H
  obtain ⟨r20, er20, H⟩ := H
  refine ev_getRx dX0_init_55 fgX0_9 rfl (okO_sR eh19 (okO_nw eh18 (okO_sR eh16 (okO_nw eh15 (okO_sR eh13 (okO_nw eh12 (okO_sR eh10 (okO_nw eh9 (okO_sR eh7 (okO_nw eh6 (okO_sR eh4 (okOb.p g3)))))))))))) er20 ?_
  refine ev_iconst (v := (-1 : Int32)) dX0_init_58 (by decide) ?_
  replace H := un_some H
  obtain ⟨b21, eb21, H⟩ := H
  subst eb21
  replace H := bnd_some H
  obtain ⟨u22, h23, eh23, H⟩ := H
  have ph23 := (t_J7_fill_53178 (X := X) (d := 1) (by omega) eh23)
  refine ev_callS (as := [.ref b21, .int (-1 : Int32)]) dX0_init_59 ph23 ok_J7_fill_53178 (by omega) rfl k1_77 k1_78 rfl (Nat.le_of_ble_eq_true rfl) ?_
  exact ev_vretx dX0_init_62 rfl H

theorem dX0_replaceWear_0 : decode cX0_replaceWear 0 = .ok (.aload_n 0, 1) := by decide +kernel
theorem dX0_replaceWear_1 : decode cX0_replaceWear 1 = .ok (.getfield 9, 3) := by decide +kernel
theorem dX0_replaceWear_4 : decode cX0_replaceWear 4 = .ok (.iload_n 1, 1) := by decide +kernel
theorem dX0_replaceWear_5 : decode cX0_replaceWear 5 = .ok (.bipush 12, 2) := by decide +kernel
theorem dX0_replaceWear_7 : decode cX0_replaceWear 7 = .ok (.imul, 1) := by decide +kernel
theorem dX0_replaceWear_8 : decode cX0_replaceWear 8 = .ok (.iload_n 2, 1) := by decide +kernel
theorem dX0_replaceWear_9 : decode cX0_replaceWear 9 = .ok (.iadd, 1) := by decide +kernel
theorem dX0_replaceWear_10 : decode cX0_replaceWear 10 = .ok (.iaload, 1) := by decide +kernel
theorem dX0_replaceWear_11 : decode cX0_replaceWear 11 = .ok (.istore 4, 2) := by decide +kernel
theorem dX0_replaceWear_13 : decode cX0_replaceWear 13 = .ok (.aload_n 0, 1) := by decide +kernel
theorem dX0_replaceWear_14 : decode cX0_replaceWear 14 = .ok (.getfield 9, 3) := by decide +kernel
theorem dX0_replaceWear_17 : decode cX0_replaceWear 17 = .ok (.iload_n 1, 1) := by decide +kernel
theorem dX0_replaceWear_18 : decode cX0_replaceWear 18 = .ok (.bipush 12, 2) := by decide +kernel
theorem dX0_replaceWear_20 : decode cX0_replaceWear 20 = .ok (.imul, 1) := by decide +kernel
theorem dX0_replaceWear_21 : decode cX0_replaceWear 21 = .ok (.iload_n 2, 1) := by decide +kernel
theorem dX0_replaceWear_22 : decode cX0_replaceWear 22 = .ok (.iadd, 1) := by decide +kernel
theorem dX0_replaceWear_23 : decode cX0_replaceWear 23 = .ok (.iload_n 3, 1) := by decide +kernel
theorem dX0_replaceWear_24 : decode cX0_replaceWear 24 = .ok (.iastore, 1) := by decide +kernel
theorem dX0_replaceWear_25 : decode cX0_replaceWear 25 = .ok (.iload 4, 2) := by decide +kernel
theorem dX0_replaceWear_27 : decode cX0_replaceWear 27 = .ok (.ireturn, 1) := by decide +kernel
def f_X0_replaceWear (h : Hp) (a0 : Nat) (a1 : Int32) (a2 : Int32) (a3 : Int32) : Option (Int32 × Hp) :=
gd (okOb h a0 0) <|
vl (gR h a0 0) fun r2 =>
un r2 fun b3 =>
gd (okAb h b3 11 ((a1 * (12 : Int32)) + a2)) <|
vl (gI h b3 ((a1 * (12 : Int32)) + a2).toNatClampNeg) fun x5 =>
vl (gR h a0 0) fun r6 =>
un r6 fun b7 =>
gd (okAb h b7 11 ((a1 * (12 : Int32)) + a2)) <|
vl (sI h b7 ((a1 * (12 : Int32)) + a2).toNatClampNeg a3) fun h9 =>
some (x5, h9)
set_option maxHeartbeats 4000000 in
set_option maxRecDepth 100000 in
theorem t_X0_replaceWear {X : Cx} {d : Nat} {h : Hp} {a0 : Nat} {a1 : Int32} {a2 : Int32} {a3 : Int32} {v : Int32} {h' : Hp} (hD : 1 ≤ d) (H : f_X0_replaceWear h a0 a1 a2 a3 = some (v, h')) : PM X mX0_replaceWear d [.ref a0, .int a1, .int a2, .int a3] h (some (.int v)) h' := by
  unfold f_X0_replaceWear at H
  refine PM.of (loc := [some (.ref a0), some (.int a1), some (.int a2), some (.int a3), none]) (by decide) rfl (Nat.le_of_ble_eq_true rfl) ?_
  refine ev_aload_n dX0_replaceWear_0 rfl rfl rfl ?_
  replace H := gd_some H
  obtain ⟨g1, H⟩ := H
  replace H := vl_some H
  obtain ⟨r2, er2, H⟩ := H
  refine ev_getRx dX0_replaceWear_1 fgX0_9 rfl (okOb.p g1) er2 ?_
  refine ev_iload_n dX0_replaceWear_4 rfl rfl ?_
  refine ev_bipush (v := (12 : Int32)) dX0_replaceWear_5 (by decide) ?_
  refine ev_imul dX0_replaceWear_7 ?_
  refine ev_iload_n dX0_replaceWear_8 rfl rfl ?_
  refine ev_iadd dX0_replaceWear_9 ?_
  replace H := un_some H
  obtain ⟨b3, eb3, H⟩ := H
  subst eb3
  replace H := gd_some H
  obtain ⟨g4, H⟩ := H
  replace H := vl_some H
  obtain ⟨x5, ex5, H⟩ := H
  refine ev_ialdx dX0_replaceWear_10 (okAb.p g4) ex5 ?_
  refine ev_istore (loc2 := [some (.ref a0), some (.int a1), some (.int a2), some (.int a3), some (.int x5)]) dX0_replaceWear_11 (by decide) rfl ?_
  refine ev_aload_n dX0_replaceWear_13 rfl rfl rfl ?_
  replace H := vl_some H
  obtain ⟨r6, er6, H⟩ := H
  refine ev_getRx dX0_replaceWear_14 fgX0_9 rfl (okOb.p g1) er6 ?_
  refine ev_iload_n dX0_replaceWear_17 rfl rfl ?_
  refine ev_bipush (v := (12 : Int32)) dX0_replaceWear_18 (by decide) ?_
  refine ev_imul dX0_replaceWear_20 ?_
  refine ev_iload_n dX0_replaceWear_21 rfl rfl ?_
  refine ev_iadd dX0_replaceWear_22 ?_
  refine ev_iload_n dX0_replaceWear_23 rfl rfl ?_
  replace H := un_some H
  obtain ⟨b7, eb7, H⟩ := H
  subst eb7
  replace H := gd_some H
  obtain ⟨g8, H⟩ := H
  replace H := vl_some H
  obtain ⟨h9, eh9, H⟩ := H
  refine ev_iast dX0_replaceWear_24 (okAb.p g8) eh9 ?_
  refine ev_iload dX0_replaceWear_25 rfl ?_
  exact ev_iretx dX0_replaceWear_27 rfl rfl H

theorem dX0_quarrelsOf_0 : decode cX0_quarrelsOf 0 = .ok (.iconst 0, 1) := by decide +kernel
theorem dX0_quarrelsOf_1 : decode cX0_quarrelsOf 1 = .ok (.istore_n 3, 1) := by decide +kernel
theorem dX0_quarrelsOf_2 : decode cX0_quarrelsOf 2 = .ok (.iconst 0, 1) := by decide +kernel
theorem dX0_quarrelsOf_3 : decode cX0_quarrelsOf 3 = .ok (.istore 4, 2) := by decide +kernel
theorem dX0_quarrelsOf_5 : decode cX0_quarrelsOf 5 = .ok (.iload 4, 2) := by decide +kernel
theorem dX0_quarrelsOf_7 : decode cX0_quarrelsOf 7 = .ok (.bipush 6, 2) := by decide +kernel
theorem dX0_quarrelsOf_9 : decode cX0_quarrelsOf 9 = .ok (.if_icmp .ge 49, 3) := by decide +kernel
theorem dX0_quarrelsOf_12 : decode cX0_quarrelsOf 12 = .ok (.aload_n 0, 1) := by decide +kernel
theorem dX0_quarrelsOf_13 : decode cX0_quarrelsOf 13 = .ok (.getfield 9, 3) := by decide +kernel
theorem dX0_quarrelsOf_16 : decode cX0_quarrelsOf 16 = .ok (.iload 4, 2) := by decide +kernel
theorem dX0_quarrelsOf_18 : decode cX0_quarrelsOf 18 = .ok (.bipush 12, 2) := by decide +kernel
theorem dX0_quarrelsOf_20 : decode cX0_quarrelsOf 20 = .ok (.imul, 1) := by decide +kernel
theorem dX0_quarrelsOf_21 : decode cX0_quarrelsOf 21 = .ok (.iload_n 2, 1) := by decide +kernel
theorem dX0_quarrelsOf_22 : decode cX0_quarrelsOf 22 = .ok (.iadd, 1) := by decide +kernel
theorem dX0_quarrelsOf_23 : decode cX0_quarrelsOf 23 = .ok (.iaload, 1) := by decide +kernel
theorem dX0_quarrelsOf_24 : decode cX0_quarrelsOf 24 = .ok (.istore 5, 2) := by decide +kernel
theorem dX0_quarrelsOf_26 : decode cX0_quarrelsOf 26 = .ok (.iload 5, 2) := by decide +kernel
theorem dX0_quarrelsOf_28 : decode cX0_quarrelsOf 28 = .ok (.iconst (-1), 1) := by decide +kernel
theorem dX0_quarrelsOf_29 : decode cX0_quarrelsOf 29 = .ok (.if_icmp .eq 23, 3) := by decide +kernel
theorem dX0_quarrelsOf_32 : decode cX0_quarrelsOf 32 = .ok (.aload_n 0, 1) := by decide +kernel
theorem dX0_quarrelsOf_33 : decode cX0_quarrelsOf 33 = .ok (.getfield 9, 3) := by decide +kernel
theorem dX0_quarrelsOf_36 : decode cX0_quarrelsOf 36 = .ok (.iload 4, 2) := by decide +kernel
theorem dX0_quarrelsOf_38 : decode cX0_quarrelsOf 38 = .ok (.bipush 12, 2) := by decide +kernel
theorem dX0_quarrelsOf_40 : decode cX0_quarrelsOf 40 = .ok (.imul, 1) := by decide +kernel
theorem dX0_quarrelsOf_41 : decode cX0_quarrelsOf 41 = .ok (.iload_n 1, 1) := by decide +kernel
theorem dX0_quarrelsOf_42 : decode cX0_quarrelsOf 42 = .ok (.iadd, 1) := by decide +kernel
theorem dX0_quarrelsOf_43 : decode cX0_quarrelsOf 43 = .ok (.iaload, 1) := by decide +kernel
theorem dX0_quarrelsOf_44 : decode cX0_quarrelsOf 44 = .ok (.iload 5, 2) := by decide +kernel
theorem dX0_quarrelsOf_46 : decode cX0_quarrelsOf 46 = .ok (.if_icmp .le 6, 3) := by decide +kernel
theorem dX0_quarrelsOf_49 : decode cX0_quarrelsOf 49 = .ok (.iinc 3 1, 3) := by decide +kernel
theorem dX0_quarrelsOf_52 : decode cX0_quarrelsOf 52 = .ok (.iinc 4 1, 3) := by decide +kernel
theorem dX0_quarrelsOf_55 : decode cX0_quarrelsOf 55 = .ok (.goto (-50), 3) := by decide +kernel
theorem dX0_quarrelsOf_58 : decode cX0_quarrelsOf 58 = .ok (.iload_n 3, 1) := by decide +kernel
theorem dX0_quarrelsOf_59 : decode cX0_quarrelsOf 59 = .ok (.ireturn, 1) := by decide +kernel
def f_X0_quarrelsOf_L5 : Nat → Nat → Int32 → Int32 → Int32 → Int32 → Hp → Option (Int32 × Hp)
  | 0, _, _, _, _, _, _ => none
  | n + 1, l0, l1, l2, l3, l4, h =>
    if (6 : Int32) ≤ l4 then (
    some (l3, h)) else (
    gd (okOb h l0 0) <|
    vl (gR h l0 0) fun r3 =>
    un r3 fun b4 =>
    gd (okAb h b4 11 ((l4 * (12 : Int32)) + l2)) <|
    vl (gI h b4 ((l4 * (12 : Int32)) + l2).toNatClampNeg) fun x6 =>
    if x6 = (-1 : Int32) then (
    vl (l4 + (1 : Int32)) fun x8 =>
    f_X0_quarrelsOf_L5 n l0 l1 l2 l3 x8 h) else (
    vl (gR h l0 0) fun r9 =>
    un r9 fun b10 =>
    gd (okAb h b10 11 ((l4 * (12 : Int32)) + l1)) <|
    vl (gI h b10 ((l4 * (12 : Int32)) + l1).toNatClampNeg) fun x12 =>
    if x12 ≤ x6 then (
    vl (l4 + (1 : Int32)) fun x14 =>
    f_X0_quarrelsOf_L5 n l0 l1 l2 l3 x14 h) else (
    vl (l3 + (1 : Int32)) fun x15 =>
    vl (l4 + (1 : Int32)) fun x16 =>
    f_X0_quarrelsOf_L5 n l0 l1 l2 x15 x16 h)))
set_option maxHeartbeats 4000000 in
set_option maxRecDepth 100000 in
theorem t_X0_quarrelsOf_L5 {X : Cx} {d : Nat} {h0 h' : Hp} {v : Int32} (hD : 1 ≤ d) : ∀ (n : Nat) (l0 : Nat) (l1 : Int32) (l2 : Int32) (l3 : Int32) (l4 : Int32) (h : Hp), f_X0_quarrelsOf_L5 n l0 l1 l2 l3 l4 h = some (v, h') → EV X mX0_quarrelsOf d h0 (some (.int v)) h' 5 [some (.ref l0), some (.int l1), some (.int l2), some (.int l3), some (.int l4), none] [] h := by
  intro n
  induction n with
  | zero => intro l0 l1 l2 l3 l4 h H; simp [f_X0_quarrelsOf_L5] at H
  | succ n ih =>
    intro l0 l1 l2 l3 l4 h H
    rw [f_X0_quarrelsOf_L5] at H
    refine ev_iload dX0_quarrelsOf_5 rfl ?_
    refine ev_bipush (v := (6 : Int32)) dX0_quarrelsOf_7 (by decide) ?_
    refine ev_icmp_ge (tgt := 58) dX0_quarrelsOf_9 (by decide) (fun c1 => ?_) (fun c1 => ?_)
    · rw [if_pos c1] at H
      refine ev_iload_n dX0_quarrelsOf_58 rfl rfl ?_
      exact ev_iretx dX0_quarrelsOf_59 rfl rfl H
    · rw [if_neg c1] at H
      refine ev_aload_n dX0_quarrelsOf_12 rfl rfl rfl ?_
      replace H := gd_some H
      obtain ⟨g2, H⟩ := H
      replace H := vl_some H
      obtain ⟨r3, er3, H⟩ := H
      refine ev_getRx dX0_quarrelsOf_13 fgX0_9 rfl (okOb.p g2) er3 ?_
      refine ev_iload dX0_quarrelsOf_16 rfl ?_
      refine ev_bipush (v := (12 : Int32)) dX0_quarrelsOf_18 (by decide) ?_
      refine ev_imul dX0_quarrelsOf_20 ?_
      refine ev_iload_n dX0_quarrelsOf_21 rfl rfl ?_
      refine ev_iadd dX0_quarrelsOf_22 ?_
      replace H := un_some H
      obtain ⟨b4, eb4, H⟩ := H
      subst eb4
      replace H := gd_some H
      obtain ⟨g5, H⟩ := H
      replace H := vl_some H
      obtain ⟨x6, ex6, H⟩ := H
      refine ev_ialdx dX0_quarrelsOf_23 (okAb.p g5) ex6 ?_
      refine ev_istore (loc2 := [some (.ref l0), some (.int l1), some (.int l2), some (.int l3), some (.int l4), some (.int x6)]) dX0_quarrelsOf_24 (by decide) rfl ?_
      refine ev_iload dX0_quarrelsOf_26 rfl ?_
      refine ev_iconst (v := (-1 : Int32)) dX0_quarrelsOf_28 (by decide) ?_
      refine ev_icmp_eq (tgt := 52) dX0_quarrelsOf_29 (by decide) (fun c7 => ?_) (fun c7 => ?_)
      · rw [if_pos c7] at H
        replace H := vl_some H
        obtain ⟨x8, ex8, H⟩ := H
        refine ev_iincx (loc2 := [some (.ref l0), some (.int l1), some (.int l2), some (.int l3), some (.int x8), some (.int x6)]) dX0_quarrelsOf_52 rfl (by decide) ex8 (by decide) rfl ?_
        refine ev_goto (tgt := 5) dX0_quarrelsOf_55 (by decide) ?_
        refine ev_drop (loc2 := [some (.ref l0), some (.int l1), some (.int l2), some (.int l3), some (.int x8), none]) [true, true, true, true, true, false] rfl ?_
        exact ih l0 l1 l2 l3 x8 h H
      · rw [if_neg c7] at H
        refine ev_aload_n dX0_quarrelsOf_32 rfl rfl rfl ?_
        replace H := vl_some H
        obtain ⟨r9, er9, H⟩ := H
        refine ev_getRx dX0_quarrelsOf_33 fgX0_9 rfl (okOb.p g2) er9 ?_
        refine ev_iload dX0_quarrelsOf_36 rfl ?_
        refine ev_bipush (v := (12 : Int32)) dX0_quarrelsOf_38 (by decide) ?_
        refine ev_imul dX0_quarrelsOf_40 ?_
        refine ev_iload_n dX0_quarrelsOf_41 rfl rfl ?_
        refine ev_iadd dX0_quarrelsOf_42 ?_
        replace H := un_some H
        obtain ⟨b10, eb10, H⟩ := H
        subst eb10
        replace H := gd_some H
        obtain ⟨g11, H⟩ := H
        replace H := vl_some H
        obtain ⟨x12, ex12, H⟩ := H
        refine ev_ialdx dX0_quarrelsOf_43 (okAb.p g11) ex12 ?_
        refine ev_iload dX0_quarrelsOf_44 rfl ?_
        refine ev_icmp_le (tgt := 52) dX0_quarrelsOf_46 (by decide) (fun c13 => ?_) (fun c13 => ?_)
        · rw [if_pos c13] at H
          replace H := vl_some H
          obtain ⟨x14, ex14, H⟩ := H
          refine ev_iincx (loc2 := [some (.ref l0), some (.int l1), some (.int l2), some (.int l3), some (.int x14), some (.int x6)]) dX0_quarrelsOf_52 rfl (by decide) ex14 (by decide) rfl ?_
          refine ev_goto (tgt := 5) dX0_quarrelsOf_55 (by decide) ?_
          refine ev_drop (loc2 := [some (.ref l0), some (.int l1), some (.int l2), some (.int l3), some (.int x14), none]) [true, true, true, true, true, false] rfl ?_
          exact ih l0 l1 l2 l3 x14 h H
        · rw [if_neg c13] at H
          replace H := vl_some H
          obtain ⟨x15, ex15, H⟩ := H
          refine ev_iincx (loc2 := [some (.ref l0), some (.int l1), some (.int l2), some (.int x15), some (.int l4), some (.int x6)]) dX0_quarrelsOf_49 rfl (by decide) ex15 (by decide) rfl ?_
          replace H := vl_some H
          obtain ⟨x16, ex16, H⟩ := H
          refine ev_iincx (loc2 := [some (.ref l0), some (.int l1), some (.int l2), some (.int x15), some (.int x16), some (.int x6)]) dX0_quarrelsOf_52 rfl (by decide) ex16 (by decide) rfl ?_
          refine ev_goto (tgt := 5) dX0_quarrelsOf_55 (by decide) ?_
          refine ev_drop (loc2 := [some (.ref l0), some (.int l1), some (.int l2), some (.int x15), some (.int x16), none]) [true, true, true, true, true, false] rfl ?_
          exact ih l0 l1 l2 x15 x16 h H
def f_X0_quarrelsOf (h : Hp) (a0 : Nat) (a1 : Int32) (a2 : Int32) : Option (Int32 × Hp) :=
f_X0_quarrelsOf_L5 6000 a0 a1 a2 (0 : Int32) (0 : Int32) h
set_option maxHeartbeats 4000000 in
set_option maxRecDepth 100000 in
theorem t_X0_quarrelsOf {X : Cx} {d : Nat} {h : Hp} {a0 : Nat} {a1 : Int32} {a2 : Int32} {v : Int32} {h' : Hp} (hD : 1 ≤ d) (H : f_X0_quarrelsOf h a0 a1 a2 = some (v, h')) : PM X mX0_quarrelsOf d [.ref a0, .int a1, .int a2] h (some (.int v)) h' := by
  unfold f_X0_quarrelsOf at H
  refine PM.of (loc := [some (.ref a0), some (.int a1), some (.int a2), none, none, none]) (by decide) rfl (Nat.le_of_ble_eq_true rfl) ?_
  refine ev_iconst (v := (0 : Int32)) dX0_quarrelsOf_0 (by decide) ?_
  refine ev_istore_n (loc2 := [some (.ref a0), some (.int a1), some (.int a2), some (.int (0 : Int32)), none, none]) dX0_quarrelsOf_1 rfl (by decide) rfl ?_
  refine ev_iconst (v := (0 : Int32)) dX0_quarrelsOf_2 (by decide) ?_
  refine ev_istore (loc2 := [some (.ref a0), some (.int a1), some (.int a2), some (.int (0 : Int32)), some (.int (0 : Int32)), none]) dX0_quarrelsOf_3 (by decide) rfl ?_
  refine t_X0_quarrelsOf_L5 hD  6000 a0 a1 a2 (0 : Int32) (0 : Int32) h H

theorem dX0_countPairs_0 : decode cX0_countPairs 0 = .ok (.iconst 0, 1) := by decide +kernel
theorem dX0_countPairs_1 : decode cX0_countPairs 1 = .ok (.istore_n 1, 1) := by decide +kernel
theorem dX0_countPairs_2 : decode cX0_countPairs 2 = .ok (.iload_n 1, 1) := by decide +kernel
theorem dX0_countPairs_3 : decode cX0_countPairs 3 = .ok (.aload_n 0, 1) := by decide +kernel
theorem dX0_countPairs_4 : decode cX0_countPairs 4 = .ok (.getfield 36, 3) := by decide +kernel
theorem dX0_countPairs_7 : decode cX0_countPairs 7 = .ok (.if_icmp .ge 52, 3) := by decide +kernel
theorem dX0_countPairs_10 : decode cX0_countPairs 10 = .ok (.iconst 0, 1) := by decide +kernel
theorem dX0_countPairs_11 : decode cX0_countPairs 11 = .ok (.istore_n 2, 1) := by decide +kernel
theorem dX0_countPairs_12 : decode cX0_countPairs 12 = .ok (.iload_n 2, 1) := by decide +kernel
theorem dX0_countPairs_13 : decode cX0_countPairs 13 = .ok (.aload_n 0, 1) := by decide +kernel
theorem dX0_countPairs_14 : decode cX0_countPairs 14 = .ok (.getfield 36, 3) := by decide +kernel
theorem dX0_countPairs_17 : decode cX0_countPairs 17 = .ok (.if_icmp .ge 36, 3) := by decide +kernel
theorem dX0_countPairs_20 : decode cX0_countPairs 20 = .ok (.aload_n 0, 1) := by decide +kernel
theorem dX0_countPairs_21 : decode cX0_countPairs 21 = .ok (.getfield 18, 3) := by decide +kernel
theorem dX0_countPairs_24 : decode cX0_countPairs 24 = .ok (.iload_n 1, 1) := by decide +kernel
theorem dX0_countPairs_25 : decode cX0_countPairs 25 = .ok (.bipush 7, 2) := by decide +kernel
theorem dX0_countPairs_27 : decode cX0_countPairs 27 = .ok (.imul, 1) := by decide +kernel
theorem dX0_countPairs_28 : decode cX0_countPairs 28 = .ok (.iload_n 2, 1) := by decide +kernel
theorem dX0_countPairs_29 : decode cX0_countPairs 29 = .ok (.iadd, 1) := by decide +kernel
theorem dX0_countPairs_30 : decode cX0_countPairs 30 = .ok (.aload_n 0, 1) := by decide +kernel
theorem dX0_countPairs_31 : decode cX0_countPairs 31 = .ok (.aload_n 0, 1) := by decide +kernel
theorem dX0_countPairs_32 : decode cX0_countPairs 32 = .ok (.getfield 15, 3) := by decide +kernel
theorem dX0_countPairs_35 : decode cX0_countPairs 35 = .ok (.iload_n 1, 1) := by decide +kernel
theorem dX0_countPairs_36 : decode cX0_countPairs 36 = .ok (.iaload, 1) := by decide +kernel
theorem dX0_countPairs_37 : decode cX0_countPairs 37 = .ok (.aload_n 0, 1) := by decide +kernel
theorem dX0_countPairs_38 : decode cX0_countPairs 38 = .ok (.getfield 15, 3) := by decide +kernel
theorem dX0_countPairs_41 : decode cX0_countPairs 41 = .ok (.iload_n 2, 1) := by decide +kernel
theorem dX0_countPairs_42 : decode cX0_countPairs 42 = .ok (.iaload, 1) := by decide +kernel
theorem dX0_countPairs_43 : decode cX0_countPairs 43 = .ok (.invokevirtual 53, 3) := by decide +kernel
theorem dX0_countPairs_46 : decode cX0_countPairs 46 = .ok (.iastore, 1) := by decide +kernel
theorem dX0_countPairs_47 : decode cX0_countPairs 47 = .ok (.iinc 2 1, 3) := by decide +kernel
theorem dX0_countPairs_50 : decode cX0_countPairs 50 = .ok (.goto (-38), 3) := by decide +kernel
theorem dX0_countPairs_53 : decode cX0_countPairs 53 = .ok (.iinc 1 1, 3) := by decide +kernel
theorem dX0_countPairs_56 : decode cX0_countPairs 56 = .ok (.goto (-54), 3) := by decide +kernel
theorem dX0_countPairs_59 : decode cX0_countPairs 59 = .ok (.return_, 1) := by decide +kernel
def f_X0_countPairs_L12 (k53 : Nat → Int32 → Int32 → Hp → Option (Unit × Hp)) : Nat → Nat → Int32 → Int32 → Hp → Option (Unit × Hp)
  | 0, _, _, _, _ => none
  | n + 1, l0, l1, l2, h =>
    gd (okOb h l0 0) <|
    vl (gI h l0 6) fun x5 =>
    if x5 ≤ l2 then (
    k53 l0 l1 l2 h) else (
    vl (gR h l0 2) fun r7 =>
    vl (gR h l0 1) fun r8 =>
    un r8 fun b9 =>
    gd (okAb h b9 11 l1) <|
    vl (gI h b9 l1.toNatClampNeg) fun x11 =>
    vl (gR h l0 1) fun r12 =>
    un r12 fun b13 =>
    gd (okAb h b13 11 l2) <|
    vl (gI h b13 l2.toNatClampNeg) fun x15 =>
    bnd (f_X0_quarrelsOf h l0 x11 x15) fun v16 h17 =>
    un r7 fun b18 =>
    gd (okAb h17 b18 11 ((l1 * (7 : Int32)) + l2)) <|
    vl (sI h17 b18 ((l1 * (7 : Int32)) + l2).toNatClampNeg v16) fun h20 =>
    vl (l2 + (1 : Int32)) fun x21 =>
    f_X0_countPairs_L12 k53 n l0 l1 x21 h20)
set_option maxHeartbeats 4000000 in
set_option maxRecDepth 100000 in
theorem t_X0_countPairs_L12 {X : Cx} {d : Nat} {h0 h' : Hp} {v : Unit} {k53 : Nat → Int32 → Int32 → Hp → Option (Unit × Hp)} (hD : 2 ≤ d) (hk53 : ∀ (z0 : Nat) (z1 : Int32) (z2 : Int32) (h : Hp), k53 z0 z1 z2 h = some (v, h') → EV X mX0_countPairs d h0 (none) h' 53 [some (.ref z0), some (.int z1), some (.int z2)] [] h) : ∀ (n : Nat) (l0 : Nat) (l1 : Int32) (l2 : Int32) (h : Hp), f_X0_countPairs_L12 k53 n l0 l1 l2 h = some (v, h') → EV X mX0_countPairs d h0 (none) h' 12 [some (.ref l0), some (.int l1), some (.int l2)] [] h := by
  intro n
  induction n with
  | zero => intro l0 l1 l2 h H; simp [f_X0_countPairs_L12] at H
  | succ n ih =>
    intro l0 l1 l2 h H
    rw [f_X0_countPairs_L12] at H
    refine ev_iload_n dX0_countPairs_12 rfl rfl ?_
    refine ev_aload_n dX0_countPairs_13 rfl rfl rfl ?_
    replace H := gd_some H
    obtain ⟨g4, H⟩ := H
    replace H := vl_some H
    obtain ⟨x5, ex5, H⟩ := H
    refine ev_getIx dX0_countPairs_14 fgX0_36 rfl (okOb.p g4) ex5 ?_
    refine ev_icmp_ge (tgt := 53) dX0_countPairs_17 (by decide) (fun c6 => ?_) (fun c6 => ?_)
    · rw [if_pos c6] at H
      exact hk53 l0 l1 l2 h H
    · rw [if_neg c6] at H
      refine ev_aload_n dX0_countPairs_20 rfl rfl rfl ?_
      replace H := vl_some H
      obtain ⟨r7, er7, H⟩ := H
      refine ev_getRx dX0_countPairs_21 fgX0_18 rfl (okOb.p g4) er7 ?_
      refine ev_iload_n dX0_countPairs_24 rfl rfl ?_
      refine ev_bipush (v := (7 : Int32)) dX0_countPairs_25 (by decide) ?_
      refine ev_imul dX0_countPairs_27 ?_
      refine ev_iload_n dX0_countPairs_28 rfl rfl ?_
      refine ev_iadd dX0_countPairs_29 ?_
      refine ev_aload_n dX0_countPairs_30 rfl rfl rfl ?_
      refine ev_aload_n dX0_countPairs_31 rfl rfl rfl ?_
      replace H := vl_some H
      obtain ⟨r8, er8, H⟩ := H
      refine ev_getRx dX0_countPairs_32 fgX0_15 rfl (okOb.p g4) er8 ?_
      refine ev_iload_n dX0_countPairs_35 rfl rfl ?_
      replace H := un_some H
      obtain ⟨b9, eb9, H⟩ := H
      subst eb9
      replace H := gd_some H
      obtain ⟨g10, H⟩ := H
      replace H := vl_some H
      obtain ⟨x11, ex11, H⟩ := H
      refine ev_ialdx dX0_countPairs_36 (okAb.p g10) ex11 ?_
      refine ev_aload_n dX0_countPairs_37 rfl rfl rfl ?_
      replace H := vl_some H
      obtain ⟨r12, er12, H⟩ := H
      refine ev_getRx dX0_countPairs_38 fgX0_15 rfl (okOb.p g4) er12 ?_
      refine ev_iload_n dX0_countPairs_41 rfl rfl ?_
      replace H := un_some H
      obtain ⟨b13, eb13, H⟩ := H
      subst eb13
      replace H := gd_some H
      obtain ⟨g14, H⟩ := H
      replace H := vl_some H
      obtain ⟨x15, ex15, H⟩ := H
      refine ev_ialdx dX0_countPairs_42 (okAb.p g14) ex15 ?_
      replace H := bnd_some H
      obtain ⟨v16, h17, eh17, H⟩ := H
      have ph17 := (t_X0_quarrelsOf (X := X) (d := 1) (by omega) eh17)
      refine ev_callV (as := [.int x11, .int x15]) dX0_countPairs_43 ph17 ok_X0_quarrelsOf (by omega) rfl k3_192 k3_194 ks_9 (ci := 0) (by decide) rfl rfl (okOb.p g4) rfl (by simp only [List.map_cons, List.map_nil, rv_cat]; exact Nat.le_of_ble_eq_true rfl) ?_
      replace H := un_some H
      obtain ⟨b18, eb18, H⟩ := H
      subst eb18
      replace H := gd_some H
      obtain ⟨g19, H⟩ := H
      replace H := vl_some H
      obtain ⟨h20, eh20, H⟩ := H
      refine ev_iast dX0_countPairs_46 (okAb.p g19) eh20 ?_
      replace H := vl_some H
      obtain ⟨x21, ex21, H⟩ := H
      refine ev_iincx (loc2 := [some (.ref l0), some (.int l1), some (.int x21)]) dX0_countPairs_47 rfl (by decide) ex21 (by decide) rfl ?_
      refine ev_goto (tgt := 12) dX0_countPairs_50 (by decide) ?_
      exact ih l0 l1 x21 h20 H
def f_X0_countPairs_L2 : Nat → Nat → Int32 → Hp → Option (Unit × Hp)
  | 0, _, _, _ => none
  | n + 1, l0, l1, h =>
    gd (okOb h l0 0) <|
    vl (gI h l0 6) fun x2 =>
    if x2 ≤ l1 then (
    some ((), h)) else (
    f_X0_countPairs_L12 (fun y22 y23 y24 h25 =>
    vl (y23 + (1 : Int32)) fun x26 =>
    f_X0_countPairs_L2 n y22 x26 h25) 6000 l0 l1 (0 : Int32) h)
set_option maxHeartbeats 4000000 in
set_option maxRecDepth 100000 in
theorem t_X0_countPairs_L2 {X : Cx} {d : Nat} {h0 h' : Hp} {v : Unit} (hD : 2 ≤ d) : ∀ (n : Nat) (l0 : Nat) (l1 : Int32) (h : Hp), f_X0_countPairs_L2 n l0 l1 h = some (v, h') → EV X mX0_countPairs d h0 (none) h' 2 [some (.ref l0), some (.int l1), none] [] h := by
  intro n
  induction n with
  | zero => intro l0 l1 h H; simp [f_X0_countPairs_L2] at H
  | succ n ih =>
    intro l0 l1 h H
    rw [f_X0_countPairs_L2] at H
    refine ev_iload_n dX0_countPairs_2 rfl rfl ?_
    refine ev_aload_n dX0_countPairs_3 rfl rfl rfl ?_
    replace H := gd_some H
    obtain ⟨g1, H⟩ := H
    replace H := vl_some H
    obtain ⟨x2, ex2, H⟩ := H
    refine ev_getIx dX0_countPairs_4 fgX0_36 rfl (okOb.p g1) ex2 ?_
    refine ev_icmp_ge (tgt := 59) dX0_countPairs_7 (by decide) (fun c3 => ?_) (fun c3 => ?_)
    · rw [if_pos c3] at H
      exact ev_vretx dX0_countPairs_59 rfl H
    · rw [if_neg c3] at H
      refine ev_iconst (v := (0 : Int32)) dX0_countPairs_10 (by decide) ?_
      refine ev_istore_n (loc2 := [some (.ref l0), some (.int l1), some (.int (0 : Int32))]) dX0_countPairs_11 rfl (by decide) rfl ?_
      refine t_X0_countPairs_L12 hD ?_ 6000 l0 l1 (0 : Int32) h H
      · intro y22 y23 y24 h25 H
        replace H := vl_some H
        obtain ⟨x26, ex26, H⟩ := H
        refine ev_iincx (loc2 := [some (.ref y22), some (.int x26), some (.int y24)]) dX0_countPairs_53 rfl (by decide) ex26 (by decide) rfl ?_
        refine ev_goto (tgt := 2) dX0_countPairs_56 (by decide) ?_
        refine ev_drop (loc2 := [some (.ref y22), some (.int x26), none]) [true, true, false] rfl ?_
        exact ih y22 x26 h25 H
def f_X0_countPairs (h : Hp) (a0 : Nat) : Option (Unit × Hp) :=
f_X0_countPairs_L2 6000 a0 (0 : Int32) h
set_option maxHeartbeats 4000000 in
set_option maxRecDepth 100000 in
theorem t_X0_countPairs {X : Cx} {d : Nat} {h : Hp} {a0 : Nat} {v : Unit} {h' : Hp} (hD : 2 ≤ d) (H : f_X0_countPairs h a0 = some (v, h')) : PM X mX0_countPairs d [.ref a0] h (none) h' := by
  unfold f_X0_countPairs at H
  refine PM.of (loc := [some (.ref a0), none, none]) (by decide) rfl (Nat.le_of_ble_eq_true rfl) ?_
  refine ev_iconst (v := (0 : Int32)) dX0_countPairs_0 (by decide) ?_
  refine ev_istore_n (loc2 := [some (.ref a0), some (.int (0 : Int32)), none]) dX0_countPairs_1 rfl (by decide) rfl ?_
  refine t_X0_countPairs_L2 hD  6000 a0 (0 : Int32) h H

theorem dX0_withHead_0 : decode cX0_withHead 0 = .ok (.iload_n 2, 1) := by decide +kernel
theorem dX0_withHead_1 : decode cX0_withHead 1 = .ok (.iconst 1, 1) := by decide +kernel
theorem dX0_withHead_2 : decode cX0_withHead 2 = .ok (.iload_n 1, 1) := by decide +kernel
theorem dX0_withHead_3 : decode cX0_withHead 3 = .ok (.ishl, 1) := by decide +kernel
theorem dX0_withHead_4 : decode cX0_withHead 4 = .ok (.iconst (-1), 1) := by decide +kernel
theorem dX0_withHead_5 : decode cX0_withHead 5 = .ok (.ixor, 1) := by decide +kernel
theorem dX0_withHead_6 : decode cX0_withHead 6 = .ok (.iand, 1) := by decide +kernel
theorem dX0_withHead_7 : decode cX0_withHead 7 = .ok (.istore_n 3, 1) := by decide +kernel
theorem dX0_withHead_8 : decode cX0_withHead 8 = .ok (.aload_n 0, 1) := by decide +kernel
theorem dX0_withHead_9 : decode cX0_withHead 9 = .ok (.getfield 21, 3) := by decide +kernel
theorem dX0_withHead_12 : decode cX0_withHead 12 = .ok (.iload_n 3, 1) := by decide +kernel
theorem dX0_withHead_13 : decode cX0_withHead 13 = .ok (.iaload, 1) := by decide +kernel
theorem dX0_withHead_14 : decode cX0_withHead 14 = .ok (.istore 4, 2) := by decide +kernel
theorem dX0_withHead_16 : decode cX0_withHead 16 = .ok (.iconst 0, 1) := by decide +kernel
theorem dX0_withHead_17 : decode cX0_withHead 17 = .ok (.istore 5, 2) := by decide +kernel
theorem dX0_withHead_19 : decode cX0_withHead 19 = .ok (.iload 5, 2) := by decide +kernel
theorem dX0_withHead_21 : decode cX0_withHead 21 = .ok (.aload_n 0, 1) := by decide +kernel
theorem dX0_withHead_22 : decode cX0_withHead 22 = .ok (.getfield 36, 3) := by decide +kernel
theorem dX0_withHead_25 : decode cX0_withHead 25 = .ok (.if_icmp .ge 35, 3) := by decide +kernel
theorem dX0_withHead_28 : decode cX0_withHead 28 = .ok (.iload_n 3, 1) := by decide +kernel
theorem dX0_withHead_29 : decode cX0_withHead 29 = .ok (.iload 5, 2) := by decide +kernel
theorem dX0_withHead_31 : decode cX0_withHead 31 = .ok (.ishr, 1) := by decide +kernel
theorem dX0_withHead_32 : decode cX0_withHead 32 = .ok (.iconst 1, 1) := by decide +kernel
theorem dX0_withHead_33 : decode cX0_withHead 33 = .ok (.iand, 1) := by decide +kernel
theorem dX0_withHead_34 : decode cX0_withHead 34 = .ok (.ifCond .eq 20, 3) := by decide +kernel
theorem dX0_withHead_37 : decode cX0_withHead 37 = .ok (.iload 4, 2) := by decide +kernel
theorem dX0_withHead_39 : decode cX0_withHead 39 = .ok (.aload_n 0, 1) := by decide +kernel
theorem dX0_withHead_40 : decode cX0_withHead 40 = .ok (.getfield 18, 3) := by decide +kernel
theorem dX0_withHead_43 : decode cX0_withHead 43 = .ok (.iload_n 1, 1) := by decide +kernel
theorem dX0_withHead_44 : decode cX0_withHead 44 = .ok (.bipush 7, 2) := by decide +kernel
theorem dX0_withHead_46 : decode cX0_withHead 46 = .ok (.imul, 1) := by decide +kernel
theorem dX0_withHead_47 : decode cX0_withHead 47 = .ok (.iload 5, 2) := by decide +kernel
theorem dX0_withHead_49 : decode cX0_withHead 49 = .ok (.iadd, 1) := by decide +kernel
theorem dX0_withHead_50 : decode cX0_withHead 50 = .ok (.iaload, 1) := by decide +kernel
theorem dX0_withHead_51 : decode cX0_withHead 51 = .ok (.iadd, 1) := by decide +kernel
theorem dX0_withHead_52 : decode cX0_withHead 52 = .ok (.istore 4, 2) := by decide +kernel
theorem dX0_withHead_54 : decode cX0_withHead 54 = .ok (.iinc 5 1, 3) := by decide +kernel
theorem dX0_withHead_57 : decode cX0_withHead 57 = .ok (.goto (-38), 3) := by decide +kernel
theorem dX0_withHead_60 : decode cX0_withHead 60 = .ok (.iload 4, 2) := by decide +kernel
theorem dX0_withHead_62 : decode cX0_withHead 62 = .ok (.ireturn, 1) := by decide +kernel
def f_X0_withHead_L19 : Nat → Nat → Int32 → Int32 → Int32 → Int32 → Int32 → Hp → Option (Int32 × Hp)
  | 0, _, _, _, _, _, _, _ => none
  | n + 1, l0, l1, l2, l3, l4, l5, h =>
    gd (okOb h l0 0) <|
    vl (gI h l0 6) fun x8 =>
    if x8 ≤ l5 then (
    some (l4, h)) else (
    if ((l3 >>> (l5 &&& 31)) &&& (1 : Int32)) = 0 then (
    vl (l5 + (1 : Int32)) fun x11 =>
    f_X0_withHead_L19 n l0 l1 l2 l3 l4 x11 h) else (
    vl (gR h l0 2) fun r12 =>
    un r12 fun b13 =>
    gd (okAb h b13 11 ((l1 * (7 : Int32)) + l5)) <|
    vl (gI h b13 ((l1 * (7 : Int32)) + l5).toNatClampNeg) fun x15 =>
    vl (l4 + x15) fun x16 =>
    vl (l5 + (1 : Int32)) fun x17 =>
    f_X0_withHead_L19 n l0 l1 l2 l3 x16 x17 h))
set_option maxHeartbeats 4000000 in
set_option maxRecDepth 100000 in
theorem t_X0_withHead_L19 {X : Cx} {d : Nat} {h0 h' : Hp} {v : Int32} (hD : 1 ≤ d) : ∀ (n : Nat) (l0 : Nat) (l1 : Int32) (l2 : Int32) (l3 : Int32) (l4 : Int32) (l5 : Int32) (h : Hp), f_X0_withHead_L19 n l0 l1 l2 l3 l4 l5 h = some (v, h') → EV X mX0_withHead d h0 (some (.int v)) h' 19 [some (.ref l0), some (.int l1), some (.int l2), some (.int l3), some (.int l4), some (.int l5)] [] h := by
  intro n
  induction n with
  | zero => intro l0 l1 l2 l3 l4 l5 h H; simp [f_X0_withHead_L19] at H
  | succ n ih =>
    intro l0 l1 l2 l3 l4 l5 h H
    rw [f_X0_withHead_L19] at H
    refine ev_iload dX0_withHead_19 rfl ?_
    refine ev_aload_n dX0_withHead_21 rfl rfl rfl ?_
    replace H := gd_some H
    obtain ⟨g7, H⟩ := H
    replace H := vl_some H
    obtain ⟨x8, ex8, H⟩ := H
    refine ev_getIx dX0_withHead_22 fgX0_36 rfl (okOb.p g7) ex8 ?_
    refine ev_icmp_ge (tgt := 60) dX0_withHead_25 (by decide) (fun c9 => ?_) (fun c9 => ?_)
    · rw [if_pos c9] at H
      refine ev_iload dX0_withHead_60 rfl ?_
      exact ev_iretx dX0_withHead_62 rfl rfl H
    · rw [if_neg c9] at H
      refine ev_iload_n dX0_withHead_28 rfl rfl ?_
      refine ev_iload dX0_withHead_29 rfl ?_
      refine ev_ishr dX0_withHead_31 ?_
      refine ev_iconst (v := (1 : Int32)) dX0_withHead_32 (by decide) ?_
      refine ev_iand dX0_withHead_33 ?_
      refine ev_if_eq (tgt := 54) dX0_withHead_34 (by decide) (fun c10 => ?_) (fun c10 => ?_)
      · rw [if_pos c10] at H
        replace H := vl_some H
        obtain ⟨x11, ex11, H⟩ := H
        refine ev_iincx (loc2 := [some (.ref l0), some (.int l1), some (.int l2), some (.int l3), some (.int l4), some (.int x11)]) dX0_withHead_54 rfl (by decide) ex11 (by decide) rfl ?_
        refine ev_goto (tgt := 19) dX0_withHead_57 (by decide) ?_
        exact ih l0 l1 l2 l3 l4 x11 h H
      · rw [if_neg c10] at H
        refine ev_iload dX0_withHead_37 rfl ?_
        refine ev_aload_n dX0_withHead_39 rfl rfl rfl ?_
        replace H := vl_some H
        obtain ⟨r12, er12, H⟩ := H
        refine ev_getRx dX0_withHead_40 fgX0_18 rfl (okOb.p g7) er12 ?_
        refine ev_iload_n dX0_withHead_43 rfl rfl ?_
        refine ev_bipush (v := (7 : Int32)) dX0_withHead_44 (by decide) ?_
        refine ev_imul dX0_withHead_46 ?_
        refine ev_iload dX0_withHead_47 rfl ?_
        refine ev_iadd dX0_withHead_49 ?_
        replace H := un_some H
        obtain ⟨b13, eb13, H⟩ := H
        subst eb13
        replace H := gd_some H
        obtain ⟨g14, H⟩ := H
        replace H := vl_some H
        obtain ⟨x15, ex15, H⟩ := H
        refine ev_ialdx dX0_withHead_50 (okAb.p g14) ex15 ?_
        refine ev_iadd dX0_withHead_51 ?_
        replace H := vl_some H
        obtain ⟨x16, ex16, H⟩ := H
        refine ev_istorex (loc2 := [some (.ref l0), some (.int l1), some (.int l2), some (.int l3), some (.int x16), some (.int l5)]) dX0_withHead_52 (by decide) ex16 rfl ?_
        replace H := vl_some H
        obtain ⟨x17, ex17, H⟩ := H
        refine ev_iincx (loc2 := [some (.ref l0), some (.int l1), some (.int l2), some (.int l3), some (.int x16), some (.int x17)]) dX0_withHead_54 rfl (by decide) ex17 (by decide) rfl ?_
        refine ev_goto (tgt := 19) dX0_withHead_57 (by decide) ?_
        exact ih l0 l1 l2 l3 x16 x17 h H
def f_X0_withHead (h : Hp) (a0 : Nat) (a1 : Int32) (a2 : Int32) : Option (Int32 × Hp) :=
vl (a2 &&& (((1 : Int32) <<< (a1 &&& 31)) ^^^ (-1 : Int32))) fun x1 =>
gd (okOb h a0 0) <|
vl (gR h a0 3) fun r3 =>
un r3 fun b4 =>
gd (okAb h b4 11 x1) <|
vl (gI h b4 x1.toNatClampNeg) fun x6 =>
f_X0_withHead_L19 6000 a0 a1 a2 x1 x6 (0 : Int32) h
set_option maxHeartbeats 4000000 in
set_option maxRecDepth 100000 in
theorem t_X0_withHead {X : Cx} {d : Nat} {h : Hp} {a0 : Nat} {a1 : Int32} {a2 : Int32} {v : Int32} {h' : Hp} (hD : 1 ≤ d) (H : f_X0_withHead h a0 a1 a2 = some (v, h')) : PM X mX0_withHead d [.ref a0, .int a1, .int a2] h (some (.int v)) h' := by
  unfold f_X0_withHead at H
  refine PM.of (loc := [some (.ref a0), some (.int a1), some (.int a2), none, none, none]) (by decide) rfl (Nat.le_of_ble_eq_true rfl) ?_
  refine ev_iload_n dX0_withHead_0 rfl rfl ?_
  refine ev_iconst (v := (1 : Int32)) dX0_withHead_1 (by decide) ?_
  refine ev_iload_n dX0_withHead_2 rfl rfl ?_
  refine ev_ishl dX0_withHead_3 ?_
  refine ev_iconst (v := (-1 : Int32)) dX0_withHead_4 (by decide) ?_
  refine ev_ixor dX0_withHead_5 ?_
  refine ev_iand dX0_withHead_6 ?_
  replace H := vl_some H
  obtain ⟨x1, ex1, H⟩ := H
  refine ev_istore_nx (loc2 := [some (.ref a0), some (.int a1), some (.int a2), some (.int x1), none, none]) dX0_withHead_7 rfl (by decide) ex1 rfl ?_
  refine ev_aload_n dX0_withHead_8 rfl rfl rfl ?_
  replace H := gd_some H
  obtain ⟨g2, H⟩ := H
  replace H := vl_some H
  obtain ⟨r3, er3, H⟩ := H
  refine ev_getRx dX0_withHead_9 fgX0_21 rfl (okOb.p g2) er3 ?_
  refine ev_iload_n dX0_withHead_12 rfl rfl ?_
  replace H := un_some H
  obtain ⟨b4, eb4, H⟩ := H
  subst eb4
  replace H := gd_some H
  obtain ⟨g5, H⟩ := H
  replace H := vl_some H
  obtain ⟨x6, ex6, H⟩ := H
  refine ev_ialdx dX0_withHead_13 (okAb.p g5) ex6 ?_
  refine ev_istore (loc2 := [some (.ref a0), some (.int a1), some (.int a2), some (.int x1), some (.int x6), none]) dX0_withHead_14 (by decide) rfl ?_
  refine ev_iconst (v := (0 : Int32)) dX0_withHead_16 (by decide) ?_
  refine ev_istore (loc2 := [some (.ref a0), some (.int a1), some (.int a2), some (.int x1), some (.int x6), some (.int (0 : Int32))]) dX0_withHead_17 (by decide) rfl ?_
  refine t_X0_withHead_L19 hD  6000 a0 a1 a2 x1 x6 (0 : Int32) h H

theorem dX0_solve_0 : decode cX0_solve 0 = .ok (.ldc 59, 2) := by decide +kernel
theorem dX0_solve_2 : decode cX0_solve 2 = .ok (.istore_n 2, 1) := by decide +kernel
theorem dX0_solve_3 : decode cX0_solve 3 = .ok (.iconst 0, 1) := by decide +kernel
theorem dX0_solve_4 : decode cX0_solve 4 = .ok (.istore_n 3, 1) := by decide +kernel
theorem dX0_solve_5 : decode cX0_solve 5 = .ok (.iconst 0, 1) := by decide +kernel
theorem dX0_solve_6 : decode cX0_solve 6 = .ok (.istore 4, 2) := by decide +kernel
theorem dX0_solve_8 : decode cX0_solve 8 = .ok (.iload 4, 2) := by decide +kernel
theorem dX0_solve_10 : decode cX0_solve 10 = .ok (.aload_n 0, 1) := by decide +kernel
theorem dX0_solve_11 : decode cX0_solve 11 = .ok (.getfield 36, 3) := by decide +kernel
theorem dX0_solve_14 : decode cX0_solve 14 = .ok (.if_icmp .ge 63, 3) := by decide +kernel
theorem dX0_solve_17 : decode cX0_solve 17 = .ok (.iload_n 1, 1) := by decide +kernel
theorem dX0_solve_18 : decode cX0_solve 18 = .ok (.iload 4, 2) := by decide +kernel
theorem dX0_solve_20 : decode cX0_solve 20 = .ok (.ishr, 1) := by decide +kernel
theorem dX0_solve_21 : decode cX0_solve 21 = .ok (.iconst 1, 1) := by decide +kernel
theorem dX0_solve_22 : decode cX0_solve 22 = .ok (.iand, 1) := by decide +kernel
theorem dX0_solve_23 : decode cX0_solve 23 = .ok (.ifCond .ne 6, 3) := by decide +kernel
theorem dX0_solve_26 : decode cX0_solve 26 = .ok (.goto 45, 3) := by decide +kernel
theorem dX0_solve_29 : decode cX0_solve 29 = .ok (.aload_n 0, 1) := by decide +kernel
theorem dX0_solve_30 : decode cX0_solve 30 = .ok (.iload 4, 2) := by decide +kernel
theorem dX0_solve_32 : decode cX0_solve 32 = .ok (.iload_n 1, 1) := by decide +kernel
theorem dX0_solve_33 : decode cX0_solve 33 = .ok (.invokevirtual 60, 3) := by decide +kernel
theorem dX0_solve_36 : decode cX0_solve 36 = .ok (.istore 5, 2) := by decide +kernel
theorem dX0_solve_38 : decode cX0_solve 38 = .ok (.iload 5, 2) := by decide +kernel
theorem dX0_solve_40 : decode cX0_solve 40 = .ok (.iload_n 2, 1) := by decide +kernel
theorem dX0_solve_41 : decode cX0_solve 41 = .ok (.if_icmp .ge 8, 3) := by decide +kernel
theorem dX0_solve_44 : decode cX0_solve 44 = .ok (.iload 5, 2) := by decide +kernel
theorem dX0_solve_46 : decode cX0_solve 46 = .ok (.istore_n 2, 1) := by decide +kernel
theorem dX0_solve_47 : decode cX0_solve 47 = .ok (.iconst 0, 1) := by decide +kernel
theorem dX0_solve_48 : decode cX0_solve 48 = .ok (.istore_n 3, 1) := by decide +kernel
theorem dX0_solve_49 : decode cX0_solve 49 = .ok (.iload 5, 2) := by decide +kernel
theorem dX0_solve_51 : decode cX0_solve 51 = .ok (.iload_n 2, 1) := by decide +kernel
theorem dX0_solve_52 : decode cX0_solve 52 = .ok (.if_icmp .ne 19, 3) := by decide +kernel
theorem dX0_solve_55 : decode cX0_solve 55 = .ok (.iload_n 3, 1) := by decide +kernel
theorem dX0_solve_56 : decode cX0_solve 56 = .ok (.aload_n 0, 1) := by decide +kernel
theorem dX0_solve_57 : decode cX0_solve 57 = .ok (.getfield 24, 3) := by decide +kernel
theorem dX0_solve_60 : decode cX0_solve 60 = .ok (.iload_n 1, 1) := by decide +kernel
theorem dX0_solve_61 : decode cX0_solve 61 = .ok (.iconst 1, 1) := by decide +kernel
theorem dX0_solve_62 : decode cX0_solve 62 = .ok (.iload 4, 2) := by decide +kernel
theorem dX0_solve_64 : decode cX0_solve 64 = .ok (.ishl, 1) := by decide +kernel
theorem dX0_solve_65 : decode cX0_solve 65 = .ok (.iconst (-1), 1) := by decide +kernel
theorem dX0_solve_66 : decode cX0_solve 66 = .ok (.ixor, 1) := by decide +kernel
theorem dX0_solve_67 : decode cX0_solve 67 = .ok (.iand, 1) := by decide +kernel
theorem dX0_solve_68 : decode cX0_solve 68 = .ok (.iaload, 1) := by decide +kernel
theorem dX0_solve_69 : decode cX0_solve 69 = .ok (.iadd, 1) := by decide +kernel
theorem dX0_solve_70 : decode cX0_solve 70 = .ok (.istore_n 3, 1) := by decide +kernel
theorem dX0_solve_71 : decode cX0_solve 71 = .ok (.iinc 4 1, 3) := by decide +kernel
theorem dX0_solve_74 : decode cX0_solve 74 = .ok (.goto (-66), 3) := by decide +kernel
theorem dX0_solve_77 : decode cX0_solve 77 = .ok (.aload_n 0, 1) := by decide +kernel
theorem dX0_solve_78 : decode cX0_solve 78 = .ok (.getfield 21, 3) := by decide +kernel
theorem dX0_solve_81 : decode cX0_solve 81 = .ok (.iload_n 1, 1) := by decide +kernel
theorem dX0_solve_82 : decode cX0_solve 82 = .ok (.iload_n 2, 1) := by decide +kernel
theorem dX0_solve_83 : decode cX0_solve 83 = .ok (.iastore, 1) := by decide +kernel
theorem dX0_solve_84 : decode cX0_solve 84 = .ok (.aload_n 0, 1) := by decide +kernel
theorem dX0_solve_85 : decode cX0_solve 85 = .ok (.getfield 24, 3) := by decide +kernel
theorem dX0_solve_88 : decode cX0_solve 88 = .ok (.iload_n 1, 1) := by decide +kernel
theorem dX0_solve_89 : decode cX0_solve 89 = .ok (.iload_n 3, 1) := by decide +kernel
theorem dX0_solve_90 : decode cX0_solve 90 = .ok (.iastore, 1) := by decide +kernel
theorem dX0_solve_91 : decode cX0_solve 91 = .ok (.return_, 1) := by decide +kernel
def f_X0_solve_J49 (k8 : Nat → Int32 → Int32 → Int32 → Int32 → Hp → Option (Unit × Hp)) (l0 : Nat) (l1 : Int32) (l2 : Int32) (l3 : Int32) (l4 : Int32) (l5 : Int32) (h : Hp) : Option (Unit × Hp) :=
if l5 = l2 then (
gd (okOb h l0 0) <|
vl (gR h l0 4) fun r19 =>
un r19 fun b20 =>
gd (okAb h b20 11 (l1 &&& (((1 : Int32) <<< (l4 &&& 31)) ^^^ (-1 : Int32)))) <|
vl (gI h b20 (l1 &&& (((1 : Int32) <<< (l4 &&& 31)) ^^^ (-1 : Int32))).toNatClampNeg) fun x22 =>
vl (l3 + x22) fun x23 =>
vl (l4 + (1 : Int32)) fun x24 =>
k8 l0 l1 l2 x23 x24 h) else (
vl (l4 + (1 : Int32)) fun x17 =>
k8 l0 l1 l2 l3 x17 h)
set_option maxHeartbeats 4000000 in
set_option maxRecDepth 100000 in
theorem t_X0_solve_J49 {X : Cx} {d : Nat} {h0 h' : Hp} {v : Unit} {k8 : Nat → Int32 → Int32 → Int32 → Int32 → Hp → Option (Unit × Hp)} (hD : 2 ≤ d) (hk8 : ∀ (z0 : Nat) (z1 : Int32) (z2 : Int32) (z3 : Int32) (z4 : Int32) (h : Hp), k8 z0 z1 z2 z3 z4 h = some (v, h') → EV X mX0_solve d h0 (none) h' 8 [some (.ref z0), some (.int z1), some (.int z2), some (.int z3), some (.int z4), none] [] h) : ∀ (l0 : Nat) (l1 : Int32) (l2 : Int32) (l3 : Int32) (l4 : Int32) (l5 : Int32) (h : Hp), f_X0_solve_J49 k8 l0 l1 l2 l3 l4 l5 h = some (v, h') → EV X mX0_solve d h0 (none) h' 49 [some (.ref l0), some (.int l1), some (.int l2), some (.int l3), some (.int l4), some (.int l5)] [] h := by
  intro l0 l1 l2 l3 l4 l5 h H
  unfold f_X0_solve_J49 at H
  refine ev_iload dX0_solve_49 rfl ?_
  refine ev_iload_n dX0_solve_51 rfl rfl ?_
  refine ev_icmp_ne (tgt := 71) dX0_solve_52 (by decide) (fun c16 => ?_) (fun c16 => ?_)
  · rw [if_neg c16] at H
    replace H := vl_some H
    obtain ⟨x17, ex17, H⟩ := H
    refine ev_iincx (loc2 := [some (.ref l0), some (.int l1), some (.int l2), some (.int l3), some (.int x17), some (.int l5)]) dX0_solve_71 rfl (by decide) ex17 (by decide) rfl ?_
    refine ev_goto (tgt := 8) dX0_solve_74 (by decide) ?_
    refine ev_drop (loc2 := [some (.ref l0), some (.int l1), some (.int l2), some (.int l3), some (.int x17), none]) [true, true, true, true, true, false] rfl ?_
    exact hk8 l0 l1 l2 l3 x17 h H
  · rw [if_pos c16] at H
    refine ev_iload_n dX0_solve_55 rfl rfl ?_
    refine ev_aload_n dX0_solve_56 rfl rfl rfl ?_
    replace H := gd_some H
    obtain ⟨g18, H⟩ := H
    replace H := vl_some H
    obtain ⟨r19, er19, H⟩ := H
    refine ev_getRx dX0_solve_57 fgX0_24 rfl (okOb.p g18) er19 ?_
    refine ev_iload_n dX0_solve_60 rfl rfl ?_
    refine ev_iconst (v := (1 : Int32)) dX0_solve_61 (by decide) ?_
    refine ev_iload dX0_solve_62 rfl ?_
    refine ev_ishl dX0_solve_64 ?_
    refine ev_iconst (v := (-1 : Int32)) dX0_solve_65 (by decide) ?_
    refine ev_ixor dX0_solve_66 ?_
    refine ev_iand dX0_solve_67 ?_
    replace H := un_some H
    obtain ⟨b20, eb20, H⟩ := H
    subst eb20
    replace H := gd_some H
    obtain ⟨g21, H⟩ := H
    replace H := vl_some H
    obtain ⟨x22, ex22, H⟩ := H
    refine ev_ialdx dX0_solve_68 (okAb.p g21) ex22 ?_
    refine ev_iadd dX0_solve_69 ?_
    replace H := vl_some H
    obtain ⟨x23, ex23, H⟩ := H
    refine ev_istore_nx (loc2 := [some (.ref l0), some (.int l1), some (.int l2), some (.int x23), some (.int l4), some (.int l5)]) dX0_solve_70 rfl (by decide) ex23 rfl ?_
    replace H := vl_some H
    obtain ⟨x24, ex24, H⟩ := H
    refine ev_iincx (loc2 := [some (.ref l0), some (.int l1), some (.int l2), some (.int x23), some (.int x24), some (.int l5)]) dX0_solve_71 rfl (by decide) ex24 (by decide) rfl ?_
    refine ev_goto (tgt := 8) dX0_solve_74 (by decide) ?_
    refine ev_drop (loc2 := [some (.ref l0), some (.int l1), some (.int l2), some (.int x23), some (.int x24), none]) [true, true, true, true, true, false] rfl ?_
    exact hk8 l0 l1 l2 x23 x24 h H
def f_X0_solve_L8 : Nat → Nat → Int32 → Int32 → Int32 → Int32 → Hp → Option (Unit × Hp)
  | 0, _, _, _, _, _, _ => none
  | n + 1, l0, l1, l2, l3, l4, h =>
    gd (okOb h l0 0) <|
    vl (gI h l0 6) fun x2 =>
    if x2 ≤ l4 then (
    vl (gR h l0 3) fun r4 =>
    un r4 fun b5 =>
    gd (okAb h b5 11 l1) <|
    vl (sI h b5 l1.toNatClampNeg l2) fun h7 =>
    vl (gR h7 l0 4) fun r8 =>
    un r8 fun b9 =>
    gd (okAb h7 b9 11 l1) <|
    vl (sI h7 b9 l1.toNatClampNeg l3) fun h11 =>
    some ((), h11)) else (
    if ((l1 >>> (l4 &&& 31)) &&& (1 : Int32)) = 0 then (
    vl (l4 + (1 : Int32)) fun x25 =>
    f_X0_solve_L8 n l0 l1 l2 l3 x25 h) else (
    bnd (f_X0_withHead h l0 l4 l1) fun v13 h14 =>
    if l2 ≤ v13 then (
    f_X0_solve_J49 (f_X0_solve_L8 n) l0 l1 l2 l3 l4 v13 h14) else (
    f_X0_solve_J49 (f_X0_solve_L8 n) l0 l1 v13 (0 : Int32) l4 v13 h14)))
set_option maxHeartbeats 4000000 in
set_option maxRecDepth 100000 in
theorem t_X0_solve_L8 {X : Cx} {d : Nat} {h0 h' : Hp} {v : Unit} (hD : 2 ≤ d) : ∀ (n : Nat) (l0 : Nat) (l1 : Int32) (l2 : Int32) (l3 : Int32) (l4 : Int32) (h : Hp), f_X0_solve_L8 n l0 l1 l2 l3 l4 h = some (v, h') → EV X mX0_solve d h0 (none) h' 8 [some (.ref l0), some (.int l1), some (.int l2), some (.int l3), some (.int l4), none] [] h := by
  intro n
  induction n with
  | zero => intro l0 l1 l2 l3 l4 h H; simp [f_X0_solve_L8] at H
  | succ n ih =>
    intro l0 l1 l2 l3 l4 h H
    rw [f_X0_solve_L8] at H
    refine ev_iload dX0_solve_8 rfl ?_
    refine ev_aload_n dX0_solve_10 rfl rfl rfl ?_
    replace H := gd_some H
    obtain ⟨g1, H⟩ := H
    replace H := vl_some H
    obtain ⟨x2, ex2, H⟩ := H
    refine ev_getIx dX0_solve_11 fgX0_36 rfl (okOb.p g1) ex2 ?_
    refine ev_icmp_ge (tgt := 77) dX0_solve_14 (by decide) (fun c3 => ?_) (fun c3 => ?_)
    · rw [if_pos c3] at H
      refine ev_aload_n dX0_solve_77 rfl rfl rfl ?_
      replace H := vl_some H
      obtain ⟨r4, er4, H⟩ := H
      refine ev_getRx dX0_solve_78 fgX0_21 rfl (okOb.p g1) er4 ?_
      refine ev_iload_n dX0_solve_81 rfl rfl ?_
      refine ev_iload_n dX0_solve_82 rfl rfl ?_
      replace H := un_some H
      obtain ⟨b5, eb5, H⟩ := H
      subst eb5
      replace H := gd_some H
      obtain ⟨g6, H⟩ := H
      replace H := vl_some H
      obtain ⟨h7, eh7, H⟩ := H
      refine ev_iast dX0_solve_83 (okAb.p g6) eh7 ?_
      refine ev_aload_n dX0_solve_84 rfl rfl rfl ?_
      replace H := vl_some H
      obtain ⟨r8, er8, H⟩ := H
      refine ev_getRx dX0_solve_85 fgX0_24 rfl (okO_sI eh7 (okOb.p g1)) er8 ?_
      refine ev_iload_n dX0_solve_88 rfl rfl ?_
      refine ev_iload_n dX0_solve_89 rfl rfl ?_
      replace H := un_some H
      obtain ⟨b9, eb9, H⟩ := H
      subst eb9
      replace H := gd_some H
      obtain ⟨g10, H⟩ := H
      replace H := vl_some H
      obtain ⟨h11, eh11, H⟩ := H
      refine ev_iast dX0_solve_90 (okAb.p g10) eh11 ?_
      exact ev_vretx dX0_solve_91 rfl H
    · rw [if_neg c3] at H
      refine ev_iload_n dX0_solve_17 rfl rfl ?_
      refine ev_iload dX0_solve_18 rfl ?_
      refine ev_ishr dX0_solve_20 ?_
      refine ev_iconst (v := (1 : Int32)) dX0_solve_21 (by decide) ?_
      refine ev_iand dX0_solve_22 ?_
      refine ev_if_ne (tgt := 29) dX0_solve_23 (by decide) (fun c12 => ?_) (fun c12 => ?_)
      · rw [if_neg c12] at H
        refine ev_aload_n dX0_solve_29 rfl rfl rfl ?_
        refine ev_iload dX0_solve_30 rfl ?_
        refine ev_iload_n dX0_solve_32 rfl rfl ?_
        replace H := bnd_some H
        obtain ⟨v13, h14, eh14, H⟩ := H
        have ph14 := (t_X0_withHead (X := X) (d := 1) (by omega) eh14)
        refine ev_callV (as := [.int l4, .int l1]) dX0_solve_33 ph14 ok_X0_withHead (by omega) rfl k3_201 k3_203 ks_11 (ci := 0) (by decide) rfl rfl (okOb.p g1) rfl (Nat.le_of_ble_eq_true rfl) ?_
        refine ev_istore (loc2 := [some (.ref l0), some (.int l1), some (.int l2), some (.int l3), some (.int l4), some (.int v13)]) dX0_solve_36 (by decide) rfl ?_
        refine ev_iload dX0_solve_38 rfl ?_
        refine ev_iload_n dX0_solve_40 rfl rfl ?_
        refine ev_icmp_ge (tgt := 49) dX0_solve_41 (by decide) (fun c15 => ?_) (fun c15 => ?_)
        · rw [if_pos c15] at H
          exact t_X0_solve_J49 hD ih l0 l1 l2 l3 l4 v13 h14 H
        · rw [if_neg c15] at H
          refine ev_iload dX0_solve_44 rfl ?_
          refine ev_istore_n (loc2 := [some (.ref l0), some (.int l1), some (.int v13), some (.int l3), some (.int l4), some (.int v13)]) dX0_solve_46 rfl (by decide) rfl ?_
          refine ev_iconst (v := (0 : Int32)) dX0_solve_47 (by decide) ?_
          refine ev_istore_n (loc2 := [some (.ref l0), some (.int l1), some (.int v13), some (.int (0 : Int32)), some (.int l4), some (.int v13)]) dX0_solve_48 rfl (by decide) rfl ?_
          exact t_X0_solve_J49 hD ih l0 l1 v13 (0 : Int32) l4 v13 h14 H
      · rw [if_pos c12] at H
        refine ev_goto (tgt := 71) dX0_solve_26 (by decide) ?_
        replace H := vl_some H
        obtain ⟨x25, ex25, H⟩ := H
        refine ev_iincx (loc2 := [some (.ref l0), some (.int l1), some (.int l2), some (.int l3), some (.int x25), none]) dX0_solve_71 rfl (by decide) ex25 (by decide) rfl ?_
        refine ev_goto (tgt := 8) dX0_solve_74 (by decide) ?_
        exact ih l0 l1 l2 l3 x25 h H
def f_X0_solve (h : Hp) (a0 : Nat) (a1 : Int32) : Option (Unit × Hp) :=
f_X0_solve_L8 6000 a0 a1 (2147483647 : Int32) (0 : Int32) (0 : Int32) h
set_option maxHeartbeats 4000000 in
set_option maxRecDepth 100000 in
theorem t_X0_solve {X : Cx} {d : Nat} {h : Hp} {a0 : Nat} {a1 : Int32} {v : Unit} {h' : Hp} (hD : 2 ≤ d) (H : f_X0_solve h a0 a1 = some (v, h')) : PM X mX0_solve d [.ref a0, .int a1] h (none) h' := by
  unfold f_X0_solve at H
  refine PM.of (loc := [some (.ref a0), some (.int a1), none, none, none, none]) (by decide) rfl (Nat.le_of_ble_eq_true rfl) ?_
  refine ev_ldc (v := (2147483647 : Int32)) dX0_solve_0 k3_200 ?_
  refine ev_istore_n (loc2 := [some (.ref a0), some (.int a1), some (.int (2147483647 : Int32)), none, none, none]) dX0_solve_2 rfl (by decide) rfl ?_
  refine ev_iconst (v := (0 : Int32)) dX0_solve_3 (by decide) ?_
  refine ev_istore_n (loc2 := [some (.ref a0), some (.int a1), some (.int (2147483647 : Int32)), some (.int (0 : Int32)), none, none]) dX0_solve_4 rfl (by decide) rfl ?_
  refine ev_iconst (v := (0 : Int32)) dX0_solve_5 (by decide) ?_
  refine ev_istore (loc2 := [some (.ref a0), some (.int a1), some (.int (2147483647 : Int32)), some (.int (0 : Int32)), some (.int (0 : Int32)), none]) dX0_solve_6 (by decide) rfl ?_
  refine t_X0_solve_L8 hD  6000 a0 a1 (2147483647 : Int32) (0 : Int32) (0 : Int32) h H

theorem dX0_leastHead_0 : decode cX0_leastHead 0 = .ok (.iconst 0, 1) := by decide +kernel
theorem dX0_leastHead_1 : decode cX0_leastHead 1 = .ok (.istore_n 2, 1) := by decide +kernel
theorem dX0_leastHead_2 : decode cX0_leastHead 2 = .ok (.iload_n 2, 1) := by decide +kernel
theorem dX0_leastHead_3 : decode cX0_leastHead 3 = .ok (.aload_n 0, 1) := by decide +kernel
theorem dX0_leastHead_4 : decode cX0_leastHead 4 = .ok (.getfield 36, 3) := by decide +kernel
theorem dX0_leastHead_7 : decode cX0_leastHead 7 = .ok (.if_icmp .ge 34, 3) := by decide +kernel
theorem dX0_leastHead_10 : decode cX0_leastHead 10 = .ok (.iload_n 1, 1) := by decide +kernel
theorem dX0_leastHead_11 : decode cX0_leastHead 11 = .ok (.iload_n 2, 1) := by decide +kernel
theorem dX0_leastHead_12 : decode cX0_leastHead 12 = .ok (.ishr, 1) := by decide +kernel
theorem dX0_leastHead_13 : decode cX0_leastHead 13 = .ok (.iconst 1, 1) := by decide +kernel
theorem dX0_leastHead_14 : decode cX0_leastHead 14 = .ok (.iand, 1) := by decide +kernel
theorem dX0_leastHead_15 : decode cX0_leastHead 15 = .ok (.ifCond .eq 20, 3) := by decide +kernel
theorem dX0_leastHead_18 : decode cX0_leastHead 18 = .ok (.aload_n 0, 1) := by decide +kernel
theorem dX0_leastHead_19 : decode cX0_leastHead 19 = .ok (.iload_n 2, 1) := by decide +kernel
theorem dX0_leastHead_20 : decode cX0_leastHead 20 = .ok (.iload_n 1, 1) := by decide +kernel
theorem dX0_leastHead_21 : decode cX0_leastHead 21 = .ok (.invokevirtual 60, 3) := by decide +kernel
theorem dX0_leastHead_24 : decode cX0_leastHead 24 = .ok (.aload_n 0, 1) := by decide +kernel
theorem dX0_leastHead_25 : decode cX0_leastHead 25 = .ok (.getfield 21, 3) := by decide +kernel
theorem dX0_leastHead_28 : decode cX0_leastHead 28 = .ok (.iload_n 1, 1) := by decide +kernel
theorem dX0_leastHead_29 : decode cX0_leastHead 29 = .ok (.iaload, 1) := by decide +kernel
theorem dX0_leastHead_30 : decode cX0_leastHead 30 = .ok (.if_icmp .ne 5, 3) := by decide +kernel
theorem dX0_leastHead_33 : decode cX0_leastHead 33 = .ok (.iload_n 2, 1) := by decide +kernel
theorem dX0_leastHead_34 : decode cX0_leastHead 34 = .ok (.ireturn, 1) := by decide +kernel
theorem dX0_leastHead_35 : decode cX0_leastHead 35 = .ok (.iinc 2 1, 3) := by decide +kernel
theorem dX0_leastHead_38 : decode cX0_leastHead 38 = .ok (.goto (-36), 3) := by decide +kernel
theorem dX0_leastHead_41 : decode cX0_leastHead 41 = .ok (.iconst 0, 1) := by decide +kernel
theorem dX0_leastHead_42 : decode cX0_leastHead 42 = .ok (.ireturn, 1) := by decide +kernel
def f_X0_leastHead_L2 : Nat → Nat → Int32 → Int32 → Hp → Option (Int32 × Hp)
  | 0, _, _, _, _ => none
  | n + 1, l0, l1, l2, h =>
    gd (okOb h l0 0) <|
    vl (gI h l0 6) fun x2 =>
    if x2 ≤ l2 then (
    some ((0 : Int32), h)) else (
    if ((l1 >>> (l2 &&& 31)) &&& (1 : Int32)) = 0 then (
    vl (l2 + (1 : Int32)) fun x5 =>
    f_X0_leastHead_L2 n l0 l1 x5 h) else (
    bnd (f_X0_withHead h l0 l2 l1) fun v6 h7 =>
    vl (gR h7 l0 3) fun r8 =>
    un r8 fun b9 =>
    gd (okAb h7 b9 11 l1) <|
    vl (gI h7 b9 l1.toNatClampNeg) fun x11 =>
    if v6 = x11 then (
    some (l2, h7)) else (
    vl (l2 + (1 : Int32)) fun x13 =>
    f_X0_leastHead_L2 n l0 l1 x13 h7)))
set_option maxHeartbeats 4000000 in
set_option maxRecDepth 100000 in
theorem t_X0_leastHead_L2 {X : Cx} {d : Nat} {h0 h' : Hp} {v : Int32} (hD : 2 ≤ d) : ∀ (n : Nat) (l0 : Nat) (l1 : Int32) (l2 : Int32) (h : Hp), f_X0_leastHead_L2 n l0 l1 l2 h = some (v, h') → EV X mX0_leastHead d h0 (some (.int v)) h' 2 [some (.ref l0), some (.int l1), some (.int l2)] [] h := by
  intro n
  induction n with
  | zero => intro l0 l1 l2 h H; simp [f_X0_leastHead_L2] at H
  | succ n ih =>
    intro l0 l1 l2 h H
    rw [f_X0_leastHead_L2] at H
    refine ev_iload_n dX0_leastHead_2 rfl rfl ?_
    refine ev_aload_n dX0_leastHead_3 rfl rfl rfl ?_
    replace H := gd_some H
    obtain ⟨g1, H⟩ := H
    replace H := vl_some H
    obtain ⟨x2, ex2, H⟩ := H
    refine ev_getIx dX0_leastHead_4 fgX0_36 rfl (okOb.p g1) ex2 ?_
    refine ev_icmp_ge (tgt := 41) dX0_leastHead_7 (by decide) (fun c3 => ?_) (fun c3 => ?_)
    · rw [if_pos c3] at H
      refine ev_iconst (v := (0 : Int32)) dX0_leastHead_41 (by decide) ?_
      exact ev_iretx dX0_leastHead_42 rfl rfl H
    · rw [if_neg c3] at H
      refine ev_iload_n dX0_leastHead_10 rfl rfl ?_
      refine ev_iload_n dX0_leastHead_11 rfl rfl ?_
      refine ev_ishr dX0_leastHead_12 ?_
      refine ev_iconst (v := (1 : Int32)) dX0_leastHead_13 (by decide) ?_
      refine ev_iand dX0_leastHead_14 ?_
      refine ev_if_eq (tgt := 35) dX0_leastHead_15 (by decide) (fun c4 => ?_) (fun c4 => ?_)
      · rw [if_pos c4] at H
        replace H := vl_some H
        obtain ⟨x5, ex5, H⟩ := H
        refine ev_iincx (loc2 := [some (.ref l0), some (.int l1), some (.int x5)]) dX0_leastHead_35 rfl (by decide) ex5 (by decide) rfl ?_
        refine ev_goto (tgt := 2) dX0_leastHead_38 (by decide) ?_
        exact ih l0 l1 x5 h H
      · rw [if_neg c4] at H
        refine ev_aload_n dX0_leastHead_18 rfl rfl rfl ?_
        refine ev_iload_n dX0_leastHead_19 rfl rfl ?_
        refine ev_iload_n dX0_leastHead_20 rfl rfl ?_
        replace H := bnd_some H
        obtain ⟨v6, h7, eh7, H⟩ := H
        have ph7 := (t_X0_withHead (X := X) (d := 1) (by omega) eh7)
        refine ev_callV (as := [.int l2, .int l1]) dX0_leastHead_21 ph7 ok_X0_withHead (by omega) rfl k3_201 k3_203 ks_11 (ci := 0) (by decide) rfl rfl (okOb.p g1) rfl (Nat.le_of_ble_eq_true rfl) ?_
        refine ev_aload_n dX0_leastHead_24 rfl rfl rfl ?_
        replace H := vl_some H
        obtain ⟨r8, er8, H⟩ := H
        refine ev_getRx dX0_leastHead_25 fgX0_21 rfl (okO_ext ph7.1 (okOb.p g1)) er8 ?_
        refine ev_iload_n dX0_leastHead_28 rfl rfl ?_
        replace H := un_some H
        obtain ⟨b9, eb9, H⟩ := H
        subst eb9
        replace H := gd_some H
        obtain ⟨g10, H⟩ := H
        replace H := vl_some H
        obtain ⟨x11, ex11, H⟩ := H
        refine ev_ialdx dX0_leastHead_29 (okAb.p g10) ex11 ?_
        refine ev_icmp_ne (tgt := 35) dX0_leastHead_30 (by decide) (fun c12 => ?_) (fun c12 => ?_)
        · rw [if_neg c12] at H
          replace H := vl_some H
          obtain ⟨x13, ex13, H⟩ := H
          refine ev_iincx (loc2 := [some (.ref l0), some (.int l1), some (.int x13)]) dX0_leastHead_35 rfl (by decide) ex13 (by decide) rfl ?_
          refine ev_goto (tgt := 2) dX0_leastHead_38 (by decide) ?_
          exact ih l0 l1 x13 h7 H
        · rw [if_pos c12] at H
          refine ev_iload_n dX0_leastHead_33 rfl rfl ?_
          exact ev_iretx dX0_leastHead_34 rfl rfl H
def f_X0_leastHead (h : Hp) (a0 : Nat) (a1 : Int32) : Option (Int32 × Hp) :=
f_X0_leastHead_L2 6000 a0 a1 (0 : Int32) h
set_option maxHeartbeats 4000000 in
set_option maxRecDepth 100000 in
theorem t_X0_leastHead {X : Cx} {d : Nat} {h : Hp} {a0 : Nat} {a1 : Int32} {v : Int32} {h' : Hp} (hD : 2 ≤ d) (H : f_X0_leastHead h a0 a1 = some (v, h')) : PM X mX0_leastHead d [.ref a0, .int a1] h (some (.int v)) h' := by
  unfold f_X0_leastHead at H
  refine PM.of (loc := [some (.ref a0), some (.int a1), none]) (by decide) rfl (Nat.le_of_ble_eq_true rfl) ?_
  refine ev_iconst (v := (0 : Int32)) dX0_leastHead_0 (by decide) ?_
  refine ev_istore_n (loc2 := [some (.ref a0), some (.int a1), some (.int (0 : Int32))]) dX0_leastHead_1 rfl (by decide) rfl ?_
  refine t_X0_leastHead_L2 hD  6000 a0 a1 (0 : Int32) h H

theorem dX0_takeLeast_0 : decode cX0_takeLeast 0 = .ok (.iload_n 1, 1) := by decide +kernel
theorem dX0_takeLeast_1 : decode cX0_takeLeast 1 = .ok (.istore_n 2, 1) := by decide +kernel
theorem dX0_takeLeast_2 : decode cX0_takeLeast 2 = .ok (.iconst 0, 1) := by decide +kernel
theorem dX0_takeLeast_3 : decode cX0_takeLeast 3 = .ok (.istore_n 3, 1) := by decide +kernel
theorem dX0_takeLeast_4 : decode cX0_takeLeast 4 = .ok (.iload_n 3, 1) := by decide +kernel
theorem dX0_takeLeast_5 : decode cX0_takeLeast 5 = .ok (.aload_n 0, 1) := by decide +kernel
theorem dX0_takeLeast_6 : decode cX0_takeLeast 6 = .ok (.getfield 36, 3) := by decide +kernel
theorem dX0_takeLeast_9 : decode cX0_takeLeast 9 = .ok (.if_icmp .ge 38, 3) := by decide +kernel
theorem dX0_takeLeast_12 : decode cX0_takeLeast 12 = .ok (.aload_n 0, 1) := by decide +kernel
theorem dX0_takeLeast_13 : decode cX0_takeLeast 13 = .ok (.iload_n 2, 1) := by decide +kernel
theorem dX0_takeLeast_14 : decode cX0_takeLeast 14 = .ok (.invokevirtual 63, 3) := by decide +kernel
theorem dX0_takeLeast_17 : decode cX0_takeLeast 17 = .ok (.istore 4, 2) := by decide +kernel
theorem dX0_takeLeast_19 : decode cX0_takeLeast 19 = .ok (.aload_n 0, 1) := by decide +kernel
theorem dX0_takeLeast_20 : decode cX0_takeLeast 20 = .ok (.getfield 27, 3) := by decide +kernel
theorem dX0_takeLeast_23 : decode cX0_takeLeast 23 = .ok (.iload_n 3, 1) := by decide +kernel
theorem dX0_takeLeast_24 : decode cX0_takeLeast 24 = .ok (.aload_n 0, 1) := by decide +kernel
theorem dX0_takeLeast_25 : decode cX0_takeLeast 25 = .ok (.getfield 15, 3) := by decide +kernel
theorem dX0_takeLeast_28 : decode cX0_takeLeast 28 = .ok (.iload 4, 2) := by decide +kernel
theorem dX0_takeLeast_30 : decode cX0_takeLeast 30 = .ok (.iaload, 1) := by decide +kernel
theorem dX0_takeLeast_31 : decode cX0_takeLeast 31 = .ok (.iastore, 1) := by decide +kernel
theorem dX0_takeLeast_32 : decode cX0_takeLeast 32 = .ok (.iload_n 2, 1) := by decide +kernel
theorem dX0_takeLeast_33 : decode cX0_takeLeast 33 = .ok (.iconst 1, 1) := by decide +kernel
theorem dX0_takeLeast_34 : decode cX0_takeLeast 34 = .ok (.iload 4, 2) := by decide +kernel
theorem dX0_takeLeast_36 : decode cX0_takeLeast 36 = .ok (.ishl, 1) := by decide +kernel
theorem dX0_takeLeast_37 : decode cX0_takeLeast 37 = .ok (.iconst (-1), 1) := by decide +kernel
theorem dX0_takeLeast_38 : decode cX0_takeLeast 38 = .ok (.ixor, 1) := by decide +kernel
theorem dX0_takeLeast_39 : decode cX0_takeLeast 39 = .ok (.iand, 1) := by decide +kernel
theorem dX0_takeLeast_40 : decode cX0_takeLeast 40 = .ok (.istore_n 2, 1) := by decide +kernel
theorem dX0_takeLeast_41 : decode cX0_takeLeast 41 = .ok (.iinc 3 1, 3) := by decide +kernel
theorem dX0_takeLeast_44 : decode cX0_takeLeast 44 = .ok (.goto (-40), 3) := by decide +kernel
theorem dX0_takeLeast_47 : decode cX0_takeLeast 47 = .ok (.return_, 1) := by decide +kernel
def f_X0_takeLeast_L4 : Nat → Nat → Int32 → Int32 → Int32 → Hp → Option (Unit × Hp)
  | 0, _, _, _, _, _ => none
  | n + 1, l0, l1, l2, l3, h =>
    gd (okOb h l0 0) <|
    vl (gI h l0 6) fun x2 =>
    if x2 ≤ l3 then (
    some ((), h)) else (
    bnd (f_X0_leastHead h l0 l2) fun v4 h5 =>
    vl (gR h5 l0 5) fun r6 =>
    vl (gR h5 l0 1) fun r7 =>
    un r7 fun b8 =>
    gd (okAb h5 b8 11 v4) <|
    vl (gI h5 b8 v4.toNatClampNeg) fun x10 =>
    un r6 fun b11 =>
    gd (okAb h5 b11 11 l3) <|
    vl (sI h5 b11 l3.toNatClampNeg x10) fun h13 =>
    vl (l2 &&& (((1 : Int32) <<< (v4 &&& 31)) ^^^ (-1 : Int32))) fun x14 =>
    vl (l3 + (1 : Int32)) fun x15 =>
    f_X0_takeLeast_L4 n l0 l1 x14 x15 h13)
set_option maxHeartbeats 4000000 in
set_option maxRecDepth 100000 in
theorem t_X0_takeLeast_L4 {X : Cx} {d : Nat} {h0 h' : Hp} {v : Unit} (hD : 3 ≤ d) : ∀ (n : Nat) (l0 : Nat) (l1 : Int32) (l2 : Int32) (l3 : Int32) (h : Hp), f_X0_takeLeast_L4 n l0 l1 l2 l3 h = some (v, h') → EV X mX0_takeLeast d h0 (none) h' 4 [some (.ref l0), some (.int l1), some (.int l2), some (.int l3), none] [] h := by
  intro n
  induction n with
  | zero => intro l0 l1 l2 l3 h H; simp [f_X0_takeLeast_L4] at H
  | succ n ih =>
    intro l0 l1 l2 l3 h H
    rw [f_X0_takeLeast_L4] at H
    refine ev_iload_n dX0_takeLeast_4 rfl rfl ?_
    refine ev_aload_n dX0_takeLeast_5 rfl rfl rfl ?_
    replace H := gd_some H
    obtain ⟨g1, H⟩ := H
    replace H := vl_some H
    obtain ⟨x2, ex2, H⟩ := H
    refine ev_getIx dX0_takeLeast_6 fgX0_36 rfl (okOb.p g1) ex2 ?_
    refine ev_icmp_ge (tgt := 47) dX0_takeLeast_9 (by decide) (fun c3 => ?_) (fun c3 => ?_)
    · rw [if_pos c3] at H
      exact ev_vretx dX0_takeLeast_47 rfl H
    · rw [if_neg c3] at H
      refine ev_aload_n dX0_takeLeast_12 rfl rfl rfl ?_
      refine ev_iload_n dX0_takeLeast_13 rfl rfl ?_
      replace H := bnd_some H
      obtain ⟨v4, h5, eh5, H⟩ := H
      have ph5 := (t_X0_leastHead (X := X) (d := 2) (by omega) eh5)
      refine ev_callV (as := [.int l2]) dX0_takeLeast_14 ph5 ok_X0_leastHead (by omega) rfl k3_209 k3_211 ks_13 (ci := 0) (by decide) rfl rfl (okOb.p g1) rfl (Nat.le_of_ble_eq_true rfl) ?_
      refine ev_istore (loc2 := [some (.ref l0), some (.int l1), some (.int l2), some (.int l3), some (.int v4)]) dX0_takeLeast_17 (by decide) rfl ?_
      refine ev_aload_n dX0_takeLeast_19 rfl rfl rfl ?_
      replace H := vl_some H
      obtain ⟨r6, er6, H⟩ := H
      refine ev_getRx dX0_takeLeast_20 fgX0_27 rfl (okO_ext ph5.1 (okOb.p g1)) er6 ?_
      refine ev_iload_n dX0_takeLeast_23 rfl rfl ?_
      refine ev_aload_n dX0_takeLeast_24 rfl rfl rfl ?_
      replace H := vl_some H
      obtain ⟨r7, er7, H⟩ := H
      refine ev_getRx dX0_takeLeast_25 fgX0_15 rfl (okO_ext ph5.1 (okOb.p g1)) er7 ?_
      refine ev_iload dX0_takeLeast_28 rfl ?_
      replace H := un_some H
      obtain ⟨b8, eb8, H⟩ := H
      subst eb8
      replace H := gd_some H
      obtain ⟨g9, H⟩ := H
      replace H := vl_some H
      obtain ⟨x10, ex10, H⟩ := H
      refine ev_ialdx dX0_takeLeast_30 (okAb.p g9) ex10 ?_
      replace H := un_some H
      obtain ⟨b11, eb11, H⟩ := H
      subst eb11
      replace H := gd_some H
      obtain ⟨g12, H⟩ := H
      replace H := vl_some H
      obtain ⟨h13, eh13, H⟩ := H
      refine ev_iast dX0_takeLeast_31 (okAb.p g12) eh13 ?_
      refine ev_iload_n dX0_takeLeast_32 rfl rfl ?_
      refine ev_iconst (v := (1 : Int32)) dX0_takeLeast_33 (by decide) ?_
      refine ev_iload dX0_takeLeast_34 rfl ?_
      refine ev_ishl dX0_takeLeast_36 ?_
      refine ev_iconst (v := (-1 : Int32)) dX0_takeLeast_37 (by decide) ?_
      refine ev_ixor dX0_takeLeast_38 ?_
      refine ev_iand dX0_takeLeast_39 ?_
      replace H := vl_some H
      obtain ⟨x14, ex14, H⟩ := H
      refine ev_istore_nx (loc2 := [some (.ref l0), some (.int l1), some (.int x14), some (.int l3), some (.int v4)]) dX0_takeLeast_40 rfl (by decide) ex14 rfl ?_
      replace H := vl_some H
      obtain ⟨x15, ex15, H⟩ := H
      refine ev_iincx (loc2 := [some (.ref l0), some (.int l1), some (.int x14), some (.int x15), some (.int v4)]) dX0_takeLeast_41 rfl (by decide) ex15 (by decide) rfl ?_
      refine ev_goto (tgt := 4) dX0_takeLeast_44 (by decide) ?_
      refine ev_drop (loc2 := [some (.ref l0), some (.int l1), some (.int x14), some (.int x15), none]) [true, true, true, true, false] rfl ?_
      exact ih l0 l1 x14 x15 h13 H
def f_X0_takeLeast (h : Hp) (a0 : Nat) (a1 : Int32) : Option (Unit × Hp) :=
f_X0_takeLeast_L4 6000 a0 a1 a1 (0 : Int32) h
set_option maxHeartbeats 4000000 in
set_option maxRecDepth 100000 in
theorem t_X0_takeLeast {X : Cx} {d : Nat} {h : Hp} {a0 : Nat} {a1 : Int32} {v : Unit} {h' : Hp} (hD : 3 ≤ d) (H : f_X0_takeLeast h a0 a1 = some (v, h')) : PM X mX0_takeLeast d [.ref a0, .int a1] h (none) h' := by
  unfold f_X0_takeLeast at H
  refine PM.of (loc := [some (.ref a0), some (.int a1), none, none, none]) (by decide) rfl (Nat.le_of_ble_eq_true rfl) ?_
  refine ev_iload_n dX0_takeLeast_0 rfl rfl ?_
  refine ev_istore_n (loc2 := [some (.ref a0), some (.int a1), some (.int a1), none, none]) dX0_takeLeast_1 rfl (by decide) rfl ?_
  refine ev_iconst (v := (0 : Int32)) dX0_takeLeast_2 (by decide) ?_
  refine ev_istore_n (loc2 := [some (.ref a0), some (.int a1), some (.int a1), some (.int (0 : Int32)), none]) dX0_takeLeast_3 rfl (by decide) rfl ?_
  refine t_X0_takeLeast_L4 hD  6000 a0 a1 a1 (0 : Int32) h H

theorem dX0_findOrder_0 : decode cX0_findOrder 0 = .ok (.aload_n 0, 1) := by decide +kernel
theorem dX0_findOrder_1 : decode cX0_findOrder 1 = .ok (.iconst 0, 1) := by decide +kernel
theorem dX0_findOrder_2 : decode cX0_findOrder 2 = .ok (.putfield 36, 3) := by decide +kernel
theorem dX0_findOrder_5 : decode cX0_findOrder 5 = .ok (.iconst 0, 1) := by decide +kernel
theorem dX0_findOrder_6 : decode cX0_findOrder 6 = .ok (.istore_n 2, 1) := by decide +kernel
theorem dX0_findOrder_7 : decode cX0_findOrder 7 = .ok (.iload_n 2, 1) := by decide +kernel
theorem dX0_findOrder_8 : decode cX0_findOrder 8 = .ok (.bipush 12, 2) := by decide +kernel
theorem dX0_findOrder_10 : decode cX0_findOrder 10 = .ok (.if_icmp .ge 46, 3) := by decide +kernel
theorem dX0_findOrder_13 : decode cX0_findOrder 13 = .ok (.aload_n 0, 1) := by decide +kernel
theorem dX0_findOrder_14 : decode cX0_findOrder 14 = .ok (.getfield 36, 3) := by decide +kernel
theorem dX0_findOrder_17 : decode cX0_findOrder 17 = .ok (.bipush 7, 2) := by decide +kernel
theorem dX0_findOrder_19 : decode cX0_findOrder 19 = .ok (.if_icmp .ge 37, 3) := by decide +kernel
theorem dX0_findOrder_22 : decode cX0_findOrder 22 = .ok (.iload_n 1, 1) := by decide +kernel
theorem dX0_findOrder_23 : decode cX0_findOrder 23 = .ok (.iload_n 2, 1) := by decide +kernel
theorem dX0_findOrder_24 : decode cX0_findOrder 24 = .ok (.ishr, 1) := by decide +kernel
theorem dX0_findOrder_25 : decode cX0_findOrder 25 = .ok (.iconst 1, 1) := by decide +kernel
theorem dX0_findOrder_26 : decode cX0_findOrder 26 = .ok (.iand, 1) := by decide +kernel
theorem dX0_findOrder_27 : decode cX0_findOrder 27 = .ok (.ifCond .eq 23, 3) := by decide +kernel
theorem dX0_findOrder_30 : decode cX0_findOrder 30 = .ok (.aload_n 0, 1) := by decide +kernel
theorem dX0_findOrder_31 : decode cX0_findOrder 31 = .ok (.getfield 15, 3) := by decide +kernel
theorem dX0_findOrder_34 : decode cX0_findOrder 34 = .ok (.aload_n 0, 1) := by decide +kernel
theorem dX0_findOrder_35 : decode cX0_findOrder 35 = .ok (.getfield 36, 3) := by decide +kernel
theorem dX0_findOrder_38 : decode cX0_findOrder 38 = .ok (.iload_n 2, 1) := by decide +kernel
theorem dX0_findOrder_39 : decode cX0_findOrder 39 = .ok (.iastore, 1) := by decide +kernel
theorem dX0_findOrder_40 : decode cX0_findOrder 40 = .ok (.aload_n 0, 1) := by decide +kernel
theorem dX0_findOrder_41 : decode cX0_findOrder 41 = .ok (.dup, 1) := by decide +kernel
theorem dX0_findOrder_42 : decode cX0_findOrder 42 = .ok (.getfield 36, 3) := by decide +kernel
theorem dX0_findOrder_45 : decode cX0_findOrder 45 = .ok (.iconst 1, 1) := by decide +kernel
theorem dX0_findOrder_46 : decode cX0_findOrder 46 = .ok (.iadd, 1) := by decide +kernel
theorem dX0_findOrder_47 : decode cX0_findOrder 47 = .ok (.putfield 36, 3) := by decide +kernel
theorem dX0_findOrder_50 : decode cX0_findOrder 50 = .ok (.iinc 2 1, 3) := by decide +kernel
theorem dX0_findOrder_53 : decode cX0_findOrder 53 = .ok (.goto (-46), 3) := by decide +kernel
theorem dX0_findOrder_56 : decode cX0_findOrder 56 = .ok (.aload_n 0, 1) := by decide +kernel
theorem dX0_findOrder_57 : decode cX0_findOrder 57 = .ok (.invokevirtual 40, 3) := by decide +kernel
theorem dX0_findOrder_60 : decode cX0_findOrder 60 = .ok (.iconst 1, 1) := by decide +kernel
theorem dX0_findOrder_61 : decode cX0_findOrder 61 = .ok (.aload_n 0, 1) := by decide +kernel
theorem dX0_findOrder_62 : decode cX0_findOrder 62 = .ok (.getfield 36, 3) := by decide +kernel
theorem dX0_findOrder_65 : decode cX0_findOrder 65 = .ok (.ishl, 1) := by decide +kernel
theorem dX0_findOrder_66 : decode cX0_findOrder 66 = .ok (.iconst 1, 1) := by decide +kernel
theorem dX0_findOrder_67 : decode cX0_findOrder 67 = .ok (.isub, 1) := by decide +kernel
theorem dX0_findOrder_68 : decode cX0_findOrder 68 = .ok (.istore_n 2, 1) := by decide +kernel
theorem dX0_findOrder_69 : decode cX0_findOrder 69 = .ok (.aload_n 0, 1) := by decide +kernel
theorem dX0_findOrder_70 : decode cX0_findOrder 70 = .ok (.getfield 21, 3) := by decide +kernel
theorem dX0_findOrder_73 : decode cX0_findOrder 73 = .ok (.iconst 0, 1) := by decide +kernel
theorem dX0_findOrder_74 : decode cX0_findOrder 74 = .ok (.iconst 0, 1) := by decide +kernel
theorem dX0_findOrder_75 : decode cX0_findOrder 75 = .ok (.iastore, 1) := by decide +kernel
theorem dX0_findOrder_76 : decode cX0_findOrder 76 = .ok (.aload_n 0, 1) := by decide +kernel
theorem dX0_findOrder_77 : decode cX0_findOrder 77 = .ok (.getfield 24, 3) := by decide +kernel
theorem dX0_findOrder_80 : decode cX0_findOrder 80 = .ok (.iconst 0, 1) := by decide +kernel
theorem dX0_findOrder_81 : decode cX0_findOrder 81 = .ok (.iconst 1, 1) := by decide +kernel
theorem dX0_findOrder_82 : decode cX0_findOrder 82 = .ok (.iastore, 1) := by decide +kernel
theorem dX0_findOrder_83 : decode cX0_findOrder 83 = .ok (.iconst 1, 1) := by decide +kernel
theorem dX0_findOrder_84 : decode cX0_findOrder 84 = .ok (.istore_n 3, 1) := by decide +kernel
theorem dX0_findOrder_85 : decode cX0_findOrder 85 = .ok (.iload_n 3, 1) := by decide +kernel
theorem dX0_findOrder_86 : decode cX0_findOrder 86 = .ok (.iload_n 2, 1) := by decide +kernel
theorem dX0_findOrder_87 : decode cX0_findOrder 87 = .ok (.if_icmp .gt 14, 3) := by decide +kernel
theorem dX0_findOrder_90 : decode cX0_findOrder 90 = .ok (.aload_n 0, 1) := by decide +kernel
theorem dX0_findOrder_91 : decode cX0_findOrder 91 = .ok (.iload_n 3, 1) := by decide +kernel
theorem dX0_findOrder_92 : decode cX0_findOrder 92 = .ok (.invokevirtual 43, 3) := by decide +kernel
theorem dX0_findOrder_95 : decode cX0_findOrder 95 = .ok (.iinc 3 1, 3) := by decide +kernel
theorem dX0_findOrder_98 : decode cX0_findOrder 98 = .ok (.goto (-13), 3) := by decide +kernel
theorem dX0_findOrder_101 : decode cX0_findOrder 101 = .ok (.aload_n 0, 1) := by decide +kernel
theorem dX0_findOrder_102 : decode cX0_findOrder 102 = .ok (.iload_n 2, 1) := by decide +kernel
theorem dX0_findOrder_103 : decode cX0_findOrder 103 = .ok (.invokevirtual 47, 3) := by decide +kernel
theorem dX0_findOrder_106 : decode cX0_findOrder 106 = .ok (.aload_n 0, 1) := by decide +kernel
theorem dX0_findOrder_107 : decode cX0_findOrder 107 = .ok (.aload_n 0, 1) := by decide +kernel
theorem dX0_findOrder_108 : decode cX0_findOrder 108 = .ok (.getfield 24, 3) := by decide +kernel
theorem dX0_findOrder_111 : decode cX0_findOrder 111 = .ok (.iload_n 2, 1) := by decide +kernel
theorem dX0_findOrder_112 : decode cX0_findOrder 112 = .ok (.iaload, 1) := by decide +kernel
theorem dX0_findOrder_113 : decode cX0_findOrder 113 = .ok (.putfield 50, 3) := by decide +kernel
theorem dX0_findOrder_116 : decode cX0_findOrder 116 = .ok (.aload_n 0, 1) := by decide +kernel
theorem dX0_findOrder_117 : decode cX0_findOrder 117 = .ok (.getfield 21, 3) := by decide +kernel
theorem dX0_findOrder_120 : decode cX0_findOrder 120 = .ok (.iload_n 2, 1) := by decide +kernel
theorem dX0_findOrder_121 : decode cX0_findOrder 121 = .ok (.iaload, 1) := by decide +kernel
theorem dX0_findOrder_122 : decode cX0_findOrder 122 = .ok (.ireturn, 1) := by decide +kernel
def f_X0_findOrder_L7 (k56 : Nat → Int32 → Int32 → Hp → Option (Int32 × Hp)) : Nat → Nat → Int32 → Int32 → Hp → Option (Int32 × Hp)
  | 0, _, _, _, _ => none
  | n + 1, l0, l1, l2, h =>
    if (12 : Int32) ≤ l2 then (
    k56 l0 l1 l2 h) else (
    gd (okOb h l0 0) <|
    vl (gI h l0 6) fun x5 =>
    if (7 : Int32) ≤ x5 then (
    k56 l0 l1 l2 h) else (
    if ((l1 >>> (l2 &&& 31)) &&& (1 : Int32)) = 0 then (
    vl (l2 + (1 : Int32)) fun x8 =>
    f_X0_findOrder_L7 k56 n l0 l1 x8 h) else (
    vl (gR h l0 1) fun r9 =>
    vl (gI h l0 6) fun x10 =>
    un r9 fun b11 =>
    gd (okAb h b11 11 x10) <|
    vl (sI h b11 x10.toNatClampNeg l2) fun h13 =>
    vl (gI h13 l0 6) fun x14 =>
    vl (sI h13 l0 6 (x14 + (1 : Int32))) fun h15 =>
    vl (l2 + (1 : Int32)) fun x16 =>
    f_X0_findOrder_L7 k56 n l0 l1 x16 h15)))
set_option maxHeartbeats 4000000 in
set_option maxRecDepth 100000 in
theorem t_X0_findOrder_L7 {X : Cx} {d : Nat} {h0 h' : Hp} {v : Int32} {k56 : Nat → Int32 → Int32 → Hp → Option (Int32 × Hp)} (hD : 4 ≤ d) (hk56 : ∀ (z0 : Nat) (z1 : Int32) (z2 : Int32) (h : Hp), k56 z0 z1 z2 h = some (v, h') → EV X mX0_findOrder d h0 (some (.int v)) h' 56 [some (.ref z0), some (.int z1), some (.int z2), none] [] h) : ∀ (n : Nat) (l0 : Nat) (l1 : Int32) (l2 : Int32) (h : Hp), f_X0_findOrder_L7 k56 n l0 l1 l2 h = some (v, h') → EV X mX0_findOrder d h0 (some (.int v)) h' 7 [some (.ref l0), some (.int l1), some (.int l2), none] [] h := by
  intro n
  induction n with
  | zero => intro l0 l1 l2 h H; simp [f_X0_findOrder_L7] at H
  | succ n ih =>
    intro l0 l1 l2 h H
    rw [f_X0_findOrder_L7] at H
    refine ev_iload_n dX0_findOrder_7 rfl rfl ?_
    refine ev_bipush (v := (12 : Int32)) dX0_findOrder_8 (by decide) ?_
    refine ev_icmp_ge (tgt := 56) dX0_findOrder_10 (by decide) (fun c3 => ?_) (fun c3 => ?_)
    · rw [if_pos c3] at H
      exact hk56 l0 l1 l2 h H
    · rw [if_neg c3] at H
      refine ev_aload_n dX0_findOrder_13 rfl rfl rfl ?_
      replace H := gd_some H
      obtain ⟨g4, H⟩ := H
      replace H := vl_some H
      obtain ⟨x5, ex5, H⟩ := H
      refine ev_getIx dX0_findOrder_14 fgX0_36 rfl (okOb.p g4) ex5 ?_
      refine ev_bipush (v := (7 : Int32)) dX0_findOrder_17 (by decide) ?_
      refine ev_icmp_ge (tgt := 56) dX0_findOrder_19 (by decide) (fun c6 => ?_) (fun c6 => ?_)
      · rw [if_pos c6] at H
        exact hk56 l0 l1 l2 h H
      · rw [if_neg c6] at H
        refine ev_iload_n dX0_findOrder_22 rfl rfl ?_
        refine ev_iload_n dX0_findOrder_23 rfl rfl ?_
        refine ev_ishr dX0_findOrder_24 ?_
        refine ev_iconst (v := (1 : Int32)) dX0_findOrder_25 (by decide) ?_
        refine ev_iand dX0_findOrder_26 ?_
        refine ev_if_eq (tgt := 50) dX0_findOrder_27 (by decide) (fun c7 => ?_) (fun c7 => ?_)
        · rw [if_pos c7] at H
          replace H := vl_some H
          obtain ⟨x8, ex8, H⟩ := H
          refine ev_iincx (loc2 := [some (.ref l0), some (.int l1), some (.int x8), none]) dX0_findOrder_50 rfl (by decide) ex8 (by decide) rfl ?_
          refine ev_goto (tgt := 7) dX0_findOrder_53 (by decide) ?_
          exact ih l0 l1 x8 h H
        · rw [if_neg c7] at H
          refine ev_aload_n dX0_findOrder_30 rfl rfl rfl ?_
          replace H := vl_some H
          obtain ⟨r9, er9, H⟩ := H
          refine ev_getRx dX0_findOrder_31 fgX0_15 rfl (okOb.p g4) er9 ?_
          refine ev_aload_n dX0_findOrder_34 rfl rfl rfl ?_
          replace H := vl_some H
          obtain ⟨x10, ex10, H⟩ := H
          refine ev_getIx dX0_findOrder_35 fgX0_36 rfl (okOb.p g4) ex10 ?_
          refine ev_iload_n dX0_findOrder_38 rfl rfl ?_
          replace H := un_some H
          obtain ⟨b11, eb11, H⟩ := H
          subst eb11
          replace H := gd_some H
          obtain ⟨g12, H⟩ := H
          replace H := vl_some H
          obtain ⟨h13, eh13, H⟩ := H
          refine ev_iast dX0_findOrder_39 (okAb.p g12) eh13 ?_
          refine ev_aload_n dX0_findOrder_40 rfl rfl rfl ?_
          refine ev_dup dX0_findOrder_41 rfl ?_
          replace H := vl_some H
          obtain ⟨x14, ex14, H⟩ := H
          refine ev_getIx dX0_findOrder_42 fgX0_36 rfl (okO_sI eh13 (okOb.p g4)) ex14 ?_
          refine ev_iconst (v := (1 : Int32)) dX0_findOrder_45 (by decide) ?_
          refine ev_iadd dX0_findOrder_46 ?_
          replace H := vl_some H
          obtain ⟨h15, eh15, H⟩ := H
          refine ev_putI dX0_findOrder_47 fdX0_36 rfl rfl rfl (okO_sI eh13 (okOb.p g4)) eh15 ?_
          replace H := vl_some H
          obtain ⟨x16, ex16, H⟩ := H
          refine ev_iincx (loc2 := [some (.ref l0), some (.int l1), some (.int x16), none]) dX0_findOrder_50 rfl (by decide) ex16 (by decide) rfl ?_
          refine ev_goto (tgt := 7) dX0_findOrder_53 (by decide) ?_
          exact ih l0 l1 x16 h15 H
def f_X0_findOrder_L85 : Nat → Nat → Int32 → Int32 → Int32 → Hp → Option (Int32 × Hp)
  | 0, _, _, _, _, _ => none
  | n + 1, l0, l1, l2, l3, h =>
    if l2 < l3 then (
    gd (okOb h l0 0) <|
    bnd (f_X0_takeLeast h l0 l2) fun u36 h37 =>
    vl (gR h37 l0 4) fun r38 =>
    un r38 fun b39 =>
    gd (okAb h37 b39 11 l2) <|
    vl (gI h37 b39 l2.toNatClampNeg) fun x41 =>
    vl (sI h37 l0 7 x41) fun h42 =>
    vl (gR h42 l0 3) fun r43 =>
    un r43 fun b44 =>
    gd (okAb h42 b44 11 l2) <|
    vl (gI h42 b44 l2.toNatClampNeg) fun x46 =>
    some (x46, h42)) else (
    gd (okOb h l0 0) <|
    bnd (f_X0_solve h l0 l3) fun u48 h49 =>
    vl (l3 + (1 : Int32)) fun x50 =>
    f_X0_findOrder_L85 n l0 l1 l2 x50 h49)
set_option maxHeartbeats 4000000 in
set_option maxRecDepth 100000 in
theorem t_X0_findOrder_L85 {X : Cx} {d : Nat} {h0 h' : Hp} {v : Int32} (hD : 4 ≤ d) : ∀ (n : Nat) (l0 : Nat) (l1 : Int32) (l2 : Int32) (l3 : Int32) (h : Hp), f_X0_findOrder_L85 n l0 l1 l2 l3 h = some (v, h') → EV X mX0_findOrder d h0 (some (.int v)) h' 85 [some (.ref l0), some (.int l1), some (.int l2), some (.int l3)] [] h := by
  intro n
  induction n with
  | zero => intro l0 l1 l2 l3 h H; simp [f_X0_findOrder_L85] at H
  | succ n ih =>
    intro l0 l1 l2 l3 h H
    rw [f_X0_findOrder_L85] at H
    refine ev_iload_n dX0_findOrder_85 rfl rfl ?_
    refine ev_iload_n dX0_findOrder_86 rfl rfl ?_
    refine ev_icmp_gt (tgt := 101) dX0_findOrder_87 (by decide) (fun c34 => ?_) (fun c34 => ?_)
    · rw [if_pos c34] at H
      refine ev_aload_n dX0_findOrder_101 rfl rfl rfl ?_
      refine ev_iload_n dX0_findOrder_102 rfl rfl ?_
      replace H := gd_some H
      obtain ⟨g35, H⟩ := H
      replace H := bnd_some H
      obtain ⟨u36, h37, eh37, H⟩ := H
      have ph37 := (t_X0_takeLeast (X := X) (d := 3) (by omega) eh37)
      refine ev_callV (as := [.int l2]) dX0_findOrder_103 ph37 ok_X0_takeLeast (by omega) rfl k3_205 k3_207 ks_12 (ci := 0) (by decide) rfl rfl (okOb.p g35) rfl (Nat.le_of_ble_eq_true rfl) ?_
      refine ev_aload_n dX0_findOrder_106 rfl rfl rfl ?_
      refine ev_aload_n dX0_findOrder_107 rfl rfl rfl ?_
      replace H := vl_some H
      obtain ⟨r38, er38, H⟩ := H
      refine ev_getRx dX0_findOrder_108 fgX0_24 rfl (okO_ext ph37.1 (okOb.p g35)) er38 ?_
      refine ev_iload_n dX0_findOrder_111 rfl rfl ?_
      replace H := un_some H
      obtain ⟨b39, eb39, H⟩ := H
      subst eb39
      replace H := gd_some H
      obtain ⟨g40, H⟩ := H
      replace H := vl_some H
      obtain ⟨x41, ex41, H⟩ := H
      refine ev_ialdx dX0_findOrder_112 (okAb.p g40) ex41 ?_
      replace H := vl_some H
      obtain ⟨h42, eh42, H⟩ := H
      refine ev_putI dX0_findOrder_113 fdX0_50 rfl rfl rfl (okO_ext ph37.1 (okOb.p g35)) eh42 ?_
      refine ev_aload_n dX0_findOrder_116 rfl rfl rfl ?_
      replace H := vl_some H
      obtain ⟨r43, er43, H⟩ := H
      refine ev_getRx dX0_findOrder_117 fgX0_21 rfl (okO_sI eh42 (okO_ext ph37.1 (okOb.p g35))) er43 ?_
      refine ev_iload_n dX0_findOrder_120 rfl rfl ?_
      replace H := un_some H
      obtain ⟨b44, eb44, H⟩ := H
      subst eb44
      replace H := gd_some H
      obtain ⟨g45, H⟩ := H
      replace H := vl_some H
      obtain ⟨x46, ex46, H⟩ := H
      refine ev_ialdx dX0_findOrder_121 (okAb.p g45) ex46 ?_
      exact ev_iretx dX0_findOrder_122 rfl rfl H
    · rw [if_neg c34] at H
      refine ev_aload_n dX0_findOrder_90 rfl rfl rfl ?_
      refine ev_iload_n dX0_findOrder_91 rfl rfl ?_
      replace H := gd_some H
      obtain ⟨g47, H⟩ := H
      replace H := bnd_some H
      obtain ⟨u48, h49, eh49, H⟩ := H
      have ph49 := (t_X0_solve (X := X) (d := 2) (by omega) eh49)
      refine ev_callV (as := [.int l3]) dX0_findOrder_92 ph49 ok_X0_solve (by omega) rfl k3_196 k3_198 ks_10 (ci := 0) (by decide) rfl rfl (okOb.p g47) rfl (Nat.le_of_ble_eq_true rfl) ?_
      replace H := vl_some H
      obtain ⟨x50, ex50, H⟩ := H
      refine ev_iincx (loc2 := [some (.ref l0), some (.int l1), some (.int l2), some (.int x50)]) dX0_findOrder_95 rfl (by decide) ex50 (by decide) rfl ?_
      refine ev_goto (tgt := 85) dX0_findOrder_98 (by decide) ?_
      exact ih l0 l1 l2 x50 h49 H
def f_X0_findOrder_J56 (l0 : Nat) (l1 : Int32) (l2 : Int32) (h : Hp) : Option (Int32 × Hp) :=
gd (okOb h l0 0) <|
bnd (f_X0_countPairs h l0) fun u22 h23 =>
vl (gI h23 l0 6) fun x24 =>
vl (((1 : Int32) <<< (x24 &&& 31)) - (1 : Int32)) fun x25 =>
vl (gR h23 l0 3) fun r26 =>
un r26 fun b27 =>
gd (okAb h23 b27 11 (0 : Int32)) <|
vl (sI h23 b27 (0 : Int32).toNatClampNeg (0 : Int32)) fun h29 =>
vl (gR h29 l0 4) fun r30 =>
un r30 fun b31 =>
gd (okAb h29 b31 11 (0 : Int32)) <|
vl (sI h29 b31 (0 : Int32).toNatClampNeg (1 : Int32)) fun h33 =>
f_X0_findOrder_L85 6000 l0 l1 x25 (1 : Int32) h33
set_option maxHeartbeats 4000000 in
set_option maxRecDepth 100000 in
theorem t_X0_findOrder_J56 {X : Cx} {d : Nat} {h0 h' : Hp} {v : Int32} (hD : 4 ≤ d) : ∀ (l0 : Nat) (l1 : Int32) (l2 : Int32) (h : Hp), f_X0_findOrder_J56 l0 l1 l2 h = some (v, h') → EV X mX0_findOrder d h0 (some (.int v)) h' 56 [some (.ref l0), some (.int l1), some (.int l2), none] [] h := by
  intro l0 l1 l2 h H
  unfold f_X0_findOrder_J56 at H
  refine ev_aload_n dX0_findOrder_56 rfl rfl rfl ?_
  replace H := gd_some H
  obtain ⟨g21, H⟩ := H
  replace H := bnd_some H
  obtain ⟨u22, h23, eh23, H⟩ := H
  have ph23 := (t_X0_countPairs (X := X) (d := 2) (by omega) eh23)
  refine ev_callV (as := []) dX0_findOrder_57 ph23 ok_X0_countPairs (by omega) rfl k3_188 k3_190 ks_8 (ci := 0) (by decide) rfl rfl (okOb.p g21) rfl (Nat.le_of_ble_eq_true rfl) ?_
  refine ev_iconst (v := (1 : Int32)) dX0_findOrder_60 (by decide) ?_
  refine ev_aload_n dX0_findOrder_61 rfl rfl rfl ?_
  replace H := vl_some H
  obtain ⟨x24, ex24, H⟩ := H
  refine ev_getIx dX0_findOrder_62 fgX0_36 rfl (okO_ext ph23.1 (okOb.p g21)) ex24 ?_
  refine ev_ishl dX0_findOrder_65 ?_
  refine ev_iconst (v := (1 : Int32)) dX0_findOrder_66 (by decide) ?_
  refine ev_isub dX0_findOrder_67 ?_
  replace H := vl_some H
  obtain ⟨x25, ex25, H⟩ := H
  refine ev_istore_nx (loc2 := [some (.ref l0), some (.int l1), some (.int x25), none]) dX0_findOrder_68 rfl (by decide) ex25 rfl ?_
  refine ev_aload_n dX0_findOrder_69 rfl rfl rfl ?_
  replace H := vl_some H
  obtain ⟨r26, er26, H⟩ := H
  refine ev_getRx dX0_findOrder_70 fgX0_21 rfl (okO_ext ph23.1 (okOb.p g21)) er26 ?_
  refine ev_iconst (v := (0 : Int32)) dX0_findOrder_73 (by decide) ?_
  refine ev_iconst (v := (0 : Int32)) dX0_findOrder_74 (by decide) ?_
  replace H := un_some H
  obtain ⟨b27, eb27, H⟩ := H
  subst eb27
  replace H := gd_some H
  obtain ⟨g28, H⟩ := H
  replace H := vl_some H
  obtain ⟨h29, eh29, H⟩ := H
  refine ev_iast dX0_findOrder_75 (okAb.p g28) eh29 ?_
  refine ev_aload_n dX0_findOrder_76 rfl rfl rfl ?_
  replace H := vl_some H
  obtain ⟨r30, er30, H⟩ := H
  refine ev_getRx dX0_findOrder_77 fgX0_24 rfl (okO_sI eh29 (okO_ext ph23.1 (okOb.p g21))) er30 ?_
  refine ev_iconst (v := (0 : Int32)) dX0_findOrder_80 (by decide) ?_
  refine ev_iconst (v := (1 : Int32)) dX0_findOrder_81 (by decide) ?_
  replace H := un_some H
  obtain ⟨b31, eb31, H⟩ := H
  subst eb31
  replace H := gd_some H
  obtain ⟨g32, H⟩ := H
  replace H := vl_some H
  obtain ⟨h33, eh33, H⟩ := H
  refine ev_iast dX0_findOrder_82 (okAb.p g32) eh33 ?_
  refine ev_iconst (v := (1 : Int32)) dX0_findOrder_83 (by decide) ?_
  refine ev_istore_n (loc2 := [some (.ref l0), some (.int l1), some (.int x25), some (.int (1 : Int32))]) dX0_findOrder_84 rfl (by decide) rfl ?_
  refine t_X0_findOrder_L85 hD  6000 l0 l1 x25 (1 : Int32) h33 H
def f_X0_findOrder (h : Hp) (a0 : Nat) (a1 : Int32) : Option (Int32 × Hp) :=
gd (okOb h a0 0) <|
vl (sI h a0 6 (0 : Int32)) fun h2 =>
f_X0_findOrder_L7 (fun y17 y18 y19 h20 =>
f_X0_findOrder_J56 y17 y18 y19 h20) 6000 a0 a1 (0 : Int32) h2
set_option maxHeartbeats 4000000 in
set_option maxRecDepth 100000 in
theorem t_X0_findOrder {X : Cx} {d : Nat} {h : Hp} {a0 : Nat} {a1 : Int32} {v : Int32} {h' : Hp} (hD : 4 ≤ d) (H : f_X0_findOrder h a0 a1 = some (v, h')) : PM X mX0_findOrder d [.ref a0, .int a1] h (some (.int v)) h' := by
  unfold f_X0_findOrder at H
  refine PM.of (loc := [some (.ref a0), some (.int a1), none, none]) (by decide) rfl (Nat.le_of_ble_eq_true rfl) ?_
  refine ev_aload_n dX0_findOrder_0 rfl rfl rfl ?_
  refine ev_iconst (v := (0 : Int32)) dX0_findOrder_1 (by decide) ?_
  replace H := gd_some H
  obtain ⟨g1, H⟩ := H
  replace H := vl_some H
  obtain ⟨h2, eh2, H⟩ := H
  refine ev_putI dX0_findOrder_2 fdX0_36 rfl rfl rfl (okOb.p g1) eh2 ?_
  refine ev_iconst (v := (0 : Int32)) dX0_findOrder_5 (by decide) ?_
  refine ev_istore_n (loc2 := [some (.ref a0), some (.int a1), some (.int (0 : Int32)), none]) dX0_findOrder_6 rfl (by decide) rfl ?_
  refine t_X0_findOrder_L7 hD ?_ 6000 a0 a1 (0 : Int32) h2 H
  · intro y17 y18 y19 h20 H
    exact t_X0_findOrder_J56 hD y17 y18 y19 h20 H
