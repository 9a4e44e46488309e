theorem dX4_init_0 : decode cX4_init 0 = .ok (.aload_n 0, 1) := by decide +kernel
theorem dX4_init_1 : decode cX4_init 1 = .ok (.invokespecial 3, 3) := by decide +kernel
theorem dX4_init_4 : decode cX4_init 4 = .ok (.aload_n 0, 1) := by decide +kernel
theorem dX4_init_5 : decode cX4_init 5 = .ok (.bipush 7, 2) := by decide +kernel
theorem dX4_init_7 : decode cX4_init 7 = .ok (.newarray .int, 2) := by decide +kernel
theorem dX4_init_9 : decode cX4_init 9 = .ok (.putfield 9, 3) := by decide +kernel
theorem dX4_init_12 : decode cX4_init 12 = .ok (.aload_n 0, 1) := by decide +kernel
theorem dX4_init_13 : decode cX4_init 13 = .ok (.bipush 7, 2) := by decide +kernel
theorem dX4_init_15 : decode cX4_init 15 = .ok (.newarray .int, 2) := by decide +kernel
theorem dX4_init_17 : decode cX4_init 17 = .ok (.putfield 15, 3) := by decide +kernel
theorem dX4_init_20 : decode cX4_init 20 = .ok (.aload_n 0, 1) := by decide +kernel
theorem dX4_init_21 : decode cX4_init 21 = .ok (.bipush 7, 2) := by decide +kernel
theorem dX4_init_23 : decode cX4_init 23 = .ok (.newarray .int, 2) := by decide +kernel
theorem dX4_init_25 : decode cX4_init 25 = .ok (.putfield 18, 3) := by decide +kernel
theorem dX4_init_28 : decode cX4_init 28 = .ok (.aload_n 0, 1) := by decide +kernel
theorem dX4_init_29 : decode cX4_init 29 = .ok (.bipush 7, 2) := by decide +kernel
theorem dX4_init_31 : decode cX4_init 31 = .ok (.newarray .int, 2) := by decide +kernel
theorem dX4_init_33 : decode cX4_init 33 = .ok (.putfield 21, 3) := by decide +kernel
theorem dX4_init_36 : decode cX4_init 36 = .ok (.aload_n 0, 1) := by decide +kernel
theorem dX4_init_37 : decode cX4_init 37 = .ok (.bipush 7, 2) := by decide +kernel
theorem dX4_init_39 : decode cX4_init 39 = .ok (.newarray .int, 2) := by decide +kernel
theorem dX4_init_41 : decode cX4_init 41 = .ok (.putfield 24, 3) := by decide +kernel
theorem dX4_init_44 : decode cX4_init 44 = .ok (.aload_n 0, 1) := by decide +kernel
theorem dX4_init_45 : decode cX4_init 45 = .ok (.bipush 7, 2) := by decide +kernel
theorem dX4_init_47 : decode cX4_init 47 = .ok (.newarray .int, 2) := by decide +kernel
theorem dX4_init_49 : decode cX4_init 49 = .ok (.putfield 27, 3) := by decide +kernel
theorem dX4_init_52 : decode cX4_init 52 = .ok (.aload_n 0, 1) := by decide +kernel
theorem dX4_init_53 : decode cX4_init 53 = .ok (.bipush 7, 2) := by decide +kernel
theorem dX4_init_55 : decode cX4_init 55 = .ok (.newarray .int, 2) := by decide +kernel
theorem dX4_init_57 : decode cX4_init 57 = .ok (.putfield 30, 3) := by decide +kernel
theorem dX4_init_60 : decode cX4_init 60 = .ok (.return_, 1) := by decide +kernel
def f_X4_init (h : Hp) (a0 : Nat) : Option (Unit × Hp) :=
vl (gN h) fun b1 =>
vl (nw h 11 (7 : Int32).toNatClampNeg (7 : Int32).toNatClampNeg) fun h2 =>
gd (okOb h2 a0 4) <|
vl (sR h2 a0 0 (some b1)) fun h4 =>
vl (gN h4) fun b5 =>
vl (nw h4 11 (7 : Int32).toNatClampNeg (7 : Int32).toNatClampNeg) fun h6 =>
vl (sR h6 a0 1 (some b5)) fun h7 =>
vl (gN h7) fun b8 =>
vl (nw h7 11 (7 : Int32).toNatClampNeg (7 : Int32).toNatClampNeg) fun h9 =>
vl (sR h9 a0 2 (some b8)) fun h10 =>
vl (gN h10) fun b11 =>
vl (nw h10 11 (7 : Int32).toNatClampNeg (7 : Int32).toNatClampNeg) fun h12 =>
vl (sR h12 a0 4 (some b11)) fun h13 =>
vl (gN h13) fun b14 =>
vl (nw h13 11 (7 : Int32).toNatClampNeg (7 : Int32).toNatClampNeg) fun h15 =>
vl (sR h15 a0 5 (some b14)) fun h16 =>
vl (gN h16) fun b17 =>
vl (nw h16 11 (7 : Int32).toNatClampNeg (7 : Int32).toNatClampNeg) fun h18 =>
vl (sR h18 a0 6 (some b17)) fun h19 =>
vl (gN h19) fun b20 =>
vl (nw h19 11 (7 : Int32).toNatClampNeg (7 : Int32).toNatClampNeg) fun h21 =>
vl (sR h21 a0 7 (some b20)) fun h22 =>
some ((), h22)
set_option maxHeartbeats 4000000 in
set_option maxRecDepth 100000 in
theorem t_X4_init {X : Cx} {d : Nat} {h : Hp} {a0 : Nat} {v : Unit} {h' : Hp} (hD : 1 ≤ d) (H : f_X4_init h a0 = some (v, h')) : PM X mX4_init d [.ref a0] h (none) h' := by
  unfold f_X4_init at H
  refine PM.of (loc := [some (.ref a0)]) (by decide) rfl (Nat.le_of_ble_eq_true rfl) ?_
  refine ev_aload_n dX4_init_0 rfl rfl rfl ?_
  refine ev_obj dX4_init_1 ⟨_, rfl⟩ k1_136 k1_26 k1_27 (by omega) (Nat.le_of_ble_eq_true rfl) ?_
  refine ev_aload_n dX4_init_4 rfl rfl rfl ?_
  refine ev_bipush (v := (7 : Int32)) dX4_init_5 (by decide) ?_
  replace H := vl_some H
  obtain ⟨b1, eb1, H⟩ := H
  replace H := vl_some H
  obtain ⟨h2, eh2, H⟩ := H
  refine ev_newaIx dX4_init_7 k1_44 (okN.p (by decide)) rfl eb1 eh2 ?_
  replace H := gd_some H
  obtain ⟨g3, H⟩ := H
  replace H := vl_some H
  obtain ⟨h4, eh4, H⟩ := H
  refine ev_putRF (x := (some b1)) dX4_init_9 fdX4_9 rfl (Or.inr ⟨_, rfl⟩) rfl (okOb.p g3) eh4 ?_
  refine ev_aload_n dX4_init_12 rfl rfl rfl ?_
  refine ev_bipush (v := (7 : Int32)) dX4_init_13 (by decide) ?_
  replace H := vl_some H
  obtain ⟨b5, eb5, H⟩ := H
  replace H := vl_some H
  obtain ⟨h6, eh6, H⟩ := H
  refine ev_newaIx dX4_init_15 k1_44 (okN.p (by decide)) rfl eb5 eh6 ?_
  replace H := vl_some H
  obtain ⟨h7, eh7, H⟩ := H
  refine ev_putRF (x := (some b5)) dX4_init_17 fdX4_15 rfl (Or.inr ⟨_, rfl⟩) rfl (okO_nw eh6 (okO_sR eh4 (okOb.p g3))) eh7 ?_
  refine ev_aload_n dX4_init_20 rfl rfl rfl ?_
  refine ev_bipush (v := (7 : Int32)) dX4_init_21 (by decide) ?_
  replace H := vl_some H
  obtain ⟨b8, eb8, H⟩ := H
  replace H := vl_some H
  obtain ⟨h9, eh9, H⟩ := H
  refine ev_newaIx dX4_init_23 k1_44 (okN.p (by decide)) rfl eb8 eh9 ?_
  replace H := vl_some H
  obtain ⟨h10, eh10, H⟩ := H
  refine ev_putRF (x := (some b8)) dX4_init_25 fdX4_18 rfl (Or.inr ⟨_, rfl⟩) rfl (okO_nw eh9 (okO_sR eh7 (okO_nw eh6 (okO_sR eh4 (okOb.p g3))))) eh10 ?_
  refine ev_aload_n dX4_init_28 rfl rfl rfl ?_
  refine ev_bipush (v := (7 : Int32)) dX4_init_29 (by decide) ?_
  replace H := vl_some H
  obtain ⟨b11, eb11, H⟩ := H
  replace H := vl_some H
  obtain ⟨h12, eh12, H⟩ := H
  refine ev_newaIx dX4_init_31 k1_44 (okN.p (by decide)) rfl eb11 eh12 ?_
  replace H := vl_some H
  obtain ⟨h13, eh13, H⟩ := H
  refine ev_putRF (x := (some b11)) dX4_init_33 fdX4_21 rfl (Or.inr ⟨_, rfl⟩) rfl (okO_nw eh12 (okO_sR eh10 (okO_nw eh9 (okO_sR eh7 (okO_nw eh6 (okO_sR eh4 (okOb.p g3))))))) eh13 ?_
  refine ev_aload_n dX4_init_36 rfl rfl rfl ?_
  refine ev_bipush (v := (7 : Int32)) dX4_init_37 (by decide) ?_
  replace H := vl_some H
  obtain ⟨b14, eb14, H⟩ := H
  replace H := vl_some H
  obtain ⟨h15, eh15, H⟩ := H
  refine ev_newaIx dX4_init_39 k1_44 (okN.p (by decide)) rfl eb14 eh15 ?_
  replace H := vl_some H
  obtain ⟨h16, eh16, H⟩ := H
  refine ev_putRF (x := (some b14)) dX4_init_41 fdX4_24 rfl (Or.inr ⟨_, rfl⟩) rfl (okO_nw eh15 (okO_sR eh13 (okO_nw eh12 (okO_sR eh10 (okO_nw eh9 (okO_sR eh7 (okO_nw eh6 (okO_sR eh4 (okOb.p g3))))))))) eh16 ?_
  refine ev_aload_n dX4_init_44 rfl rfl rfl ?_
  refine ev_bipush (v := (7 : Int32)) dX4_init_45 (by decide) ?_
  replace H := vl_some H
  obtain ⟨b17, eb17, H⟩ := H
  replace H := vl_some H
  obtain ⟨h18, eh18, H⟩ := H
  refine ev_newaIx dX4_init_47 k1_44 (okN.p (by decide)) rfl eb17 eh18 ?_
  replace H := vl_some H
  obtain ⟨h19, eh19, H⟩ := H
  refine ev_putRF (x := (some b17)) dX4_init_49 fdX4_27 rfl (Or.inr ⟨_, rfl⟩) rfl (okO_nw eh18 (okO_sR eh16 (okO_nw eh15 (okO_sR eh13 (okO_nw eh12 (okO_sR eh10 (okO_nw eh9 (okO_sR eh7 (okO_nw eh6 (okO_sR eh4 (okOb.p g3))))))))))) eh19 ?_
  refine ev_aload_n dX4_init_52 rfl rfl rfl ?_
  refine ev_bipush (v := (7 : Int32)) dX4_init_53 (by decide) ?_
  replace H := vl_some H
  obtain ⟨b20, eb20, H⟩ := H
  replace H := vl_some H
  obtain ⟨h21, eh21, H⟩ := H
  refine ev_newaIx dX4_init_55 k1_44 (okN.p (by decide)) rfl eb20 eh21 ?_
  replace H := vl_some H
  obtain ⟨h22, eh22, H⟩ := H
  refine ev_putRF (x := (some b20)) dX4_init_57 fdX4_30 rfl (Or.inr ⟨_, rfl⟩) rfl (okO_nw eh21 (okO_sR eh19 (okO_nw eh18 (okO_sR eh16 (okO_nw eh15 (okO_sR eh13 (okO_nw eh12 (okO_sR eh10 (okO_nw eh9 (okO_sR eh7 (okO_nw eh6 (okO_sR eh4 (okOb.p g3))))))))))))) eh22 ?_
  exact ev_vretx dX4_init_60 rfl H

theorem dX4_append_0 : decode cX4_append 0 = .ok (.aload_n 0, 1) := by decide +kernel
theorem dX4_append_1 : decode cX4_append 1 = .ok (.getfield 9, 3) := by decide +kernel
theorem dX4_append_4 : decode cX4_append 4 = .ok (.aload_n 0, 1) := by decide +kernel
theorem dX4_append_5 : decode cX4_append 5 = .ok (.getfield 33, 3) := by decide +kernel
theorem dX4_append_8 : decode cX4_append 8 = .ok (.iload_n 1, 1) := by decide +kernel
theorem dX4_append_9 : decode cX4_append 9 = .ok (.iastore, 1) := by decide +kernel
theorem dX4_append_10 : decode cX4_append 10 = .ok (.aload_n 0, 1) := by decide +kernel
theorem dX4_append_11 : decode cX4_append 11 = .ok (.getfield 15, 3) := by decide +kernel
theorem dX4_append_14 : decode cX4_append 14 = .ok (.aload_n 0, 1) := by decide +kernel
theorem dX4_append_15 : decode cX4_append 15 = .ok (.getfield 33, 3) := by decide +kernel
theorem dX4_append_18 : decode cX4_append 18 = .ok (.iload_n 2, 1) := by decide +kernel
theorem dX4_append_19 : decode cX4_append 19 = .ok (.iastore, 1) := by decide +kernel
theorem dX4_append_20 : decode cX4_append 20 = .ok (.aload_n 0, 1) := by decide +kernel
theorem dX4_append_21 : decode cX4_append 21 = .ok (.getfield 18, 3) := by decide +kernel
theorem dX4_append_24 : decode cX4_append 24 = .ok (.aload_n 0, 1) := by decide +kernel
theorem dX4_append_25 : decode cX4_append 25 = .ok (.getfield 33, 3) := by decide +kernel
theorem dX4_append_28 : decode cX4_append 28 = .ok (.iload_n 3, 1) := by decide +kernel
theorem dX4_append_29 : decode cX4_append 29 = .ok (.iastore, 1) := by decide +kernel
theorem dX4_append_30 : decode cX4_append 30 = .ok (.aload_n 0, 1) := by decide +kernel
theorem dX4_append_31 : decode cX4_append 31 = .ok (.dup, 1) := by decide +kernel
theorem dX4_append_32 : decode cX4_append 32 = .ok (.getfield 33, 3) := by decide +kernel
theorem dX4_append_35 : decode cX4_append 35 = .ok (.iconst 1, 1) := by decide +kernel
theorem dX4_append_36 : decode cX4_append 36 = .ok (.iadd, 1) := by decide +kernel
theorem dX4_append_37 : decode cX4_append 37 = .ok (.putfield 33, 3) := by decide +kernel
theorem dX4_append_40 : decode cX4_append 40 = .ok (.return_, 1) := by decide +kernel
def f_X4_append (h : Hp) (a0 : Nat) (a1 : Int32) (a2 : Int32) (a3 : Int32) : Option (Unit × Hp) :=
gd (okOb h a0 4) <|
vl (gR h a0 0) fun r2 =>
vl (gI h a0 3) fun x3 =>
un r2 fun b4 =>
gd (okAb h b4 11 x3) <|
vl (sI h b4 x3.toNatClampNeg a1) fun h6 =>
vl (gR h6 a0 1) fun r7 =>
vl (gI h6 a0 3) fun x8 =>
un r7 fun b9 =>
gd (okAb h6 b9 11 x8) <|
vl (sI h6 b9 x8.toNatClampNeg a2) fun h11 =>
vl (gR h11 a0 2) fun r12 =>
vl (gI h11 a0 3) fun x13 =>
un r12 fun b14 =>
gd (okAb h11 b14 11 x13) <|
vl (sI h11 b14 x13.toNatClampNeg a3) fun h16 =>
vl (gI h16 a0 3) fun x17 =>
vl (sI h16 a0 3 (x17 + (1 : Int32))) fun h18 =>
some ((), h18)
set_option maxHeartbeats 4000000 in
set_option maxRecDepth 100000 in
theorem t_X4_append {X : Cx} {d : Nat} {h : Hp} {a0 : Nat} {a1 : Int32} {a2 : Int32} {a3 : Int32} {v : Unit} {h' : Hp} (hD : 1 ≤ d) (H : f_X4_append h a0 a1 a2 a3 = some (v, h')) : PM X mX4_append d [.ref a0, .int a1, .int a2, .int a3] h (none) h' := by
  unfold f_X4_append at H
  refine PM.of (loc := [some (.ref a0), some (.int a1), some (.int a2), some (.int a3)]) (by decide) rfl (Nat.le_of_ble_eq_true rfl) ?_
  refine ev_aload_n dX4_append_0 rfl rfl rfl ?_
  replace H := gd_some H
  obtain ⟨g1, H⟩ := H
  replace H := vl_some H
  obtain ⟨r2, er2, H⟩ := H
  refine ev_getRx dX4_append_1 fgX4_9 rfl (okOb.p g1) er2 ?_
  refine ev_aload_n dX4_append_4 rfl rfl rfl ?_
  replace H := vl_some H
  obtain ⟨x3, ex3, H⟩ := H
  refine ev_getIx dX4_append_5 fgX4_33 rfl (okOb.p g1) ex3 ?_
  refine ev_iload_n dX4_append_8 rfl rfl ?_
  replace H := un_some H
  obtain ⟨b4, eb4, H⟩ := H
  subst eb4
  replace H := gd_some H
  obtain ⟨g5, H⟩ := H
  replace H := vl_some H
  obtain ⟨h6, eh6, H⟩ := H
  refine ev_iast dX4_append_9 (okAb.p g5) eh6 ?_
  refine ev_aload_n dX4_append_10 rfl rfl rfl ?_
  replace H := vl_some H
  obtain ⟨r7, er7, H⟩ := H
  refine ev_getRx dX4_append_11 fgX4_15 rfl (okO_sI eh6 (okOb.p g1)) er7 ?_
  refine ev_aload_n dX4_append_14 rfl rfl rfl ?_
  replace H := vl_some H
  obtain ⟨x8, ex8, H⟩ := H
  refine ev_getIx dX4_append_15 fgX4_33 rfl (okO_sI eh6 (okOb.p g1)) ex8 ?_
  refine ev_iload_n dX4_append_18 rfl rfl ?_
  replace H := un_some H
  obtain ⟨b9, eb9, H⟩ := H
  subst eb9
  replace H := gd_some H
  obtain ⟨g10, H⟩ := H
  replace H := vl_some H
  obtain ⟨h11, eh11, H⟩ := H
  refine ev_iast dX4_append_19 (okAb.p g10) eh11 ?_
  refine ev_aload_n dX4_append_20 rfl rfl rfl ?_
  replace H := vl_some H
  obtain ⟨r12, er12, H⟩ := H
  refine ev_getRx dX4_append_21 fgX4_18 rfl (okO_sI eh11 (okO_sI eh6 (okOb.p g1))) er12 ?_
  refine ev_aload_n dX4_append_24 rfl rfl rfl ?_
  replace H := vl_some H
  obtain ⟨x13, ex13, H⟩ := H
  refine ev_getIx dX4_append_25 fgX4_33 rfl (okO_sI eh11 (okO_sI eh6 (okOb.p g1))) ex13 ?_
  refine ev_iload_n dX4_append_28 rfl rfl ?_
  replace H := un_some H
  obtain ⟨b14, eb14, H⟩ := H
  subst eb14
  replace H := gd_some H
  obtain ⟨g15, H⟩ := H
  replace H := vl_some H
  obtain ⟨h16, eh16, H⟩ := H
  refine ev_iast dX4_append_29 (okAb.p g15) eh16 ?_
  refine ev_aload_n dX4_append_30 rfl rfl rfl ?_
  refine ev_dup dX4_append_31 rfl ?_
  replace H := vl_some H
  obtain ⟨x17, ex17, H⟩ := H
  refine ev_getIx dX4_append_32 fgX4_33 rfl (okO_sI eh16 (okO_sI eh11 (okO_sI eh6 (okOb.p g1)))) ex17 ?_
  refine ev_iconst (v := (1 : Int32)) dX4_append_35 (by decide) ?_
  refine ev_iadd dX4_append_36 ?_
  replace H := vl_some H
  obtain ⟨h18, eh18, H⟩ := H
  refine ev_putI dX4_append_37 fdX4_33 rfl rfl rfl (okO_sI eh16 (okO_sI eh11 (okO_sI eh6 (okOb.p g1)))) eh18 ?_
  exact ev_vretx dX4_append_40 rfl H

theorem dX4_tryFrom_0 : decode cX4_tryFrom 0 = .ok (.iload 5, 2) := by decide +kernel
theorem dX4_tryFrom_2 : decode cX4_tryFrom 2 = .ok (.aload_n 0, 1) := by decide +kernel
theorem dX4_tryFrom_3 : decode cX4_tryFrom 3 = .ok (.getfield 43, 3) := by decide +kernel
theorem dX4_tryFrom_6 : decode cX4_tryFrom 6 = .ok (.if_icmp .gt 21, 3) := by decide +kernel
theorem dX4_tryFrom_9 : decode cX4_tryFrom 9 = .ok (.iload 5, 2) := by decide +kernel
theorem dX4_tryFrom_11 : decode cX4_tryFrom 11 = .ok (.aload_n 0, 1) := by decide +kernel
theorem dX4_tryFrom_12 : decode cX4_tryFrom 12 = .ok (.getfield 43, 3) := by decide +kernel
theorem dX4_tryFrom_15 : decode cX4_tryFrom 15 = .ok (.if_icmp .ne 13, 3) := by decide +kernel
theorem dX4_tryFrom_18 : decode cX4_tryFrom 18 = .ok (.iload 4, 2) := by decide +kernel
theorem dX4_tryFrom_20 : decode cX4_tryFrom 20 = .ok (.aload_n 0, 1) := by decide +kernel
theorem dX4_tryFrom_21 : decode cX4_tryFrom 21 = .ok (.getfield 46, 3) := by decide +kernel
theorem dX4_tryFrom_24 : decode cX4_tryFrom 24 = .ok (.if_icmp .lt 4, 3) := by decide +kernel
theorem dX4_tryFrom_27 : decode cX4_tryFrom 27 = .ok (.return_, 1) := by decide +kernel
theorem dX4_tryFrom_28 : decode cX4_tryFrom 28 = .ok (.iload_n 1, 1) := by decide +kernel
theorem dX4_tryFrom_29 : decode cX4_tryFrom 29 = .ok (.aload_n 0, 1) := by decide +kernel
theorem dX4_tryFrom_30 : decode cX4_tryFrom 30 = .ok (.getfield 33, 3) := by decide +kernel
theorem dX4_tryFrom_33 : decode cX4_tryFrom 33 = .ok (.if_icmp .lt 50, 3) := by decide +kernel
theorem dX4_tryFrom_36 : decode cX4_tryFrom 36 = .ok (.aload_n 0, 1) := by decide +kernel
theorem dX4_tryFrom_37 : decode cX4_tryFrom 37 = .ok (.iload 5, 2) := by decide +kernel
theorem dX4_tryFrom_39 : decode cX4_tryFrom 39 = .ok (.putfield 43, 3) := by decide +kernel
theorem dX4_tryFrom_42 : decode cX4_tryFrom 42 = .ok (.aload_n 0, 1) := by decide +kernel
theorem dX4_tryFrom_43 : decode cX4_tryFrom 43 = .ok (.iload 4, 2) := by decide +kernel
theorem dX4_tryFrom_45 : decode cX4_tryFrom 45 = .ok (.putfield 46, 3) := by decide +kernel
theorem dX4_tryFrom_48 : decode cX4_tryFrom 48 = .ok (.aload_n 0, 1) := by decide +kernel
theorem dX4_tryFrom_49 : decode cX4_tryFrom 49 = .ok (.getfield 21, 3) := by decide +kernel
theorem dX4_tryFrom_52 : decode cX4_tryFrom 52 = .ok (.iconst 0, 1) := by decide +kernel
theorem dX4_tryFrom_53 : decode cX4_tryFrom 53 = .ok (.aload_n 0, 1) := by decide +kernel
theorem dX4_tryFrom_54 : decode cX4_tryFrom 54 = .ok (.getfield 27, 3) := by decide +kernel
theorem dX4_tryFrom_57 : decode cX4_tryFrom 57 = .ok (.iconst 0, 1) := by decide +kernel
theorem dX4_tryFrom_58 : decode cX4_tryFrom 58 = .ok (.aload_n 0, 1) := by decide +kernel
theorem dX4_tryFrom_59 : decode cX4_tryFrom 59 = .ok (.getfield 33, 3) := by decide +kernel
theorem dX4_tryFrom_62 : decode cX4_tryFrom 62 = .ok (.invokestatic 53, 3) := by decide +kernel
theorem dX4_tryFrom_65 : decode cX4_tryFrom 65 = .ok (.aload_n 0, 1) := by decide +kernel
theorem dX4_tryFrom_66 : decode cX4_tryFrom 66 = .ok (.getfield 24, 3) := by decide +kernel
theorem dX4_tryFrom_69 : decode cX4_tryFrom 69 = .ok (.iconst 0, 1) := by decide +kernel
theorem dX4_tryFrom_70 : decode cX4_tryFrom 70 = .ok (.aload_n 0, 1) := by decide +kernel
theorem dX4_tryFrom_71 : decode cX4_tryFrom 71 = .ok (.getfield 30, 3) := by decide +kernel
theorem dX4_tryFrom_74 : decode cX4_tryFrom 74 = .ok (.iconst 0, 1) := by decide +kernel
theorem dX4_tryFrom_75 : decode cX4_tryFrom 75 = .ok (.aload_n 0, 1) := by decide +kernel
theorem dX4_tryFrom_76 : decode cX4_tryFrom 76 = .ok (.getfield 33, 3) := by decide +kernel
theorem dX4_tryFrom_79 : decode cX4_tryFrom 79 = .ok (.invokestatic 53, 3) := by decide +kernel
theorem dX4_tryFrom_82 : decode cX4_tryFrom 82 = .ok (.return_, 1) := by decide +kernel
theorem dX4_tryFrom_83 : decode cX4_tryFrom 83 = .ok (.iconst 0, 1) := by decide +kernel
theorem dX4_tryFrom_84 : decode cX4_tryFrom 84 = .ok (.istore 6, 2) := by decide +kernel
theorem dX4_tryFrom_86 : decode cX4_tryFrom 86 = .ok (.iload 6, 2) := by decide +kernel
theorem dX4_tryFrom_88 : decode cX4_tryFrom 88 = .ok (.aload_n 0, 1) := by decide +kernel
theorem dX4_tryFrom_89 : decode cX4_tryFrom 89 = .ok (.getfield 33, 3) := by decide +kernel
theorem dX4_tryFrom_92 : decode cX4_tryFrom 92 = .ok (.if_icmp .ge 96, 3) := by decide +kernel
theorem dX4_tryFrom_95 : decode cX4_tryFrom 95 = .ok (.iload_n 2, 1) := by decide +kernel
theorem dX4_tryFrom_96 : decode cX4_tryFrom 96 = .ok (.iload 6, 2) := by decide +kernel
theorem dX4_tryFrom_98 : decode cX4_tryFrom 98 = .ok (.ishr, 1) := by decide +kernel
theorem dX4_tryFrom_99 : decode cX4_tryFrom 99 = .ok (.iconst 1, 1) := by decide +kernel
theorem dX4_tryFrom_100 : decode cX4_tryFrom 100 = .ok (.iand, 1) := by decide +kernel
theorem dX4_tryFrom_101 : decode cX4_tryFrom 101 = .ok (.ifCond .ne 81, 3) := by decide +kernel
theorem dX4_tryFrom_104 : decode cX4_tryFrom 104 = .ok (.iload_n 3, 1) := by decide +kernel
theorem dX4_tryFrom_105 : decode cX4_tryFrom 105 = .ok (.aload_n 0, 1) := by decide +kernel
theorem dX4_tryFrom_106 : decode cX4_tryFrom 106 = .ok (.getfield 9, 3) := by decide +kernel
theorem dX4_tryFrom_109 : decode cX4_tryFrom 109 = .ok (.iload 6, 2) := by decide +kernel
theorem dX4_tryFrom_111 : decode cX4_tryFrom 111 = .ok (.iaload, 1) := by decide +kernel
theorem dX4_tryFrom_112 : decode cX4_tryFrom 112 = .ok (.iadd, 1) := by decide +kernel
theorem dX4_tryFrom_113 : decode cX4_tryFrom 113 = .ok (.istore 7, 2) := by decide +kernel
theorem dX4_tryFrom_115 : decode cX4_tryFrom 115 = .ok (.iload 7, 2) := by decide +kernel
theorem dX4_tryFrom_117 : decode cX4_tryFrom 117 = .ok (.iload 4, 2) := by decide +kernel
theorem dX4_tryFrom_119 : decode cX4_tryFrom 119 = .ok (.invokestatic 59, 3) := by decide +kernel
theorem dX4_tryFrom_122 : decode cX4_tryFrom 122 = .ok (.aload_n 0, 1) := by decide +kernel
theorem dX4_tryFrom_123 : decode cX4_tryFrom 123 = .ok (.getfield 15, 3) := by decide +kernel
theorem dX4_tryFrom_126 : decode cX4_tryFrom 126 = .ok (.iload 6, 2) := by decide +kernel
theorem dX4_tryFrom_128 : decode cX4_tryFrom 128 = .ok (.iaload, 1) := by decide +kernel
theorem dX4_tryFrom_129 : decode cX4_tryFrom 129 = .ok (.iadd, 1) := by decide +kernel
theorem dX4_tryFrom_130 : decode cX4_tryFrom 130 = .ok (.istore 8, 2) := by decide +kernel
theorem dX4_tryFrom_132 : decode cX4_tryFrom 132 = .ok (.aload_n 0, 1) := by decide +kernel
theorem dX4_tryFrom_133 : decode cX4_tryFrom 133 = .ok (.getfield 21, 3) := by decide +kernel
theorem dX4_tryFrom_136 : decode cX4_tryFrom 136 = .ok (.iload_n 1, 1) := by decide +kernel
theorem dX4_tryFrom_137 : decode cX4_tryFrom 137 = .ok (.iload 6, 2) := by decide +kernel
theorem dX4_tryFrom_139 : decode cX4_tryFrom 139 = .ok (.iastore, 1) := by decide +kernel
theorem dX4_tryFrom_140 : decode cX4_tryFrom 140 = .ok (.aload_n 0, 1) := by decide +kernel
theorem dX4_tryFrom_141 : decode cX4_tryFrom 141 = .ok (.getfield 24, 3) := by decide +kernel
theorem dX4_tryFrom_144 : decode cX4_tryFrom 144 = .ok (.iload_n 1, 1) := by decide +kernel
theorem dX4_tryFrom_145 : decode cX4_tryFrom 145 = .ok (.iload 8, 2) := by decide +kernel
theorem dX4_tryFrom_147 : decode cX4_tryFrom 147 = .ok (.iastore, 1) := by decide +kernel
theorem dX4_tryFrom_148 : decode cX4_tryFrom 148 = .ok (.aload_n 0, 1) := by decide +kernel
theorem dX4_tryFrom_149 : decode cX4_tryFrom 149 = .ok (.iload_n 1, 1) := by decide +kernel
theorem dX4_tryFrom_150 : decode cX4_tryFrom 150 = .ok (.iconst 1, 1) := by decide +kernel
theorem dX4_tryFrom_151 : decode cX4_tryFrom 151 = .ok (.iadd, 1) := by decide +kernel
theorem dX4_tryFrom_152 : decode cX4_tryFrom 152 = .ok (.iload_n 2, 1) := by decide +kernel
theorem dX4_tryFrom_153 : decode cX4_tryFrom 153 = .ok (.iconst 1, 1) := by decide +kernel
theorem dX4_tryFrom_154 : decode cX4_tryFrom 154 = .ok (.iload 6, 2) := by decide +kernel
theorem dX4_tryFrom_156 : decode cX4_tryFrom 156 = .ok (.ishl, 1) := by decide +kernel
theorem dX4_tryFrom_157 : decode cX4_tryFrom 157 = .ok (.ior, 1) := by decide +kernel
theorem dX4_tryFrom_158 : decode cX4_tryFrom 158 = .ok (.iload 7, 2) := by decide +kernel
theorem dX4_tryFrom_160 : decode cX4_tryFrom 160 = .ok (.iload 8, 2) := by decide +kernel
theorem dX4_tryFrom_162 : decode cX4_tryFrom 162 = .ok (.iload 5, 2) := by decide +kernel
theorem dX4_tryFrom_164 : decode cX4_tryFrom 164 = .ok (.iconst 0, 1) := by decide +kernel
theorem dX4_tryFrom_165 : decode cX4_tryFrom 165 = .ok (.iload 8, 2) := by decide +kernel
theorem dX4_tryFrom_167 : decode cX4_tryFrom 167 = .ok (.aload_n 0, 1) := by decide +kernel
theorem dX4_tryFrom_168 : decode cX4_tryFrom 168 = .ok (.getfield 18, 3) := by decide +kernel
theorem dX4_tryFrom_171 : decode cX4_tryFrom 171 = .ok (.iload 6, 2) := by decide +kernel
theorem dX4_tryFrom_173 : decode cX4_tryFrom 173 = .ok (.iaload, 1) := by decide +kernel
theorem dX4_tryFrom_174 : decode cX4_tryFrom 174 = .ok (.isub, 1) := by decide +kernel
theorem dX4_tryFrom_175 : decode cX4_tryFrom 175 = .ok (.invokestatic 59, 3) := by decide +kernel
theorem dX4_tryFrom_178 : decode cX4_tryFrom 178 = .ok (.iadd, 1) := by decide +kernel
theorem dX4_tryFrom_179 : decode cX4_tryFrom 179 = .ok (.invokevirtual 49, 3) := by decide +kernel
theorem dX4_tryFrom_182 : decode cX4_tryFrom 182 = .ok (.iinc 6 1, 3) := by decide +kernel
theorem dX4_tryFrom_185 : decode cX4_tryFrom 185 = .ok (.goto (-99), 3) := by decide +kernel
theorem dX4_tryFrom_188 : decode cX4_tryFrom 188 = .ok (.return_, 1) := by decide +kernel
def f_X4_tryFrom_L86 (rc : Hp → Nat → Int32 → Int32 → Int32 → Int32 → Int32 → Option (Unit × Hp)) : Nat → Nat → Int32 → Int32 → Int32 → Int32 → Int32 → Int32 → Hp → Option (Unit × Hp)
  | 0, _, _, _, _, _, _, _, _ => none
  | n + 1, l0, l1, l2, l3, l4, l5, l6, h =>
    gd (okOb h l0 4) <|
    vl (gI h l0 3) fun x9 =>
    if x9 ≤ l6 then (
    some ((), h)) else (
    if ((l2 >>> (l6 &&& 31)) &&& (1 : Int32)) = 0 then (
    vl (gR h l0 0) fun r13 =>
    un r13 fun b14 =>
    gd (okAb h b14 11 l6) <|
    vl (gI h b14 l6.toNatClampNeg) fun x16 =>
    vl (l3 + x16) fun x17 =>
    vl (gR h l0 1) fun r18 =>
    un r18 fun b19 =>
    gd (okAb h b19 11 l6) <|
    vl (gI h b19 l6.toNatClampNeg) fun x21 =>
    vl ((if x17 < l4 then l4 else x17) + x21) fun x22 =>
    vl (gR h l0 4) fun r23 =>
    un r23 fun b24 =>
    gd (okAb h b24 11 l1) <|
    vl (sI h b24 l1.toNatClampNeg l6) fun h26 =>
    vl (gR h26 l0 5) fun r27 =>
    un r27 fun b28 =>
    gd (okAb h26 b28 11 l1) <|
    vl (sI h26 b28 l1.toNatClampNeg x22) fun h30 =>
    vl (gR h30 l0 2) fun r31 =>
    un r31 fun b32 =>
    gd (okAb h30 b32 11 l6) <|
    vl (gI h30 b32 l6.toNatClampNeg) fun x34 =>
    bnd (rc h30 l0 (l1 + (1 : Int32)) (l2 ||| ((1 : Int32) <<< (l6 &&& 31))) x17 x22 (l5 + (if (0 : Int32) < (x22 - x34) then (x22 - x34) else (0 : Int32)))) fun u35 h36 =>
    vl (l6 + (1 : Int32)) fun x37 =>
    f_X4_tryFrom_L86 rc n l0 l1 l2 l3 l4 l5 x37 h36) else (
    vl (l6 + (1 : Int32)) fun x12 =>
    f_X4_tryFrom_L86 rc n l0 l1 l2 l3 l4 l5 x12 h))
set_option maxHeartbeats 4000000 in
set_option maxRecDepth 100000 in
theorem t_X4_tryFrom_L86 {X : Cx} {d : Nat} {h0 h' : Hp} {v : Unit} {rc : Hp → Nat → Int32 → Int32 → Int32 → Int32 → Int32 → Option (Unit × Hp)} (hrc : ∀ {h : Hp} {a0 : Nat} {a1 : Int32} {a2 : Int32} {a3 : Int32} {a4 : Int32} {a5 : Int32} {v : Unit} {h' : Hp}, rc h a0 a1 a2 a3 a4 a5 = some (v, h') → PM X mX4_tryFrom (d - 1) [.ref a0, .int a1, .int a2, .int a3, .int a4, .int a5] h (none) h') (hD : 1 ≤ d) : ∀ (n : Nat) (l0 : Nat) (l1 : Int32) (l2 : Int32) (l3 : Int32) (l4 : Int32) (l5 : Int32) (l6 : Int32) (h : Hp), f_X4_tryFrom_L86 rc n l0 l1 l2 l3 l4 l5 l6 h = some (v, h') → EV X mX4_tryFrom d h0 (none) h' 86 [some (.ref l0), some (.int l1), some (.int l2), some (.int l3), some (.int l4), some (.int l5), some (.int l6), none, none] [] h := by
  intro n
  induction n with
  | zero => intro l0 l1 l2 l3 l4 l5 l6 h H; simp [f_X4_tryFrom_L86] at H
  | succ n ih =>
    intro l0 l1 l2 l3 l4 l5 l6 h H
    rw [f_X4_tryFrom_L86] at H
    refine ev_iload dX4_tryFrom_86 rfl ?_
    refine ev_aload_n dX4_tryFrom_88 rfl rfl rfl ?_
    replace H := gd_some H
    obtain ⟨g8, H⟩ := H
    replace H := vl_some H
    obtain ⟨x9, ex9, H⟩ := H
    refine ev_getIx dX4_tryFrom_89 fgX4_33 rfl (okOb.p g8) ex9 ?_
    refine ev_icmp_ge (tgt := 188) dX4_tryFrom_92 (by decide) (fun c10 => ?_) (fun c10 => ?_)
    · rw [if_pos c10] at H
      exact ev_vretx dX4_tryFrom_188 rfl H
    · rw [if_neg c10] at H
      refine ev_iload_n dX4_tryFrom_95 rfl rfl ?_
      refine ev_iload dX4_tryFrom_96 rfl ?_
      refine ev_ishr dX4_tryFrom_98 ?_
      refine ev_iconst (v := (1 : Int32)) dX4_tryFrom_99 (by decide) ?_
      refine ev_iand dX4_tryFrom_100 ?_
      refine ev_if_ne (tgt := 182) dX4_tryFrom_101 (by decide) (fun c11 => ?_) (fun c11 => ?_)
      · rw [if_neg c11] at H
        replace H := vl_some H
        obtain ⟨x12, ex12, H⟩ := H
        refine ev_iincx (loc2 := [some (.ref l0), some (.int l1), some (.int l2), some (.int l3), some (.int l4), some (.int l5), some (.int x12), none, none]) dX4_tryFrom_182 rfl (by decide) ex12 (by decide) rfl ?_
        refine ev_goto (tgt := 86) dX4_tryFrom_185 (by decide) ?_
        exact ih l0 l1 l2 l3 l4 l5 x12 h H
      · rw [if_pos c11] at H
        refine ev_iload_n dX4_tryFrom_104 rfl rfl ?_
        refine ev_aload_n dX4_tryFrom_105 rfl rfl rfl ?_
        replace H := vl_some H
        obtain ⟨r13, er13, H⟩ := H
        refine ev_getRx dX4_tryFrom_106 fgX4_9 rfl (okOb.p g8) er13 ?_
        refine ev_iload dX4_tryFrom_109 rfl ?_
        replace H := un_some H
        obtain ⟨b14, eb14, H⟩ := H
        subst eb14
        replace H := gd_some H
        obtain ⟨g15, H⟩ := H
        replace H := vl_some H
        obtain ⟨x16, ex16, H⟩ := H
        refine ev_ialdx dX4_tryFrom_111 (okAb.p g15) ex16 ?_
        refine ev_iadd dX4_tryFrom_112 ?_
        replace H := vl_some H
        obtain ⟨x17, ex17, H⟩ := H
        refine ev_istorex (loc2 := [some (.ref l0), some (.int l1), some (.int l2), some (.int l3), some (.int l4), some (.int l5), some (.int l6), some (.int x17), none]) dX4_tryFrom_113 (by decide) ex17 rfl ?_
        refine ev_iload dX4_tryFrom_115 rfl ?_
        refine ev_iload dX4_tryFrom_117 rfl ?_
        refine ev_mmax dX4_tryFrom_119 k4_115 k4_58 k1_10 k4_59 (by omega) (Nat.le_of_ble_eq_true rfl) ?_
        refine ev_aload_n dX4_tryFrom_122 rfl rfl rfl ?_
        replace H := vl_some H
        obtain ⟨r18, er18, H⟩ := H
        refine ev_getRx dX4_tryFrom_123 fgX4_15 rfl (okOb.p g8) er18 ?_
        refine ev_iload dX4_tryFrom_126 rfl ?_
        replace H := un_some H
        obtain ⟨b19, eb19, H⟩ := H
        subst eb19
        replace H := gd_some H
        obtain ⟨g20, H⟩ := H
        replace H := vl_some H
        obtain ⟨x21, ex21, H⟩ := H
        refine ev_ialdx dX4_tryFrom_128 (okAb.p g20) ex21 ?_
        refine ev_iadd dX4_tryFrom_129 ?_
        replace H := vl_some H
        obtain ⟨x22, ex22, H⟩ := H
        refine ev_istorex (loc2 := [some (.ref l0), some (.int l1), some (.int l2), some (.int l3), some (.int l4), some (.int l5), some (.int l6), some (.int x17), some (.int x22)]) dX4_tryFrom_130 (by decide) ex22 rfl ?_
        refine ev_aload_n dX4_tryFrom_132 rfl rfl rfl ?_
        replace H := vl_some H
        obtain ⟨r23, er23, H⟩ := H
        refine ev_getRx dX4_tryFrom_133 fgX4_21 rfl (okOb.p g8) er23 ?_
        refine ev_iload_n dX4_tryFrom_136 rfl rfl ?_
        refine ev_iload dX4_tryFrom_137 rfl ?_
        replace H := un_some H
        obtain ⟨b24, eb24, H⟩ := H
        subst eb24
        replace H := gd_some H
        obtain ⟨g25, H⟩ := H
        replace H := vl_some H
        obtain ⟨h26, eh26, H⟩ := H
        refine ev_iast dX4_tryFrom_139 (okAb.p g25) eh26 ?_
        refine ev_aload_n dX4_tryFrom_140 rfl rfl rfl ?_
        replace H := vl_some H
        obtain ⟨r27, er27, H⟩ := H
        refine ev_getRx dX4_tryFrom_141 fgX4_24 rfl (okO_sI eh26 (okOb.p g8)) er27 ?_
        refine ev_iload_n dX4_tryFrom_144 rfl rfl ?_
        refine ev_iload dX4_tryFrom_145 rfl ?_
        replace H := un_some H
        obtain ⟨b28, eb28, H⟩ := H
        subst eb28
        replace H := gd_some H
        obtain ⟨g29, H⟩ := H
        replace H := vl_some H
        obtain ⟨h30, eh30, H⟩ := H
        refine ev_iast dX4_tryFrom_147 (okAb.p g29) eh30 ?_
        refine ev_aload_n dX4_tryFrom_148 rfl rfl rfl ?_
        refine ev_iload_n dX4_tryFrom_149 rfl rfl ?_
        refine ev_iconst (v := (1 : Int32)) dX4_tryFrom_150 (by decide) ?_
        refine ev_iadd dX4_tryFrom_151 ?_
        refine ev_iload_n dX4_tryFrom_152 rfl rfl ?_
        refine ev_iconst (v := (1 : Int32)) dX4_tryFrom_153 (by decide) ?_
        refine ev_iload dX4_tryFrom_154 rfl ?_
        refine ev_ishl dX4_tryFrom_156 ?_
        refine ev_ior dX4_tryFrom_157 ?_
        refine ev_iload dX4_tryFrom_158 rfl ?_
        refine ev_iload dX4_tryFrom_160 rfl ?_
        refine ev_iload dX4_tryFrom_162 rfl ?_
        refine ev_iconst (v := (0 : Int32)) dX4_tryFrom_164 (by decide) ?_
        refine ev_iload dX4_tryFrom_165 rfl ?_
        refine ev_aload_n dX4_tryFrom_167 rfl rfl rfl ?_
        replace H := vl_some H
        obtain ⟨r31, er31, H⟩ := H
        refine ev_getRx dX4_tryFrom_168 fgX4_18 rfl (okO_sI eh30 (okO_sI eh26 (okOb.p g8))) er31 ?_
        refine ev_iload dX4_tryFrom_171 rfl ?_
        replace H := un_some H
        obtain ⟨b32, eb32, H⟩ := H
        subst eb32
        replace H := gd_some H
        obtain ⟨g33, H⟩ := H
        replace H := vl_some H
        obtain ⟨x34, ex34, H⟩ := H
        refine ev_ialdx dX4_tryFrom_173 (okAb.p g33) ex34 ?_
        refine ev_isub dX4_tryFrom_174 ?_
        refine ev_mmax dX4_tryFrom_175 k4_115 k4_58 k1_10 k4_59 (by omega) (Nat.le_of_ble_eq_true rfl) ?_
        refine ev_iadd dX4_tryFrom_178 ?_
        replace H := bnd_some H
        obtain ⟨u35, h36, eh36, H⟩ := H
        have ph36 := (hrc eh36)
        refine ev_callV (as := [.int (l1 + (1 : Int32)), .int (l2 ||| ((1 : Int32) <<< (l6 &&& 31))), .int x17, .int x22, .int (l5 + (if (0 : Int32) < (x22 - x34) then (x22 - x34) else (0 : Int32)))]) dX4_tryFrom_179 ph36 ok_X4_tryFrom (by omega) rfl k4_110 k4_112 ks_21 (ci := 4) (by decide) rfl rfl (okO_sI eh30 (okO_sI eh26 (okOb.p g8))) rfl (Nat.le_of_ble_eq_true rfl) ?_
        replace H := vl_some H
        obtain ⟨x37, ex37, H⟩ := H
        refine ev_iincx (loc2 := [some (.ref l0), some (.int l1), some (.int l2), some (.int l3), some (.int l4), some (.int l5), some (.int x37), some (.int x17), some (.int x22)]) dX4_tryFrom_182 rfl (by decide) ex37 (by decide) rfl ?_
        refine ev_goto (tgt := 86) dX4_tryFrom_185 (by decide) ?_
        refine ev_drop (loc2 := [some (.ref l0), some (.int l1), some (.int l2), some (.int l3), some (.int l4), some (.int l5), some (.int x37), none, none]) [true, true, true, true, true, true, true, false, false] rfl ?_
        exact ih l0 l1 l2 l3 l4 l5 x37 h36 H
def f_X4_tryFrom : Nat → Hp → Nat → Int32 → Int32 → Int32 → Int32 → Int32 → Option (Unit × Hp)
  | 0, _, _, _, _, _, _, _ => none
  | n + 1, h, a0, a1, a2, a3, a4, a5 =>
    gd (okOb h a0 4) <|
    vl (gI h a0 9) fun x2 =>
    if x2 < a5 then (
    some ((), h)) else (
    vl (gI h a0 9) fun x4 =>
    if a5 = x4 then (
    vl (gI h a0 10) fun x54 =>
    if a4 < x54 then (
    vl (gI h a0 3) fun x56 =>
    if a1 < x56 then (
    f_X4_tryFrom_L86 (f_X4_tryFrom n) 6000 a0 a1 a2 a3 a4 a5 (0 : Int32) h) else (
    vl (sI h a0 9 a5) fun h58 =>
    vl (sI h58 a0 10 a4) fun h59 =>
    vl (gR h59 a0 4) fun r60 =>
    vl (gR h59 a0 6) fun r61 =>
    vl (gI h59 a0 3) fun x62 =>
    un r61 fun b63 =>
    un r60 fun b64 =>
    gd (okC h59 b64 b63 (0 : Int32) (0 : Int32) x62) <|
    vl (sW h59 b63 (va_cpy (gI h59 b64) (gI h59 b63) (0 : Int32).toNatClampNeg (0 : Int32).toNatClampNeg x62.toNatClampNeg)) fun h66 =>
    vl (gR h66 a0 5) fun r67 =>
    vl (gR h66 a0 7) fun r68 =>
    vl (gI h66 a0 3) fun x69 =>
    un r68 fun b70 =>
    un r67 fun b71 =>
    gd (okC h66 b71 b70 (0 : Int32) (0 : Int32) x69) <|
    vl (sW h66 b70 (va_cpy (gI h66 b71) (gI h66 b70) (0 : Int32).toNatClampNeg (0 : Int32).toNatClampNeg x69.toNatClampNeg)) fun h73 =>
    some ((), h73))) else (
    some ((), h))) else (
    vl (gI h a0 3) fun x6 =>
    if a1 < x6 then (
    f_X4_tryFrom_L86 (f_X4_tryFrom n) 6000 a0 a1 a2 a3 a4 a5 (0 : Int32) h) else (
    vl (sI h a0 9 a5) fun h38 =>
    vl (sI h38 a0 10 a4) fun h39 =>
    vl (gR h39 a0 4) fun r40 =>
    vl (gR h39 a0 6) fun r41 =>
    vl (gI h39 a0 3) fun x42 =>
    un r41 fun b43 =>
    un r40 fun b44 =>
    gd (okC h39 b44 b43 (0 : Int32) (0 : Int32) x42) <|
    vl (sW h39 b43 (va_cpy (gI h39 b44) (gI h39 b43) (0 : Int32).toNatClampNeg (0 : Int32).toNatClampNeg x42.toNatClampNeg)) fun h46 =>
    vl (gR h46 a0 5) fun r47 =>
    vl (gR h46 a0 7) fun r48 =>
    vl (gI h46 a0 3) fun x49 =>
    un r48 fun b50 =>
    un r47 fun b51 =>
    gd (okC h46 b51 b50 (0 : Int32) (0 : Int32) x49) <|
    vl (sW h46 b50 (va_cpy (gI h46 b51) (gI h46 b50) (0 : Int32).toNatClampNeg (0 : Int32).toNatClampNeg x49.toNatClampNeg)) fun h53 =>
    some ((), h53))))
set_option maxHeartbeats 4000000 in
set_option maxRecDepth 100000 in
theorem t_X4_tryFrom {X : Cx} : ∀ (n : Nat) {d : Nat} {h : Hp} {a0 : Nat} {a1 : Int32} {a2 : Int32} {a3 : Int32} {a4 : Int32} {a5 : Int32} {v : Unit} {h' : Hp}, n + 1 ≤ d → f_X4_tryFrom n h a0 a1 a2 a3 a4 a5 = some (v, h') → PM X mX4_tryFrom d [.ref a0, .int a1, .int a2, .int a3, .int a4, .int a5] h (none) h' := by
  intro n
  induction n with
  | zero => intro d h a0 a1 a2 a3 a4 a5 v h' hD H; simp [f_X4_tryFrom] at H
  | succ n ih =>
    intro d h a0 a1 a2 a3 a4 a5 v h' hD0 H
    have hD : 1 ≤ d := by omega
    rw [f_X4_tryFrom] at H
    refine PM.of (loc := [some (.ref a0), some (.int a1), some (.int a2), some (.int a3), some (.int a4), some (.int a5), none, none, none]) (by decide) rfl (Nat.le_of_ble_eq_true rfl) ?_
    refine ev_iload dX4_tryFrom_0 rfl ?_
    refine ev_aload_n dX4_tryFrom_2 rfl rfl rfl ?_
    replace H := gd_some H
    obtain ⟨g1, H⟩ := H
    replace H := vl_some H
    obtain ⟨x2, ex2, H⟩ := H
    refine ev_getIx dX4_tryFrom_3 fgX4_43 rfl (okOb.p g1) ex2 ?_
    refine ev_icmp_gt (tgt := 27) dX4_tryFrom_6 (by decide) (fun c3 => ?_) (fun c3 => ?_)
    · rw [if_pos c3] at H
      exact ev_vretx dX4_tryFrom_27 rfl H
    · rw [if_neg c3] at H
      refine ev_iload dX4_tryFrom_9 rfl ?_
      refine ev_aload_n dX4_tryFrom_11 rfl rfl rfl ?_
      replace H := vl_some H
      obtain ⟨x4, ex4, H⟩ := H
      refine ev_getIx dX4_tryFrom_12 fgX4_43 rfl (okOb.p g1) ex4 ?_
      refine ev_icmp_ne (tgt := 28) dX4_tryFrom_15 (by decide) (fun c5 => ?_) (fun c5 => ?_)
      · rw [if_neg c5] at H
        refine ev_iload_n dX4_tryFrom_28 rfl rfl ?_
        refine ev_aload_n dX4_tryFrom_29 rfl rfl rfl ?_
        replace H := vl_some H
        obtain ⟨x6, ex6, H⟩ := H
        refine ev_getIx dX4_tryFrom_30 fgX4_33 rfl (okOb.p g1) ex6 ?_
        refine ev_icmp_lt (tgt := 83) dX4_tryFrom_33 (by decide) (fun c7 => ?_) (fun c7 => ?_)
        · rw [if_pos c7] at H
          refine ev_iconst (v := (0 : Int32)) dX4_tryFrom_83 (by decide) ?_
          refine ev_istore (loc2 := [some (.ref a0), some (.int a1), some (.int a2), some (.int a3), some (.int a4), some (.int a5), some (.int (0 : Int32)), none, none]) dX4_tryFrom_84 (by decide) rfl ?_
          refine t_X4_tryFrom_L86 (rc := f_X4_tryFrom n) (fun q => ih (d := d - 1) (by omega) q) hD  6000 a0 a1 a2 a3 a4 a5 (0 : Int32) h H
        · rw [if_neg c7] at H
          refine ev_aload_n dX4_tryFrom_36 rfl rfl rfl ?_
          refine ev_iload dX4_tryFrom_37 rfl ?_
          replace H := vl_some H
          obtain ⟨h38, eh38, H⟩ := H
          refine ev_putI dX4_tryFrom_39 fdX4_43 rfl rfl rfl (okOb.p g1) eh38 ?_
          refine ev_aload_n dX4_tryFrom_42 rfl rfl rfl ?_
          refine ev_iload dX4_tryFrom_43 rfl ?_
          replace H := vl_some H
          obtain ⟨h39, eh39, H⟩ := H
          refine ev_putI dX4_tryFrom_45 fdX4_46 rfl rfl rfl (okO_sI eh38 (okOb.p g1)) eh39 ?_
          refine ev_aload_n dX4_tryFrom_48 rfl rfl rfl ?_
          replace H := vl_some H
          obtain ⟨r40, er40, H⟩ := H
          refine ev_getRx dX4_tryFrom_49 fgX4_21 rfl (okO_sI eh39 (okO_sI eh38 (okOb.p g1))) er40 ?_
          refine ev_iconst (v := (0 : Int32)) dX4_tryFrom_52 (by decide) ?_
          refine ev_aload_n dX4_tryFrom_53 rfl rfl rfl ?_
          replace H := vl_some H
          obtain ⟨r41, er41, H⟩ := H
          refine ev_getRx dX4_tryFrom_54 fgX4_27 rfl (okO_sI eh39 (okO_sI eh38 (okOb.p g1))) er41 ?_
          refine ev_iconst (v := (0 : Int32)) dX4_tryFrom_57 (by decide) ?_
          refine ev_aload_n dX4_tryFrom_58 rfl rfl rfl ?_
          replace H := vl_some H
          obtain ⟨x42, ex42, H⟩ := H
          refine ev_getIx dX4_tryFrom_59 fgX4_33 rfl (okO_sI eh39 (okO_sI eh38 (okOb.p g1))) ex42 ?_
          replace H := un_some H
          obtain ⟨b43, eb43, H⟩ := H
          subst eb43
          replace H := un_some H
          obtain ⟨b44, eb44, H⟩ := H
          subst eb44
          replace H := gd_some H
          obtain ⟨g45, H⟩ := H
          replace H := vl_some H
          obtain ⟨h46, eh46, H⟩ := H
          refine ev_copy dX4_tryFrom_62 k4_114 k2_108 k2_107 k1_12 (by omega) (Nat.le_of_ble_eq_true rfl) (okC.p g45).1 (okC.p g45).2.1 (okC.p g45).2.2 eh46 ?_
          refine ev_aload_n dX4_tryFrom_65 rfl rfl rfl ?_
          replace H := vl_some H
          obtain ⟨r47, er47, H⟩ := H
          refine ev_getRx dX4_tryFrom_66 fgX4_24 rfl (okO_sW eh46 (okO_sI eh39 (okO_sI eh38 (okOb.p g1)))) er47 ?_
          refine ev_iconst (v := (0 : Int32)) dX4_tryFrom_69 (by decide) ?_
          refine ev_aload_n dX4_tryFrom_70 rfl rfl rfl ?_
          replace H := vl_some H
          obtain ⟨r48, er48, H⟩ := H
          refine ev_getRx dX4_tryFrom_71 fgX4_30 rfl (okO_sW eh46 (okO_sI eh39 (okO_sI eh38 (okOb.p g1)))) er48 ?_
          refine ev_iconst (v := (0 : Int32)) dX4_tryFrom_74 (by decide) ?_
          refine ev_aload_n dX4_tryFrom_75 rfl rfl rfl ?_
          replace H := vl_some H
          obtain ⟨x49, ex49, H⟩ := H
          refine ev_getIx dX4_tryFrom_76 fgX4_33 rfl (okO_sW eh46 (okO_sI eh39 (okO_sI eh38 (okOb.p g1)))) ex49 ?_
          replace H := un_some H
          obtain ⟨b50, eb50, H⟩ := H
          subst eb50
          replace H := un_some H
          obtain ⟨b51, eb51, H⟩ := H
          subst eb51
          replace H := gd_some H
          obtain ⟨g52, H⟩ := H
          replace H := vl_some H
          obtain ⟨h53, eh53, H⟩ := H
          refine ev_copy dX4_tryFrom_79 k4_114 k2_108 k2_107 k1_12 (by omega) (Nat.le_of_ble_eq_true rfl) (okC.p g52).1 (okC.p g52).2.1 (okC.p g52).2.2 eh53 ?_
          exact ev_vretx dX4_tryFrom_82 rfl H
      · rw [if_pos c5] at H
        refine ev_iload dX4_tryFrom_18 rfl ?_
        refine ev_aload_n dX4_tryFrom_20 rfl rfl rfl ?_
        replace H := vl_some H
        obtain ⟨x54, ex54, H⟩ := H
        refine ev_getIx dX4_tryFrom_21 fgX4_46 rfl (okOb.p g1) ex54 ?_
        refine ev_icmp_lt (tgt := 28) dX4_tryFrom_24 (by decide) (fun c55 => ?_) (fun c55 => ?_)
        · rw [if_pos c55] at H
          refine ev_iload_n dX4_tryFrom_28 rfl rfl ?_
          refine ev_aload_n dX4_tryFrom_29 rfl rfl rfl ?_
          replace H := vl_some H
          obtain ⟨x56, ex56, H⟩ := H
          refine ev_getIx dX4_tryFrom_30 fgX4_33 rfl (okOb.p g1) ex56 ?_
          refine ev_icmp_lt (tgt := 83) dX4_tryFrom_33 (by decide) (fun c57 => ?_) (fun c57 => ?_)
          · rw [if_pos c57] at H
            refine ev_iconst (v := (0 : Int32)) dX4_tryFrom_83 (by decide) ?_
            refine ev_istore (loc2 := [some (.ref a0), some (.int a1), some (.int a2), some (.int a3), some (.int a4), some (.int a5), some (.int (0 : Int32)), none, none]) dX4_tryFrom_84 (by decide) rfl ?_
            refine t_X4_tryFrom_L86 (rc := f_X4_tryFrom n) (fun q => ih (d := d - 1) (by omega) q) hD  6000 a0 a1 a2 a3 a4 a5 (0 : Int32) h H
          · rw [if_neg c57] at H
            refine ev_aload_n dX4_tryFrom_36 rfl rfl rfl ?_
            refine ev_iload dX4_tryFrom_37 rfl ?_
            replace H := vl_some H
            obtain ⟨h58, eh58, H⟩ := H
            refine ev_putI dX4_tryFrom_39 fdX4_43 rfl rfl rfl (okOb.p g1) eh58 ?_
            refine ev_aload_n dX4_tryFrom_42 rfl rfl rfl ?_
            refine ev_iload dX4_tryFrom_43 rfl ?_
            replace H := vl_some H
            obtain ⟨h59, eh59, H⟩ := H
            refine ev_putI dX4_tryFrom_45 fdX4_46 rfl rfl rfl (okO_sI eh58 (okOb.p g1)) eh59 ?_
            refine ev_aload_n dX4_tryFrom_48 rfl rfl rfl ?_
            replace H := vl_some H
            obtain ⟨r60, er60, H⟩ := H
            refine ev_getRx dX4_tryFrom_49 fgX4_21 rfl (okO_sI eh59 (okO_sI eh58 (okOb.p g1))) er60 ?_
            refine ev_iconst (v := (0 : Int32)) dX4_tryFrom_52 (by decide) ?_
            refine ev_aload_n dX4_tryFrom_53 rfl rfl rfl ?_
            replace H := vl_some H
            obtain ⟨r61, er61, H⟩ := H
            refine ev_getRx dX4_tryFrom_54 fgX4_27 rfl (okO_sI eh59 (okO_sI eh58 (okOb.p g1))) er61 ?_
            refine ev_iconst (v := (0 : Int32)) dX4_tryFrom_57 (by decide) ?_
            refine ev_aload_n dX4_tryFrom_58 rfl rfl rfl ?_
            replace H := vl_some H
            obtain ⟨x62, ex62, H⟩ := H
            refine ev_getIx dX4_tryFrom_59 fgX4_33 rfl (okO_sI eh59 (okO_sI eh58 (okOb.p g1))) ex62 ?_
            replace H := un_some H
            obtain ⟨b63, eb63, H⟩ := H
            subst eb63
            replace H := un_some H
            obtain ⟨b64, eb64, H⟩ := H
            subst eb64
            replace H := gd_some H
            obtain ⟨g65, H⟩ := H
            replace H := vl_some H
            obtain ⟨h66, eh66, H⟩ := H
            refine ev_copy dX4_tryFrom_62 k4_114 k2_108 k2_107 k1_12 (by omega) (Nat.le_of_ble_eq_true rfl) (okC.p g65).1 (okC.p g65).2.1 (okC.p g65).2.2 eh66 ?_
            refine ev_aload_n dX4_tryFrom_65 rfl rfl rfl ?_
            replace H := vl_some H
            obtain ⟨r67, er67, H⟩ := H
            refine ev_getRx dX4_tryFrom_66 fgX4_24 rfl (okO_sW eh66 (okO_sI eh59 (okO_sI eh58 (okOb.p g1)))) er67 ?_
            refine ev_iconst (v := (0 : Int32)) dX4_tryFrom_69 (by decide) ?_
            refine ev_aload_n dX4_tryFrom_70 rfl rfl rfl ?_
            replace H := vl_some H
            obtain ⟨r68, er68, H⟩ := H
            refine ev_getRx dX4_tryFrom_71 fgX4_30 rfl (okO_sW eh66 (okO_sI eh59 (okO_sI eh58 (okOb.p g1)))) er68 ?_
            refine ev_iconst (v := (0 : Int32)) dX4_tryFrom_74 (by decide) ?_
            refine ev_aload_n dX4_tryFrom_75 rfl rfl rfl ?_
            replace H := vl_some H
            obtain ⟨x69, ex69, H⟩ := H
            refine ev_getIx dX4_tryFrom_76 fgX4_33 rfl (okO_sW eh66 (okO_sI eh59 (okO_sI eh58 (okOb.p g1)))) ex69 ?_
            replace H := un_some H
            obtain ⟨b70, eb70, H⟩ := H
            subst eb70
            replace H := un_some H
            obtain ⟨b71, eb71, H⟩ := H
            subst eb71
            replace H := gd_some H
            obtain ⟨g72, H⟩ := H
            replace H := vl_some H
            obtain ⟨h73, eh73, H⟩ := H
            refine ev_copy dX4_tryFrom_79 k4_114 k2_108 k2_107 k1_12 (by omega) (Nat.le_of_ble_eq_true rfl) (okC.p g72).1 (okC.p g72).2.1 (okC.p g72).2.2 eh73 ?_
            exact ev_vretx dX4_tryFrom_82 rfl H
        · rw [if_neg c55] at H
          exact ev_vretx dX4_tryFrom_27 rfl H

theorem dX4_findPlan_0 : decode cX4_findPlan 0 = .ok (.aload_n 0, 1) := by decide +kernel
theorem dX4_findPlan_1 : decode cX4_findPlan 1 = .ok (.getfield 37, 3) := by decide +kernel
theorem dX4_findPlan_4 : decode cX4_findPlan 4 = .ok (.aload_n 0, 1) := by decide +kernel
theorem dX4_findPlan_5 : decode cX4_findPlan 5 = .ok (.getfield 33, 3) := by decide +kernel
theorem dX4_findPlan_8 : decode cX4_findPlan 8 = .ok (.if_icmp .eq 32, 3) := by decide +kernel
theorem dX4_findPlan_11 : decode cX4_findPlan 11 = .ok (.aload_n 0, 1) := by decide +kernel
theorem dX4_findPlan_12 : decode cX4_findPlan 12 = .ok (.ldc 42, 2) := by decide +kernel
theorem dX4_findPlan_14 : decode cX4_findPlan 14 = .ok (.putfield 43, 3) := by decide +kernel
theorem dX4_findPlan_17 : decode cX4_findPlan 17 = .ok (.aload_n 0, 1) := by decide +kernel
theorem dX4_findPlan_18 : decode cX4_findPlan 18 = .ok (.ldc 42, 2) := by decide +kernel
theorem dX4_findPlan_20 : decode cX4_findPlan 20 = .ok (.putfield 46, 3) := by decide +kernel
theorem dX4_findPlan_23 : decode cX4_findPlan 23 = .ok (.aload_n 0, 1) := by decide +kernel
theorem dX4_findPlan_24 : decode cX4_findPlan 24 = .ok (.iconst 0, 1) := by decide +kernel
theorem dX4_findPlan_25 : decode cX4_findPlan 25 = .ok (.iconst 0, 1) := by decide +kernel
theorem dX4_findPlan_26 : decode cX4_findPlan 26 = .ok (.iconst 0, 1) := by decide +kernel
theorem dX4_findPlan_27 : decode cX4_findPlan 27 = .ok (.iconst 0, 1) := by decide +kernel
theorem dX4_findPlan_28 : decode cX4_findPlan 28 = .ok (.iconst 0, 1) := by decide +kernel
theorem dX4_findPlan_29 : decode cX4_findPlan 29 = .ok (.invokevirtual 49, 3) := by decide +kernel
theorem dX4_findPlan_32 : decode cX4_findPlan 32 = .ok (.aload_n 0, 1) := by decide +kernel
theorem dX4_findPlan_33 : decode cX4_findPlan 33 = .ok (.aload_n 0, 1) := by decide +kernel
theorem dX4_findPlan_34 : decode cX4_findPlan 34 = .ok (.getfield 33, 3) := by decide +kernel
theorem dX4_findPlan_37 : decode cX4_findPlan 37 = .ok (.putfield 37, 3) := by decide +kernel
theorem dX4_findPlan_40 : decode cX4_findPlan 40 = .ok (.aload_n 0, 1) := by decide +kernel
theorem dX4_findPlan_41 : decode cX4_findPlan 41 = .ok (.getfield 43, 3) := by decide +kernel
theorem dX4_findPlan_44 : decode cX4_findPlan 44 = .ok (.ireturn, 1) := by decide +kernel
def f_X4_findPlan (h : Hp) (a0 : Nat) : Option (Int32 × Hp) :=
gd (okOb h a0 4) <|
vl (gI h a0 8) fun x2 =>
vl (gI h a0 3) fun x3 =>
if x2 = x3 then (
vl (gI h a0 9) fun x5 =>
some (x5, h)) else (
vl (sI h a0 9 (2147483647 : Int32)) fun h6 =>
vl (sI h6 a0 10 (2147483647 : Int32)) fun h7 =>
bnd (f_X4_tryFrom 9 h7 a0 (0 : Int32) (0 : Int32) (0 : Int32) (0 : Int32) (0 : Int32)) fun u8 h9 =>
vl (gI h9 a0 3) fun x10 =>
vl (sI h9 a0 8 x10) fun h11 =>
vl (gI h11 a0 9) fun x12 =>
some (x12, h11))
set_option maxHeartbeats 4000000 in
set_option maxRecDepth 100000 in
theorem t_X4_findPlan {X : Cx} {d : Nat} {h : Hp} {a0 : Nat} {v : Int32} {h' : Hp} (hD : 11 ≤ d) (H : f_X4_findPlan h a0 = some (v, h')) : PM X mX4_findPlan d [.ref a0] h (some (.int v)) h' := by
  unfold f_X4_findPlan at H
  refine PM.of (loc := [some (.ref a0)]) (by decide) rfl (Nat.le_of_ble_eq_true rfl) ?_
  refine ev_aload_n dX4_findPlan_0 rfl rfl rfl ?_
  replace H := gd_some H
  obtain ⟨g1, H⟩ := H
  replace H := vl_some H
  obtain ⟨x2, ex2, H⟩ := H
  refine ev_getIx dX4_findPlan_1 fgX4_37 rfl (okOb.p g1) ex2 ?_
  refine ev_aload_n dX4_findPlan_4 rfl rfl rfl ?_
  replace H := vl_some H
  obtain ⟨x3, ex3, H⟩ := H
  refine ev_getIx dX4_findPlan_5 fgX4_33 rfl (okOb.p g1) ex3 ?_
  refine ev_icmp_eq (tgt := 40) dX4_findPlan_8 (by decide) (fun c4 => ?_) (fun c4 => ?_)
  · rw [if_pos c4] at H
    refine ev_aload_n dX4_findPlan_40 rfl rfl rfl ?_
    replace H := vl_some H
    obtain ⟨x5, ex5, H⟩ := H
    refine ev_getIx dX4_findPlan_41 fgX4_43 rfl (okOb.p g1) ex5 ?_
    exact ev_iretx dX4_findPlan_44 rfl rfl H
  · rw [if_neg c4] at H
    refine ev_aload_n dX4_findPlan_11 rfl rfl rfl ?_
    refine ev_ldc (v := (2147483647 : Int32)) dX4_findPlan_12 k4_109 ?_
    replace H := vl_some H
    obtain ⟨h6, eh6, H⟩ := H
    refine ev_putI dX4_findPlan_14 fdX4_43 rfl rfl rfl (okOb.p g1) eh6 ?_
    refine ev_aload_n dX4_findPlan_17 rfl rfl rfl ?_
    refine ev_ldc (v := (2147483647 : Int32)) dX4_findPlan_18 k4_109 ?_
    replace H := vl_some H
    obtain ⟨h7, eh7, H⟩ := H
    refine ev_putI dX4_findPlan_20 fdX4_46 rfl rfl rfl (okO_sI eh6 (okOb.p g1)) eh7 ?_
    refine ev_aload_n dX4_findPlan_23 rfl rfl rfl ?_
    refine ev_iconst (v := (0 : Int32)) dX4_findPlan_24 (by decide) ?_
    refine ev_iconst (v := (0 : Int32)) dX4_findPlan_25 (by decide) ?_
    refine ev_iconst (v := (0 : Int32)) dX4_findPlan_26 (by decide) ?_
    refine ev_iconst (v := (0 : Int32)) dX4_findPlan_27 (by decide) ?_
    refine ev_iconst (v := (0 : Int32)) dX4_findPlan_28 (by decide) ?_
    replace H := bnd_some H
    obtain ⟨u8, h9, eh9, H⟩ := H
    have ph9 := (t_X4_tryFrom (X := X) (d := 10) 9 (by omega) eh9)
    refine ev_callV (as := [.int (0 : Int32), .int (0 : Int32), .int (0 : Int32), .int (0 : Int32), .int (0 : Int32)]) dX4_findPlan_29 ph9 ok_X4_tryFrom (by omega) rfl k4_110 k4_112 ks_21 (ci := 4) (by decide) rfl rfl (okO_sI eh7 (okO_sI eh6 (okOb.p g1))) rfl (Nat.le_of_ble_eq_true rfl) ?_
    refine ev_aload_n dX4_findPlan_32 rfl rfl rfl ?_
    refine ev_aload_n dX4_findPlan_33 rfl rfl rfl ?_
    replace H := vl_some H
    obtain ⟨x10, ex10, H⟩ := H
    refine ev_getIx dX4_findPlan_34 fgX4_33 rfl (okO_ext ph9.1 (okO_sI eh7 (okO_sI eh6 (okOb.p g1)))) ex10 ?_
    replace H := vl_some H
    obtain ⟨h11, eh11, H⟩ := H
    refine ev_putI dX4_findPlan_37 fdX4_37 rfl rfl rfl (okO_ext ph9.1 (okO_sI eh7 (okO_sI eh6 (okOb.p g1)))) eh11 ?_
    refine ev_aload_n dX4_findPlan_40 rfl rfl rfl ?_
    replace H := vl_some H
    obtain ⟨x12, ex12, H⟩ := H
    refine ev_getIx dX4_findPlan_41 fgX4_43 rfl (okO_sI eh11 (okO_ext ph9.1 (okO_sI eh7 (okO_sI eh6 (okOb.p g1))))) ex12 ?_
    exact ev_iretx dX4_findPlan_44 rfl rfl H
