theorem dX9_isLetter_0 : decode cX9_isLetter 0 = .ok (.iload_n 0, 1) := by decide +kernel
theorem dX9_isLetter_1 : decode cX9_isLetter 1 = .ok (.ifCond .lt 13, 3) := by decide +kernel
theorem dX9_isLetter_4 : decode cX9_isLetter 4 = .ok (.iload_n 0, 1) := by decide +kernel
theorem dX9_isLetter_5 : decode cX9_isLetter 5 = .ok (.bipush 26, 2) := by decide +kernel
theorem dX9_isLetter_7 : decode cX9_isLetter 7 = .ok (.if_icmp .ge 7, 3) := by decide +kernel
theorem dX9_isLetter_10 : decode cX9_isLetter 10 = .ok (.iconst 1, 1) := by decide +kernel
theorem dX9_isLetter_11 : decode cX9_isLetter 11 = .ok (.goto 4, 3) := by decide +kernel
theorem dX9_isLetter_14 : decode cX9_isLetter 14 = .ok (.iconst 0, 1) := by decide +kernel
theorem dX9_isLetter_15 : decode cX9_isLetter 15 = .ok (.ireturn, 1) := by decide +kernel
def f_X9_isLetter (h : Hp) (a0 : Int32) : Option (Int32 × Hp) :=
if a0 < 0 then (
some ((0 : Int32), h)) else (
if (26 : Int32) ≤ a0 then (
some ((0 : Int32), h)) else (
some ((1 : Int32), h)))
set_option maxHeartbeats 4000000 in
set_option maxRecDepth 100000 in
theorem t_X9_isLetter {X : Cx} {d : Nat} {h : Hp} {a0 : Int32} {v : Int32} {h' : Hp} (hD : 1 ≤ d) (H : f_X9_isLetter h a0 = some (v, h')) : PM X mX9_isLetter d [.int a0] h (some (.int v)) h' := by
  unfold f_X9_isLetter at H
  refine PM.of (loc := [some (.int a0)]) (by decide) rfl (Nat.le_of_ble_eq_true rfl) ?_
  refine ev_iload_n dX9_isLetter_0 rfl rfl ?_
  refine ev_if_lt (tgt := 14) dX9_isLetter_1 (by decide) (fun c1 => ?_) (fun c1 => ?_)
  · rw [if_pos c1] at H
    refine ev_iconst (v := (0 : Int32)) dX9_isLetter_14 (by decide) ?_
    exact ev_iretx dX9_isLetter_15 rfl rfl H
  · rw [if_neg c1] at H
    refine ev_iload_n dX9_isLetter_4 rfl rfl ?_
    refine ev_bipush (v := (26 : Int32)) dX9_isLetter_5 (by decide) ?_
    refine ev_icmp_ge (tgt := 14) dX9_isLetter_7 (by decide) (fun c2 => ?_) (fun c2 => ?_)
    · rw [if_pos c2] at H
      refine ev_iconst (v := (0 : Int32)) dX9_isLetter_14 (by decide) ?_
      exact ev_iretx dX9_isLetter_15 rfl rfl H
    · rw [if_neg c2] at H
      refine ev_iconst (v := (1 : Int32)) dX9_isLetter_10 (by decide) ?_
      refine ev_goto (tgt := 15) dX9_isLetter_11 (by decide) ?_
      exact ev_iretx dX9_isLetter_15 rfl rfl H

theorem dX2_isImposed_0 : decode cX2_isImposed 0 = .ok (.aload_n 0, 1) := by decide +kernel
theorem dX2_isImposed_1 : decode cX2_isImposed 1 = .ok (.getfield 9, 3) := by decide +kernel
theorem dX2_isImposed_4 : decode cX2_isImposed 4 = .ok (.iconst (-1), 1) := by decide +kernel
theorem dX2_isImposed_5 : decode cX2_isImposed 5 = .ok (.if_icmp .eq 7, 3) := by decide +kernel
theorem dX2_isImposed_8 : decode cX2_isImposed 8 = .ok (.iconst 1, 1) := by decide +kernel
theorem dX2_isImposed_9 : decode cX2_isImposed 9 = .ok (.goto 4, 3) := by decide +kernel
theorem dX2_isImposed_12 : decode cX2_isImposed 12 = .ok (.iconst 0, 1) := by decide +kernel
theorem dX2_isImposed_13 : decode cX2_isImposed 13 = .ok (.ireturn, 1) := by decide +kernel
def f_X2_isImposed (h : Hp) (a0 : Nat) : Option (Int32 × Hp) :=
gd (okOb h a0 2) <|
vl (gI h a0 2) fun x2 =>
if x2 = (-1 : Int32) then (
some ((0 : Int32), h)) else (
some ((1 : Int32), h))
set_option maxHeartbeats 4000000 in
set_option maxRecDepth 100000 in
theorem t_X2_isImposed {X : Cx} {d : Nat} {h : Hp} {a0 : Nat} {v : Int32} {h' : Hp} (hD : 1 ≤ d) (H : f_X2_isImposed h a0 = some (v, h')) : PM X mX2_isImposed d [.ref a0] h (some (.int v)) h' := by
  unfold f_X2_isImposed at H
  refine PM.of (loc := [some (.ref a0)]) (by decide) rfl (Nat.le_of_ble_eq_true rfl) ?_
  refine ev_aload_n dX2_isImposed_0 rfl rfl rfl ?_
  replace H := gd_some H
  obtain ⟨g1, H⟩ := H
  replace H := vl_some H
  obtain ⟨x2, ex2, H⟩ := H
  refine ev_getIx dX2_isImposed_1 fgX2_9 rfl (okOb.p g1) ex2 ?_
  refine ev_iconst (v := (-1 : Int32)) dX2_isImposed_4 (by decide) ?_
  refine ev_icmp_eq (tgt := 12) dX2_isImposed_5 (by decide) (fun c3 => ?_) (fun c3 => ?_)
  · rw [if_pos c3] at H
    refine ev_iconst (v := (0 : Int32)) dX2_isImposed_12 (by decide) ?_
    exact ev_iretx dX2_isImposed_13 rfl rfl H
  · rw [if_neg c3] at H
    refine ev_iconst (v := (1 : Int32)) dX2_isImposed_8 (by decide) ?_
    refine ev_goto (tgt := 13) dX2_isImposed_9 (by decide) ?_
    exact ev_iretx dX2_isImposed_13 rfl rfl H

theorem dX2_noteChange_0 : decode cX2_noteChange 0 = .ok (.aload_n 0, 1) := by decide +kernel
theorem dX2_noteChange_1 : decode cX2_noteChange 1 = .ok (.getfield 18, 3) := by decide +kernel
theorem dX2_noteChange_4 : decode cX2_noteChange 4 = .ok (.aload_n 0, 1) := by decide +kernel
theorem dX2_noteChange_5 : decode cX2_noteChange 5 = .ok (.getfield 50, 3) := by decide +kernel
theorem dX2_noteChange_8 : decode cX2_noteChange 8 = .ok (.iload_n 1, 1) := by decide +kernel
theorem dX2_noteChange_9 : decode cX2_noteChange 9 = .ok (.iastore, 1) := by decide +kernel
theorem dX2_noteChange_10 : decode cX2_noteChange 10 = .ok (.aload_n 0, 1) := by decide +kernel
theorem dX2_noteChange_11 : decode cX2_noteChange 11 = .ok (.getfield 22, 3) := by decide +kernel
theorem dX2_noteChange_14 : decode cX2_noteChange 14 = .ok (.aload_n 0, 1) := by decide +kernel
theorem dX2_noteChange_15 : decode cX2_noteChange 15 = .ok (.getfield 50, 3) := by decide +kernel
theorem dX2_noteChange_18 : decode cX2_noteChange 18 = .ok (.iload_n 2, 1) := by decide +kernel
theorem dX2_noteChange_19 : decode cX2_noteChange 19 = .ok (.iastore, 1) := by decide +kernel
theorem dX2_noteChange_20 : decode cX2_noteChange 20 = .ok (.aload_n 0, 1) := by decide +kernel
theorem dX2_noteChange_21 : decode cX2_noteChange 21 = .ok (.getfield 25, 3) := by decide +kernel
theorem dX2_noteChange_24 : decode cX2_noteChange 24 = .ok (.aload_n 0, 1) := by decide +kernel
theorem dX2_noteChange_25 : decode cX2_noteChange 25 = .ok (.getfield 50, 3) := by decide +kernel
theorem dX2_noteChange_28 : decode cX2_noteChange 28 = .ok (.iload_n 3, 1) := by decide +kernel
theorem dX2_noteChange_29 : decode cX2_noteChange 29 = .ok (.iastore, 1) := by decide +kernel
theorem dX2_noteChange_30 : decode cX2_noteChange 30 = .ok (.aload_n 0, 1) := by decide +kernel
theorem dX2_noteChange_31 : decode cX2_noteChange 31 = .ok (.dup, 1) := by decide +kernel
theorem dX2_noteChange_32 : decode cX2_noteChange 32 = .ok (.getfield 50, 3) := by decide +kernel
theorem dX2_noteChange_35 : decode cX2_noteChange 35 = .ok (.iconst 1, 1) := by decide +kernel
theorem dX2_noteChange_36 : decode cX2_noteChange 36 = .ok (.iadd, 1) := by decide +kernel
theorem dX2_noteChange_37 : decode cX2_noteChange 37 = .ok (.putfield 50, 3) := by decide +kernel
theorem dX2_noteChange_40 : decode cX2_noteChange 40 = .ok (.return_, 1) := by decide +kernel
def f_X2_noteChange (h : Hp) (a0 : Nat) (a1 : Int32) (a2 : Int32) (a3 : Int32) : Option (Unit × Hp) :=
gd (okOb h a0 2) <|
vl (gR h a0 7) fun r2 =>
vl (gI h a0 4) fun x3 =>
un r2 fun b4 =>
gd (okAb h b4 11 x3) <|
vl (sI h b4 x3.toNatClampNeg a1) fun h6 =>
vl (gR h6 a0 8) fun r7 =>
vl (gI h6 a0 4) fun x8 =>
un r7 fun b9 =>
gd (okAb h6 b9 11 x8) <|
vl (sI h6 b9 x8.toNatClampNeg a2) fun h11 =>
vl (gR h11 a0 9) fun r12 =>
vl (gI h11 a0 4) fun x13 =>
un r12 fun b14 =>
gd (okAb h11 b14 11 x13) <|
vl (sI h11 b14 x13.toNatClampNeg a3) fun h16 =>
vl (gI h16 a0 4) fun x17 =>
vl (sI h16 a0 4 (x17 + (1 : Int32))) fun h18 =>
some ((), h18)
set_option maxHeartbeats 4000000 in
set_option maxRecDepth 100000 in
theorem t_X2_noteChange {X : Cx} {d : Nat} {h : Hp} {a0 : Nat} {a1 : Int32} {a2 : Int32} {a3 : Int32} {v : Unit} {h' : Hp} (hD : 1 ≤ d) (H : f_X2_noteChange h a0 a1 a2 a3 = some (v, h')) : PM X mX2_noteChange d [.ref a0, .int a1, .int a2, .int a3] h (none) h' := by
  unfold f_X2_noteChange at H
  refine PM.of (loc := [some (.ref a0), some (.int a1), some (.int a2), some (.int a3)]) (by decide) rfl (Nat.le_of_ble_eq_true rfl) ?_
  refine ev_aload_n dX2_noteChange_0 rfl rfl rfl ?_
  replace H := gd_some H
  obtain ⟨g1, H⟩ := H
  replace H := vl_some H
  obtain ⟨r2, er2, H⟩ := H
  refine ev_getRx dX2_noteChange_1 fgX2_18 rfl (okOb.p g1) er2 ?_
  refine ev_aload_n dX2_noteChange_4 rfl rfl rfl ?_
  replace H := vl_some H
  obtain ⟨x3, ex3, H⟩ := H
  refine ev_getIx dX2_noteChange_5 fgX2_50 rfl (okOb.p g1) ex3 ?_
  refine ev_iload_n dX2_noteChange_8 rfl rfl ?_
  replace H := un_some H
  obtain ⟨b4, eb4, H⟩ := H
  subst eb4
  replace H := gd_some H
  obtain ⟨g5, H⟩ := H
  replace H := vl_some H
  obtain ⟨h6, eh6, H⟩ := H
  refine ev_iast dX2_noteChange_9 (okAb.p g5) eh6 ?_
  refine ev_aload_n dX2_noteChange_10 rfl rfl rfl ?_
  replace H := vl_some H
  obtain ⟨r7, er7, H⟩ := H
  refine ev_getRx dX2_noteChange_11 fgX2_22 rfl (okO_sI eh6 (okOb.p g1)) er7 ?_
  refine ev_aload_n dX2_noteChange_14 rfl rfl rfl ?_
  replace H := vl_some H
  obtain ⟨x8, ex8, H⟩ := H
  refine ev_getIx dX2_noteChange_15 fgX2_50 rfl (okO_sI eh6 (okOb.p g1)) ex8 ?_
  refine ev_iload_n dX2_noteChange_18 rfl rfl ?_
  replace H := un_some H
  obtain ⟨b9, eb9, H⟩ := H
  subst eb9
  replace H := gd_some H
  obtain ⟨g10, H⟩ := H
  replace H := vl_some H
  obtain ⟨h11, eh11, H⟩ := H
  refine ev_iast dX2_noteChange_19 (okAb.p g10) eh11 ?_
  refine ev_aload_n dX2_noteChange_20 rfl rfl rfl ?_
  replace H := vl_some H
  obtain ⟨r12, er12, H⟩ := H
  refine ev_getRx dX2_noteChange_21 fgX2_25 rfl (okO_sI eh11 (okO_sI eh6 (okOb.p g1))) er12 ?_
  refine ev_aload_n dX2_noteChange_24 rfl rfl rfl ?_
  replace H := vl_some H
  obtain ⟨x13, ex13, H⟩ := H
  refine ev_getIx dX2_noteChange_25 fgX2_50 rfl (okO_sI eh11 (okO_sI eh6 (okOb.p g1))) ex13 ?_
  refine ev_iload_n dX2_noteChange_28 rfl rfl ?_
  replace H := un_some H
  obtain ⟨b14, eb14, H⟩ := H
  subst eb14
  replace H := gd_some H
  obtain ⟨g15, H⟩ := H
  replace H := vl_some H
  obtain ⟨h16, eh16, H⟩ := H
  refine ev_iast dX2_noteChange_29 (okAb.p g15) eh16 ?_
  refine ev_aload_n dX2_noteChange_30 rfl rfl rfl ?_
  refine ev_dup dX2_noteChange_31 rfl ?_
  replace H := vl_some H
  obtain ⟨x17, ex17, H⟩ := H
  refine ev_getIx dX2_noteChange_32 fgX2_50 rfl (okO_sI eh16 (okO_sI eh11 (okO_sI eh6 (okOb.p g1)))) ex17 ?_
  refine ev_iconst (v := (1 : Int32)) dX2_noteChange_35 (by decide) ?_
  refine ev_iadd dX2_noteChange_36 ?_
  replace H := vl_some H
  obtain ⟨h18, eh18, H⟩ := H
  refine ev_putI dX2_noteChange_37 fdX2_50 rfl rfl rfl (okO_sI eh16 (okO_sI eh11 (okO_sI eh6 (okOb.p g1)))) eh18 ?_
  exact ev_vretx dX2_noteChange_40 rfl H

theorem dX2_init_0 : decode cX2_init 0 = .ok (.aload_n 0, 1) := by decide +kernel
theorem dX2_init_1 : decode cX2_init 1 = .ok (.invokespecial 3, 3) := by decide +kernel
theorem dX2_init_4 : decode cX2_init 4 = .ok (.aload_n 0, 1) := by decide +kernel
theorem dX2_init_5 : decode cX2_init 5 = .ok (.iconst (-1), 1) := by decide +kernel
theorem dX2_init_6 : decode cX2_init 6 = .ok (.putfield 9, 3) := by decide +kernel
theorem dX2_init_9 : decode cX2_init 9 = .ok (.aload_n 0, 1) := by decide +kernel
theorem dX2_init_10 : decode cX2_init 10 = .ok (.iconst (-1), 1) := by decide +kernel
theorem dX2_init_11 : decode cX2_init 11 = .ok (.putfield 15, 3) := by decide +kernel
theorem dX2_init_14 : decode cX2_init 14 = .ok (.aload_n 0, 1) := by decide +kernel
theorem dX2_init_15 : decode cX2_init 15 = .ok (.bipush 30, 2) := by decide +kernel
theorem dX2_init_17 : decode cX2_init 17 = .ok (.newarray .int, 2) := by decide +kernel
theorem dX2_init_19 : decode cX2_init 19 = .ok (.putfield 18, 3) := by decide +kernel
theorem dX2_init_22 : decode cX2_init 22 = .ok (.aload_n 0, 1) := by decide +kernel
theorem dX2_init_23 : decode cX2_init 23 = .ok (.bipush 30, 2) := by decide +kernel
theorem dX2_init_25 : decode cX2_init 25 = .ok (.newarray .int, 2) := by decide +kernel
theorem dX2_init_27 : decode cX2_init 27 = .ok (.putfield 22, 3) := by decide +kernel
theorem dX2_init_30 : decode cX2_init 30 = .ok (.aload_n 0, 1) := by decide +kernel
theorem dX2_init_31 : decode cX2_init 31 = .ok (.bipush 30, 2) := by decide +kernel
theorem dX2_init_33 : decode cX2_init 33 = .ok (.newarray .int, 2) := by decide +kernel
theorem dX2_init_35 : decode cX2_init 35 = .ok (.putfield 25, 3) := by decide +kernel
theorem dX2_init_38 : decode cX2_init 38 = .ok (.aload_n 0, 1) := by decide +kernel
theorem dX2_init_39 : decode cX2_init 39 = .ok (.iload_n 1, 1) := by decide +kernel
theorem dX2_init_40 : decode cX2_init 40 = .ok (.anewarray 28, 3) := by decide +kernel
theorem dX2_init_43 : decode cX2_init 43 = .ok (.putfield 30, 3) := by decide +kernel
theorem dX2_init_46 : decode cX2_init 46 = .ok (.aload_n 0, 1) := by decide +kernel
theorem dX2_init_47 : decode cX2_init 47 = .ok (.iload_n 2, 1) := by decide +kernel
theorem dX2_init_48 : decode cX2_init 48 = .ok (.newarray .int, 2) := by decide +kernel
theorem dX2_init_50 : decode cX2_init 50 = .ok (.putfield 34, 3) := by decide +kernel
theorem dX2_init_53 : decode cX2_init 53 = .ok (.aload_n 0, 1) := by decide +kernel
theorem dX2_init_54 : decode cX2_init 54 = .ok (.getfield 34, 3) := by decide +kernel
theorem dX2_init_57 : decode cX2_init 57 = .ok (.iconst (-1), 1) := by decide +kernel
theorem dX2_init_58 : decode cX2_init 58 = .ok (.invokestatic 37, 3) := by decide +kernel
theorem dX2_init_61 : decode cX2_init 61 = .ok (.return_, 1) := by decide +kernel
def f_X2_init (h : Hp) (a0 : Nat) (a1 : Int32) (a2 : Int32) : Option (Unit × Hp) :=
gd (okOb h a0 2) <|
vl (sI h a0 2 (-1 : Int32)) fun h2 =>
vl (sI h2 a0 6 (-1 : Int32)) fun h3 =>
vl (gN h3) fun b4 =>
vl (nw h3 11 (30 : Int32).toNatClampNeg (30 : Int32).toNatClampNeg) fun h5 =>
vl (sR h5 a0 7 (some b4)) fun h6 =>
vl (gN h6) fun b7 =>
vl (nw h6 11 (30 : Int32).toNatClampNeg (30 : Int32).toNatClampNeg) fun h8 =>
vl (sR h8 a0 8 (some b7)) fun h9 =>
vl (gN h9) fun b10 =>
vl (nw h9 11 (30 : Int32).toNatClampNeg (30 : Int32).toNatClampNeg) fun h11 =>
vl (sR h11 a0 9 (some b10)) fun h12 =>
gd (okN a1) <|
vl (gN h12) fun b14 =>
vl (nw h12 14 a1.toNatClampNeg a1.toNatClampNeg) fun h15 =>
vl (sR h15 a0 0 (some b14)) fun h16 =>
gd (okN a2) <|
vl (gN h16) fun b18 =>
vl (nw h16 11 a2.toNatClampNeg a2.toNatClampNeg) fun h19 =>
vl (sR h19 a0 1 (some b18)) fun h20 =>
vl (gR h20 a0 1) fun r21 =>
un r21 fun b22 =>
bnd (f_J7_fill_53178 h20 b22 (-1 : Int32)) fun u23 h24 =>
some ((), h24)
set_option maxHeartbeats 4000000 in
set_option maxRecDepth 100000 in
theorem t_X2_init {X : Cx} {d : Nat} {h : Hp} {a0 : Nat} {a1 : Int32} {a2 : Int32} {v : Unit} {h' : Hp} (hD : 2 ≤ d) (H : f_X2_init h a0 a1 a2 = some (v, h')) : PM X mX2_init d [.ref a0, .int a1, .int a2] h (none) h' := by
  unfold f_X2_init at H
  refine PM.of (loc := [some (.ref a0), some (.int a1), some (.int a2)]) (by decide) rfl (Nat.le_of_ble_eq_true rfl) ?_
  refine ev_aload_n dX2_init_0 rfl rfl rfl ?_
  refine ev_obj dX2_init_1 ⟨_, rfl⟩ k2_174 k1_26 k1_27 (by omega) (Nat.le_of_ble_eq_true rfl) ?_
  refine ev_aload_n dX2_init_4 rfl rfl rfl ?_
  refine ev_iconst (v := (-1 : Int32)) dX2_init_5 (by decide) ?_
  replace H := gd_some H
  obtain ⟨g1, H⟩ := H
  replace H := vl_some H
  obtain ⟨h2, eh2, H⟩ := H
  refine ev_putI dX2_init_6 fdX2_9 rfl rfl rfl (okOb.p g1) eh2 ?_
  refine ev_aload_n dX2_init_9 rfl rfl rfl ?_
  refine ev_iconst (v := (-1 : Int32)) dX2_init_10 (by decide) ?_
  replace H := vl_some H
  obtain ⟨h3, eh3, H⟩ := H
  refine ev_putI dX2_init_11 fdX2_15 rfl rfl rfl (okO_sI eh2 (okOb.p g1)) eh3 ?_
  refine ev_aload_n dX2_init_14 rfl rfl rfl ?_
  refine ev_bipush (v := (30 : Int32)) dX2_init_15 (by decide) ?_
  replace H := vl_some H
  obtain ⟨b4, eb4, H⟩ := H
  replace H := vl_some H
  obtain ⟨h5, eh5, H⟩ := H
  refine ev_newaIx dX2_init_17 k1_44 (okN.p (by decide)) rfl eb4 eh5 ?_
  replace H := vl_some H
  obtain ⟨h6, eh6, H⟩ := H
  refine ev_putRF (x := (some b4)) dX2_init_19 fdX2_18 rfl (Or.inr ⟨_, rfl⟩) rfl (okO_nw eh5 (okO_sI eh3 (okO_sI eh2 (okOb.p g1)))) eh6 ?_
  refine ev_aload_n dX2_init_22 rfl rfl rfl ?_
  refine ev_bipush (v := (30 : Int32)) dX2_init_23 (by decide) ?_
  replace H := vl_some H
  obtain ⟨b7, eb7, H⟩ := H
  replace H := vl_some H
  obtain ⟨h8, eh8, H⟩ := H
  refine ev_newaIx dX2_init_25 k1_44 (okN.p (by decide)) rfl eb7 eh8 ?_
  replace H := vl_some H
  obtain ⟨h9, eh9, H⟩ := H
  refine ev_putRF (x := (some b7)) dX2_init_27 fdX2_22 rfl (Or.inr ⟨_, rfl⟩) rfl (okO_nw eh8 (okO_sR eh6 (okO_nw eh5 (okO_sI eh3 (okO_sI eh2 (okOb.p g1)))))) eh9 ?_
  refine ev_aload_n dX2_init_30 rfl rfl rfl ?_
  refine ev_bipush (v := (30 : Int32)) dX2_init_31 (by decide) ?_
  replace H := vl_some H
  obtain ⟨b10, eb10, H⟩ := H
  replace H := vl_some H
  obtain ⟨h11, eh11, H⟩ := H
  refine ev_newaIx dX2_init_33 k1_44 (okN.p (by decide)) rfl eb10 eh11 ?_
  replace H := vl_some H
  obtain ⟨h12, eh12, H⟩ := H
  refine ev_putRF (x := (some b10)) dX2_init_35 fdX2_25 rfl (Or.inr ⟨_, rfl⟩) rfl (okO_nw eh11 (okO_sR eh9 (okO_nw eh8 (okO_sR eh6 (okO_nw eh5 (okO_sI eh3 (okO_sI eh2 (okOb.p g1)))))))) eh12 ?_
  refine ev_aload_n dX2_init_38 rfl rfl rfl ?_
  refine ev_iload_n dX2_init_39 rfl rfl ?_
  replace H := gd_some H
  obtain ⟨g13, H⟩ := H
  replace H := vl_some H
  obtain ⟨b14, eb14, H⟩ := H
  replace H := vl_some H
  obtain ⟨h15, eh15, H⟩ := H
  refine ev_newaRx (kd := 14) (t0 := 3) dX2_init_40 (by decide) k2_175 (by decide) (fun _ => rfl) (okN.p g13) rfl eb14 eh15 ?_
  replace H := vl_some H
  obtain ⟨h16, eh16, H⟩ := H
  refine ev_putRF (x := (some b14)) dX2_init_43 fdX2_30 rfl (Or.inr ⟨_, rfl⟩) rfl (okO_nw eh15 (okO_sR eh12 (okO_nw eh11 (okO_sR eh9 (okO_nw eh8 (okO_sR eh6 (okO_nw eh5 (okO_sI eh3 (okO_sI eh2 (okOb.p g1)))))))))) eh16 ?_
  refine ev_aload_n dX2_init_46 rfl rfl rfl ?_
  refine ev_iload_n dX2_init_47 rfl rfl ?_
  replace H := gd_some H
  obtain ⟨g17, H⟩ := H
  replace H := vl_some H
  obtain ⟨b18, eb18, H⟩ := H
  replace H := vl_some H
  obtain ⟨h19, eh19, H⟩ := H
  refine ev_newaIx dX2_init_48 k1_44 (okN.p g17) rfl eb18 eh19 ?_
  replace H := vl_some H
  obtain ⟨h20, eh20, H⟩ := H
  refine ev_putRF (x := (some b18)) dX2_init_50 fdX2_34 rfl (Or.inr ⟨_, rfl⟩) rfl (okO_nw eh19 (okO_sR eh16 (okO_nw eh15 (okO_sR eh12 (okO_nw eh11 (okO_sR eh9 (okO_nw eh8 (okO_sR eh6 (okO_nw eh5 (okO_sI eh3 (okO_sI eh2 (okOb.p g1)))))))))))) eh20 ?_
  refine ev_aload_n dX2_init_53 rfl rfl rfl ?_
  replace H := vl_some H
  obtain ⟨r21, er21, H⟩ := H
  refine ev_getRx dX2_init_54 fgX2_34 rfl (okO_sR eh20 (okO_nw eh19 (okO_sR eh16 (okO_nw eh15 (okO_sR eh12 (okO_nw eh11 (okO_sR eh9 (okO_nw eh8 (okO_sR eh6 (okO_nw eh5 (okO_sI eh3 (okO_sI eh2 (okOb.p g1))))))))))))) er21 ?_
  refine ev_iconst (v := (-1 : Int32)) dX2_init_57 (by decide) ?_
  replace H := un_some H
  obtain ⟨b22, eb22, H⟩ := H
  subst eb22
  replace H := bnd_some H
  obtain ⟨u23, h24, eh24, H⟩ := H
  have ph24 := (t_J7_fill_53178 (X := X) (d := 1) (by omega) eh24)
  refine ev_callS (as := [.ref b22, .int (-1 : Int32)]) dX2_init_58 ph24 ok_J7_fill_53178 (by omega) rfl k2_176 k1_78 rfl (Nat.le_of_ble_eq_true rfl) ?_
  exact ev_vretx dX2_init_61 rfl H

theorem dX2_allPagesSet_0 : decode cX2_allPagesSet 0 = .ok (.iconst 0, 1) := by decide +kernel
theorem dX2_allPagesSet_1 : decode cX2_allPagesSet 1 = .ok (.istore_n 1, 1) := by decide +kernel
theorem dX2_allPagesSet_2 : decode cX2_allPagesSet 2 = .ok (.iload_n 1, 1) := by decide +kernel
theorem dX2_allPagesSet_3 : decode cX2_allPagesSet 3 = .ok (.aload_n 0, 1) := by decide +kernel
theorem dX2_allPagesSet_4 : decode cX2_allPagesSet 4 = .ok (.getfield 30, 3) := by decide +kernel
theorem dX2_allPagesSet_7 : decode cX2_allPagesSet 7 = .ok (.arraylength, 1) := by decide +kernel
theorem dX2_allPagesSet_8 : decode cX2_allPagesSet 8 = .ok (.if_icmp .ge 23, 3) := by decide +kernel
theorem dX2_allPagesSet_11 : decode cX2_allPagesSet 11 = .ok (.aload_n 0, 1) := by decide +kernel
theorem dX2_allPagesSet_12 : decode cX2_allPagesSet 12 = .ok (.getfield 30, 3) := by decide +kernel
theorem dX2_allPagesSet_15 : decode cX2_allPagesSet 15 = .ok (.iload_n 1, 1) := by decide +kernel
theorem dX2_allPagesSet_16 : decode cX2_allPagesSet 16 = .ok (.aaload, 1) := by decide +kernel
theorem dX2_allPagesSet_17 : decode cX2_allPagesSet 17 = .ok (.getfield 46, 3) := by decide +kernel
theorem dX2_allPagesSet_20 : decode cX2_allPagesSet 20 = .ok (.ifCond .ne 5, 3) := by decide +kernel
theorem dX2_allPagesSet_23 : decode cX2_allPagesSet 23 = .ok (.iconst 0, 1) := by decide +kernel
theorem dX2_allPagesSet_24 : decode cX2_allPagesSet 24 = .ok (.ireturn, 1) := by decide +kernel
theorem dX2_allPagesSet_25 : decode cX2_allPagesSet 25 = .ok (.iinc 1 1, 3) := by decide +kernel
theorem dX2_allPagesSet_28 : decode cX2_allPagesSet 28 = .ok (.goto (-26), 3) := by decide +kernel
theorem dX2_allPagesSet_31 : decode cX2_allPagesSet 31 = .ok (.iconst 1, 1) := by decide +kernel
theorem dX2_allPagesSet_32 : decode cX2_allPagesSet 32 = .ok (.ireturn, 1) := by decide +kernel
def f_X2_allPagesSet_L2 : Nat → Nat → Int32 → Hp → Option (Int32 × Hp)
  | 0, _, _, _ => none
  | n + 1, l0, l1, h =>
    gd (okOb h l0 2) <|
    vl (gR h l0 0) fun r2 =>
    un r2 fun b3 =>
    gd (okOb h b3 14) <|
    if (Int32.ofNat (gL h b3)) ≤ l1 then (
    some ((1 : Int32), h)) else (
    vl (gR h l0 0) fun r6 =>
    un r6 fun b7 =>
    gd (okAb h b7 14 l1) <|
    vl (gR h b7 l1.toNatClampNeg) fun r9 =>
    un r9 fun b10 =>
    gd (okOb h b10 6) <|
    vl (gI h b10 5) fun x12 =>
    if x12 = 0 then (
    some ((0 : Int32), h)) else (
    vl (l1 + (1 : Int32)) fun x14 =>
    f_X2_allPagesSet_L2 n l0 x14 h))
set_option maxHeartbeats 4000000 in
set_option maxRecDepth 100000 in
theorem t_X2_allPagesSet_L2 {X : Cx} {d : Nat} {h0 h' : Hp} {v : Int32} (hD : 1 ≤ d) : ∀ (n : Nat) (l0 : Nat) (l1 : Int32) (h : Hp), f_X2_allPagesSet_L2 n l0 l1 h = some (v, h') → EV X mX2_allPagesSet d h0 (some (.int v)) h' 2 [some (.ref l0), some (.int l1)] [] h := by
  intro n
  induction n with
  | zero => intro l0 l1 h H; simp [f_X2_allPagesSet_L2] at H
  | succ n ih =>
    intro l0 l1 h H
    rw [f_X2_allPagesSet_L2] at H
    refine ev_iload_n dX2_allPagesSet_2 rfl rfl ?_
    refine ev_aload_n dX2_allPagesSet_3 rfl rfl rfl ?_
    replace H := gd_some H
    obtain ⟨g1, H⟩ := H
    replace H := vl_some H
    obtain ⟨r2, er2, H⟩ := H
    refine ev_getRx dX2_allPagesSet_4 fgX2_30 rfl (okOb.p g1) er2 ?_
    replace H := un_some H
    obtain ⟨b3, eb3, H⟩ := H
    subst eb3
    replace H := gd_some H
    obtain ⟨g4, H⟩ := H
    refine ev_alen (kd := 14) (t0 := 3) dX2_allPagesSet_7 (by decide) (fun _ => rfl) (okOb.p g4) ?_
    refine ev_icmp_ge (tgt := 31) dX2_allPagesSet_8 (by decide) (fun c5 => ?_) (fun c5 => ?_)
    · rw [if_pos c5] at H
      refine ev_iconst (v := (1 : Int32)) dX2_allPagesSet_31 (by decide) ?_
      exact ev_iretx dX2_allPagesSet_32 rfl rfl H
    · rw [if_neg c5] at H
      refine ev_aload_n dX2_allPagesSet_11 rfl rfl rfl ?_
      replace H := vl_some H
      obtain ⟨r6, er6, H⟩ := H
      refine ev_getRx dX2_allPagesSet_12 fgX2_30 rfl (okOb.p g1) er6 ?_
      refine ev_iload_n dX2_allPagesSet_15 rfl rfl ?_
      replace H := un_some H
      obtain ⟨b7, eb7, H⟩ := H
      subst eb7
      replace H := gd_some H
      obtain ⟨g8, H⟩ := H
      replace H := vl_some H
      obtain ⟨r9, er9, H⟩ := H
      refine ev_aaldx (kd := 14) (t0 := 3) dX2_allPagesSet_16 (by decide) (fun _ => rfl) (okAb.p g8) er9 ?_
      replace H := un_some H
      obtain ⟨b10, eb10, H⟩ := H
      subst eb10
      replace H := gd_some H
      obtain ⟨g11, H⟩ := H
      replace H := vl_some H
      obtain ⟨x12, ex12, H⟩ := H
      refine ev_getIx dX2_allPagesSet_17 fgX2_46 rfl (okOb.p g11) ex12 ?_
      refine ev_if_ne (tgt := 25) dX2_allPagesSet_20 (by decide) (fun c13 => ?_) (fun c13 => ?_)
      · rw [if_neg c13] at H
        replace H := vl_some H
        obtain ⟨x14, ex14, H⟩ := H
        refine ev_iincx (loc2 := [some (.ref l0), some (.int x14)]) dX2_allPagesSet_25 rfl (by decide) ex14 (by decide) rfl ?_
        refine ev_goto (tgt := 2) dX2_allPagesSet_28 (by decide) ?_
        exact ih l0 x14 h H
      · rw [if_pos c13] at H
        refine ev_iconst (v := (0 : Int32)) dX2_allPagesSet_23 (by decide) ?_
        exact ev_iretx dX2_allPagesSet_24 rfl rfl H
def f_X2_allPagesSet (h : Hp) (a0 : Nat) : Option (Int32 × Hp) :=
f_X2_allPagesSet_L2 6000 a0 (0 : Int32) h
set_option maxHeartbeats 4000000 in
set_option maxRecDepth 100000 in
theorem t_X2_allPagesSet {X : Cx} {d : Nat} {h : Hp} {a0 : Nat} {v : Int32} {h' : Hp} (hD : 1 ≤ d) (H : f_X2_allPagesSet h a0 = some (v, h')) : PM X mX2_allPagesSet d [.ref a0] h (some (.int v)) h' := by
  unfold f_X2_allPagesSet at H
  refine PM.of (loc := [some (.ref a0), none]) (by decide) rfl (Nat.le_of_ble_eq_true rfl) ?_
  refine ev_iconst (v := (0 : Int32)) dX2_allPagesSet_0 (by decide) ?_
  refine ev_istore_n (loc2 := [some (.ref a0), some (.int (0 : Int32))]) dX2_allPagesSet_1 rfl (by decide) rfl ?_
  refine t_X2_allPagesSet_L2 hD  6000 a0 (0 : Int32) h H

theorem dX2_hasAll_0 : decode cX2_hasAll 0 = .ok (.aload_n 0, 1) := by decide +kernel
theorem dX2_hasAll_1 : decode cX2_hasAll 1 = .ok (.getfield 43, 3) := by decide +kernel
theorem dX2_hasAll_4 : decode cX2_hasAll 4 = .ok (.aload_n 0, 1) := by decide +kernel
theorem dX2_hasAll_5 : decode cX2_hasAll 5 = .ok (.getfield 34, 3) := by decide +kernel
theorem dX2_hasAll_8 : decode cX2_hasAll 8 = .ok (.arraylength, 1) := by decide +kernel
theorem dX2_hasAll_9 : decode cX2_hasAll 9 = .ok (.if_icmp .ne 7, 3) := by decide +kernel
theorem dX2_hasAll_12 : decode cX2_hasAll 12 = .ok (.iconst 1, 1) := by decide +kernel
theorem dX2_hasAll_13 : decode cX2_hasAll 13 = .ok (.goto 4, 3) := by decide +kernel
theorem dX2_hasAll_16 : decode cX2_hasAll 16 = .ok (.iconst 0, 1) := by decide +kernel
theorem dX2_hasAll_17 : decode cX2_hasAll 17 = .ok (.ireturn, 1) := by decide +kernel
def f_X2_hasAll (h : Hp) (a0 : Nat) : Option (Int32 × Hp) :=
gd (okOb h a0 2) <|
vl (gI h a0 3) fun x2 =>
vl (gR h a0 1) fun r3 =>
un r3 fun b4 =>
gd (okOb h b4 11) <|
if x2 = (Int32.ofNat (gL h b4)) then (
some ((1 : Int32), h)) else (
some ((0 : Int32), h))
set_option maxHeartbeats 4000000 in
set_option maxRecDepth 100000 in
theorem t_X2_hasAll {X : Cx} {d : Nat} {h : Hp} {a0 : Nat} {v : Int32} {h' : Hp} (hD : 1 ≤ d) (H : f_X2_hasAll h a0 = some (v, h')) : PM X mX2_hasAll d [.ref a0] h (some (.int v)) h' := by
  unfold f_X2_hasAll at H
  refine PM.of (loc := [some (.ref a0)]) (by decide) rfl (Nat.le_of_ble_eq_true rfl) ?_
  refine ev_aload_n dX2_hasAll_0 rfl rfl rfl ?_
  replace H := gd_some H
  obtain ⟨g1, H⟩ := H
  replace H := vl_some H
  obtain ⟨x2, ex2, H⟩ := H
  refine ev_getIx dX2_hasAll_1 fgX2_43 rfl (okOb.p g1) ex2 ?_
  refine ev_aload_n dX2_hasAll_4 rfl rfl rfl ?_
  replace H := vl_some H
  obtain ⟨r3, er3, H⟩ := H
  refine ev_getRx dX2_hasAll_5 fgX2_34 rfl (okOb.p g1) er3 ?_
  replace H := un_some H
  obtain ⟨b4, eb4, H⟩ := H
  subst eb4
  replace H := gd_some H
  obtain ⟨g5, H⟩ := H
  refine ev_alen (kd := 11) (t0 := 0) dX2_hasAll_8 (by decide) (fun _ => rfl) (okOb.p g5) ?_
  refine ev_icmp_ne (tgt := 16) dX2_hasAll_9 (by decide) (fun c6 => ?_) (fun c6 => ?_)
  · rw [if_neg c6] at H
    refine ev_iconst (v := (0 : Int32)) dX2_hasAll_16 (by decide) ?_
    exact ev_iretx dX2_hasAll_17 rfl rfl H
  · rw [if_pos c6] at H
    refine ev_iconst (v := (1 : Int32)) dX2_hasAll_12 (by decide) ?_
    refine ev_goto (tgt := 17) dX2_hasAll_13 (by decide) ?_
    exact ev_iretx dX2_hasAll_17 rfl rfl H

theorem dX2_keepWhatStands_0 : decode cX2_keepWhatStands 0 = .ok (.iconst 0, 1) := by decide +kernel
theorem dX2_keepWhatStands_1 : decode cX2_keepWhatStands 1 = .ok (.istore_n 1, 1) := by decide +kernel
theorem dX2_keepWhatStands_2 : decode cX2_keepWhatStands 2 = .ok (.iload_n 1, 1) := by decide +kernel
theorem dX2_keepWhatStands_3 : decode cX2_keepWhatStands 3 = .ok (.aload_n 0, 1) := by decide +kernel
theorem dX2_keepWhatStands_4 : decode cX2_keepWhatStands 4 = .ok (.getfield 30, 3) := by decide +kernel
theorem dX2_keepWhatStands_7 : decode cX2_keepWhatStands 7 = .ok (.arraylength, 1) := by decide +kernel
theorem dX2_keepWhatStands_8 : decode cX2_keepWhatStands 8 = .ok (.if_icmp .ge 42, 3) := by decide +kernel
theorem dX2_keepWhatStands_11 : decode cX2_keepWhatStands 11 = .ok (.aload_n 0, 1) := by decide +kernel
theorem dX2_keepWhatStands_12 : decode cX2_keepWhatStands 12 = .ok (.getfield 30, 3) := by decide +kernel
theorem dX2_keepWhatStands_15 : decode cX2_keepWhatStands 15 = .ok (.iload_n 1, 1) := by decide +kernel
theorem dX2_keepWhatStands_16 : decode cX2_keepWhatStands 16 = .ok (.aaload, 1) := by decide +kernel
theorem dX2_keepWhatStands_17 : decode cX2_keepWhatStands 17 = .ok (.getfield 59, 3) := by decide +kernel
theorem dX2_keepWhatStands_20 : decode cX2_keepWhatStands 20 = .ok (.iconst 0, 1) := by decide +kernel
theorem dX2_keepWhatStands_21 : decode cX2_keepWhatStands 21 = .ok (.aload_n 0, 1) := by decide +kernel
theorem dX2_keepWhatStands_22 : decode cX2_keepWhatStands 22 = .ok (.getfield 30, 3) := by decide +kernel
theorem dX2_keepWhatStands_25 : decode cX2_keepWhatStands 25 = .ok (.iload_n 1, 1) := by decide +kernel
theorem dX2_keepWhatStands_26 : decode cX2_keepWhatStands 26 = .ok (.aaload, 1) := by decide +kernel
theorem dX2_keepWhatStands_27 : decode cX2_keepWhatStands 27 = .ok (.getfield 62, 3) := by decide +kernel
theorem dX2_keepWhatStands_30 : decode cX2_keepWhatStands 30 = .ok (.iconst 0, 1) := by decide +kernel
theorem dX2_keepWhatStands_31 : decode cX2_keepWhatStands 31 = .ok (.aload_n 0, 1) := by decide +kernel
theorem dX2_keepWhatStands_32 : decode cX2_keepWhatStands 32 = .ok (.getfield 30, 3) := by decide +kernel
theorem dX2_keepWhatStands_35 : decode cX2_keepWhatStands 35 = .ok (.iload_n 1, 1) := by decide +kernel
theorem dX2_keepWhatStands_36 : decode cX2_keepWhatStands 36 = .ok (.aaload, 1) := by decide +kernel
theorem dX2_keepWhatStands_37 : decode cX2_keepWhatStands 37 = .ok (.getfield 62, 3) := by decide +kernel
theorem dX2_keepWhatStands_40 : decode cX2_keepWhatStands 40 = .ok (.arraylength, 1) := by decide +kernel
theorem dX2_keepWhatStands_41 : decode cX2_keepWhatStands 41 = .ok (.invokestatic 65, 3) := by decide +kernel
theorem dX2_keepWhatStands_44 : decode cX2_keepWhatStands 44 = .ok (.iinc 1 1, 3) := by decide +kernel
theorem dX2_keepWhatStands_47 : decode cX2_keepWhatStands 47 = .ok (.goto (-45), 3) := by decide +kernel
theorem dX2_keepWhatStands_50 : decode cX2_keepWhatStands 50 = .ok (.return_, 1) := by decide +kernel
def f_X2_keepWhatStands_L2 : Nat → Nat → Int32 → Hp → Option (Unit × Hp)
  | 0, _, _, _ => none
  | n + 1, l0, l1, h =>
    gd (okOb h l0 2) <|
    vl (gR h l0 0) fun r2 =>
    un r2 fun b3 =>
    gd (okOb h b3 14) <|
    if (Int32.ofNat (gL h b3)) ≤ l1 then (
    some ((), h)) else (
    vl (gR h l0 0) fun r6 =>
    un r6 fun b7 =>
    gd (okAb h b7 14 l1) <|
    vl (gR h b7 l1.toNatClampNeg) fun r9 =>
    un r9 fun b10 =>
    gd (okOb h b10 6) <|
    vl (gR h b10 2) fun r12 =>
    vl (gR h l0 0) fun r13 =>
    un r13 fun b14 =>
    gd (okAb h b14 14 l1) <|
    vl (gR h b14 l1.toNatClampNeg) fun r16 =>
    un r16 fun b17 =>
    gd (okOb h b17 6) <|
    vl (gR h b17 3) fun r19 =>
    vl (gR h l0 0) fun r20 =>
    un r20 fun b21 =>
    gd (okAb h b21 14 l1) <|
    vl (gR h b21 l1.toNatClampNeg) fun r23 =>
    un r23 fun b24 =>
    gd (okOb h b24 6) <|
    vl (gR h b24 3) fun r26 =>
    un r26 fun b27 =>
    gd (okOb h b27 11) <|
    un r19 fun b29 =>
    un r12 fun b30 =>
    gd (okC h b30 b29 (0 : Int32) (0 : Int32) (Int32.ofNat (gL h b27))) <|
    vl (sW h b29 (va_cpy (gI h b30) (gI h b29) (0 : Int32).toNatClampNeg (0 : Int32).toNatClampNeg (Int32.ofNat (gL h b27)).toNatClampNeg)) fun h32 =>
    vl (l1 + (1 : Int32)) fun x33 =>
    f_X2_keepWhatStands_L2 n l0 x33 h32)
set_option maxHeartbeats 4000000 in
set_option maxRecDepth 100000 in
theorem t_X2_keepWhatStands_L2 {X : Cx} {d : Nat} {h0 h' : Hp} {v : Unit} (hD : 1 ≤ d) : ∀ (n : Nat) (l0 : Nat) (l1 : Int32) (h : Hp), f_X2_keepWhatStands_L2 n l0 l1 h = some (v, h') → EV X mX2_keepWhatStands d h0 (none) h' 2 [some (.ref l0), some (.int l1)] [] h := by
  intro n
  induction n with
  | zero => intro l0 l1 h H; simp [f_X2_keepWhatStands_L2] at H
  | succ n ih =>
    intro l0 l1 h H
    rw [f_X2_keepWhatStands_L2] at H
    refine ev_iload_n dX2_keepWhatStands_2 rfl rfl ?_
    refine ev_aload_n dX2_keepWhatStands_3 rfl rfl rfl ?_
    replace H := gd_some H
    obtain ⟨g1, H⟩ := H
    replace H := vl_some H
    obtain ⟨r2, er2, H⟩ := H
    refine ev_getRx dX2_keepWhatStands_4 fgX2_30 rfl (okOb.p g1) er2 ?_
    replace H := un_some H
    obtain ⟨b3, eb3, H⟩ := H
    subst eb3
    replace H := gd_some H
    obtain ⟨g4, H⟩ := H
    refine ev_alen (kd := 14) (t0 := 3) dX2_keepWhatStands_7 (by decide) (fun _ => rfl) (okOb.p g4) ?_
    refine ev_icmp_ge (tgt := 50) dX2_keepWhatStands_8 (by decide) (fun c5 => ?_) (fun c5 => ?_)
    · rw [if_pos c5] at H
      exact ev_vretx dX2_keepWhatStands_50 rfl H
    · rw [if_neg c5] at H
      refine ev_aload_n dX2_keepWhatStands_11 rfl rfl rfl ?_
      replace H := vl_some H
      obtain ⟨r6, er6, H⟩ := H
      refine ev_getRx dX2_keepWhatStands_12 fgX2_30 rfl (okOb.p g1) er6 ?_
      refine ev_iload_n dX2_keepWhatStands_15 rfl rfl ?_
      replace H := un_some H
      obtain ⟨b7, eb7, H⟩ := H
      subst eb7
      replace H := gd_some H
      obtain ⟨g8, H⟩ := H
      replace H := vl_some H
      obtain ⟨r9, er9, H⟩ := H
      refine ev_aaldx (kd := 14) (t0 := 3) dX2_keepWhatStands_16 (by decide) (fun _ => rfl) (okAb.p g8) er9 ?_
      replace H := un_some H
      obtain ⟨b10, eb10, H⟩ := H
      subst eb10
      replace H := gd_some H
      obtain ⟨g11, H⟩ := H
      replace H := vl_some H
      obtain ⟨r12, er12, H⟩ := H
      refine ev_getRx dX2_keepWhatStands_17 fgX2_59 rfl (okOb.p g11) er12 ?_
      refine ev_iconst (v := (0 : Int32)) dX2_keepWhatStands_20 (by decide) ?_
      refine ev_aload_n dX2_keepWhatStands_21 rfl rfl rfl ?_
      replace H := vl_some H
      obtain ⟨r13, er13, H⟩ := H
      refine ev_getRx dX2_keepWhatStands_22 fgX2_30 rfl (okOb.p g1) er13 ?_
      refine ev_iload_n dX2_keepWhatStands_25 rfl rfl ?_
      replace H := un_some H
      obtain ⟨b14, eb14, H⟩ := H
      subst eb14
      replace H := gd_some H
      obtain ⟨g15, H⟩ := H
      replace H := vl_some H
      obtain ⟨r16, er16, H⟩ := H
      refine ev_aaldx (kd := 14) (t0 := 3) dX2_keepWhatStands_26 (by decide) (fun _ => rfl) (okAb.p g15) er16 ?_
      replace H := un_some H
      obtain ⟨b17, eb17, H⟩ := H
      subst eb17
      replace H := gd_some H
      obtain ⟨g18, H⟩ := H
      replace H := vl_some H
      obtain ⟨r19, er19, H⟩ := H
      refine ev_getRx dX2_keepWhatStands_27 fgX2_62 rfl (okOb.p g18) er19 ?_
      refine ev_iconst (v := (0 : Int32)) dX2_keepWhatStands_30 (by decide) ?_
      refine ev_aload_n dX2_keepWhatStands_31 rfl rfl rfl ?_
      replace H := vl_some H
      obtain ⟨r20, er20, H⟩ := H
      refine ev_getRx dX2_keepWhatStands_32 fgX2_30 rfl (okOb.p g1) er20 ?_
      refine ev_iload_n dX2_keepWhatStands_35 rfl rfl ?_
      replace H := un_some H
      obtain ⟨b21, eb21, H⟩ := H
      subst eb21
      replace H := gd_some H
      obtain ⟨g22, H⟩ := H
      replace H := vl_some H
      obtain ⟨r23, er23, H⟩ := H
      refine ev_aaldx (kd := 14) (t0 := 3) dX2_keepWhatStands_36 (by decide) (fun _ => rfl) (okAb.p g22) er23 ?_
      replace H := un_some H
      obtain ⟨b24, eb24, H⟩ := H
      subst eb24
      replace H := gd_some H
      obtain ⟨g25, H⟩ := H
      replace H := vl_some H
      obtain ⟨r26, er26, H⟩ := H
      refine ev_getRx dX2_keepWhatStands_37 fgX2_62 rfl (okOb.p g25) er26 ?_
      replace H := un_some H
      obtain ⟨b27, eb27, H⟩ := H
      subst eb27
      replace H := gd_some H
      obtain ⟨g28, H⟩ := H
      refine ev_alen (kd := 11) (t0 := 0) dX2_keepWhatStands_40 (by decide) (fun _ => rfl) (okOb.p g28) ?_
      replace H := un_some H
      obtain ⟨b29, eb29, H⟩ := H
      subst eb29
      replace H := un_some H
      obtain ⟨b30, eb30, H⟩ := H
      subst eb30
      replace H := gd_some H
      obtain ⟨g31, H⟩ := H
      replace H := vl_some H
      obtain ⟨h32, eh32, H⟩ := H
      refine ev_copy dX2_keepWhatStands_41 k3_81 k2_108 k2_107 k1_12 (by omega) (Nat.le_of_ble_eq_true rfl) (okC.p g31).1 (okC.p g31).2.1 (okC.p g31).2.2 eh32 ?_
      replace H := vl_some H
      obtain ⟨x33, ex33, H⟩ := H
      refine ev_iincx (loc2 := [some (.ref l0), some (.int x33)]) dX2_keepWhatStands_44 rfl (by decide) ex33 (by decide) rfl ?_
      refine ev_goto (tgt := 2) dX2_keepWhatStands_47 (by decide) ?_
      exact ih l0 x33 h32 H
def f_X2_keepWhatStands (h : Hp) (a0 : Nat) : Option (Unit × Hp) :=
f_X2_keepWhatStands_L2 6000 a0 (0 : Int32) h
set_option maxHeartbeats 4000000 in
set_option maxRecDepth 100000 in
theorem t_X2_keepWhatStands {X : Cx} {d : Nat} {h : Hp} {a0 : Nat} {v : Unit} {h' : Hp} (hD : 1 ≤ d) (H : f_X2_keepWhatStands h a0 = some (v, h')) : PM X mX2_keepWhatStands d [.ref a0] h (none) h' := by
  unfold f_X2_keepWhatStands at H
  refine PM.of (loc := [some (.ref a0), none]) (by decide) rfl (Nat.le_of_ble_eq_true rfl) ?_
  refine ev_iconst (v := (0 : Int32)) dX2_keepWhatStands_0 (by decide) ?_
  refine ev_istore_n (loc2 := [some (.ref a0), some (.int (0 : Int32))]) dX2_keepWhatStands_1 rfl (by decide) rfl ?_
  refine t_X2_keepWhatStands_L2 hD  6000 a0 (0 : Int32) h H

theorem dX2_impress_0 : decode cX2_impress 0 = .ok (.aload_n 0, 1) := by decide +kernel
theorem dX2_impress_1 : decode cX2_impress 1 = .ok (.getfield 43, 3) := by decide +kernel
theorem dX2_impress_4 : decode cX2_impress 4 = .ok (.ifCond .ne 7, 3) := by decide +kernel
theorem dX2_impress_7 : decode cX2_impress 7 = .ok (.aload_n 0, 1) := by decide +kernel
theorem dX2_impress_8 : decode cX2_impress 8 = .ok (.invokevirtual 53, 3) := by decide +kernel
theorem dX2_impress_11 : decode cX2_impress 11 = .ok (.aload_n 0, 1) := by decide +kernel
theorem dX2_impress_12 : decode cX2_impress 12 = .ok (.getfield 15, 3) := by decide +kernel
theorem dX2_impress_15 : decode cX2_impress 15 = .ok (.aload_n 0, 1) := by decide +kernel
theorem dX2_impress_16 : decode cX2_impress 16 = .ok (.getfield 50, 3) := by decide +kernel
theorem dX2_impress_19 : decode cX2_impress 19 = .ok (.if_icmp .eq 21, 3) := by decide +kernel
theorem dX2_impress_22 : decode cX2_impress 22 = .ok (.aload_n 0, 1) := by decide +kernel
theorem dX2_impress_23 : decode cX2_impress 23 = .ok (.aload_n 0, 1) := by decide +kernel
theorem dX2_impress_24 : decode cX2_impress 24 = .ok (.getfield 50, 3) := by decide +kernel
theorem dX2_impress_27 : decode cX2_impress 27 = .ok (.putfield 15, 3) := by decide +kernel
theorem dX2_impress_30 : decode cX2_impress 30 = .ok (.aload_n 0, 1) := by decide +kernel
theorem dX2_impress_31 : decode cX2_impress 31 = .ok (.dup, 1) := by decide +kernel
theorem dX2_impress_32 : decode cX2_impress 32 = .ok (.getfield 56, 3) := by decide +kernel
theorem dX2_impress_35 : decode cX2_impress 35 = .ok (.iconst 1, 1) := by decide +kernel
theorem dX2_impress_36 : decode cX2_impress 36 = .ok (.iadd, 1) := by decide +kernel
theorem dX2_impress_37 : decode cX2_impress 37 = .ok (.putfield 56, 3) := by decide +kernel
theorem dX2_impress_40 : decode cX2_impress 40 = .ok (.aload_n 0, 1) := by decide +kernel
theorem dX2_impress_41 : decode cX2_impress 41 = .ok (.getfield 34, 3) := by decide +kernel
theorem dX2_impress_44 : decode cX2_impress 44 = .ok (.iload_n 1, 1) := by decide +kernel
theorem dX2_impress_45 : decode cX2_impress 45 = .ok (.aload_n 0, 1) := by decide +kernel
theorem dX2_impress_46 : decode cX2_impress 46 = .ok (.getfield 50, 3) := by decide +kernel
theorem dX2_impress_49 : decode cX2_impress 49 = .ok (.iastore, 1) := by decide +kernel
theorem dX2_impress_50 : decode cX2_impress 50 = .ok (.aload_n 0, 1) := by decide +kernel
theorem dX2_impress_51 : decode cX2_impress 51 = .ok (.dup, 1) := by decide +kernel
theorem dX2_impress_52 : decode cX2_impress 52 = .ok (.getfield 43, 3) := by decide +kernel
theorem dX2_impress_55 : decode cX2_impress 55 = .ok (.iconst 1, 1) := by decide +kernel
theorem dX2_impress_56 : decode cX2_impress 56 = .ok (.iadd, 1) := by decide +kernel
theorem dX2_impress_57 : decode cX2_impress 57 = .ok (.putfield 43, 3) := by decide +kernel
theorem dX2_impress_60 : decode cX2_impress 60 = .ok (.return_, 1) := by decide +kernel
def f_X2_impress_J40 (l0 : Nat) (l1 : Int32) (h : Hp) : Option (Unit × Hp) :=
gd (okOb h l0 2) <|
vl (gR h l0 1) fun r9 =>
vl (gI h l0 4) fun x10 =>
un r9 fun b11 =>
gd (okAb h b11 11 l1) <|
vl (sI h b11 l1.toNatClampNeg x10) fun h13 =>
vl (gI h13 l0 3) fun x14 =>
vl (sI h13 l0 3 (x14 + (1 : Int32))) fun h15 =>
some ((), h15)
set_option maxHeartbeats 4000000 in
set_option maxRecDepth 100000 in
theorem t_X2_impress_J40 {X : Cx} {d : Nat} {h0 h' : Hp} {v : Unit} (hD : 2 ≤ d) : ∀ (l0 : Nat) (l1 : Int32) (h : Hp), f_X2_impress_J40 l0 l1 h = some (v, h') → EV X mX2_impress d h0 (none) h' 40 [some (.ref l0), some (.int l1)] [] h := by
  intro l0 l1 h H
  unfold f_X2_impress_J40 at H
  refine ev_aload_n dX2_impress_40 rfl rfl rfl ?_
  replace H := gd_some H
  obtain ⟨g8, H⟩ := H
  replace H := vl_some H
  obtain ⟨r9, er9, H⟩ := H
  refine ev_getRx dX2_impress_41 fgX2_34 rfl (okOb.p g8) er9 ?_
  refine ev_iload_n dX2_impress_44 rfl rfl ?_
  refine ev_aload_n dX2_impress_45 rfl rfl rfl ?_
  replace H := vl_some H
  obtain ⟨x10, ex10, H⟩ := H
  refine ev_getIx dX2_impress_46 fgX2_50 rfl (okOb.p g8) ex10 ?_
  replace H := un_some H
  obtain ⟨b11, eb11, H⟩ := H
  subst eb11
  replace H := gd_some H
  obtain ⟨g12, H⟩ := H
  replace H := vl_some H
  obtain ⟨h13, eh13, H⟩ := H
  refine ev_iast dX2_impress_49 (okAb.p g12) eh13 ?_
  refine ev_aload_n dX2_impress_50 rfl rfl rfl ?_
  refine ev_dup dX2_impress_51 rfl ?_
  replace H := vl_some H
  obtain ⟨x14, ex14, H⟩ := H
  refine ev_getIx dX2_impress_52 fgX2_43 rfl (okO_sI eh13 (okOb.p g8)) ex14 ?_
  refine ev_iconst (v := (1 : Int32)) dX2_impress_55 (by decide) ?_
  refine ev_iadd dX2_impress_56 ?_
  replace H := vl_some H
  obtain ⟨h15, eh15, H⟩ := H
  refine ev_putI dX2_impress_57 fdX2_43 rfl rfl rfl (okO_sI eh13 (okOb.p g8)) eh15 ?_
  exact ev_vretx dX2_impress_60 rfl H
def f_X2_impress_J11 (l0 : Nat) (l1 : Int32) (h : Hp) : Option (Unit × Hp) :=
gd (okOb h l0 2) <|
vl (gI h l0 6) fun x5 =>
vl (gI h l0 4) fun x6 =>
if x5 = x6 then (
f_X2_impress_J40 l0 l1 h) else (
vl (gI h l0 4) fun x16 =>
vl (sI h l0 6 x16) fun h17 =>
vl (gI h17 l0 5) fun x18 =>
vl (sI h17 l0 5 (x18 + (1 : Int32))) fun h19 =>
f_X2_impress_J40 l0 l1 h19)
set_option maxHeartbeats 4000000 in
set_option maxRecDepth 100000 in
theorem t_X2_impress_J11 {X : Cx} {d : Nat} {h0 h' : Hp} {v : Unit} (hD : 2 ≤ d) : ∀ (l0 : Nat) (l1 : Int32) (h : Hp), f_X2_impress_J11 l0 l1 h = some (v, h') → EV X mX2_impress d h0 (none) h' 11 [some (.ref l0), some (.int l1)] [] h := by
  intro l0 l1 h H
  unfold f_X2_impress_J11 at H
  refine ev_aload_n dX2_impress_11 rfl rfl rfl ?_
  replace H := gd_some H
  obtain ⟨g4, H⟩ := H
  replace H := vl_some H
  obtain ⟨x5, ex5, H⟩ := H
  refine ev_getIx dX2_impress_12 fgX2_15 rfl (okOb.p g4) ex5 ?_
  refine ev_aload_n dX2_impress_15 rfl rfl rfl ?_
  replace H := vl_some H
  obtain ⟨x6, ex6, H⟩ := H
  refine ev_getIx dX2_impress_16 fgX2_50 rfl (okOb.p g4) ex6 ?_
  refine ev_icmp_eq (tgt := 40) dX2_impress_19 (by decide) (fun c7 => ?_) (fun c7 => ?_)
  · rw [if_pos c7] at H
    exact t_X2_impress_J40 hD l0 l1 h H
  · rw [if_neg c7] at H
    refine ev_aload_n dX2_impress_22 rfl rfl rfl ?_
    refine ev_aload_n dX2_impress_23 rfl rfl rfl ?_
    replace H := vl_some H
    obtain ⟨x16, ex16, H⟩ := H
    refine ev_getIx dX2_impress_24 fgX2_50 rfl (okOb.p g4) ex16 ?_
    replace H := vl_some H
    obtain ⟨h17, eh17, H⟩ := H
    refine ev_putI dX2_impress_27 fdX2_15 rfl rfl rfl (okOb.p g4) eh17 ?_
    refine ev_aload_n dX2_impress_30 rfl rfl rfl ?_
    refine ev_dup dX2_impress_31 rfl ?_
    replace H := vl_some H
    obtain ⟨x18, ex18, H⟩ := H
    refine ev_getIx dX2_impress_32 fgX2_56 rfl (okO_sI eh17 (okOb.p g4)) ex18 ?_
    refine ev_iconst (v := (1 : Int32)) dX2_impress_35 (by decide) ?_
    refine ev_iadd dX2_impress_36 ?_
    replace H := vl_some H
    obtain ⟨h19, eh19, H⟩ := H
    refine ev_putI dX2_impress_37 fdX2_56 rfl rfl rfl (okO_sI eh17 (okOb.p g4)) eh19 ?_
    exact t_X2_impress_J40 hD l0 l1 h19 H
def f_X2_impress (h : Hp) (a0 : Nat) (a1 : Int32) : Option (Unit × Hp) :=
gd (okOb h a0 2) <|
vl (gI h a0 3) fun x2 =>
if x2 = 0 then (
bnd (f_X2_keepWhatStands h a0) fun u20 h21 =>
f_X2_impress_J11 a0 a1 h21) else (
f_X2_impress_J11 a0 a1 h)
set_option maxHeartbeats 4000000 in
set_option maxRecDepth 100000 in
theorem t_X2_impress {X : Cx} {d : Nat} {h : Hp} {a0 : Nat} {a1 : Int32} {v : Unit} {h' : Hp} (hD : 2 ≤ d) (H : f_X2_impress h a0 a1 = some (v, h')) : PM X mX2_impress d [.ref a0, .int a1] h (none) h' := by
  unfold f_X2_impress at H
  refine PM.of (loc := [some (.ref a0), some (.int a1)]) (by decide) rfl (Nat.le_of_ble_eq_true rfl) ?_
  refine ev_aload_n dX2_impress_0 rfl rfl rfl ?_
  replace H := gd_some H
  obtain ⟨g1, H⟩ := H
  replace H := vl_some H
  obtain ⟨x2, ex2, H⟩ := H
  refine ev_getIx dX2_impress_1 fgX2_43 rfl (okOb.p g1) ex2 ?_
  refine ev_if_ne (tgt := 11) dX2_impress_4 (by decide) (fun c3 => ?_) (fun c3 => ?_)
  · rw [if_neg c3] at H
    exact t_X2_impress_J11 hD a0 a1 h H
  · rw [if_pos c3] at H
    refine ev_aload_n dX2_impress_7 rfl rfl rfl ?_
    replace H := bnd_some H
    obtain ⟨u20, h21, eh21, H⟩ := H
    have ph21 := (t_X2_keepWhatStands (X := X) (d := 1) (by omega) eh21)
    refine ev_callV (as := []) dX2_impress_8 ph21 ok_X2_keepWhatStands (by omega) rfl k3_77 k3_79 ks_3 (ci := 2) (by decide) rfl rfl (okOb.p g1) rfl (Nat.le_of_ble_eq_true rfl) ?_
    exact t_X2_impress_J11 hD a0 a1 h21 H

theorem dX2_shownAt_0 : decode cX2_shownAt 0 = .ok (.aload_n 0, 1) := by decide +kernel
theorem dX2_shownAt_1 : decode cX2_shownAt 1 = .ok (.getfield 34, 3) := by decide +kernel
theorem dX2_shownAt_4 : decode cX2_shownAt 4 = .ok (.iload_n 3, 1) := by decide +kernel
theorem dX2_shownAt_5 : decode cX2_shownAt 5 = .ok (.iaload, 1) := by decide +kernel
theorem dX2_shownAt_6 : decode cX2_shownAt 6 = .ok (.istore 4, 2) := by decide +kernel
theorem dX2_shownAt_8 : decode cX2_shownAt 8 = .ok (.iload 4, 2) := by decide +kernel
theorem dX2_shownAt_10 : decode cX2_shownAt 10 = .ok (.iconst (-1), 1) := by decide +kernel
theorem dX2_shownAt_11 : decode cX2_shownAt 11 = .ok (.if_icmp .ne 5, 3) := by decide +kernel
theorem dX2_shownAt_14 : decode cX2_shownAt 14 = .ok (.iconst (-1), 1) := by decide +kernel
theorem dX2_shownAt_15 : decode cX2_shownAt 15 = .ok (.ireturn, 1) := by decide +kernel
theorem dX2_shownAt_16 : decode cX2_shownAt 16 = .ok (.aload_n 1, 1) := by decide +kernel
theorem dX2_shownAt_17 : decode cX2_shownAt 17 = .ok (.getfield 62, 3) := by decide +kernel
theorem dX2_shownAt_20 : decode cX2_shownAt 20 = .ok (.iload_n 2, 1) := by decide +kernel
theorem dX2_shownAt_21 : decode cX2_shownAt 21 = .ok (.iaload, 1) := by decide +kernel
theorem dX2_shownAt_22 : decode cX2_shownAt 22 = .ok (.istore 5, 2) := by decide +kernel
theorem dX2_shownAt_24 : decode cX2_shownAt 24 = .ok (.iconst 0, 1) := by decide +kernel
theorem dX2_shownAt_25 : decode cX2_shownAt 25 = .ok (.istore 6, 2) := by decide +kernel
theorem dX2_shownAt_27 : decode cX2_shownAt 27 = .ok (.iload 6, 2) := by decide +kernel
theorem dX2_shownAt_29 : decode cX2_shownAt 29 = .ok (.iload 4, 2) := by decide +kernel
theorem dX2_shownAt_31 : decode cX2_shownAt 31 = .ok (.if_icmp .ge 43, 3) := by decide +kernel
theorem dX2_shownAt_34 : decode cX2_shownAt 34 = .ok (.aload_n 0, 1) := by decide +kernel
theorem dX2_shownAt_35 : decode cX2_shownAt 35 = .ok (.getfield 18, 3) := by decide +kernel
theorem dX2_shownAt_38 : decode cX2_shownAt 38 = .ok (.iload 6, 2) := by decide +kernel
theorem dX2_shownAt_40 : decode cX2_shownAt 40 = .ok (.iaload, 1) := by decide +kernel
theorem dX2_shownAt_41 : decode cX2_shownAt 41 = .ok (.aload_n 1, 1) := by decide +kernel
theorem dX2_shownAt_42 : decode cX2_shownAt 42 = .ok (.getfield 71, 3) := by decide +kernel
theorem dX2_shownAt_45 : decode cX2_shownAt 45 = .ok (.if_icmp .ne 23, 3) := by decide +kernel
theorem dX2_shownAt_48 : decode cX2_shownAt 48 = .ok (.aload_n 0, 1) := by decide +kernel
theorem dX2_shownAt_49 : decode cX2_shownAt 49 = .ok (.getfield 22, 3) := by decide +kernel
theorem dX2_shownAt_52 : decode cX2_shownAt 52 = .ok (.iload 6, 2) := by decide +kernel
theorem dX2_shownAt_54 : decode cX2_shownAt 54 = .ok (.iaload, 1) := by decide +kernel
theorem dX2_shownAt_55 : decode cX2_shownAt 55 = .ok (.iload_n 2, 1) := by decide +kernel
theorem dX2_shownAt_56 : decode cX2_shownAt 56 = .ok (.if_icmp .ne 12, 3) := by decide +kernel
theorem dX2_shownAt_59 : decode cX2_shownAt 59 = .ok (.aload_n 0, 1) := by decide +kernel
theorem dX2_shownAt_60 : decode cX2_shownAt 60 = .ok (.getfield 25, 3) := by decide +kernel
theorem dX2_shownAt_63 : decode cX2_shownAt 63 = .ok (.iload 6, 2) := by decide +kernel
theorem dX2_shownAt_65 : decode cX2_shownAt 65 = .ok (.iaload, 1) := by decide +kernel
theorem dX2_shownAt_66 : decode cX2_shownAt 66 = .ok (.istore 5, 2) := by decide +kernel
theorem dX2_shownAt_68 : decode cX2_shownAt 68 = .ok (.iinc 6 1, 3) := by decide +kernel
theorem dX2_shownAt_71 : decode cX2_shownAt 71 = .ok (.goto (-44), 3) := by decide +kernel
theorem dX2_shownAt_74 : decode cX2_shownAt 74 = .ok (.iload 5, 2) := by decide +kernel
theorem dX2_shownAt_76 : decode cX2_shownAt 76 = .ok (.ireturn, 1) := by decide +kernel
def f_X2_shownAt_L27 : Nat → Nat → Nat → Int32 → Int32 → Int32 → Int32 → Int32 → Hp → Option (Int32 × Hp)
  | 0, _, _, _, _, _, _, _, _ => none
  | n + 1, l0, l1, l2, l3, l4, l5, l6, h =>
    if l4 ≤ l6 then (
    some (l5, h)) else (
    gd (okOb h l0 2) <|
    vl (gR h l0 7) fun r14 =>
    un r14 fun b15 =>
    gd (okAb h b15 11 l6) <|
    vl (gI h b15 l6.toNatClampNeg) fun x17 =>
    gd (okOb h l1 6) <|
    vl (gI h l1 0) fun x19 =>
    if x17 = x19 then (
    vl (gR h l0 8) fun r22 =>
    un r22 fun b23 =>
    gd (okAb h b23 11 l6) <|
    vl (gI h b23 l6.toNatClampNeg) fun x25 =>
    if x25 = l2 then (
    vl (gR h l0 9) fun r28 =>
    un r28 fun b29 =>
    gd (okAb h b29 11 l6) <|
    vl (gI h b29 l6.toNatClampNeg) fun x31 =>
    vl (l6 + (1 : Int32)) fun x32 =>
    f_X2_shownAt_L27 n l0 l1 l2 l3 l4 x31 x32 h) else (
    vl (l6 + (1 : Int32)) fun x27 =>
    f_X2_shownAt_L27 n l0 l1 l2 l3 l4 l5 x27 h)) else (
    vl (l6 + (1 : Int32)) fun x21 =>
    f_X2_shownAt_L27 n l0 l1 l2 l3 l4 l5 x21 h))
set_option maxHeartbeats 4000000 in
set_option maxRecDepth 100000 in
theorem t_X2_shownAt_L27 {X : Cx} {d : Nat} {h0 h' : Hp} {v : Int32} (hD : 1 ≤ d) : ∀ (n : Nat) (l0 : Nat) (l1 : Nat) (l2 : Int32) (l3 : Int32) (l4 : Int32) (l5 : Int32) (l6 : Int32) (h : Hp), f_X2_shownAt_L27 n l0 l1 l2 l3 l4 l5 l6 h = some (v, h') → EV X mX2_shownAt d h0 (some (.int v)) h' 27 [some (.ref l0), some (.ref l1), some (.int l2), some (.int l3), some (.int l4), some (.int l5), some (.int l6)] [] h := by
  intro n
  induction n with
  | zero => intro l0 l1 l2 l3 l4 l5 l6 h H; simp [f_X2_shownAt_L27] at H
  | succ n ih =>
    intro l0 l1 l2 l3 l4 l5 l6 h H
    rw [f_X2_shownAt_L27] at H
    refine ev_iload dX2_shownAt_27 rfl ?_
    refine ev_iload dX2_shownAt_29 rfl ?_
    refine ev_icmp_ge (tgt := 74) dX2_shownAt_31 (by decide) (fun c12 => ?_) (fun c12 => ?_)
    · rw [if_pos c12] at H
      refine ev_iload dX2_shownAt_74 rfl ?_
      exact ev_iretx dX2_shownAt_76 rfl rfl H
    · rw [if_neg c12] at H
      refine ev_aload_n dX2_shownAt_34 rfl rfl rfl ?_
      replace H := gd_some H
      obtain ⟨g13, H⟩ := H
      replace H := vl_some H
      obtain ⟨r14, er14, H⟩ := H
      refine ev_getRx dX2_shownAt_35 fgX2_18 rfl (okOb.p g13) er14 ?_
      refine ev_iload dX2_shownAt_38 rfl ?_
      replace H := un_some H
      obtain ⟨b15, eb15, H⟩ := H
      subst eb15
      replace H := gd_some H
      obtain ⟨g16, H⟩ := H
      replace H := vl_some H
      obtain ⟨x17, ex17, H⟩ := H
      refine ev_ialdx dX2_shownAt_40 (okAb.p g16) ex17 ?_
      refine ev_aload_n dX2_shownAt_41 rfl rfl rfl ?_
      replace H := gd_some H
      obtain ⟨g18, H⟩ := H
      replace H := vl_some H
      obtain ⟨x19, ex19, H⟩ := H
      refine ev_getIx dX2_shownAt_42 fgX2_71 rfl (okOb.p g18) ex19 ?_
      refine ev_icmp_ne (tgt := 68) dX2_shownAt_45 (by decide) (fun c20 => ?_) (fun c20 => ?_)
      · rw [if_neg c20] at H
        replace H := vl_some H
        obtain ⟨x21, ex21, H⟩ := H
        refine ev_iincx (loc2 := [some (.ref l0), some (.ref l1), some (.int l2), some (.int l3), some (.int l4), some (.int l5), some (.int x21)]) dX2_shownAt_68 rfl (by decide) ex21 (by decide) rfl ?_
        refine ev_goto (tgt := 27) dX2_shownAt_71 (by decide) ?_
        exact ih l0 l1 l2 l3 l4 l5 x21 h H
      · rw [if_pos c20] at H
        refine ev_aload_n dX2_shownAt_48 rfl rfl rfl ?_
        replace H := vl_some H
        obtain ⟨r22, er22, H⟩ := H
        refine ev_getRx dX2_shownAt_49 fgX2_22 rfl (okOb.p g13) er22 ?_
        refine ev_iload dX2_shownAt_52 rfl ?_
        replace H := un_some H
        obtain ⟨b23, eb23, H⟩ := H
        subst eb23
        replace H := gd_some H
        obtain ⟨g24, H⟩ := H
        replace H := vl_some H
        obtain ⟨x25, ex25, H⟩ := H
        refine ev_ialdx dX2_shownAt_54 (okAb.p g24) ex25 ?_
        refine ev_iload_n dX2_shownAt_55 rfl rfl ?_
        refine ev_icmp_ne (tgt := 68) dX2_shownAt_56 (by decide) (fun c26 => ?_) (fun c26 => ?_)
        · rw [if_neg c26] at H
          replace H := vl_some H
          obtain ⟨x27, ex27, H⟩ := H
          refine ev_iincx (loc2 := [some (.ref l0), some (.ref l1), some (.int l2), some (.int l3), some (.int l4), some (.int l5), some (.int x27)]) dX2_shownAt_68 rfl (by decide) ex27 (by decide) rfl ?_
          refine ev_goto (tgt := 27) dX2_shownAt_71 (by decide) ?_
          exact ih l0 l1 l2 l3 l4 l5 x27 h H
        · rw [if_pos c26] at H
          refine ev_aload_n dX2_shownAt_59 rfl rfl rfl ?_
          replace H := vl_some H
          obtain ⟨r28, er28, H⟩ := H
          refine ev_getRx dX2_shownAt_60 fgX2_25 rfl (okOb.p g13) er28 ?_
          refine ev_iload dX2_shownAt_63 rfl ?_
          replace H := un_some H
          obtain ⟨b29, eb29, H⟩ := H
          subst eb29
          replace H := gd_some H
          obtain ⟨g30, H⟩ := H
          replace H := vl_some H
          obtain ⟨x31, ex31, H⟩ := H
          refine ev_ialdx dX2_shownAt_65 (okAb.p g30) ex31 ?_
          refine ev_istore (loc2 := [some (.ref l0), some (.ref l1), some (.int l2), some (.int l3), some (.int l4), some (.int x31), some (.int l6)]) dX2_shownAt_66 (by decide) rfl ?_
          replace H := vl_some H
          obtain ⟨x32, ex32, H⟩ := H
          refine ev_iincx (loc2 := [some (.ref l0), some (.ref l1), some (.int l2), some (.int l3), some (.int l4), some (.int x31), some (.int x32)]) dX2_shownAt_68 rfl (by decide) ex32 (by decide) rfl ?_
          refine ev_goto (tgt := 27) dX2_shownAt_71 (by decide) ?_
          exact ih l0 l1 l2 l3 l4 x31 x32 h H
def f_X2_shownAt (h : Hp) (a0 : Nat) (a1 : Nat) (a2 : Int32) (a3 : Int32) : Option (Int32 × Hp) :=
gd (okOb h a0 2) <|
vl (gR h a0 1) fun r2 =>
un r2 fun b3 =>
gd (okAb h b3 11 a3) <|
vl (gI h b3 a3.toNatClampNeg) fun x5 =>
if x5 = (-1 : Int32) then (
some ((-1 : Int32), h)) else (
gd (okOb h a1 6) <|
vl (gR h a1 3) fun r8 =>
un r8 fun b9 =>
gd (okAb h b9 11 a2) <|
vl (gI h b9 a2.toNatClampNeg) fun x11 =>
f_X2_shownAt_L27 6000 a0 a1 a2 a3 x5 x11 (0 : Int32) h)
set_option maxHeartbeats 4000000 in
set_option maxRecDepth 100000 in
theorem t_X2_shownAt {X : Cx} {d : Nat} {h : Hp} {a0 : Nat} {a1 : Nat} {a2 : Int32} {a3 : Int32} {v : Int32} {h' : Hp} (hD : 1 ≤ d) (H : f_X2_shownAt h a0 a1 a2 a3 = some (v, h')) : PM X mX2_shownAt d [.ref a0, .ref a1, .int a2, .int a3] h (some (.int v)) h' := by
  unfold f_X2_shownAt at H
  refine PM.of (loc := [some (.ref a0), some (.ref a1), some (.int a2), some (.int a3), none, none, none]) (by decide) rfl (Nat.le_of_ble_eq_true rfl) ?_
  refine ev_aload_n dX2_shownAt_0 rfl rfl rfl ?_
  replace H := gd_some H
  obtain ⟨g1, H⟩ := H
  replace H := vl_some H
  obtain ⟨r2, er2, H⟩ := H
  refine ev_getRx dX2_shownAt_1 fgX2_34 rfl (okOb.p g1) er2 ?_
  refine ev_iload_n dX2_shownAt_4 rfl rfl ?_
  replace H := un_some H
  obtain ⟨b3, eb3, H⟩ := H
  subst eb3
  replace H := gd_some H
  obtain ⟨g4, H⟩ := H
  replace H := vl_some H
  obtain ⟨x5, ex5, H⟩ := H
  refine ev_ialdx dX2_shownAt_5 (okAb.p g4) ex5 ?_
  refine ev_istore (loc2 := [some (.ref a0), some (.ref a1), some (.int a2), some (.int a3), some (.int x5), none, none]) dX2_shownAt_6 (by decide) rfl ?_
  refine ev_iload dX2_shownAt_8 rfl ?_
  refine ev_iconst (v := (-1 : Int32)) dX2_shownAt_10 (by decide) ?_
  refine ev_icmp_ne (tgt := 16) dX2_shownAt_11 (by decide) (fun c6 => ?_) (fun c6 => ?_)
  · rw [if_neg c6] at H
    refine ev_aload_n dX2_shownAt_16 rfl rfl rfl ?_
    replace H := gd_some H
    obtain ⟨g7, H⟩ := H
    replace H := vl_some H
    obtain ⟨r8, er8, H⟩ := H
    refine ev_getRx dX2_shownAt_17 fgX2_62 rfl (okOb.p g7) er8 ?_
    refine ev_iload_n dX2_shownAt_20 rfl rfl ?_
    replace H := un_some H
    obtain ⟨b9, eb9, H⟩ := H
    subst eb9
    replace H := gd_some H
    obtain ⟨g10, H⟩ := H
    replace H := vl_some H
    obtain ⟨x11, ex11, H⟩ := H
    refine ev_ialdx dX2_shownAt_21 (okAb.p g10) ex11 ?_
    refine ev_istore (loc2 := [some (.ref a0), some (.ref a1), some (.int a2), some (.int a3), some (.int x5), some (.int x11), none]) dX2_shownAt_22 (by decide) rfl ?_
    refine ev_iconst (v := (0 : Int32)) dX2_shownAt_24 (by decide) ?_
    refine ev_istore (loc2 := [some (.ref a0), some (.ref a1), some (.int a2), some (.int a3), some (.int x5), some (.int x11), some (.int (0 : Int32))]) dX2_shownAt_25 (by decide) rfl ?_
    refine t_X2_shownAt_L27 hD  6000 a0 a1 a2 a3 x5 x11 (0 : Int32) h H
  · rw [if_pos c6] at H
    refine ev_iconst (v := (-1 : Int32)) dX2_shownAt_14 (by decide) ?_
    exact ev_iretx dX2_shownAt_15 rfl rfl H
