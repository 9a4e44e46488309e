theorem dX6_init_0 : decode cX6_init 0 = .ok (.aload_n 0, 1) := by decide +kernel
theorem dX6_init_1 : decode cX6_init 1 = .ok (.invokespecial 3, 3) := by decide +kernel
theorem dX6_init_4 : decode cX6_init 4 = .ok (.aload_n 0, 1) := by decide +kernel
theorem dX6_init_5 : decode cX6_init 5 = .ok (.iload_n 1, 1) := by decide +kernel
theorem dX6_init_6 : decode cX6_init 6 = .ok (.putfield 9, 3) := by decide +kernel
theorem dX6_init_9 : decode cX6_init 9 = .ok (.aload_n 0, 1) := by decide +kernel
theorem dX6_init_10 : decode cX6_init 10 = .ok (.aload_n 2, 1) := by decide +kernel
theorem dX6_init_11 : decode cX6_init 11 = .ok (.getfield 15, 3) := by decide +kernel
theorem dX6_init_14 : decode cX6_init 14 = .ok (.newarray .int, 2) := by decide +kernel
theorem dX6_init_16 : decode cX6_init 16 = .ok (.putfield 20, 3) := by decide +kernel
theorem dX6_init_19 : decode cX6_init 19 = .ok (.aload_n 0, 1) := by decide +kernel
theorem dX6_init_20 : decode cX6_init 20 = .ok (.aload_n 2, 1) := by decide +kernel
theorem dX6_init_21 : decode cX6_init 21 = .ok (.getfield 15, 3) := by decide +kernel
theorem dX6_init_24 : decode cX6_init 24 = .ok (.newarray .int, 2) := by decide +kernel
theorem dX6_init_26 : decode cX6_init 26 = .ok (.putfield 24, 3) := by decide +kernel
theorem dX6_init_29 : decode cX6_init 29 = .ok (.aload_n 0, 1) := by decide +kernel
theorem dX6_init_30 : decode cX6_init 30 = .ok (.aload_n 2, 1) := by decide +kernel
theorem dX6_init_31 : decode cX6_init 31 = .ok (.getfield 15, 3) := by decide +kernel
theorem dX6_init_34 : decode cX6_init 34 = .ok (.newarray .int, 2) := by decide +kernel
theorem dX6_init_36 : decode cX6_init 36 = .ok (.putfield 27, 3) := by decide +kernel
theorem dX6_init_39 : decode cX6_init 39 = .ok (.iconst 0, 1) := by decide +kernel
theorem dX6_init_40 : decode cX6_init 40 = .ok (.istore_n 3, 1) := by decide +kernel
theorem dX6_init_41 : decode cX6_init 41 = .ok (.iconst 0, 1) := by decide +kernel
theorem dX6_init_42 : decode cX6_init 42 = .ok (.istore 4, 2) := by decide +kernel
theorem dX6_init_44 : decode cX6_init 44 = .ok (.iload 4, 2) := by decide +kernel
theorem dX6_init_46 : decode cX6_init 46 = .ok (.aload_n 0, 1) := by decide +kernel
theorem dX6_init_47 : decode cX6_init 47 = .ok (.getfield 20, 3) := by decide +kernel
theorem dX6_init_50 : decode cX6_init 50 = .ok (.arraylength, 1) := by decide +kernel
theorem dX6_init_51 : decode cX6_init 51 = .ok (.if_icmp .ge 38, 3) := by decide +kernel
theorem dX6_init_54 : decode cX6_init 54 = .ok (.aload_n 0, 1) := by decide +kernel
theorem dX6_init_55 : decode cX6_init 55 = .ok (.getfield 20, 3) := by decide +kernel
theorem dX6_init_58 : decode cX6_init 58 = .ok (.iload 4, 2) := by decide +kernel
theorem dX6_init_60 : decode cX6_init 60 = .ok (.aload_n 2, 1) := by decide +kernel
theorem dX6_init_61 : decode cX6_init 61 = .ok (.iload 4, 2) := by decide +kernel
theorem dX6_init_63 : decode cX6_init 63 = .ok (.invokevirtual 30, 3) := by decide +kernel
theorem dX6_init_66 : decode cX6_init 66 = .ok (.iastore, 1) := by decide +kernel
theorem dX6_init_67 : decode cX6_init 67 = .ok (.aload_n 0, 1) := by decide +kernel
theorem dX6_init_68 : decode cX6_init 68 = .ok (.getfield 20, 3) := by decide +kernel
theorem dX6_init_71 : decode cX6_init 71 = .ok (.iload 4, 2) := by decide +kernel
theorem dX6_init_73 : decode cX6_init 73 = .ok (.iaload, 1) := by decide +kernel
theorem dX6_init_74 : decode cX6_init 74 = .ok (.invokestatic 34, 3) := by decide +kernel
theorem dX6_init_77 : decode cX6_init 77 = .ok (.ifCond .eq 6, 3) := by decide +kernel
theorem dX6_init_80 : decode cX6_init 80 = .ok (.iinc 3 1, 3) := by decide +kernel
theorem dX6_init_83 : decode cX6_init 83 = .ok (.iinc 4 1, 3) := by decide +kernel
theorem dX6_init_86 : decode cX6_init 86 = .ok (.goto (-42), 3) := by decide +kernel
theorem dX6_init_89 : decode cX6_init 89 = .ok (.aload_n 0, 1) := by decide +kernel
theorem dX6_init_90 : decode cX6_init 90 = .ok (.iload_n 3, 1) := by decide +kernel
theorem dX6_init_91 : decode cX6_init 91 = .ok (.putfield 38, 3) := by decide +kernel
theorem dX6_init_94 : decode cX6_init 94 = .ok (.return_, 1) := by decide +kernel
def f_X6_init_L44 : Nat → Nat → Int32 → Nat → Int32 → Int32 → Hp → Option (Unit × Hp)
  | 0, _, _, _, _, _, _ => none
  | n + 1, l0, l1, l2, l3, l4, h =>
    gd (okOb h l0 6) <|
    vl (gR h l0 1) fun r20 =>
    un r20 fun b21 =>
    gd (okOb h b21 11) <|
    if (Int32.ofNat (gL h b21)) ≤ l4 then (
    vl (sI h l0 4 l3) fun h24 =>
    some ((), h24)) else (
    vl (gR h l0 1) fun r25 =>
    gd (okOb h l2 8) <|
    bnd (f_X8_codeAt h l2 l4) fun v27 h28 =>
    un r25 fun b29 =>
    gd (okAb h28 b29 11 l4) <|
    vl (sI h28 b29 l4.toNatClampNeg v27) fun h31 =>
    vl (gR h31 l0 1) fun r32 =>
    un r32 fun b33 =>
    gd (okAb h31 b33 11 l4) <|
    vl (gI h31 b33 l4.toNatClampNeg) fun x35 =>
    bnd (f_X9_isLetter h31 x35) fun v36 h37 =>
    if v36 = 0 then (
    vl (l4 + (1 : Int32)) fun x39 =>
    f_X6_init_L44 n l0 l1 l2 l3 x39 h37) else (
    vl (l3 + (1 : Int32)) fun x40 =>
    vl (l4 + (1 : Int32)) fun x41 =>
    f_X6_init_L44 n l0 l1 l2 x40 x41 h37))
set_option maxHeartbeats 4000000 in
set_option maxRecDepth 100000 in
theorem t_X6_init_L44 {X : Cx} {d : Nat} {h0 h' : Hp} {v : Unit} (hD : 3 ≤ d) : ∀ (n : Nat) (l0 : Nat) (l1 : Int32) (l2 : Nat) (l3 : Int32) (l4 : Int32) (h : Hp), f_X6_init_L44 n l0 l1 l2 l3 l4 h = some (v, h') → EV X mX6_init d h0 (none) h' 44 [some (.ref l0), some (.int l1), some (.ref l2), some (.int l3), some (.int l4)] [] h := by
  intro n
  induction n with
  | zero => intro l0 l1 l2 l3 l4 h H; simp [f_X6_init_L44] at H
  | succ n ih =>
    intro l0 l1 l2 l3 l4 h H
    rw [f_X6_init_L44] at H
    refine ev_iload dX6_init_44 rfl ?_
    refine ev_aload_n dX6_init_46 rfl rfl rfl ?_
    replace H := gd_some H
    obtain ⟨g19, H⟩ := H
    replace H := vl_some H
    obtain ⟨r20, er20, H⟩ := H
    refine ev_getRx dX6_init_47 fgX6_20 rfl (okOb.p g19) er20 ?_
    replace H := un_some H
    obtain ⟨b21, eb21, H⟩ := H
    subst eb21
    replace H := gd_some H
    obtain ⟨g22, H⟩ := H
    refine ev_alen (kd := 11) (t0 := 0) dX6_init_50 (by decide) (fun _ => rfl) (okOb.p g22) ?_
    refine ev_icmp_ge (tgt := 89) dX6_init_51 (by decide) (fun c23 => ?_) (fun c23 => ?_)
    · rw [if_pos c23] at H
      refine ev_aload_n dX6_init_89 rfl rfl rfl ?_
      refine ev_iload_n dX6_init_90 rfl rfl ?_
      replace H := vl_some H
      obtain ⟨h24, eh24, H⟩ := H
      refine ev_putIF dX6_init_91 fdX6_38 rfl rfl rfl rfl (okOb.p g19) eh24 ?_
      exact ev_vretx dX6_init_94 rfl H
    · rw [if_neg c23] at H
      refine ev_aload_n dX6_init_54 rfl rfl rfl ?_
      replace H := vl_some H
      obtain ⟨r25, er25, H⟩ := H
      refine ev_getRx dX6_init_55 fgX6_20 rfl (okOb.p g19) er25 ?_
      refine ev_iload dX6_init_58 rfl ?_
      refine ev_aload_n dX6_init_60 rfl rfl rfl ?_
      refine ev_iload dX6_init_61 rfl ?_
      replace H := gd_some H
      obtain ⟨g26, H⟩ := H
      replace H := bnd_some H
      obtain ⟨v27, h28, eh28, H⟩ := H
      have ph28 := (t_X8_codeAt (X := X) (d := 2) (by omega) eh28)
      refine ev_callV (as := [.int l4]) dX6_init_63 ph28 ok_X8_codeAt (by omega) rfl k2_48 k2_36 k2_37 (ci := 8) (by decide) rfl rfl (okOb.p g26) rfl (by simp only [List.map_cons, List.map_nil, rv_cat]; exact Nat.le_of_ble_eq_true rfl) ?_
      replace H := un_some H
      obtain ⟨b29, eb29, H⟩ := H
      subst eb29
      replace H := gd_some H
      obtain ⟨g30, H⟩ := H
      replace H := vl_some H
      obtain ⟨h31, eh31, H⟩ := H
      refine ev_iast dX6_init_66 (okAb.p g30) eh31 ?_
      refine ev_aload_n dX6_init_67 rfl rfl rfl ?_
      replace H := vl_some H
      obtain ⟨r32, er32, H⟩ := H
      refine ev_getRx dX6_init_68 fgX6_20 rfl (okO_sI eh31 (okO_ext ph28.1 (okOb.p g19))) er32 ?_
      refine ev_iload dX6_init_71 rfl ?_
      replace H := un_some H
      obtain ⟨b33, eb33, H⟩ := H
      subst eb33
      replace H := gd_some H
      obtain ⟨g34, H⟩ := H
      replace H := vl_some H
      obtain ⟨x35, ex35, H⟩ := H
      refine ev_ialdx dX6_init_73 (okAb.p g34) ex35 ?_
      replace H := bnd_some H
      obtain ⟨v36, h37, eh37, H⟩ := H
      have ph37 := (t_X9_isLetter (X := X) (d := 1) (by omega) eh37)
      refine ev_callSN (host := RX9) (as := [.int x35]) dX6_init_74 ph37 ok_X9_isLetter (by omega) rfl (by decide) k2_18 rfl (Nat.le_of_ble_eq_true rfl) ?_
      refine ev_if_eq (tgt := 83) dX6_init_77 (by decide) (fun c38 => ?_) (fun c38 => ?_)
      · rw [if_pos c38] at H
        replace H := vl_some H
        obtain ⟨x39, ex39, H⟩ := H
        refine ev_iincx (loc2 := [some (.ref l0), some (.int l1), some (.ref l2), some (.int l3), some (.int x39)]) dX6_init_83 rfl (by decide) ex39 (by decide) rfl ?_
        refine ev_goto (tgt := 44) dX6_init_86 (by decide) ?_
        exact ih l0 l1 l2 l3 x39 h37 H
      · rw [if_neg c38] at H
        replace H := vl_some H
        obtain ⟨x40, ex40, H⟩ := H
        refine ev_iincx (loc2 := [some (.ref l0), some (.int l1), some (.ref l2), some (.int x40), some (.int l4)]) dX6_init_80 rfl (by decide) ex40 (by decide) rfl ?_
        replace H := vl_some H
        obtain ⟨x41, ex41, H⟩ := H
        refine ev_iincx (loc2 := [some (.ref l0), some (.int l1), some (.ref l2), some (.int x40), some (.int x41)]) dX6_init_83 rfl (by decide) ex41 (by decide) rfl ?_
        refine ev_goto (tgt := 44) dX6_init_86 (by decide) ?_
        exact ih l0 l1 l2 x40 x41 h37 H
def f_X6_init (h : Hp) (a0 : Nat) (a1 : Int32) (a2 : Nat) : Option (Unit × Hp) :=
gd (okOb h a0 6) <|
vl (sI h a0 0 a1) fun h2 =>
gd (okOb h2 a2 8) <|
vl (gI h2 a2 1) fun x4 =>
gd (okN x4) <|
vl (gN h2) fun b6 =>
vl (nw h2 11 x4.toNatClampNeg x4.toNatClampNeg) fun h7 =>
vl (sR h7 a0 1 (some b6)) fun h8 =>
vl (gI h8 a2 1) fun x9 =>
gd (okN x9) <|
vl (gN h8) fun b11 =>
vl (nw h8 11 x9.toNatClampNeg x9.toNatClampNeg) fun h12 =>
vl (sR h12 a0 2 (some b11)) fun h13 =>
vl (gI h13 a2 1) fun x14 =>
gd (okN x14) <|
vl (gN h13) fun b16 =>
vl (nw h13 11 x14.toNatClampNeg x14.toNatClampNeg) fun h17 =>
vl (sR h17 a0 3 (some b16)) fun h18 =>
f_X6_init_L44 6000 a0 a1 a2 (0 : Int32) (0 : Int32) h18
set_option maxHeartbeats 4000000 in
set_option maxRecDepth 100000 in
theorem t_X6_init {X : Cx} {d : Nat} {h : Hp} {a0 : Nat} {a1 : Int32} {a2 : Nat} {v : Unit} {h' : Hp} (hD : 3 ≤ d) (H : f_X6_init h a0 a1 a2 = some (v, h')) : PM X mX6_init d [.ref a0, .int a1, .ref a2] h (none) h' := by
  unfold f_X6_init at H
  refine PM.of (loc := [some (.ref a0), some (.int a1), some (.ref a2), none, none]) (by decide) rfl (Nat.le_of_ble_eq_true rfl) ?_
  refine ev_aload_n dX6_init_0 rfl rfl rfl ?_
  refine ev_obj dX6_init_1 ⟨_, rfl⟩ k2_47 k1_26 k1_27 (by omega) (Nat.le_of_ble_eq_true rfl) ?_
  refine ev_aload_n dX6_init_4 rfl rfl rfl ?_
  refine ev_iload_n dX6_init_5 rfl rfl ?_
  replace H := gd_some H
  obtain ⟨g1, H⟩ := H
  replace H := vl_some H
  obtain ⟨h2, eh2, H⟩ := H
  refine ev_putIF dX6_init_6 fdX6_9 rfl rfl rfl rfl (okOb.p g1) eh2 ?_
  refine ev_aload_n dX6_init_9 rfl rfl rfl ?_
  refine ev_aload_n dX6_init_10 rfl rfl rfl ?_
  replace H := gd_some H
  obtain ⟨g3, H⟩ := H
  replace H := vl_some H
  obtain ⟨x4, ex4, H⟩ := H
  refine ev_getIx dX6_init_11 fgX6_15 rfl (okOb.p g3) ex4 ?_
  replace H := gd_some H
  obtain ⟨g5, H⟩ := H
  replace H := vl_some H
  obtain ⟨b6, eb6, H⟩ := H
  replace H := vl_some H
  obtain ⟨h7, eh7, H⟩ := H
  refine ev_newaIx dX6_init_14 k1_44 (okN.p g5) rfl eb6 eh7 ?_
  replace H := vl_some H
  obtain ⟨h8, eh8, H⟩ := H
  refine ev_putRF (x := (some b6)) dX6_init_16 fdX6_20 rfl (Or.inr ⟨_, rfl⟩) rfl (okO_nw eh7 (okO_sI eh2 (okOb.p g1))) eh8 ?_
  refine ev_aload_n dX6_init_19 rfl rfl rfl ?_
  refine ev_aload_n dX6_init_20 rfl rfl rfl ?_
  replace H := vl_some H
  obtain ⟨x9, ex9, H⟩ := H
  refine ev_getIx dX6_init_21 fgX6_15 rfl (okO_sR eh8 (okO_nw eh7 (okOb.p g3))) ex9 ?_
  replace H := gd_some H
  obtain ⟨g10, H⟩ := H
  replace H := vl_some H
  obtain ⟨b11, eb11, H⟩ := H
  replace H := vl_some H
  obtain ⟨h12, eh12, H⟩ := H
  refine ev_newaIx dX6_init_24 k1_44 (okN.p g10) rfl eb11 eh12 ?_
  replace H := vl_some H
  obtain ⟨h13, eh13, H⟩ := H
  refine ev_putRF (x := (some b11)) dX6_init_26 fdX6_24 rfl (Or.inr ⟨_, rfl⟩) rfl (okO_nw eh12 (okO_sR eh8 (okO_nw eh7 (okO_sI eh2 (okOb.p g1))))) eh13 ?_
  refine ev_aload_n dX6_init_29 rfl rfl rfl ?_
  refine ev_aload_n dX6_init_30 rfl rfl rfl ?_
  replace H := vl_some H
  obtain ⟨x14, ex14, H⟩ := H
  refine ev_getIx dX6_init_31 fgX6_15 rfl (okO_sR eh13 (okO_nw eh12 (okO_sR eh8 (okO_nw eh7 (okOb.p g3))))) ex14 ?_
  replace H := gd_some H
  obtain ⟨g15, H⟩ := H
  replace H := vl_some H
  obtain ⟨b16, eb16, H⟩ := H
  replace H := vl_some H
  obtain ⟨h17, eh17, H⟩ := H
  refine ev_newaIx dX6_init_34 k1_44 (okN.p g15) rfl eb16 eh17 ?_
  replace H := vl_some H
  obtain ⟨h18, eh18, H⟩ := H
  refine ev_putRF (x := (some b16)) dX6_init_36 fdX6_27 rfl (Or.inr ⟨_, rfl⟩) rfl (okO_nw eh17 (okO_sR eh13 (okO_nw eh12 (okO_sR eh8 (okO_nw eh7 (okO_sI eh2 (okOb.p g1))))))) eh18 ?_
  refine ev_iconst (v := (0 : Int32)) dX6_init_39 (by decide) ?_
  refine ev_istore_n (loc2 := [some (.ref a0), some (.int a1), some (.ref a2), some (.int (0 : Int32)), none]) dX6_init_40 rfl (by decide) rfl ?_
  refine ev_iconst (v := (0 : Int32)) dX6_init_41 (by decide) ?_
  refine ev_istore (loc2 := [some (.ref a0), some (.int a1), some (.ref a2), some (.int (0 : Int32)), some (.int (0 : Int32))]) dX6_init_42 (by decide) rfl ?_
  refine t_X6_init_L44 hD  6000 a0 a1 a2 (0 : Int32) (0 : Int32) h18 H

theorem dX6_compose_0 : decode cX6_compose 0 = .ok (.aload_n 0, 1) := by decide +kernel
theorem dX6_compose_1 : decode cX6_compose 1 = .ok (.getfield 20, 3) := by decide +kernel
theorem dX6_compose_4 : decode cX6_compose 4 = .ok (.iconst 0, 1) := by decide +kernel
theorem dX6_compose_5 : decode cX6_compose 5 = .ok (.aload_n 0, 1) := by decide +kernel
theorem dX6_compose_6 : decode cX6_compose 6 = .ok (.getfield 24, 3) := by decide +kernel
theorem dX6_compose_9 : decode cX6_compose 9 = .ok (.iconst 0, 1) := by decide +kernel
theorem dX6_compose_10 : decode cX6_compose 10 = .ok (.aload_n 0, 1) := by decide +kernel
theorem dX6_compose_11 : decode cX6_compose 11 = .ok (.getfield 20, 3) := by decide +kernel
theorem dX6_compose_14 : decode cX6_compose 14 = .ok (.arraylength, 1) := by decide +kernel
theorem dX6_compose_15 : decode cX6_compose 15 = .ok (.invokestatic 51, 3) := by decide +kernel
theorem dX6_compose_18 : decode cX6_compose 18 = .ok (.aload_n 0, 1) := by decide +kernel
theorem dX6_compose_19 : decode cX6_compose 19 = .ok (.iconst 1, 1) := by decide +kernel
theorem dX6_compose_20 : decode cX6_compose 20 = .ok (.putfield 57, 3) := by decide +kernel
theorem dX6_compose_23 : decode cX6_compose 23 = .ok (.aload_n 0, 1) := by decide +kernel
theorem dX6_compose_24 : decode cX6_compose 24 = .ok (.iload_n 1, 1) := by decide +kernel
theorem dX6_compose_25 : decode cX6_compose 25 = .ok (.putfield 61, 3) := by decide +kernel
theorem dX6_compose_28 : decode cX6_compose 28 = .ok (.return_, 1) := by decide +kernel
def f_X6_compose (h : Hp) (a0 : Nat) (a1 : Int32) : Option (Unit × Hp) :=
gd (okOb h a0 6) <|
vl (gR h a0 1) fun r2 =>
vl (gR h a0 2) fun r3 =>
vl (gR h a0 1) fun r4 =>
un r4 fun b5 =>
gd (okOb h b5 11) <|
un r3 fun b7 =>
un r2 fun b8 =>
gd (okC h b8 b7 (0 : Int32) (0 : Int32) (Int32.ofNat (gL h b5))) <|
vl (sW h b7 (va_cpy (gI h b8) (gI h b7) (0 : Int32).toNatClampNeg (0 : Int32).toNatClampNeg (Int32.ofNat (gL h b5)).toNatClampNeg)) fun h10 =>
vl (sI h10 a0 5 (1 : Int32)) fun h11 =>
vl (sI h11 a0 6 a1) fun h12 =>
some ((), h12)
set_option maxHeartbeats 4000000 in
set_option maxRecDepth 100000 in
theorem t_X6_compose {X : Cx} {d : Nat} {h : Hp} {a0 : Nat} {a1 : Int32} {v : Unit} {h' : Hp} (hD : 1 ≤ d) (H : f_X6_compose h a0 a1 = some (v, h')) : PM X mX6_compose d [.ref a0, .int a1] h (none) h' := by
  unfold f_X6_compose at H
  refine PM.of (loc := [some (.ref a0), some (.int a1)]) (by decide) rfl (Nat.le_of_ble_eq_true rfl) ?_
  refine ev_aload_n dX6_compose_0 rfl rfl rfl ?_
  replace H := gd_some H
  obtain ⟨g1, H⟩ := H
  replace H := vl_some H
  obtain ⟨r2, er2, H⟩ := H
  refine ev_getRx dX6_compose_1 fgX6_20 rfl (okOb.p g1) er2 ?_
  refine ev_iconst (v := (0 : Int32)) dX6_compose_4 (by decide) ?_
  refine ev_aload_n dX6_compose_5 rfl rfl rfl ?_
  replace H := vl_some H
  obtain ⟨r3, er3, H⟩ := H
  refine ev_getRx dX6_compose_6 fgX6_24 rfl (okOb.p g1) er3 ?_
  refine ev_iconst (v := (0 : Int32)) dX6_compose_9 (by decide) ?_
  refine ev_aload_n dX6_compose_10 rfl rfl rfl ?_
  replace H := vl_some H
  obtain ⟨r4, er4, H⟩ := H
  refine ev_getRx dX6_compose_11 fgX6_20 rfl (okOb.p g1) er4 ?_
  replace H := un_some H
  obtain ⟨b5, eb5, H⟩ := H
  subst eb5
  replace H := gd_some H
  obtain ⟨g6, H⟩ := H
  refine ev_alen (kd := 11) (t0 := 0) dX6_compose_14 (by decide) (fun _ => rfl) (okOb.p g6) ?_
  replace H := un_some H
  obtain ⟨b7, eb7, H⟩ := H
  subst eb7
  replace H := un_some H
  obtain ⟨b8, eb8, H⟩ := H
  subst eb8
  replace H := gd_some H
  obtain ⟨g9, H⟩ := H
  replace H := vl_some H
  obtain ⟨h10, eh10, H⟩ := H
  refine ev_copy dX6_compose_15 k2_106 k2_108 k2_107 k1_12 (by omega) (Nat.le_of_ble_eq_true rfl) (okC.p g9).1 (okC.p g9).2.1 (okC.p g9).2.2 eh10 ?_
  refine ev_aload_n dX6_compose_18 rfl rfl rfl ?_
  refine ev_iconst (v := (1 : Int32)) dX6_compose_19 (by decide) ?_
  replace H := vl_some H
  obtain ⟨h11, eh11, H⟩ := H
  refine ev_putI dX6_compose_20 fdX6_57 rfl rfl rfl (okO_sW eh10 (okOb.p g1)) eh11 ?_
  refine ev_aload_n dX6_compose_23 rfl rfl rfl ?_
  refine ev_iload_n dX6_compose_24 rfl rfl ?_
  replace H := vl_some H
  obtain ⟨h12, eh12, H⟩ := H
  refine ev_putI dX6_compose_25 fdX6_61 rfl rfl rfl (okO_sI eh11 (okO_sW eh10 (okOb.p g1))) eh12 ?_
  exact ev_vretx dX6_compose_28 rfl H

theorem dX6_hasPlace_0 : decode cX6_hasPlace 0 = .ok (.iload_n 1, 1) := by decide +kernel
theorem dX6_hasPlace_1 : decode cX6_hasPlace 1 = .ok (.ifCond .lt 16, 3) := by decide +kernel
theorem dX6_hasPlace_4 : decode cX6_hasPlace 4 = .ok (.iload_n 1, 1) := by decide +kernel
theorem dX6_hasPlace_5 : decode cX6_hasPlace 5 = .ok (.aload_n 0, 1) := by decide +kernel
theorem dX6_hasPlace_6 : decode cX6_hasPlace 6 = .ok (.getfield 20, 3) := by decide +kernel
theorem dX6_hasPlace_9 : decode cX6_hasPlace 9 = .ok (.arraylength, 1) := by decide +kernel
theorem dX6_hasPlace_10 : decode cX6_hasPlace 10 = .ok (.if_icmp .ge 7, 3) := by decide +kernel
theorem dX6_hasPlace_13 : decode cX6_hasPlace 13 = .ok (.iconst 1, 1) := by decide +kernel
theorem dX6_hasPlace_14 : decode cX6_hasPlace 14 = .ok (.goto 4, 3) := by decide +kernel
theorem dX6_hasPlace_17 : decode cX6_hasPlace 17 = .ok (.iconst 0, 1) := by decide +kernel
theorem dX6_hasPlace_18 : decode cX6_hasPlace 18 = .ok (.ireturn, 1) := by decide +kernel
def f_X6_hasPlace (h : Hp) (a0 : Nat) (a1 : Int32) : Option (Int32 × Hp) :=
if a1 < 0 then (
some ((0 : Int32), h)) else (
gd (okOb h a0 6) <|
vl (gR h a0 1) fun r3 =>
un r3 fun b4 =>
gd (okOb h b4 11) <|
if (Int32.ofNat (gL h b4)) ≤ a1 then (
some ((0 : Int32), h)) else (
some ((1 : Int32), h)))
set_option maxHeartbeats 4000000 in
set_option maxRecDepth 100000 in
theorem t_X6_hasPlace {X : Cx} {d : Nat} {h : Hp} {a0 : Nat} {a1 : Int32} {v : Int32} {h' : Hp} (hD : 1 ≤ d) (H : f_X6_hasPlace h a0 a1 = some (v, h')) : PM X mX6_hasPlace d [.ref a0, .int a1] h (some (.int v)) h' := by
  unfold f_X6_hasPlace at H
  refine PM.of (loc := [some (.ref a0), some (.int a1)]) (by decide) rfl (Nat.le_of_ble_eq_true rfl) ?_
  refine ev_iload_n dX6_hasPlace_0 rfl rfl ?_
  refine ev_if_lt (tgt := 17) dX6_hasPlace_1 (by decide) (fun c1 => ?_) (fun c1 => ?_)
  · rw [if_pos c1] at H
    refine ev_iconst (v := (0 : Int32)) dX6_hasPlace_17 (by decide) ?_
    exact ev_iretx dX6_hasPlace_18 rfl rfl H
  · rw [if_neg c1] at H
    refine ev_iload_n dX6_hasPlace_4 rfl rfl ?_
    refine ev_aload_n dX6_hasPlace_5 rfl rfl rfl ?_
    replace H := gd_some H
    obtain ⟨g2, H⟩ := H
    replace H := vl_some H
    obtain ⟨r3, er3, H⟩ := H
    refine ev_getRx dX6_hasPlace_6 fgX6_20 rfl (okOb.p g2) er3 ?_
    replace H := un_some H
    obtain ⟨b4, eb4, H⟩ := H
    subst eb4
    replace H := gd_some H
    obtain ⟨g5, H⟩ := H
    refine ev_alen (kd := 11) (t0 := 0) dX6_hasPlace_9 (by decide) (fun _ => rfl) (okOb.p g5) ?_
    refine ev_icmp_ge (tgt := 17) dX6_hasPlace_10 (by decide) (fun c6 => ?_) (fun c6 => ?_)
    · rw [if_pos c6] at H
      refine ev_iconst (v := (0 : Int32)) dX6_hasPlace_17 (by decide) ?_
      exact ev_iretx dX6_hasPlace_18 rfl rfl H
    · rw [if_neg c6] at H
      refine ev_iconst (v := (1 : Int32)) dX6_hasPlace_13 (by decide) ?_
      refine ev_goto (tgt := 18) dX6_hasPlace_14 (by decide) ?_
      exact ev_iretx dX6_hasPlace_18 rfl rfl H

theorem dX6_isInForme_0 : decode cX6_isInForme 0 = .ok (.aload_n 0, 1) := by decide +kernel
theorem dX6_isInForme_1 : decode cX6_isInForme 1 = .ok (.getfield 41, 3) := by decide +kernel
theorem dX6_isInForme_4 : decode cX6_isInForme 4 = .ok (.ifnull 17, 3) := by decide +kernel
theorem dX6_isInForme_7 : decode cX6_isInForme 7 = .ok (.aload_n 0, 1) := by decide +kernel
theorem dX6_isInForme_8 : decode cX6_isInForme 8 = .ok (.getfield 41, 3) := by decide +kernel
theorem dX6_isInForme_11 : decode cX6_isInForme 11 = .ok (.invokevirtual 45, 3) := by decide +kernel
theorem dX6_isInForme_14 : decode cX6_isInForme 14 = .ok (.ifCond .eq 7, 3) := by decide +kernel
theorem dX6_isInForme_17 : decode cX6_isInForme 17 = .ok (.iconst 1, 1) := by decide +kernel
theorem dX6_isInForme_18 : decode cX6_isInForme 18 = .ok (.goto 4, 3) := by decide +kernel
theorem dX6_isInForme_21 : decode cX6_isInForme 21 = .ok (.iconst 0, 1) := by decide +kernel
theorem dX6_isInForme_22 : decode cX6_isInForme 22 = .ok (.ireturn, 1) := by decide +kernel
def f_X6_isInForme (h : Hp) (a0 : Nat) : Option (Int32 × Hp) :=
gd (okOb h a0 6) <|
vl (gR h a0 7) fun r2 =>
nl r2 (
some ((0 : Int32), h)) fun b3 =>
vl (gR h a0 7) fun r4 =>
un r4 fun b5 =>
gd (okOb h b5 2) <|
bnd (f_X2_isImposed h b5) fun v7 h8 =>
if v7 = 0 then (
some ((0 : Int32), h8)) else (
some ((1 : Int32), h8))
set_option maxHeartbeats 4000000 in
set_option maxRecDepth 100000 in
theorem t_X6_isInForme {X : Cx} {d : Nat} {h : Hp} {a0 : Nat} {v : Int32} {h' : Hp} (hD : 2 ≤ d) (H : f_X6_isInForme h a0 = some (v, h')) : PM X mX6_isInForme d [.ref a0] h (some (.int v)) h' := by
  unfold f_X6_isInForme at H
  refine PM.of (loc := [some (.ref a0)]) (by decide) rfl (Nat.le_of_ble_eq_true rfl) ?_
  refine ev_aload_n dX6_isInForme_0 rfl rfl rfl ?_
  replace H := gd_some H
  obtain ⟨g1, H⟩ := H
  replace H := vl_some H
  obtain ⟨r2, er2, H⟩ := H
  refine ev_getRx dX6_isInForme_1 fgX6_41 rfl (okOb.p g1) er2 ?_
  replace H := nl_some H
  rcases H with ⟨eb3, H⟩ | ⟨b3, eb3, H⟩
  · subst eb3
    refine ev_ifnull_n (tgt := 21) dX6_isInForme_4 (by decide) ?_
    refine ev_iconst (v := (0 : Int32)) dX6_isInForme_21 (by decide) ?_
    exact ev_iretx dX6_isInForme_22 rfl rfl H
  · subst eb3
    refine ev_ifnull_s dX6_isInForme_4 ?_
    refine ev_aload_n dX6_isInForme_7 rfl rfl rfl ?_
    replace H := vl_some H
    obtain ⟨r4, er4, H⟩ := H
    refine ev_getRx dX6_isInForme_8 fgX6_41 rfl (okOb.p g1) er4 ?_
    replace H := un_some H
    obtain ⟨b5, eb5, H⟩ := H
    subst eb5
    replace H := gd_some H
    obtain ⟨g6, H⟩ := H
    replace H := bnd_some H
    obtain ⟨v7, h8, eh8, H⟩ := H
    have ph8 := (t_X2_isImposed (X := X) (d := 1) (by omega) eh8)
    refine ev_callV (as := []) dX6_isInForme_11 ph8 ok_X2_isImposed (by omega) rfl k2_121 k2_122 k2_123 (ci := 2) (by decide) rfl rfl (okOb.p g6) rfl (Nat.le_of_ble_eq_true rfl) ?_
    refine ev_if_eq (tgt := 21) dX6_isInForme_14 (by decide) (fun c9 => ?_) (fun c9 => ?_)
    · rw [if_pos c9] at H
      refine ev_iconst (v := (0 : Int32)) dX6_isInForme_21 (by decide) ?_
      exact ev_iretx dX6_isInForme_22 rfl rfl H
    · rw [if_neg c9] at H
      refine ev_iconst (v := (1 : Int32)) dX6_isInForme_17 (by decide) ?_
      refine ev_goto (tgt := 22) dX6_isInForme_18 (by decide) ?_
      exact ev_iretx dX6_isInForme_22 rfl rfl H

theorem dX6_countFaults_0 : decode cX6_countFaults 0 = .ok (.iconst 0, 1) := by decide +kernel
theorem dX6_countFaults_1 : decode cX6_countFaults 1 = .ok (.istore_n 1, 1) := by decide +kernel
theorem dX6_countFaults_2 : decode cX6_countFaults 2 = .ok (.iconst 0, 1) := by decide +kernel
theorem dX6_countFaults_3 : decode cX6_countFaults 3 = .ok (.istore_n 2, 1) := by decide +kernel
theorem dX6_countFaults_4 : decode cX6_countFaults 4 = .ok (.iload_n 2, 1) := by decide +kernel
theorem dX6_countFaults_5 : decode cX6_countFaults 5 = .ok (.aload_n 0, 1) := by decide +kernel
theorem dX6_countFaults_6 : decode cX6_countFaults 6 = .ok (.getfield 20, 3) := by decide +kernel
theorem dX6_countFaults_9 : decode cX6_countFaults 9 = .ok (.arraylength, 1) := by decide +kernel
theorem dX6_countFaults_10 : decode cX6_countFaults 10 = .ok (.if_icmp .ge 27, 3) := by decide +kernel
theorem dX6_countFaults_13 : decode cX6_countFaults 13 = .ok (.aload_n 0, 1) := by decide +kernel
theorem dX6_countFaults_14 : decode cX6_countFaults 14 = .ok (.getfield 24, 3) := by decide +kernel
theorem dX6_countFaults_17 : decode cX6_countFaults 17 = .ok (.iload_n 2, 1) := by decide +kernel
theorem dX6_countFaults_18 : decode cX6_countFaults 18 = .ok (.iaload, 1) := by decide +kernel
theorem dX6_countFaults_19 : decode cX6_countFaults 19 = .ok (.aload_n 0, 1) := by decide +kernel
theorem dX6_countFaults_20 : decode cX6_countFaults 20 = .ok (.getfield 20, 3) := by decide +kernel
theorem dX6_countFaults_23 : decode cX6_countFaults 23 = .ok (.iload_n 2, 1) := by decide +kernel
theorem dX6_countFaults_24 : decode cX6_countFaults 24 = .ok (.iaload, 1) := by decide +kernel
theorem dX6_countFaults_25 : decode cX6_countFaults 25 = .ok (.if_icmp .eq 6, 3) := by decide +kernel
theorem dX6_countFaults_28 : decode cX6_countFaults 28 = .ok (.iinc 1 1, 3) := by decide +kernel
theorem dX6_countFaults_31 : decode cX6_countFaults 31 = .ok (.iinc 2 1, 3) := by decide +kernel
theorem dX6_countFaults_34 : decode cX6_countFaults 34 = .ok (.goto (-30), 3) := by decide +kernel
theorem dX6_countFaults_37 : decode cX6_countFaults 37 = .ok (.iload_n 1, 1) := by decide +kernel
theorem dX6_countFaults_38 : decode cX6_countFaults 38 = .ok (.ireturn, 1) := by decide +kernel
def f_X6_countFaults_L4 : Nat → Nat → Int32 → Int32 → Hp → Option (Int32 × Hp)
  | 0, _, _, _, _ => none
  | n + 1, l0, l1, l2, h =>
    gd (okOb h l0 6) <|
    vl (gR h l0 1) fun r2 =>
    un r2 fun b3 =>
    gd (okOb h b3 11) <|
    if (Int32.ofNat (gL h b3)) ≤ l2 then (
    some (l1, h)) else (
    vl (gR h l0 2) fun r6 =>
    un r6 fun b7 =>
    gd (okAb h b7 11 l2) <|
    vl (gI h b7 l2.toNatClampNeg) fun x9 =>
    vl (gR h l0 1) fun r10 =>
    un r10 fun b11 =>
    gd (okAb h b11 11 l2) <|
    vl (gI h b11 l2.toNatClampNeg) fun x13 =>
    if x9 = x13 then (
    vl (l2 + (1 : Int32)) fun x15 =>
    f_X6_countFaults_L4 n l0 l1 x15 h) else (
    vl (l1 + (1 : Int32)) fun x16 =>
    vl (l2 + (1 : Int32)) fun x17 =>
    f_X6_countFaults_L4 n l0 x16 x17 h))
set_option maxHeartbeats 4000000 in
set_option maxRecDepth 100000 in
theorem t_X6_countFaults_L4 {X : Cx} {d : Nat} {h0 h' : Hp} {v : Int32} (hD : 1 ≤ d) : ∀ (n : Nat) (l0 : Nat) (l1 : Int32) (l2 : Int32) (h : Hp), f_X6_countFaults_L4 n l0 l1 l2 h = some (v, h') → EV X mX6_countFaults d h0 (some (.int v)) h' 4 [some (.ref l0), some (.int l1), some (.int l2)] [] h := by
  intro n
  induction n with
  | zero => intro l0 l1 l2 h H; simp [f_X6_countFaults_L4] at H
  | succ n ih =>
    intro l0 l1 l2 h H
    rw [f_X6_countFaults_L4] at H
    refine ev_iload_n dX6_countFaults_4 rfl rfl ?_
    refine ev_aload_n dX6_countFaults_5 rfl rfl rfl ?_
    replace H := gd_some H
    obtain ⟨g1, H⟩ := H
    replace H := vl_some H
    obtain ⟨r2, er2, H⟩ := H
    refine ev_getRx dX6_countFaults_6 fgX6_20 rfl (okOb.p g1) er2 ?_
    replace H := un_some H
    obtain ⟨b3, eb3, H⟩ := H
    subst eb3
    replace H := gd_some H
    obtain ⟨g4, H⟩ := H
    refine ev_alen (kd := 11) (t0 := 0) dX6_countFaults_9 (by decide) (fun _ => rfl) (okOb.p g4) ?_
    refine ev_icmp_ge (tgt := 37) dX6_countFaults_10 (by decide) (fun c5 => ?_) (fun c5 => ?_)
    · rw [if_pos c5] at H
      refine ev_iload_n dX6_countFaults_37 rfl rfl ?_
      exact ev_iretx dX6_countFaults_38 rfl rfl H
    · rw [if_neg c5] at H
      refine ev_aload_n dX6_countFaults_13 rfl rfl rfl ?_
      replace H := vl_some H
      obtain ⟨r6, er6, H⟩ := H
      refine ev_getRx dX6_countFaults_14 fgX6_24 rfl (okOb.p g1) er6 ?_
      refine ev_iload_n dX6_countFaults_17 rfl rfl ?_
      replace H := un_some H
      obtain ⟨b7, eb7, H⟩ := H
      subst eb7
      replace H := gd_some H
      obtain ⟨g8, H⟩ := H
      replace H := vl_some H
      obtain ⟨x9, ex9, H⟩ := H
      refine ev_ialdx dX6_countFaults_18 (okAb.p g8) ex9 ?_
      refine ev_aload_n dX6_countFaults_19 rfl rfl rfl ?_
      replace H := vl_some H
      obtain ⟨r10, er10, H⟩ := H
      refine ev_getRx dX6_countFaults_20 fgX6_20 rfl (okOb.p g1) er10 ?_
      refine ev_iload_n dX6_countFaults_23 rfl rfl ?_
      replace H := un_some H
      obtain ⟨b11, eb11, H⟩ := H
      subst eb11
      replace H := gd_some H
      obtain ⟨g12, H⟩ := H
      replace H := vl_some H
      obtain ⟨x13, ex13, H⟩ := H
      refine ev_ialdx dX6_countFaults_24 (okAb.p g12) ex13 ?_
      refine ev_icmp_eq (tgt := 31) dX6_countFaults_25 (by decide) (fun c14 => ?_) (fun c14 => ?_)
      · rw [if_pos c14] at H
        replace H := vl_some H
        obtain ⟨x15, ex15, H⟩ := H
        refine ev_iincx (loc2 := [some (.ref l0), some (.int l1), some (.int x15)]) dX6_countFaults_31 rfl (by decide) ex15 (by decide) rfl ?_
        refine ev_goto (tgt := 4) dX6_countFaults_34 (by decide) ?_
        exact ih l0 l1 x15 h H
      · rw [if_neg c14] at H
        replace H := vl_some H
        obtain ⟨x16, ex16, H⟩ := H
        refine ev_iincx (loc2 := [some (.ref l0), some (.int x16), some (.int l2)]) dX6_countFaults_28 rfl (by decide) ex16 (by decide) rfl ?_
        replace H := vl_some H
        obtain ⟨x17, ex17, H⟩ := H
        refine ev_iincx (loc2 := [some (.ref l0), some (.int x16), some (.int x17)]) dX6_countFaults_31 rfl (by decide) ex17 (by decide) rfl ?_
        refine ev_goto (tgt := 4) dX6_countFaults_34 (by decide) ?_
        exact ih l0 x16 x17 h H
def f_X6_countFaults (h : Hp) (a0 : Nat) : Option (Int32 × Hp) :=
f_X6_countFaults_L4 6000 a0 (0 : Int32) (0 : Int32) h
set_option maxHeartbeats 4000000 in
set_option maxRecDepth 100000 in
theorem t_X6_countFaults {X : Cx} {d : Nat} {h : Hp} {a0 : Nat} {v : Int32} {h' : Hp} (hD : 1 ≤ d) (H : f_X6_countFaults h a0 = some (v, h')) : PM X mX6_countFaults d [.ref a0] h (some (.int v)) h' := by
  unfold f_X6_countFaults at H
  refine PM.of (loc := [some (.ref a0), none, none]) (by decide) rfl (Nat.le_of_ble_eq_true rfl) ?_
  refine ev_iconst (v := (0 : Int32)) dX6_countFaults_0 (by decide) ?_
  refine ev_istore_n (loc2 := [some (.ref a0), some (.int (0 : Int32)), none]) dX6_countFaults_1 rfl (by decide) rfl ?_
  refine ev_iconst (v := (0 : Int32)) dX6_countFaults_2 (by decide) ?_
  refine ev_istore_n (loc2 := [some (.ref a0), some (.int (0 : Int32)), some (.int (0 : Int32))]) dX6_countFaults_3 rfl (by decide) rfl ?_
  refine t_X6_countFaults_L4 hD  6000 a0 (0 : Int32) (0 : Int32) h H

theorem dX6_placeOfFault_0 : decode cX6_placeOfFault 0 = .ok (.iconst 0, 1) := by decide +kernel
theorem dX6_placeOfFault_1 : decode cX6_placeOfFault 1 = .ok (.istore_n 2, 1) := by decide +kernel
theorem dX6_placeOfFault_2 : decode cX6_placeOfFault 2 = .ok (.iconst 0, 1) := by decide +kernel
theorem dX6_placeOfFault_3 : decode cX6_placeOfFault 3 = .ok (.istore_n 3, 1) := by decide +kernel
theorem dX6_placeOfFault_4 : decode cX6_placeOfFault 4 = .ok (.iload_n 3, 1) := by decide +kernel
theorem dX6_placeOfFault_5 : decode cX6_placeOfFault 5 = .ok (.aload_n 0, 1) := by decide +kernel
theorem dX6_placeOfFault_6 : decode cX6_placeOfFault 6 = .ok (.getfield 20, 3) := by decide +kernel
theorem dX6_placeOfFault_9 : decode cX6_placeOfFault 9 = .ok (.arraylength, 1) := by decide +kernel
theorem dX6_placeOfFault_10 : decode cX6_placeOfFault 10 = .ok (.if_icmp .ge 34, 3) := by decide +kernel
theorem dX6_placeOfFault_13 : decode cX6_placeOfFault 13 = .ok (.aload_n 0, 1) := by decide +kernel
theorem dX6_placeOfFault_14 : decode cX6_placeOfFault 14 = .ok (.getfield 24, 3) := by decide +kernel
theorem dX6_placeOfFault_17 : decode cX6_placeOfFault 17 = .ok (.iload_n 3, 1) := by decide +kernel
theorem dX6_placeOfFault_18 : decode cX6_placeOfFault 18 = .ok (.iaload, 1) := by decide +kernel
theorem dX6_placeOfFault_19 : decode cX6_placeOfFault 19 = .ok (.aload_n 0, 1) := by decide +kernel
theorem dX6_placeOfFault_20 : decode cX6_placeOfFault 20 = .ok (.getfield 20, 3) := by decide +kernel
theorem dX6_placeOfFault_23 : decode cX6_placeOfFault 23 = .ok (.iload_n 3, 1) := by decide +kernel
theorem dX6_placeOfFault_24 : decode cX6_placeOfFault 24 = .ok (.iaload, 1) := by decide +kernel
theorem dX6_placeOfFault_25 : decode cX6_placeOfFault 25 = .ok (.if_icmp .eq 13, 3) := by decide +kernel
theorem dX6_placeOfFault_28 : decode cX6_placeOfFault 28 = .ok (.iload_n 2, 1) := by decide +kernel
theorem dX6_placeOfFault_29 : decode cX6_placeOfFault 29 = .ok (.iload_n 1, 1) := by decide +kernel
theorem dX6_placeOfFault_30 : decode cX6_placeOfFault 30 = .ok (.if_icmp .ne 5, 3) := by decide +kernel
theorem dX6_placeOfFault_33 : decode cX6_placeOfFault 33 = .ok (.iload_n 3, 1) := by decide +kernel
theorem dX6_placeOfFault_34 : decode cX6_placeOfFault 34 = .ok (.ireturn, 1) := by decide +kernel
theorem dX6_placeOfFault_35 : decode cX6_placeOfFault 35 = .ok (.iinc 2 1, 3) := by decide +kernel
theorem dX6_placeOfFault_38 : decode cX6_placeOfFault 38 = .ok (.iinc 3 1, 3) := by decide +kernel
theorem dX6_placeOfFault_41 : decode cX6_placeOfFault 41 = .ok (.goto (-37), 3) := by decide +kernel
theorem dX6_placeOfFault_44 : decode cX6_placeOfFault 44 = .ok (.iconst (-1), 1) := by decide +kernel
theorem dX6_placeOfFault_45 : decode cX6_placeOfFault 45 = .ok (.ireturn, 1) := by decide +kernel
def f_X6_placeOfFault_L4 : Nat → Nat → Int32 → Int32 → Int32 → Hp → Option (Int32 × Hp)
  | 0, _, _, _, _, _ => none
  | n + 1, l0, l1, l2, l3, h =>
    gd (okOb h l0 6) <|
    vl (gR h l0 1) fun r2 =>
    un r2 fun b3 =>
    gd (okOb h b3 11) <|
    if (Int32.ofNat (gL h b3)) ≤ l3 then (
    some ((-1 : Int32), h)) else (
    vl (gR h l0 2) fun r6 =>
    un r6 fun b7 =>
    gd (okAb h b7 11 l3) <|
    vl (gI h b7 l3.toNatClampNeg) fun x9 =>
    vl (gR h l0 1) fun r10 =>
    un r10 fun b11 =>
    gd (okAb h b11 11 l3) <|
    vl (gI h b11 l3.toNatClampNeg) fun x13 =>
    if x9 = x13 then (
    vl (l3 + (1 : Int32)) fun x15 =>
    f_X6_placeOfFault_L4 n l0 l1 l2 x15 h) else (
    if l2 = l1 then (
    some (l3, h)) else (
    vl (l2 + (1 : Int32)) fun x17 =>
    vl (l3 + (1 : Int32)) fun x18 =>
    f_X6_placeOfFault_L4 n l0 l1 x17 x18 h)))
set_option maxHeartbeats 4000000 in
set_option maxRecDepth 100000 in
theorem t_X6_placeOfFault_L4 {X : Cx} {d : Nat} {h0 h' : Hp} {v : Int32} (hD : 1 ≤ d) : ∀ (n : Nat) (l0 : Nat) (l1 : Int32) (l2 : Int32) (l3 : Int32) (h : Hp), f_X6_placeOfFault_L4 n l0 l1 l2 l3 h = some (v, h') → EV X mX6_placeOfFault d h0 (some (.int v)) h' 4 [some (.ref l0), some (.int l1), some (.int l2), some (.int l3)] [] h := by
  intro n
  induction n with
  | zero => intro l0 l1 l2 l3 h H; simp [f_X6_placeOfFault_L4] at H
  | succ n ih =>
    intro l0 l1 l2 l3 h H
    rw [f_X6_placeOfFault_L4] at H
    refine ev_iload_n dX6_placeOfFault_4 rfl rfl ?_
    refine ev_aload_n dX6_placeOfFault_5 rfl rfl rfl ?_
    replace H := gd_some H
    obtain ⟨g1, H⟩ := H
    replace H := vl_some H
    obtain ⟨r2, er2, H⟩ := H
    refine ev_getRx dX6_placeOfFault_6 fgX6_20 rfl (okOb.p g1) er2 ?_
    replace H := un_some H
    obtain ⟨b3, eb3, H⟩ := H
    subst eb3
    replace H := gd_some H
    obtain ⟨g4, H⟩ := H
    refine ev_alen (kd := 11) (t0 := 0) dX6_placeOfFault_9 (by decide) (fun _ => rfl) (okOb.p g4) ?_
    refine ev_icmp_ge (tgt := 44) dX6_placeOfFault_10 (by decide) (fun c5 => ?_) (fun c5 => ?_)
    · rw [if_pos c5] at H
      refine ev_iconst (v := (-1 : Int32)) dX6_placeOfFault_44 (by decide) ?_
      exact ev_iretx dX6_placeOfFault_45 rfl rfl H
    · rw [if_neg c5] at H
      refine ev_aload_n dX6_placeOfFault_13 rfl rfl rfl ?_
      replace H := vl_some H
      obtain ⟨r6, er6, H⟩ := H
      refine ev_getRx dX6_placeOfFault_14 fgX6_24 rfl (okOb.p g1) er6 ?_
      refine ev_iload_n dX6_placeOfFault_17 rfl rfl ?_
      replace H := un_some H
      obtain ⟨b7, eb7, H⟩ := H
      subst eb7
      replace H := gd_some H
      obtain ⟨g8, H⟩ := H
      replace H := vl_some H
      obtain ⟨x9, ex9, H⟩ := H
      refine ev_ialdx dX6_placeOfFault_18 (okAb.p g8) ex9 ?_
      refine ev_aload_n dX6_placeOfFault_19 rfl rfl rfl ?_
      replace H := vl_some H
      obtain ⟨r10, er10, H⟩ := H
      refine ev_getRx dX6_placeOfFault_20 fgX6_20 rfl (okOb.p g1) er10 ?_
      refine ev_iload_n dX6_placeOfFault_23 rfl rfl ?_
      replace H := un_some H
      obtain ⟨b11, eb11, H⟩ := H
      subst eb11
      replace H := gd_some H
      obtain ⟨g12, H⟩ := H
      replace H := vl_some H
      obtain ⟨x13, ex13, H⟩ := H
      refine ev_ialdx dX6_placeOfFault_24 (okAb.p g12) ex13 ?_
      refine ev_icmp_eq (tgt := 38) dX6_placeOfFault_25 (by decide) (fun c14 => ?_) (fun c14 => ?_)
      · rw [if_pos c14] at H
        replace H := vl_some H
        obtain ⟨x15, ex15, H⟩ := H
        refine ev_iincx (loc2 := [some (.ref l0), some (.int l1), some (.int l2), some (.int x15)]) dX6_placeOfFault_38 rfl (by decide) ex15 (by decide) rfl ?_
        refine ev_goto (tgt := 4) dX6_placeOfFault_41 (by decide) ?_
        exact ih l0 l1 l2 x15 h H
      · rw [if_neg c14] at H
        refine ev_iload_n dX6_placeOfFault_28 rfl rfl ?_
        refine ev_iload_n dX6_placeOfFault_29 rfl rfl ?_
        refine ev_icmp_ne (tgt := 35) dX6_placeOfFault_30 (by decide) (fun c16 => ?_) (fun c16 => ?_)
        · rw [if_neg c16] at H
          replace H := vl_some H
          obtain ⟨x17, ex17, H⟩ := H
          refine ev_iincx (loc2 := [some (.ref l0), some (.int l1), some (.int x17), some (.int l3)]) dX6_placeOfFault_35 rfl (by decide) ex17 (by decide) rfl ?_
          replace H := vl_some H
          obtain ⟨x18, ex18, H⟩ := H
          refine ev_iincx (loc2 := [some (.ref l0), some (.int l1), some (.int x17), some (.int x18)]) dX6_placeOfFault_38 rfl (by decide) ex18 (by decide) rfl ?_
          refine ev_goto (tgt := 4) dX6_placeOfFault_41 (by decide) ?_
          exact ih l0 l1 x17 x18 h H
        · rw [if_pos c16] at H
          refine ev_iload_n dX6_placeOfFault_33 rfl rfl ?_
          exact ev_iretx dX6_placeOfFault_34 rfl rfl H
def f_X6_placeOfFault (h : Hp) (a0 : Nat) (a1 : Int32) : Option (Int32 × Hp) :=
f_X6_placeOfFault_L4 6000 a0 a1 (0 : Int32) (0 : Int32) h
set_option maxHeartbeats 4000000 in
set_option maxRecDepth 100000 in
theorem t_X6_placeOfFault {X : Cx} {d : Nat} {h : Hp} {a0 : Nat} {a1 : Int32} {v : Int32} {h' : Hp} (hD : 1 ≤ d) (H : f_X6_placeOfFault h a0 a1 = some (v, h')) : PM X mX6_placeOfFault d [.ref a0, .int a1] h (some (.int v)) h' := by
  unfold f_X6_placeOfFault at H
  refine PM.of (loc := [some (.ref a0), some (.int a1), none, none]) (by decide) rfl (Nat.le_of_ble_eq_true rfl) ?_
  refine ev_iconst (v := (0 : Int32)) dX6_placeOfFault_0 (by decide) ?_
  refine ev_istore_n (loc2 := [some (.ref a0), some (.int a1), some (.int (0 : Int32)), none]) dX6_placeOfFault_1 rfl (by decide) rfl ?_
  refine ev_iconst (v := (0 : Int32)) dX6_placeOfFault_2 (by decide) ?_
  refine ev_istore_n (loc2 := [some (.ref a0), some (.int a1), some (.int (0 : Int32)), some (.int (0 : Int32))]) dX6_placeOfFault_3 rfl (by decide) rfl ?_
  refine t_X6_placeOfFault_L4 hD  6000 a0 a1 (0 : Int32) (0 : Int32) h H

theorem dX7_init_0 : decode cX7_init 0 = .ok (.aload_n 0, 1) := by decide +kernel
theorem dX7_init_1 : decode cX7_init 1 = .ok (.invokespecial 3, 3) := by decide +kernel
theorem dX7_init_4 : decode cX7_init 4 = .ok (.aload_n 0, 1) := by decide +kernel
theorem dX7_init_5 : decode cX7_init 5 = .ok (.iconst (-1), 1) := by decide +kernel
theorem dX7_init_6 : decode cX7_init 6 = .ok (.putfield 9, 3) := by decide +kernel
theorem dX7_init_9 : decode cX7_init 9 = .ok (.aload_n 0, 1) := by decide +kernel
theorem dX7_init_10 : decode cX7_init 10 = .ok (.iload_n 1, 1) := by decide +kernel
theorem dX7_init_11 : decode cX7_init 11 = .ok (.putfield 15, 3) := by decide +kernel
theorem dX7_init_14 : decode cX7_init 14 = .ok (.aload_n 0, 1) := by decide +kernel
theorem dX7_init_15 : decode cX7_init 15 = .ok (.iload_n 2, 1) := by decide +kernel
theorem dX7_init_16 : decode cX7_init 16 = .ok (.putfield 18, 3) := by decide +kernel
theorem dX7_init_19 : decode cX7_init 19 = .ok (.aload_n 0, 1) := by decide +kernel
theorem dX7_init_20 : decode cX7_init 20 = .ok (.iload_n 3, 1) := by decide +kernel
theorem dX7_init_21 : decode cX7_init 21 = .ok (.putfield 21, 3) := by decide +kernel
theorem dX7_init_24 : decode cX7_init 24 = .ok (.aload_n 0, 1) := by decide +kernel
theorem dX7_init_25 : decode cX7_init 25 = .ok (.new 24, 3) := by decide +kernel
theorem dX7_init_28 : decode cX7_init 28 = .ok (.dup, 1) := by decide +kernel
theorem dX7_init_29 : decode cX7_init 29 = .ok (.iload_n 3, 1) := by decide +kernel
theorem dX7_init_30 : decode cX7_init 30 = .ok (.iconst 2, 1) := by decide +kernel
theorem dX7_init_31 : decode cX7_init 31 = .ok (.idiv, 1) := by decide +kernel
theorem dX7_init_32 : decode cX7_init 32 = .ok (.iload_n 2, 1) := by decide +kernel
theorem dX7_init_33 : decode cX7_init 33 = .ok (.invokespecial 26, 3) := by decide +kernel
theorem dX7_init_36 : decode cX7_init 36 = .ok (.putfield 29, 3) := by decide +kernel
theorem dX7_init_39 : decode cX7_init 39 = .ok (.aload_n 0, 1) := by decide +kernel
theorem dX7_init_40 : decode cX7_init 40 = .ok (.new 24, 3) := by decide +kernel
theorem dX7_init_43 : decode cX7_init 43 = .ok (.dup, 1) := by decide +kernel
theorem dX7_init_44 : decode cX7_init 44 = .ok (.iload_n 3, 1) := by decide +kernel
theorem dX7_init_45 : decode cX7_init 45 = .ok (.iconst 2, 1) := by decide +kernel
theorem dX7_init_46 : decode cX7_init 46 = .ok (.idiv, 1) := by decide +kernel
theorem dX7_init_47 : decode cX7_init 47 = .ok (.iload_n 2, 1) := by decide +kernel
theorem dX7_init_48 : decode cX7_init 48 = .ok (.invokespecial 26, 3) := by decide +kernel
theorem dX7_init_51 : decode cX7_init 51 = .ok (.putfield 33, 3) := by decide +kernel
theorem dX7_init_54 : decode cX7_init 54 = .ok (.aload_n 0, 1) := by decide +kernel
theorem dX7_init_55 : decode cX7_init 55 = .ok (.iload_n 2, 1) := by decide +kernel
theorem dX7_init_56 : decode cX7_init 56 = .ok (.newarray .int, 2) := by decide +kernel
theorem dX7_init_58 : decode cX7_init 58 = .ok (.putfield 36, 3) := by decide +kernel
theorem dX7_init_61 : decode cX7_init 61 = .ok (.aload_n 0, 1) := by decide +kernel
theorem dX7_init_62 : decode cX7_init 62 = .ok (.iload_n 2, 1) := by decide +kernel
theorem dX7_init_63 : decode cX7_init 63 = .ok (.putfield 40, 3) := by decide +kernel
theorem dX7_init_66 : decode cX7_init 66 = .ok (.iconst 0, 1) := by decide +kernel
theorem dX7_init_67 : decode cX7_init 67 = .ok (.istore 4, 2) := by decide +kernel
theorem dX7_init_69 : decode cX7_init 69 = .ok (.iload 4, 2) := by decide +kernel
theorem dX7_init_71 : decode cX7_init 71 = .ok (.iload_n 2, 1) := by decide +kernel
theorem dX7_init_72 : decode cX7_init 72 = .ok (.if_icmp .ge 18, 3) := by decide +kernel
theorem dX7_init_75 : decode cX7_init 75 = .ok (.aload_n 0, 1) := by decide +kernel
theorem dX7_init_76 : decode cX7_init 76 = .ok (.getfield 36, 3) := by decide +kernel
theorem dX7_init_79 : decode cX7_init 79 = .ok (.iload 4, 2) := by decide +kernel
theorem dX7_init_81 : decode cX7_init 81 = .ok (.iload 4, 2) := by decide +kernel
theorem dX7_init_83 : decode cX7_init 83 = .ok (.iastore, 1) := by decide +kernel
theorem dX7_init_84 : decode cX7_init 84 = .ok (.iinc 4 1, 3) := by decide +kernel
theorem dX7_init_87 : decode cX7_init 87 = .ok (.goto (-18), 3) := by decide +kernel
theorem dX7_init_90 : decode cX7_init 90 = .ok (.return_, 1) := by decide +kernel
def f_X7_init_L69 : Nat → Nat → Int32 → Int32 → Int32 → Int32 → Hp → Option (Unit × Hp)
  | 0, _, _, _, _, _, _ => none
  | n + 1, l0, l1, l2, l3, l4, h =>
    if l2 ≤ l4 then (
    some ((), h)) else (
    gd (okOb h l0 7) <|
    vl (gR h l0 6) fun r23 =>
    un r23 fun b24 =>
    gd (okAb h b24 11 l4) <|
    vl (sI h b24 l4.toNatClampNeg l4) fun h26 =>
    vl (l4 + (1 : Int32)) fun x27 =>
    f_X7_init_L69 n l0 l1 l2 l3 x27 h26)
set_option maxHeartbeats 4000000 in
set_option maxRecDepth 100000 in
theorem t_X7_init_L69 {X : Cx} {d : Nat} {h0 h' : Hp} {v : Unit} (hD : 3 ≤ d) : ∀ (n : Nat) (l0 : Nat) (l1 : Int32) (l2 : Int32) (l3 : Int32) (l4 : Int32) (h : Hp), f_X7_init_L69 n l0 l1 l2 l3 l4 h = some (v, h') → EV X mX7_init d h0 (none) h' 69 [some (.ref l0), some (.int l1), some (.int l2), some (.int l3), some (.int l4)] [] h := by
  intro n
  induction n with
  | zero => intro l0 l1 l2 l3 l4 h H; simp [f_X7_init_L69] at H
  | succ n ih =>
    intro l0 l1 l2 l3 l4 h H
    rw [f_X7_init_L69] at H
    refine ev_iload dX7_init_69 rfl ?_
    refine ev_iload_n dX7_init_71 rfl rfl ?_
    refine ev_icmp_ge (tgt := 90) dX7_init_72 (by decide) (fun c21 => ?_) (fun c21 => ?_)
    · rw [if_pos c21] at H
      exact ev_vretx dX7_init_90 rfl H
    · rw [if_neg c21] at H
      refine ev_aload_n dX7_init_75 rfl rfl rfl ?_
      replace H := gd_some H
      obtain ⟨g22, H⟩ := H
      replace H := vl_some H
      obtain ⟨r23, er23, H⟩ := H
      refine ev_getRx dX7_init_76 fgX7_36 rfl (okOb.p g22) er23 ?_
      refine ev_iload dX7_init_79 rfl ?_
      refine ev_iload dX7_init_81 rfl ?_
      replace H := un_some H
      obtain ⟨b24, eb24, H⟩ := H
      subst eb24
      replace H := gd_some H
      obtain ⟨g25, H⟩ := H
      replace H := vl_some H
      obtain ⟨h26, eh26, H⟩ := H
      refine ev_iast dX7_init_83 (okAb.p g25) eh26 ?_
      replace H := vl_some H
      obtain ⟨x27, ex27, H⟩ := H
      refine ev_iincx (loc2 := [some (.ref l0), some (.int l1), some (.int l2), some (.int l3), some (.int x27)]) dX7_init_84 rfl (by decide) ex27 (by decide) rfl ?_
      refine ev_goto (tgt := 69) dX7_init_87 (by decide) ?_
      exact ih l0 l1 l2 l3 x27 h26 H
def f_X7_init (h : Hp) (a0 : Nat) (a1 : Int32) (a2 : Int32) (a3 : Int32) : Option (Unit × Hp) :=
gd (okOb h a0 7) <|
vl (sI h a0 5 (-1 : Int32)) fun h2 =>
vl (sI h2 a0 0 a1) fun h3 =>
vl (sI h3 a0 1 a2) fun h4 =>
vl (sI h4 a0 2 a3) fun h5 =>
vl (gN h5) fun b6 =>
vl (nw h5 2 10 0) fun h7 =>
bnd (f_X2_init h7 b6 (a3 / (2 : Int32)) a2) fun u8 h9 =>
vl (sR h9 a0 3 (some b6)) fun h10 =>
vl (gN h10) fun b11 =>
vl (nw h10 2 10 0) fun h12 =>
bnd (f_X2_init h12 b11 (a3 / (2 : Int32)) a2) fun u13 h14 =>
vl (sR h14 a0 4 (some b11)) fun h15 =>
gd (okN a2) <|
vl (gN h15) fun b17 =>
vl (nw h15 11 a2.toNatClampNeg a2.toNatClampNeg) fun h18 =>
vl (sR h18 a0 6 (some b17)) fun h19 =>
vl (sI h19 a0 7 a2) fun h20 =>
f_X7_init_L69 6000 a0 a1 a2 a3 (0 : Int32) h20
set_option maxHeartbeats 4000000 in
set_option maxRecDepth 100000 in
theorem t_X7_init {X : Cx} {d : Nat} {h : Hp} {a0 : Nat} {a1 : Int32} {a2 : Int32} {a3 : Int32} {v : Unit} {h' : Hp} (hD : 3 ≤ d) (H : f_X7_init h a0 a1 a2 a3 = some (v, h')) : PM X mX7_init d [.ref a0, .int a1, .int a2, .int a3] h (none) h' := by
  unfold f_X7_init at H
  refine PM.of (loc := [some (.ref a0), some (.int a1), some (.int a2), some (.int a3), none]) (by decide) rfl (Nat.le_of_ble_eq_true rfl) ?_
  refine ev_aload_n dX7_init_0 rfl rfl rfl ?_
  refine ev_obj dX7_init_1 ⟨_, rfl⟩ k2_168 k1_26 k1_27 (by omega) (Nat.le_of_ble_eq_true rfl) ?_
  refine ev_aload_n dX7_init_4 rfl rfl rfl ?_
  refine ev_iconst (v := (-1 : Int32)) dX7_init_5 (by decide) ?_
  replace H := gd_some H
  obtain ⟨g1, H⟩ := H
  replace H := vl_some H
  obtain ⟨h2, eh2, H⟩ := H
  refine ev_putI dX7_init_6 fdX7_9 rfl rfl rfl (okOb.p g1) eh2 ?_
  refine ev_aload_n dX7_init_9 rfl rfl rfl ?_
  refine ev_iload_n dX7_init_10 rfl rfl ?_
  replace H := vl_some H
  obtain ⟨h3, eh3, H⟩ := H
  refine ev_putIF dX7_init_11 fdX7_15 rfl rfl rfl rfl (okO_sI eh2 (okOb.p g1)) eh3 ?_
  refine ev_aload_n dX7_init_14 rfl rfl rfl ?_
  refine ev_iload_n dX7_init_15 rfl rfl ?_
  replace H := vl_some H
  obtain ⟨h4, eh4, H⟩ := H
  refine ev_putIF dX7_init_16 fdX7_18 rfl rfl rfl rfl (okO_sI eh3 (okO_sI eh2 (okOb.p g1))) eh4 ?_
  refine ev_aload_n dX7_init_19 rfl rfl rfl ?_
  refine ev_iload_n dX7_init_20 rfl rfl ?_
  replace H := vl_some H
  obtain ⟨h5, eh5, H⟩ := H
  refine ev_putIF dX7_init_21 fdX7_21 rfl rfl rfl rfl (okO_sI eh4 (okO_sI eh3 (okO_sI eh2 (okOb.p g1)))) eh5 ?_
  refine ev_aload_n dX7_init_24 rfl rfl rfl ?_
  replace H := vl_some H
  obtain ⟨b6, eb6, H⟩ := H
  replace H := vl_some H
  obtain ⟨h7, eh7, H⟩ := H
  refine ev_newx dX7_init_25 ndX7_24 eb6 eh7 ?_
  refine ev_dup dX7_init_28 rfl ?_
  refine ev_iload_n dX7_init_29 rfl rfl ?_
  refine ev_iconst (v := (2 : Int32)) dX7_init_30 (by decide) ?_
  refine ev_idiv dX7_init_31 (by decide) ?_
  refine ev_iload_n dX7_init_32 rfl rfl ?_
  replace H := bnd_some H
  obtain ⟨u8, h9, eh9, H⟩ := H
  have ph9 := (t_X2_init (X := X) (d := 2) (by omega) eh9)
  refine ev_callI (as := [.int (a3 / (2 : Int32)), .int a2]) dX7_init_33 ph9 ok_X2_init (by omega) rfl k2_171 k2_172 rfl rfl rfl (Nat.le_of_ble_eq_true rfl) ?_
  replace H := vl_some H
  obtain ⟨h10, eh10, H⟩ := H
  refine ev_putRF (x := (some b6)) dX7_init_36 fdX7_29 rfl (Or.inl ⟨_, rfl⟩) rfl (okO_ext ph9.1 (okO_nw eh7 (okO_sI eh5 (okO_sI eh4 (okO_sI eh3 (okO_sI eh2 (okOb.p g1))))))) eh10 ?_
  refine ev_aload_n dX7_init_39 rfl rfl rfl ?_
  replace H := vl_some H
  obtain ⟨b11, eb11, H⟩ := H
  replace H := vl_some H
  obtain ⟨h12, eh12, H⟩ := H
  refine ev_newx dX7_init_40 ndX7_24 eb11 eh12 ?_
  refine ev_dup dX7_init_43 rfl ?_
  refine ev_iload_n dX7_init_44 rfl rfl ?_
  refine ev_iconst (v := (2 : Int32)) dX7_init_45 (by decide) ?_
  refine ev_idiv dX7_init_46 (by decide) ?_
  refine ev_iload_n dX7_init_47 rfl rfl ?_
  replace H := bnd_some H
  obtain ⟨u13, h14, eh14, H⟩ := H
  have ph14 := (t_X2_init (X := X) (d := 2) (by omega) eh14)
  refine ev_callI (as := [.int (a3 / (2 : Int32)), .int a2]) dX7_init_48 ph14 ok_X2_init (by omega) rfl k2_171 k2_172 rfl rfl rfl (Nat.le_of_ble_eq_true rfl) ?_
  replace H := vl_some H
  obtain ⟨h15, eh15, H⟩ := H
  refine ev_putRF (x := (some b11)) dX7_init_51 fdX7_33 rfl (Or.inl ⟨_, rfl⟩) rfl (okO_ext ph14.1 (okO_nw eh12 (okO_sR eh10 (okO_ext ph9.1 (okO_nw eh7 (okO_sI eh5 (okO_sI eh4 (okO_sI eh3 (okO_sI eh2 (okOb.p g1)))))))))) eh15 ?_
  refine ev_aload_n dX7_init_54 rfl rfl rfl ?_
  refine ev_iload_n dX7_init_55 rfl rfl ?_
  replace H := gd_some H
  obtain ⟨g16, H⟩ := H
  replace H := vl_some H
  obtain ⟨b17, eb17, H⟩ := H
  replace H := vl_some H
  obtain ⟨h18, eh18, H⟩ := H
  refine ev_newaIx dX7_init_56 k1_44 (okN.p g16) rfl eb17 eh18 ?_
  replace H := vl_some H
  obtain ⟨h19, eh19, H⟩ := H
  refine ev_putRF (x := (some b17)) dX7_init_58 fdX7_36 rfl (Or.inr ⟨_, rfl⟩) rfl (okO_nw eh18 (okO_sR eh15 (okO_ext ph14.1 (okO_nw eh12 (okO_sR eh10 (okO_ext ph9.1 (okO_nw eh7 (okO_sI eh5 (okO_sI eh4 (okO_sI eh3 (okO_sI eh2 (okOb.p g1)))))))))))) eh19 ?_
  refine ev_aload_n dX7_init_61 rfl rfl rfl ?_
  refine ev_iload_n dX7_init_62 rfl rfl ?_
  replace H := vl_some H
  obtain ⟨h20, eh20, H⟩ := H
  refine ev_putI dX7_init_63 fdX7_40 rfl rfl rfl (okO_sR eh19 (okO_nw eh18 (okO_sR eh15 (okO_ext ph14.1 (okO_nw eh12 (okO_sR eh10 (okO_ext ph9.1 (okO_nw eh7 (okO_sI eh5 (okO_sI eh4 (okO_sI eh3 (okO_sI eh2 (okOb.p g1))))))))))))) eh20 ?_
  refine ev_iconst (v := (0 : Int32)) dX7_init_66 (by decide) ?_
  refine ev_istore (loc2 := [some (.ref a0), some (.int a1), some (.int a2), some (.int a3), some (.int (0 : Int32))]) dX7_init_67 (by decide) rfl ?_
  refine t_X7_init_L69 hD  6000 a0 a1 a2 a3 (0 : Int32) h20 H

theorem dX7_formeOn_0 : decode cX7_formeOn 0 = .ok (.iload_n 1, 1) := by decide +kernel
theorem dX7_formeOn_1 : decode cX7_formeOn 1 = .ok (.ifCond .ne 10, 3) := by decide +kernel
theorem dX7_formeOn_4 : decode cX7_formeOn 4 = .ok (.aload_n 0, 1) := by decide +kernel
theorem dX7_formeOn_5 : decode cX7_formeOn 5 = .ok (.getfield 29, 3) := by decide +kernel
theorem dX7_formeOn_8 : decode cX7_formeOn 8 = .ok (.goto 7, 3) := by decide +kernel
theorem dX7_formeOn_11 : decode cX7_formeOn 11 = .ok (.aload_n 0, 1) := by decide +kernel
theorem dX7_formeOn_12 : decode cX7_formeOn 12 = .ok (.getfield 33, 3) := by decide +kernel
theorem dX7_formeOn_15 : decode cX7_formeOn 15 = .ok (.areturn, 1) := by decide +kernel
def f_X7_formeOn (h : Hp) (a0 : Nat) (a1 : Int32) : Option (Option Nat × Hp) :=
if a1 = 0 then (
gd (okOb h a0 7) <|
vl (gR h a0 3) fun r5 =>
some (r5, h)) else (
gd (okOb h a0 7) <|
vl (gR h a0 4) fun r3 =>
some (r3, h))
set_option maxHeartbeats 4000000 in
set_option maxRecDepth 100000 in
theorem t_X7_formeOn {X : Cx} {d : Nat} {h : Hp} {a0 : Nat} {a1 : Int32} {v : Option Nat} {h' : Hp} (hD : 1 ≤ d) (H : f_X7_formeOn h a0 a1 = some (v, h')) : PM X mX7_formeOn d [.ref a0, .int a1] h (some (rv v)) h' := by
  unfold f_X7_formeOn at H
  refine PM.of (loc := [some (.ref a0), some (.int a1)]) (by decide) rfl (Nat.le_of_ble_eq_true rfl) ?_
  refine ev_iload_n dX7_formeOn_0 rfl rfl ?_
  refine ev_if_ne (tgt := 11) dX7_formeOn_1 (by decide) (fun c1 => ?_) (fun c1 => ?_)
  · rw [if_neg c1] at H
    refine ev_aload_n dX7_formeOn_11 rfl rfl rfl ?_
    replace H := gd_some H
    obtain ⟨g2, H⟩ := H
    replace H := vl_some H
    obtain ⟨r3, er3, H⟩ := H
    refine ev_getRx dX7_formeOn_12 fgX7_33 rfl (okOb.p g2) er3 ?_
    exact ev_aretx (t := r3) dX7_formeOn_15 rfl (Or.inl ⟨_, rfl⟩) H
  · rw [if_pos c1] at H
    refine ev_aload_n dX7_formeOn_4 rfl rfl rfl ?_
    replace H := gd_some H
    obtain ⟨g4, H⟩ := H
    replace H := vl_some H
    obtain ⟨r5, er5, H⟩ := H
    refine ev_getRx dX7_formeOn_5 fgX7_29 rfl (okOb.p g4) er5 ?_
    refine ev_goto (tgt := 15) dX7_formeOn_8 (by decide) ?_
    exact ev_aretx (t := r5) dX7_formeOn_15 rfl (Or.inl ⟨_, rfl⟩) H

theorem dX7_takePages_0 : decode cX7_takePages 0 = .ok (.iconst 0, 1) := by decide +kernel
theorem dX7_takePages_1 : decode cX7_takePages 1 = .ok (.istore_n 3, 1) := by decide +kernel
theorem dX7_takePages_2 : decode cX7_takePages 2 = .ok (.iload_n 3, 1) := by decide +kernel
theorem dX7_takePages_3 : decode cX7_takePages 3 = .ok (.aload_n 0, 1) := by decide +kernel
theorem dX7_takePages_4 : decode cX7_takePages 4 = .ok (.getfield 21, 3) := by decide +kernel
theorem dX7_takePages_7 : decode cX7_takePages 7 = .ok (.if_icmp .ge 50, 3) := by decide +kernel
theorem dX7_takePages_10 : decode cX7_takePages 10 = .ok (.aload_n 2, 1) := by decide +kernel
theorem dX7_takePages_11 : decode cX7_takePages 11 = .ok (.aload_n 0, 1) := by decide +kernel
theorem dX7_takePages_12 : decode cX7_takePages 12 = .ok (.getfield 15, 3) := by decide +kernel
theorem dX7_takePages_15 : decode cX7_takePages 15 = .ok (.aload_n 1, 1) := by decide +kernel
theorem dX7_takePages_16 : decode cX7_takePages 16 = .ok (.getfield 43, 3) := by decide +kernel
theorem dX7_takePages_19 : decode cX7_takePages 19 = .ok (.iload_n 3, 1) := by decide +kernel
theorem dX7_takePages_20 : decode cX7_takePages 20 = .ok (.iaload, 1) := by decide +kernel
theorem dX7_takePages_21 : decode cX7_takePages 21 = .ok (.iadd, 1) := by decide +kernel
theorem dX7_takePages_22 : decode cX7_takePages 22 = .ok (.aaload, 1) := by decide +kernel
theorem dX7_takePages_23 : decode cX7_takePages 23 = .ok (.astore 4, 2) := by decide +kernel
theorem dX7_takePages_25 : decode cX7_takePages 25 = .ok (.aload 4, 2) := by decide +kernel
theorem dX7_takePages_27 : decode cX7_takePages 27 = .ok (.aload_n 0, 1) := by decide +kernel
theorem dX7_takePages_28 : decode cX7_takePages 28 = .ok (.iload_n 3, 1) := by decide +kernel
theorem dX7_takePages_29 : decode cX7_takePages 29 = .ok (.iconst 1, 1) := by decide +kernel
theorem dX7_takePages_30 : decode cX7_takePages 30 = .ok (.iand, 1) := by decide +kernel
theorem dX7_takePages_31 : decode cX7_takePages 31 = .ok (.invokevirtual 48, 3) := by decide +kernel
theorem dX7_takePages_34 : decode cX7_takePages 34 = .ok (.putfield 52, 3) := by decide +kernel
theorem dX7_takePages_37 : decode cX7_takePages 37 = .ok (.aload 4, 2) := by decide +kernel
theorem dX7_takePages_39 : decode cX7_takePages 39 = .ok (.getfield 52, 3) := by decide +kernel
theorem dX7_takePages_42 : decode cX7_takePages 42 = .ok (.getfield 57, 3) := by decide +kernel
theorem dX7_takePages_45 : decode cX7_takePages 45 = .ok (.iload_n 3, 1) := by decide +kernel
theorem dX7_takePages_46 : decode cX7_takePages 46 = .ok (.iconst 1, 1) := by decide +kernel
theorem dX7_takePages_47 : decode cX7_takePages 47 = .ok (.ishr, 1) := by decide +kernel
theorem dX7_takePages_48 : decode cX7_takePages 48 = .ok (.aload 4, 2) := by decide +kernel
theorem dX7_takePages_50 : decode cX7_takePages 50 = .ok (.aastore, 1) := by decide +kernel
theorem dX7_takePages_51 : decode cX7_takePages 51 = .ok (.iinc 3 1, 3) := by decide +kernel
theorem dX7_takePages_54 : decode cX7_takePages 54 = .ok (.goto (-52), 3) := by decide +kernel
theorem dX7_takePages_57 : decode cX7_takePages 57 = .ok (.return_, 1) := by decide +kernel
def f_X7_takePages_L2 : Nat → Nat → Nat → Nat → Int32 → Hp → Option (Unit × Hp)
  | 0, _, _, _, _, _ => none
  | n + 1, l0, l1, l2, l3, h =>
    gd (okOb h l0 7) <|
    vl (gI h l0 2) fun x2 =>
    if x2 ≤ l3 then (
    some ((), h)) else (
    vl (gI h l0 0) fun x4 =>
    gd (okOb h l1 1) <|
    vl (gR h l1 2) fun r6 =>
    un r6 fun b7 =>
    gd (okAb h b7 11 l3) <|
    vl (gI h b7 l3.toNatClampNeg) fun x9 =>
    gd (okAb h l2 14 (x4 + x9)) <|
    vl (gR h l2 (x4 + x9).toNatClampNeg) fun r11 =>
    bnd (f_X7_formeOn h l0 (l3 &&& (1 : Int32))) fun v12 h13 =>
    un r11 fun b14 =>
    gd (okOb h13 b14 6) <|
    vl (sR h13 b14 7 v12) fun h16 =>
    vl (gR h16 b14 7) fun r17 =>
    un r17 fun b18 =>
    gd (okOb h16 b18 2) <|
    vl (gR h16 b18 0) fun r20 =>
    un r20 fun b21 =>
    gd (okAb h16 b21 14 (l3 >>> ((1 : Int32) &&& 31))) <|
    vl (sR h16 b21 (l3 >>> ((1 : Int32) &&& 31)).toNatClampNeg (some b14)) fun h23 =>
    vl (l3 + (1 : Int32)) fun x24 =>
    f_X7_takePages_L2 n l0 l1 l2 x24 h23)
set_option maxHeartbeats 4000000 in
set_option maxRecDepth 100000 in
theorem t_X7_takePages_L2 {X : Cx} {d : Nat} {h0 h' : Hp} {v : Unit} (hD : 2 ≤ d) : ∀ (n : Nat) (l0 : Nat) (l1 : Nat) (l2 : Nat) (l3 : Int32) (h : Hp), f_X7_takePages_L2 n l0 l1 l2 l3 h = some (v, h') → EV X mX7_takePages d h0 (none) h' 2 [some (.ref l0), some (.ref l1), some (.ref l2), some (.int l3), none] [] h := by
  intro n
  induction n with
  | zero => intro l0 l1 l2 l3 h H; simp [f_X7_takePages_L2] at H
  | succ n ih =>
    intro l0 l1 l2 l3 h H
    rw [f_X7_takePages_L2] at H
    refine ev_iload_n dX7_takePages_2 rfl rfl ?_
    refine ev_aload_n dX7_takePages_3 rfl rfl rfl ?_
    replace H := gd_some H
    obtain ⟨g1, H⟩ := H
    replace H := vl_some H
    obtain ⟨x2, ex2, H⟩ := H
    refine ev_getIx dX7_takePages_4 fgX7_21 rfl (okOb.p g1) ex2 ?_
    refine ev_icmp_ge (tgt := 57) dX7_takePages_7 (by decide) (fun c3 => ?_) (fun c3 => ?_)
    · rw [if_pos c3] at H
      exact ev_vretx dX7_takePages_57 rfl H
    · rw [if_neg c3] at H
      refine ev_aload_n dX7_takePages_10 rfl rfl rfl ?_
      refine ev_aload_n dX7_takePages_11 rfl rfl rfl ?_
      replace H := vl_some H
      obtain ⟨x4, ex4, H⟩ := H
      refine ev_getIx dX7_takePages_12 fgX7_15 rfl (okOb.p g1) ex4 ?_
      refine ev_aload_n dX7_takePages_15 rfl rfl rfl ?_
      replace H := gd_some H
      obtain ⟨g5, H⟩ := H
      replace H := vl_some H
      obtain ⟨r6, er6, H⟩ := H
      refine ev_getRx dX7_takePages_16 fgX7_43 rfl (okOb.p g5) er6 ?_
      refine ev_iload_n dX7_takePages_19 rfl rfl ?_
      replace H := un_some H
      obtain ⟨b7, eb7, H⟩ := H
      subst eb7
      replace H := gd_some H
      obtain ⟨g8, H⟩ := H
      replace H := vl_some H
      obtain ⟨x9, ex9, H⟩ := H
      refine ev_ialdx dX7_takePages_20 (okAb.p g8) ex9 ?_
      refine ev_iadd dX7_takePages_21 ?_
      replace H := gd_some H
      obtain ⟨g10, H⟩ := H
      replace H := vl_some H
      obtain ⟨r11, er11, H⟩ := H
      refine ev_aaldx (kd := 14) (t0 := 3) dX7_takePages_22 (by decide) (fun _ => rfl) (okAb.p g10) er11 ?_
      refine ev_astore (loc2 := [some (.ref l0), some (.ref l1), some (.ref l2), some (.int l3), some (rv r11)]) dX7_takePages_23 (by decide) (isA_rv _) rfl ?_
      refine ev_aload dX7_takePages_25 rfl (isA_rv _) ?_
      refine ev_aload_n dX7_takePages_27 rfl rfl rfl ?_
      refine ev_iload_n dX7_takePages_28 rfl rfl ?_
      refine ev_iconst (v := (1 : Int32)) dX7_takePages_29 (by decide) ?_
      refine ev_iand dX7_takePages_30 ?_
      replace H := bnd_some H
      obtain ⟨v12, h13, eh13, H⟩ := H
      have ph13 := (t_X7_formeOn (X := X) (d := 1) (by omega) eh13)
      refine ev_callV (as := [.int (l3 &&& (1 : Int32))]) dX7_takePages_31 ph13 ok_X7_formeOn (by omega) rfl k3_9 k3_10 k3_11 (ci := 7) (by decide) rfl rfl (okOb.p g1) rfl (by simp only [List.map_cons, List.map_nil, rv_cat]; exact Nat.le_of_ble_eq_true rfl) ?_
      replace H := un_some H
      obtain ⟨b14, eb14, H⟩ := H
      subst eb14
      replace H := gd_some H
      obtain ⟨g15, H⟩ := H
      replace H := vl_some H
      obtain ⟨h16, eh16, H⟩ := H
      refine ev_putR (x := v12) dX7_takePages_34 fdX7_52 rfl (Or.inl ⟨_, rfl⟩) (okOb.p g15) eh16 ?_
      refine ev_aload dX7_takePages_37 rfl rfl ?_
      replace H := vl_some H
      obtain ⟨r17, er17, H⟩ := H
      refine ev_getRx dX7_takePages_39 fgX7_52 rfl (okO_sR eh16 (okOb.p g15)) er17 ?_
      replace H := un_some H
      obtain ⟨b18, eb18, H⟩ := H
      subst eb18
      replace H := gd_some H
      obtain ⟨g19, H⟩ := H
      replace H := vl_some H
      obtain ⟨r20, er20, H⟩ := H
      refine ev_getRx dX7_takePages_42 fgX7_57 rfl (okOb.p g19) er20 ?_
      refine ev_iload_n dX7_takePages_45 rfl rfl ?_
      refine ev_iconst (v := (1 : Int32)) dX7_takePages_46 (by decide) ?_
      refine ev_ishr dX7_takePages_47 ?_
      refine ev_aload dX7_takePages_48 rfl rfl ?_
      replace H := un_some H
      obtain ⟨b21, eb21, H⟩ := H
      subst eb21
      replace H := gd_some H
      obtain ⟨g22, H⟩ := H
      replace H := vl_some H
      obtain ⟨h23, eh23, H⟩ := H
      refine ev_aast (kd := 14) (t0 := 3) (ci := 6) dX7_takePages_50 (by decide) rfl (by decide) (fun _ => rfl) (okO_sR eh16 (okOb.p g15)) (okAb.p g22) eh23 ?_
      replace H := vl_some H
      obtain ⟨x24, ex24, H⟩ := H
      refine ev_iincx (loc2 := [some (.ref l0), some (.ref l1), some (.ref l2), some (.int x24), some (.ref b14)]) dX7_takePages_51 rfl (by decide) ex24 (by decide) rfl ?_
      refine ev_goto (tgt := 2) dX7_takePages_54 (by decide) ?_
      refine ev_drop (loc2 := [some (.ref l0), some (.ref l1), some (.ref l2), some (.int x24), none]) [true, true, true, true, false] rfl ?_
      exact ih l0 l1 l2 x24 h23 H
def f_X7_takePages (h : Hp) (a0 : Nat) (a1 : Nat) (a2 : Nat) : Option (Unit × Hp) :=
f_X7_takePages_L2 6000 a0 a1 a2 (0 : Int32) h
set_option maxHeartbeats 4000000 in
set_option maxRecDepth 100000 in
theorem t_X7_takePages {X : Cx} {d : Nat} {h : Hp} {a0 : Nat} {a1 : Nat} {a2 : Nat} {v : Unit} {h' : Hp} (hD : 2 ≤ d) (H : f_X7_takePages h a0 a1 a2 = some (v, h')) : PM X mX7_takePages d [.ref a0, .ref a1, .ref a2] h (none) h' := by
  unfold f_X7_takePages at H
  refine PM.of (loc := [some (.ref a0), some (.ref a1), some (.ref a2), none, none]) (by decide) rfl (Nat.le_of_ble_eq_true rfl) ?_
  refine ev_iconst (v := (0 : Int32)) dX7_takePages_0 (by decide) ?_
  refine ev_istore_n (loc2 := [some (.ref a0), some (.ref a1), some (.ref a2), some (.int (0 : Int32)), none]) dX7_takePages_1 rfl (by decide) rfl ?_
  refine t_X7_takePages_L2 hD  6000 a0 a1 a2 (0 : Int32) h H

theorem dX7_isFirstSide_0 : decode cX7_isFirstSide 0 = .ok (.aload_n 0, 1) := by decide +kernel
theorem dX7_isFirstSide_1 : decode cX7_isFirstSide 1 = .ok (.getfield 9, 3) := by decide +kernel
theorem dX7_isFirstSide_4 : decode cX7_isFirstSide 4 = .ok (.iconst (-1), 1) := by decide +kernel
theorem dX7_isFirstSide_5 : decode cX7_isFirstSide 5 = .ok (.if_icmp .eq 11, 3) := by decide +kernel
theorem dX7_isFirstSide_8 : decode cX7_isFirstSide 8 = .ok (.aload_n 0, 1) := by decide +kernel
theorem dX7_isFirstSide_9 : decode cX7_isFirstSide 9 = .ok (.getfield 9, 3) := by decide +kernel
theorem dX7_isFirstSide_12 : decode cX7_isFirstSide 12 = .ok (.iload_n 1, 1) := by decide +kernel
theorem dX7_isFirstSide_13 : decode cX7_isFirstSide 13 = .ok (.if_icmp .ne 7, 3) := by decide +kernel
theorem dX7_isFirstSide_16 : decode cX7_isFirstSide 16 = .ok (.iconst 1, 1) := by decide +kernel
theorem dX7_isFirstSide_17 : decode cX7_isFirstSide 17 = .ok (.goto 4, 3) := by decide +kernel
theorem dX7_isFirstSide_20 : decode cX7_isFirstSide 20 = .ok (.iconst 0, 1) := by decide +kernel
theorem dX7_isFirstSide_21 : decode cX7_isFirstSide 21 = .ok (.ireturn, 1) := by decide +kernel
def f_X7_isFirstSide (h : Hp) (a0 : Nat) (a1 : Int32) : Option (Int32 × Hp) :=
gd (okOb h a0 7) <|
vl (gI h a0 5) fun x2 =>
if x2 = (-1 : Int32) then (
some ((1 : Int32), h)) else (
vl (gI h a0 5) fun x4 =>
if x4 = a1 then (
some ((1 : Int32), h)) else (
some ((0 : Int32), h)))
set_option maxHeartbeats 4000000 in
set_option maxRecDepth 100000 in
theorem t_X7_isFirstSide {X : Cx} {d : Nat} {h : Hp} {a0 : Nat} {a1 : Int32} {v : Int32} {h' : Hp} (hD : 1 ≤ d) (H : f_X7_isFirstSide h a0 a1 = some (v, h')) : PM X mX7_isFirstSide d [.ref a0, .int a1] h (some (.int v)) h' := by
  unfold f_X7_isFirstSide at H
  refine PM.of (loc := [some (.ref a0), some (.int a1)]) (by decide) rfl (Nat.le_of_ble_eq_true rfl) ?_
  refine ev_aload_n dX7_isFirstSide_0 rfl rfl rfl ?_
  replace H := gd_some H
  obtain ⟨g1, H⟩ := H
  replace H := vl_some H
  obtain ⟨x2, ex2, H⟩ := H
  refine ev_getIx dX7_isFirstSide_1 fgX7_9 rfl (okOb.p g1) ex2 ?_
  refine ev_iconst (v := (-1 : Int32)) dX7_isFirstSide_4 (by decide) ?_
  refine ev_icmp_eq (tgt := 16) dX7_isFirstSide_5 (by decide) (fun c3 => ?_) (fun c3 => ?_)
  · rw [if_pos c3] at H
    refine ev_iconst (v := (1 : Int32)) dX7_isFirstSide_16 (by decide) ?_
    refine ev_goto (tgt := 21) dX7_isFirstSide_17 (by decide) ?_
    exact ev_iretx dX7_isFirstSide_21 rfl rfl H
  · rw [if_neg c3] at H
    refine ev_aload_n dX7_isFirstSide_8 rfl rfl rfl ?_
    replace H := vl_some H
    obtain ⟨x4, ex4, H⟩ := H
    refine ev_getIx dX7_isFirstSide_9 fgX7_9 rfl (okOb.p g1) ex4 ?_
    refine ev_iload_n dX7_isFirstSide_12 rfl rfl ?_
    refine ev_icmp_ne (tgt := 20) dX7_isFirstSide_13 (by decide) (fun c5 => ?_) (fun c5 => ?_)
    · rw [if_neg c5] at H
      refine ev_iconst (v := (0 : Int32)) dX7_isFirstSide_20 (by decide) ?_
      exact ev_iretx dX7_isFirstSide_21 rfl rfl H
    · rw [if_pos c5] at H
      refine ev_iconst (v := (1 : Int32)) dX7_isFirstSide_16 (by decide) ?_
      refine ev_goto (tgt := 21) dX7_isFirstSide_17 (by decide) ?_
      exact ev_iretx dX7_isFirstSide_21 rfl rfl H

theorem dX7_mayBePrintedOn_0 : decode cX7_mayBePrintedOn 0 = .ok (.aload_n 0, 1) := by decide +kernel
theorem dX7_mayBePrintedOn_1 : decode cX7_mayBePrintedOn 1 = .ok (.iload_n 1, 1) := by decide +kernel
theorem dX7_mayBePrintedOn_2 : decode cX7_mayBePrintedOn 2 = .ok (.invokevirtual 61, 3) := by decide +kernel
theorem dX7_mayBePrintedOn_5 : decode cX7_mayBePrintedOn 5 = .ok (.ifCond .ne 17, 3) := by decide +kernel
theorem dX7_mayBePrintedOn_8 : decode cX7_mayBePrintedOn 8 = .ok (.aload_n 0, 1) := by decide +kernel
theorem dX7_mayBePrintedOn_9 : decode cX7_mayBePrintedOn 9 = .ok (.aload_n 0, 1) := by decide +kernel
theorem dX7_mayBePrintedOn_10 : decode cX7_mayBePrintedOn 10 = .ok (.getfield 9, 3) := by decide +kernel
theorem dX7_mayBePrintedOn_13 : decode cX7_mayBePrintedOn 13 = .ok (.invokevirtual 48, 3) := by decide +kernel
theorem dX7_mayBePrintedOn_16 : decode cX7_mayBePrintedOn 16 = .ok (.invokevirtual 65, 3) := by decide +kernel
theorem dX7_mayBePrintedOn_19 : decode cX7_mayBePrintedOn 19 = .ok (.ifCond .eq 7, 3) := by decide +kernel
theorem dX7_mayBePrintedOn_22 : decode cX7_mayBePrintedOn 22 = .ok (.iconst 1, 1) := by decide +kernel
theorem dX7_mayBePrintedOn_23 : decode cX7_mayBePrintedOn 23 = .ok (.goto 4, 3) := by decide +kernel
theorem dX7_mayBePrintedOn_26 : decode cX7_mayBePrintedOn 26 = .ok (.iconst 0, 1) := by decide +kernel
theorem dX7_mayBePrintedOn_27 : decode cX7_mayBePrintedOn 27 = .ok (.ireturn, 1) := by decide +kernel
def f_X7_mayBePrintedOn (h : Hp) (a0 : Nat) (a1 : Int32) : Option (Int32 × Hp) :=
gd (okOb h a0 7) <|
bnd (f_X7_isFirstSide h a0 a1) fun v2 h3 =>
if v2 = 0 then (
vl (gI h3 a0 5) fun x5 =>
bnd (f_X7_formeOn h3 a0 x5) fun v6 h7 =>
un v6 fun b8 =>
gd (okOb h7 b8 2) <|
bnd (f_X2_hasAll h7 b8) fun v10 h11 =>
if v10 = 0 then (
some ((0 : Int32), h11)) else (
some ((1 : Int32), h11))) else (
some ((1 : Int32), h3))
set_option maxHeartbeats 4000000 in
set_option maxRecDepth 100000 in
theorem t_X7_mayBePrintedOn {X : Cx} {d : Nat} {h : Hp} {a0 : Nat} {a1 : Int32} {v : Int32} {h' : Hp} (hD : 2 ≤ d) (H : f_X7_mayBePrintedOn h a0 a1 = some (v, h')) : PM X mX7_mayBePrintedOn d [.ref a0, .int a1] h (some (.int v)) h' := by
  unfold f_X7_mayBePrintedOn at H
  refine PM.of (loc := [some (.ref a0), some (.int a1)]) (by decide) rfl (Nat.le_of_ble_eq_true rfl) ?_
  refine ev_aload_n dX7_mayBePrintedOn_0 rfl rfl rfl ?_
  refine ev_iload_n dX7_mayBePrintedOn_1 rfl rfl ?_
  replace H := gd_some H
  obtain ⟨g1, H⟩ := H
  replace H := bnd_some H
  obtain ⟨v2, h3, eh3, H⟩ := H
  have ph3 := (t_X7_isFirstSide (X := X) (d := 1) (by omega) eh3)
  refine ev_callV (as := [.int a1]) dX7_mayBePrintedOn_2 ph3 ok_X7_isFirstSide (by omega) rfl k3_62 k3_63 k3_64 (ci := 7) (by decide) rfl rfl (okOb.p g1) rfl (Nat.le_of_ble_eq_true rfl) ?_
  refine ev_if_ne (tgt := 22) dX7_mayBePrintedOn_5 (by decide) (fun c4 => ?_) (fun c4 => ?_)
  · rw [if_neg c4] at H
    refine ev_iconst (v := (1 : Int32)) dX7_mayBePrintedOn_22 (by decide) ?_
    refine ev_goto (tgt := 27) dX7_mayBePrintedOn_23 (by decide) ?_
    exact ev_iretx dX7_mayBePrintedOn_27 rfl rfl H
  · rw [if_pos c4] at H
    refine ev_aload_n dX7_mayBePrintedOn_8 rfl rfl rfl ?_
    refine ev_aload_n dX7_mayBePrintedOn_9 rfl rfl rfl ?_
    replace H := vl_some H
    obtain ⟨x5, ex5, H⟩ := H
    refine ev_getIx dX7_mayBePrintedOn_10 fgX7_9 rfl (okO_ext ph3.1 (okOb.p g1)) ex5 ?_
    replace H := bnd_some H
    obtain ⟨v6, h7, eh7, H⟩ := H
    have ph7 := (t_X7_formeOn (X := X) (d := 1) (by omega) eh7)
    refine ev_callV (as := [.int x5]) dX7_mayBePrintedOn_13 ph7 ok_X7_formeOn (by omega) rfl k3_9 k3_10 k3_11 (ci := 7) (by decide) rfl rfl (okO_ext ph3.1 (okOb.p g1)) rfl (Nat.le_of_ble_eq_true rfl) ?_
    replace H := un_some H
    obtain ⟨b8, eb8, H⟩ := H
    subst eb8
    replace H := gd_some H
    obtain ⟨g9, H⟩ := H
    replace H := bnd_some H
    obtain ⟨v10, h11, eh11, H⟩ := H
    have ph11 := (t_X2_hasAll (X := X) (d := 1) (by omega) eh11)
    refine ev_callV (as := []) dX7_mayBePrintedOn_16 ph11 ok_X2_hasAll (by omega) rfl k3_66 k3_47 k3_48 (ci := 2) (by decide) rfl rfl (okOb.p g9) rfl (Nat.le_of_ble_eq_true rfl) ?_
    refine ev_if_eq (tgt := 26) dX7_mayBePrintedOn_19 (by decide) (fun c12 => ?_) (fun c12 => ?_)
    · rw [if_pos c12] at H
      refine ev_iconst (v := (0 : Int32)) dX7_mayBePrintedOn_26 (by decide) ?_
      exact ev_iretx dX7_mayBePrintedOn_27 rfl rfl H
    · rw [if_neg c12] at H
      refine ev_iconst (v := (1 : Int32)) dX7_mayBePrintedOn_22 (by decide) ?_
      refine ev_goto (tgt := 27) dX7_mayBePrintedOn_23 (by decide) ?_
      exact ev_iretx dX7_mayBePrintedOn_27 rfl rfl H

theorem dX7_printRun_0 : decode cX7_printRun 0 = .ok (.aload_n 0, 1) := by decide +kernel
theorem dX7_printRun_1 : decode cX7_printRun 1 = .ok (.getfield 9, 3) := by decide +kernel
theorem dX7_printRun_4 : decode cX7_printRun 4 = .ok (.iconst (-1), 1) := by decide +kernel
theorem dX7_printRun_5 : decode cX7_printRun 5 = .ok (.if_icmp .ne 8, 3) := by decide +kernel
theorem dX7_printRun_8 : decode cX7_printRun 8 = .ok (.aload_n 0, 1) := by decide +kernel
theorem dX7_printRun_9 : decode cX7_printRun 9 = .ok (.iload_n 1, 1) := by decide +kernel
theorem dX7_printRun_10 : decode cX7_printRun 10 = .ok (.putfield 9, 3) := by decide +kernel
theorem dX7_printRun_13 : decode cX7_printRun 13 = .ok (.aload_n 0, 1) := by decide +kernel
theorem dX7_printRun_14 : decode cX7_printRun 14 = .ok (.iload_n 1, 1) := by decide +kernel
theorem dX7_printRun_15 : decode cX7_printRun 15 = .ok (.invokevirtual 48, 3) := by decide +kernel
theorem dX7_printRun_18 : decode cX7_printRun 18 = .ok (.astore_n 3, 1) := by decide +kernel
theorem dX7_printRun_19 : decode cX7_printRun 19 = .ok (.iconst 0, 1) := by decide +kernel
theorem dX7_printRun_20 : decode cX7_printRun 20 = .ok (.istore 4, 2) := by decide +kernel
theorem dX7_printRun_22 : decode cX7_printRun 22 = .ok (.iload 4, 2) := by decide +kernel
theorem dX7_printRun_24 : decode cX7_printRun 24 = .ok (.iload_n 2, 1) := by decide +kernel
theorem dX7_printRun_25 : decode cX7_printRun 25 = .ok (.if_icmp .ge 39, 3) := by decide +kernel
theorem dX7_printRun_28 : decode cX7_printRun 28 = .ok (.aload_n 3, 1) := by decide +kernel
theorem dX7_printRun_29 : decode cX7_printRun 29 = .ok (.iload_n 1, 1) := by decide +kernel
theorem dX7_printRun_30 : decode cX7_printRun 30 = .ok (.aload_n 0, 1) := by decide +kernel
theorem dX7_printRun_31 : decode cX7_printRun 31 = .ok (.getfield 9, 3) := by decide +kernel
theorem dX7_printRun_34 : decode cX7_printRun 34 = .ok (.if_icmp .ne 10, 3) := by decide +kernel
theorem dX7_printRun_37 : decode cX7_printRun 37 = .ok (.aload_n 3, 1) := by decide +kernel
theorem dX7_printRun_38 : decode cX7_printRun 38 = .ok (.getfield 69, 3) := by decide +kernel
theorem dX7_printRun_41 : decode cX7_printRun 41 = .ok (.goto 14, 3) := by decide +kernel
theorem dX7_printRun_44 : decode cX7_printRun 44 = .ok (.aload_n 0, 1) := by decide +kernel
theorem dX7_printRun_45 : decode cX7_printRun 45 = .ok (.getfield 18, 3) := by decide +kernel
theorem dX7_printRun_48 : decode cX7_printRun 48 = .ok (.iconst 1, 1) := by decide +kernel
theorem dX7_printRun_49 : decode cX7_printRun 49 = .ok (.isub, 1) := by decide +kernel
theorem dX7_printRun_50 : decode cX7_printRun 50 = .ok (.aload_n 3, 1) := by decide +kernel
theorem dX7_printRun_51 : decode cX7_printRun 51 = .ok (.getfield 69, 3) := by decide +kernel
theorem dX7_printRun_54 : decode cX7_printRun 54 = .ok (.isub, 1) := by decide +kernel
theorem dX7_printRun_55 : decode cX7_printRun 55 = .ok (.invokevirtual 72, 3) := by decide +kernel
theorem dX7_printRun_58 : decode cX7_printRun 58 = .ok (.iinc 4 1, 3) := by decide +kernel
theorem dX7_printRun_61 : decode cX7_printRun 61 = .ok (.goto (-39), 3) := by decide +kernel
theorem dX7_printRun_64 : decode cX7_printRun 64 = .ok (.return_, 1) := by decide +kernel
def f_X7_printRun_L22 : Nat → Nat → Int32 → Int32 → Option Nat → Int32 → Hp → Option (Unit × Hp)
  | 0, _, _, _, _, _, _ => none
  | n + 1, l0, l1, l2, l3, l4, h =>
    if l2 ≤ l4 then (
    some ((), h)) else (
    gd (okOb h l0 7) <|
    vl (gI h l0 5) fun x9 =>
    if l1 = x9 then (
    un l3 fun b18 =>
    gd (okOb h b18 2) <|
    vl (gI h b18 3) fun x20 =>
    bnd (f_X2_impress h b18 x20) fun u21 h22 =>
    vl (l4 + (1 : Int32)) fun x23 =>
    f_X7_printRun_L22 n l0 l1 l2 (some b18) x23 h22) else (
    vl (gI h l0 1) fun x11 =>
    un l3 fun b12 =>
    gd (okOb h b12 2) <|
    vl (gI h b12 3) fun x14 =>
    bnd (f_X2_impress h b12 ((x11 - (1 : Int32)) - x14)) fun u15 h16 =>
    vl (l4 + (1 : Int32)) fun x17 =>
    f_X7_printRun_L22 n l0 l1 l2 (some b12) x17 h16))
set_option maxHeartbeats 4000000 in
set_option maxRecDepth 100000 in
theorem t_X7_printRun_L22 {X : Cx} {d : Nat} {h0 h' : Hp} {v : Unit} (hD : 3 ≤ d) : ∀ (n : Nat) (l0 : Nat) (l1 : Int32) (l2 : Int32) (l3 : Option Nat) (l4 : Int32) (h : Hp), f_X7_printRun_L22 n l0 l1 l2 l3 l4 h = some (v, h') → EV X mX7_printRun d h0 (none) h' 22 [some (.ref l0), some (.int l1), some (.int l2), some (rv l3), some (.int l4)] [] h := by
  intro n
  induction n with
  | zero => intro l0 l1 l2 l3 l4 h H; simp [f_X7_printRun_L22] at H
  | succ n ih =>
    intro l0 l1 l2 l3 l4 h H
    rw [f_X7_printRun_L22] at H
    refine ev_iload dX7_printRun_22 rfl ?_
    refine ev_iload_n dX7_printRun_24 rfl rfl ?_
    refine ev_icmp_ge (tgt := 64) dX7_printRun_25 (by decide) (fun c7 => ?_) (fun c7 => ?_)
    · rw [if_pos c7] at H
      exact ev_vretx dX7_printRun_64 rfl H
    · rw [if_neg c7] at H
      refine ev_aload_n dX7_printRun_28 rfl rfl (isA_rv _) ?_
      refine ev_iload_n dX7_printRun_29 rfl rfl ?_
      refine ev_aload_n dX7_printRun_30 rfl rfl rfl ?_
      replace H := gd_some H
      obtain ⟨g8, H⟩ := H
      replace H := vl_some H
      obtain ⟨x9, ex9, H⟩ := H
      refine ev_getIx dX7_printRun_31 fgX7_9 rfl (okOb.p g8) ex9 ?_
      refine ev_icmp_ne (tgt := 44) dX7_printRun_34 (by decide) (fun c10 => ?_) (fun c10 => ?_)
      · rw [if_neg c10] at H
        refine ev_aload_n dX7_printRun_44 rfl rfl rfl ?_
        replace H := vl_some H
        obtain ⟨x11, ex11, H⟩ := H
        refine ev_getIx dX7_printRun_45 fgX7_18 rfl (okOb.p g8) ex11 ?_
        refine ev_iconst (v := (1 : Int32)) dX7_printRun_48 (by decide) ?_
        refine ev_isub dX7_printRun_49 ?_
        refine ev_aload_n dX7_printRun_50 rfl rfl (isA_rv _) ?_
        replace H := un_some H
        obtain ⟨b12, eb12, H⟩ := H
        subst eb12
        replace H := gd_some H
        obtain ⟨g13, H⟩ := H
        replace H := vl_some H
        obtain ⟨x14, ex14, H⟩ := H
        refine ev_getIx dX7_printRun_51 fgX7_69 rfl (okOb.p g13) ex14 ?_
        refine ev_isub dX7_printRun_54 ?_
        replace H := bnd_some H
        obtain ⟨u15, h16, eh16, H⟩ := H
        have ph16 := (t_X2_impress (X := X) (d := 2) (by omega) eh16)
        refine ev_callV (as := [.int ((x11 - (1 : Int32)) - x14)]) dX7_printRun_55 ph16 ok_X2_impress (by omega) rfl k3_73 k3_74 k3_75 (ci := 2) (by decide) rfl rfl (okOb.p g13) rfl (Nat.le_of_ble_eq_true rfl) ?_
        replace H := vl_some H
        obtain ⟨x17, ex17, H⟩ := H
        refine ev_iincx (loc2 := [some (.ref l0), some (.int l1), some (.int l2), some (.ref b12), some (.int x17)]) dX7_printRun_58 rfl (by decide) ex17 (by decide) rfl ?_
        refine ev_goto (tgt := 22) dX7_printRun_61 (by decide) ?_
        exact ih l0 l1 l2 (some b12) x17 h16 H
      · rw [if_pos c10] at H
        refine ev_aload_n dX7_printRun_37 rfl rfl (isA_rv _) ?_
        replace H := un_some H
        obtain ⟨b18, eb18, H⟩ := H
        subst eb18
        replace H := gd_some H
        obtain ⟨g19, H⟩ := H
        replace H := vl_some H
        obtain ⟨x20, ex20, H⟩ := H
        refine ev_getIx dX7_printRun_38 fgX7_69 rfl (okOb.p g19) ex20 ?_
        refine ev_goto (tgt := 55) dX7_printRun_41 (by decide) ?_
        replace H := bnd_some H
        obtain ⟨u21, h22, eh22, H⟩ := H
        have ph22 := (t_X2_impress (X := X) (d := 2) (by omega) eh22)
        refine ev_callV (as := [.int x20]) dX7_printRun_55 ph22 ok_X2_impress (by omega) rfl k3_73 k3_74 k3_75 (ci := 2) (by decide) rfl rfl (okOb.p g19) rfl (Nat.le_of_ble_eq_true rfl) ?_
        replace H := vl_some H
        obtain ⟨x23, ex23, H⟩ := H
        refine ev_iincx (loc2 := [some (.ref l0), some (.int l1), some (.int l2), some (.ref b18), some (.int x23)]) dX7_printRun_58 rfl (by decide) ex23 (by decide) rfl ?_
        refine ev_goto (tgt := 22) dX7_printRun_61 (by decide) ?_
        exact ih l0 l1 l2 (some b18) x23 h22 H
def f_X7_printRun_J13 (l0 : Nat) (l1 : Int32) (l2 : Int32) (h : Hp) : Option (Unit × Hp) :=
gd (okOb h l0 7) <|
bnd (f_X7_formeOn h l0 l1) fun v5 h6 =>
f_X7_printRun_L22 6000 l0 l1 l2 v5 (0 : Int32) h6
set_option maxHeartbeats 4000000 in
set_option maxRecDepth 100000 in
theorem t_X7_printRun_J13 {X : Cx} {d : Nat} {h0 h' : Hp} {v : Unit} (hD : 3 ≤ d) : ∀ (l0 : Nat) (l1 : Int32) (l2 : Int32) (h : Hp), f_X7_printRun_J13 l0 l1 l2 h = some (v, h') → EV X mX7_printRun d h0 (none) h' 13 [some (.ref l0), some (.int l1), some (.int l2), none, none] [] h := by
  intro l0 l1 l2 h H
  unfold f_X7_printRun_J13 at H
  refine ev_aload_n dX7_printRun_13 rfl rfl rfl ?_
  refine ev_iload_n dX7_printRun_14 rfl rfl ?_
  replace H := gd_some H
  obtain ⟨g4, H⟩ := H
  replace H := bnd_some H
  obtain ⟨v5, h6, eh6, H⟩ := H
  have ph6 := (t_X7_formeOn (X := X) (d := 1) (by omega) eh6)
  refine ev_callV (as := [.int l1]) dX7_printRun_15 ph6 ok_X7_formeOn (by omega) rfl k3_9 k3_10 k3_11 (ci := 7) (by decide) rfl rfl (okOb.p g4) rfl (Nat.le_of_ble_eq_true rfl) ?_
  refine ev_astore_n (loc2 := [some (.ref l0), some (.int l1), some (.int l2), some (rv v5), none]) dX7_printRun_18 rfl (by decide) (isA_rv _) rfl ?_
  refine ev_iconst (v := (0 : Int32)) dX7_printRun_19 (by decide) ?_
  refine ev_istore (loc2 := [some (.ref l0), some (.int l1), some (.int l2), some (rv v5), some (.int (0 : Int32))]) dX7_printRun_20 (by decide) (by cases v5 <;> rfl) ?_
  refine t_X7_printRun_L22 hD  6000 l0 l1 l2 v5 (0 : Int32) h6 H
def f_X7_printRun (h : Hp) (a0 : Nat) (a1 : Int32) (a2 : Int32) : Option (Unit × Hp) :=
gd (okOb h a0 7) <|
vl (gI h a0 5) fun x2 =>
if x2 = (-1 : Int32) then (
vl (sI h a0 5 a1) fun h24 =>
f_X7_printRun_J13 a0 a1 a2 h24) else (
f_X7_printRun_J13 a0 a1 a2 h)
set_option maxHeartbeats 4000000 in
set_option maxRecDepth 100000 in
theorem t_X7_printRun {X : Cx} {d : Nat} {h : Hp} {a0 : Nat} {a1 : Int32} {a2 : Int32} {v : Unit} {h' : Hp} (hD : 3 ≤ d) (H : f_X7_printRun h a0 a1 a2 = some (v, h')) : PM X mX7_printRun d [.ref a0, .int a1, .int a2] h (none) h' := by
  unfold f_X7_printRun at H
  refine PM.of (loc := [some (.ref a0), some (.int a1), some (.int a2), none, none]) (by decide) rfl (Nat.le_of_ble_eq_true rfl) ?_
  refine ev_aload_n dX7_printRun_0 rfl rfl rfl ?_
  replace H := gd_some H
  obtain ⟨g1, H⟩ := H
  replace H := vl_some H
  obtain ⟨x2, ex2, H⟩ := H
  refine ev_getIx dX7_printRun_1 fgX7_9 rfl (okOb.p g1) ex2 ?_
  refine ev_iconst (v := (-1 : Int32)) dX7_printRun_4 (by decide) ?_
  refine ev_icmp_ne (tgt := 13) dX7_printRun_5 (by decide) (fun c3 => ?_) (fun c3 => ?_)
  · rw [if_neg c3] at H
    exact t_X7_printRun_J13 hD a0 a1 a2 h H
  · rw [if_pos c3] at H
    refine ev_aload_n dX7_printRun_8 rfl rfl rfl ?_
    refine ev_iload_n dX7_printRun_9 rfl rfl ?_
    replace H := vl_some H
    obtain ⟨h24, eh24, H⟩ := H
    refine ev_putI dX7_printRun_10 fdX7_9 rfl rfl rfl (okOb.p g1) eh24 ?_
    exact t_X7_printRun_J13 hD a0 a1 a2 h24 H

theorem dX7_hasCopy_0 : decode cX7_hasCopy 0 = .ok (.iload_n 1, 1) := by decide +kernel
theorem dX7_hasCopy_1 : decode cX7_hasCopy 1 = .ok (.ifCond .lt 15, 3) := by decide +kernel
theorem dX7_hasCopy_4 : decode cX7_hasCopy 4 = .ok (.iload_n 1, 1) := by decide +kernel
theorem dX7_hasCopy_5 : decode cX7_hasCopy 5 = .ok (.aload_n 0, 1) := by decide +kernel
theorem dX7_hasCopy_6 : decode cX7_hasCopy 6 = .ok (.getfield 18, 3) := by decide +kernel
theorem dX7_hasCopy_9 : decode cX7_hasCopy 9 = .ok (.if_icmp .ge 7, 3) := by decide +kernel
theorem dX7_hasCopy_12 : decode cX7_hasCopy 12 = .ok (.iconst 1, 1) := by decide +kernel
theorem dX7_hasCopy_13 : decode cX7_hasCopy 13 = .ok (.goto 4, 3) := by decide +kernel
theorem dX7_hasCopy_16 : decode cX7_hasCopy 16 = .ok (.iconst 0, 1) := by decide +kernel
theorem dX7_hasCopy_17 : decode cX7_hasCopy 17 = .ok (.ireturn, 1) := by decide +kernel
def f_X7_hasCopy (h : Hp) (a0 : Nat) (a1 : Int32) : Option (Int32 × Hp) :=
if a1 < 0 then (
some ((0 : Int32), h)) else (
gd (okOb h a0 7) <|
vl (gI h a0 1) fun x3 =>
if x3 ≤ a1 then (
some ((0 : Int32), h)) else (
some ((1 : Int32), h)))
set_option maxHeartbeats 4000000 in
set_option maxRecDepth 100000 in
theorem t_X7_hasCopy {X : Cx} {d : Nat} {h : Hp} {a0 : Nat} {a1 : Int32} {v : Int32} {h' : Hp} (hD : 1 ≤ d) (H : f_X7_hasCopy h a0 a1 = some (v, h')) : PM X mX7_hasCopy d [.ref a0, .int a1] h (some (.int v)) h' := by
  unfold f_X7_hasCopy at H
  refine PM.of (loc := [some (.ref a0), some (.int a1)]) (by decide) rfl (Nat.le_of_ble_eq_true rfl) ?_
  refine ev_iload_n dX7_hasCopy_0 rfl rfl ?_
  refine ev_if_lt (tgt := 16) dX7_hasCopy_1 (by decide) (fun c1 => ?_) (fun c1 => ?_)
  · rw [if_pos c1] at H
    refine ev_iconst (v := (0 : Int32)) dX7_hasCopy_16 (by decide) ?_
    exact ev_iretx dX7_hasCopy_17 rfl rfl H
  · rw [if_neg c1] at H
    refine ev_iload_n dX7_hasCopy_4 rfl rfl ?_
    refine ev_aload_n dX7_hasCopy_5 rfl rfl rfl ?_
    replace H := gd_some H
    obtain ⟨g2, H⟩ := H
    replace H := vl_some H
    obtain ⟨x3, ex3, H⟩ := H
    refine ev_getIx dX7_hasCopy_6 fgX7_18 rfl (okOb.p g2) ex3 ?_
    refine ev_icmp_ge (tgt := 16) dX7_hasCopy_9 (by decide) (fun c4 => ?_) (fun c4 => ?_)
    · rw [if_pos c4] at H
      refine ev_iconst (v := (0 : Int32)) dX7_hasCopy_16 (by decide) ?_
      exact ev_iretx dX7_hasCopy_17 rfl rfl H
    · rw [if_neg c4] at H
      refine ev_iconst (v := (1 : Int32)) dX7_hasCopy_12 (by decide) ?_
      refine ev_goto (tgt := 17) dX7_hasCopy_13 (by decide) ?_
      exact ev_iretx dX7_hasCopy_17 rfl rfl H

theorem dX7_hasPage_0 : decode cX7_hasPage 0 = .ok (.iload_n 1, 1) := by decide +kernel
theorem dX7_hasPage_1 : decode cX7_hasPage 1 = .ok (.aload_n 0, 1) := by decide +kernel
theorem dX7_hasPage_2 : decode cX7_hasPage 2 = .ok (.getfield 15, 3) := by decide +kernel
theorem dX7_hasPage_5 : decode cX7_hasPage 5 = .ok (.if_icmp .lt 20, 3) := by decide +kernel
theorem dX7_hasPage_8 : decode cX7_hasPage 8 = .ok (.iload_n 1, 1) := by decide +kernel
theorem dX7_hasPage_9 : decode cX7_hasPage 9 = .ok (.aload_n 0, 1) := by decide +kernel
theorem dX7_hasPage_10 : decode cX7_hasPage 10 = .ok (.getfield 15, 3) := by decide +kernel
theorem dX7_hasPage_13 : decode cX7_hasPage 13 = .ok (.aload_n 0, 1) := by decide +kernel
theorem dX7_hasPage_14 : decode cX7_hasPage 14 = .ok (.getfield 21, 3) := by decide +kernel
theorem dX7_hasPage_17 : decode cX7_hasPage 17 = .ok (.iadd, 1) := by decide +kernel
theorem dX7_hasPage_18 : decode cX7_hasPage 18 = .ok (.if_icmp .ge 7, 3) := by decide +kernel
theorem dX7_hasPage_21 : decode cX7_hasPage 21 = .ok (.iconst 1, 1) := by decide +kernel
theorem dX7_hasPage_22 : decode cX7_hasPage 22 = .ok (.goto 4, 3) := by decide +kernel
theorem dX7_hasPage_25 : decode cX7_hasPage 25 = .ok (.iconst 0, 1) := by decide +kernel
theorem dX7_hasPage_26 : decode cX7_hasPage 26 = .ok (.ireturn, 1) := by decide +kernel
def f_X7_hasPage (h : Hp) (a0 : Nat) (a1 : Int32) : Option (Int32 × Hp) :=
gd (okOb h a0 7) <|
vl (gI h a0 0) fun x2 =>
if a1 < x2 then (
some ((0 : Int32), h)) else (
vl (gI h a0 0) fun x4 =>
vl (gI h a0 2) fun x5 =>
if (x4 + x5) ≤ a1 then (
some ((0 : Int32), h)) else (
some ((1 : Int32), h)))
set_option maxHeartbeats 4000000 in
set_option maxRecDepth 100000 in
theorem t_X7_hasPage {X : Cx} {d : Nat} {h : Hp} {a0 : Nat} {a1 : Int32} {v : Int32} {h' : Hp} (hD : 1 ≤ d) (H : f_X7_hasPage h a0 a1 = some (v, h')) : PM X mX7_hasPage d [.ref a0, .int a1] h (some (.int v)) h' := by
  unfold f_X7_hasPage at H
  refine PM.of (loc := [some (.ref a0), some (.int a1)]) (by decide) rfl (Nat.le_of_ble_eq_true rfl) ?_
  refine ev_iload_n dX7_hasPage_0 rfl rfl ?_
  refine ev_aload_n dX7_hasPage_1 rfl rfl rfl ?_
  replace H := gd_some H
  obtain ⟨g1, H⟩ := H
  replace H := vl_some H
  obtain ⟨x2, ex2, H⟩ := H
  refine ev_getIx dX7_hasPage_2 fgX7_15 rfl (okOb.p g1) ex2 ?_
  refine ev_icmp_lt (tgt := 25) dX7_hasPage_5 (by decide) (fun c3 => ?_) (fun c3 => ?_)
  · rw [if_pos c3] at H
    refine ev_iconst (v := (0 : Int32)) dX7_hasPage_25 (by decide) ?_
    exact ev_iretx dX7_hasPage_26 rfl rfl H
  · rw [if_neg c3] at H
    refine ev_iload_n dX7_hasPage_8 rfl rfl ?_
    refine ev_aload_n dX7_hasPage_9 rfl rfl rfl ?_
    replace H := vl_some H
    obtain ⟨x4, ex4, H⟩ := H
    refine ev_getIx dX7_hasPage_10 fgX7_15 rfl (okOb.p g1) ex4 ?_
    refine ev_aload_n dX7_hasPage_13 rfl rfl rfl ?_
    replace H := vl_some H
    obtain ⟨x5, ex5, H⟩ := H
    refine ev_getIx dX7_hasPage_14 fgX7_21 rfl (okOb.p g1) ex5 ?_
    refine ev_iadd dX7_hasPage_17 ?_
    refine ev_icmp_ge (tgt := 25) dX7_hasPage_18 (by decide) (fun c6 => ?_) (fun c6 => ?_)
    · rw [if_pos c6] at H
      refine ev_iconst (v := (0 : Int32)) dX7_hasPage_25 (by decide) ?_
      exact ev_iretx dX7_hasPage_26 rfl rfl H
    · rw [if_neg c6] at H
      refine ev_iconst (v := (1 : Int32)) dX7_hasPage_21 (by decide) ?_
      refine ev_goto (tgt := 26) dX7_hasPage_22 (by decide) ?_
      exact ev_iretx dX7_hasPage_26 rfl rfl H

theorem dX7_placeAmongGood_0 : decode cX7_placeAmongGood 0 = .ok (.iconst 0, 1) := by decide +kernel
theorem dX7_placeAmongGood_1 : decode cX7_placeAmongGood 1 = .ok (.istore_n 2, 1) := by decide +kernel
theorem dX7_placeAmongGood_2 : decode cX7_placeAmongGood 2 = .ok (.iload_n 2, 1) := by decide +kernel
theorem dX7_placeAmongGood_3 : decode cX7_placeAmongGood 3 = .ok (.aload_n 0, 1) := by decide +kernel
theorem dX7_placeAmongGood_4 : decode cX7_placeAmongGood 4 = .ok (.getfield 40, 3) := by decide +kernel
theorem dX7_placeAmongGood_7 : decode cX7_placeAmongGood 7 = .ok (.if_icmp .ge 21, 3) := by decide +kernel
theorem dX7_placeAmongGood_10 : decode cX7_placeAmongGood 10 = .ok (.aload_n 0, 1) := by decide +kernel
theorem dX7_placeAmongGood_11 : decode cX7_placeAmongGood 11 = .ok (.getfield 36, 3) := by decide +kernel
theorem dX7_placeAmongGood_14 : decode cX7_placeAmongGood 14 = .ok (.iload_n 2, 1) := by decide +kernel
theorem dX7_placeAmongGood_15 : decode cX7_placeAmongGood 15 = .ok (.iaload, 1) := by decide +kernel
theorem dX7_placeAmongGood_16 : decode cX7_placeAmongGood 16 = .ok (.iload_n 1, 1) := by decide +kernel
theorem dX7_placeAmongGood_17 : decode cX7_placeAmongGood 17 = .ok (.if_icmp .ne 5, 3) := by decide +kernel
theorem dX7_placeAmongGood_20 : decode cX7_placeAmongGood 20 = .ok (.iload_n 2, 1) := by decide +kernel
theorem dX7_placeAmongGood_21 : decode cX7_placeAmongGood 21 = .ok (.ireturn, 1) := by decide +kernel
theorem dX7_placeAmongGood_22 : decode cX7_placeAmongGood 22 = .ok (.iinc 2 1, 3) := by decide +kernel
theorem dX7_placeAmongGood_25 : decode cX7_placeAmongGood 25 = .ok (.goto (-23), 3) := by decide +kernel
theorem dX7_placeAmongGood_28 : decode cX7_placeAmongGood 28 = .ok (.iconst (-1), 1) := by decide +kernel
theorem dX7_placeAmongGood_29 : decode cX7_placeAmongGood 29 = .ok (.ireturn, 1) := by decide +kernel
def f_X7_placeAmongGood_L2 : Nat → Nat → Int32 → Int32 → Hp → Option (Int32 × Hp)
  | 0, _, _, _, _ => none
  | n + 1, l0, l1, l2, h =>
    gd (okOb h l0 7) <|
    vl (gI h l0 7) fun x2 =>
    if x2 ≤ l2 then (
    some ((-1 : Int32), h)) else (
    vl (gR h l0 6) fun r4 =>
    un r4 fun b5 =>
    gd (okAb h b5 11 l2) <|
    vl (gI h b5 l2.toNatClampNeg) fun x7 =>
    if x7 = l1 then (
    some (l2, h)) else (
    vl (l2 + (1 : Int32)) fun x9 =>
    f_X7_placeAmongGood_L2 n l0 l1 x9 h))
set_option maxHeartbeats 4000000 in
set_option maxRecDepth 100000 in
theorem t_X7_placeAmongGood_L2 {X : Cx} {d : Nat} {h0 h' : Hp} {v : Int32} (hD : 1 ≤ d) : ∀ (n : Nat) (l0 : Nat) (l1 : Int32) (l2 : Int32) (h : Hp), f_X7_placeAmongGood_L2 n l0 l1 l2 h = some (v, h') → EV X mX7_placeAmongGood d h0 (some (.int v)) h' 2 [some (.ref l0), some (.int l1), some (.int l2)] [] h := by
  intro n
  induction n with
  | zero => intro l0 l1 l2 h H; simp [f_X7_placeAmongGood_L2] at H
  | succ n ih =>
    intro l0 l1 l2 h H
    rw [f_X7_placeAmongGood_L2] at H
    refine ev_iload_n dX7_placeAmongGood_2 rfl rfl ?_
    refine ev_aload_n dX7_placeAmongGood_3 rfl rfl rfl ?_
    replace H := gd_some H
    obtain ⟨g1, H⟩ := H
    replace H := vl_some H
    obtain ⟨x2, ex2, H⟩ := H
    refine ev_getIx dX7_placeAmongGood_4 fgX7_40 rfl (okOb.p g1) ex2 ?_
    refine ev_icmp_ge (tgt := 28) dX7_placeAmongGood_7 (by decide) (fun c3 => ?_) (fun c3 => ?_)
    · rw [if_pos c3] at H
      refine ev_iconst (v := (-1 : Int32)) dX7_placeAmongGood_28 (by decide) ?_
      exact ev_iretx dX7_placeAmongGood_29 rfl rfl H
    · rw [if_neg c3] at H
      refine ev_aload_n dX7_placeAmongGood_10 rfl rfl rfl ?_
      replace H := vl_some H
      obtain ⟨r4, er4, H⟩ := H
      refine ev_getRx dX7_placeAmongGood_11 fgX7_36 rfl (okOb.p g1) er4 ?_
      refine ev_iload_n dX7_placeAmongGood_14 rfl rfl ?_
      replace H := un_some H
      obtain ⟨b5, eb5, H⟩ := H
      subst eb5
      replace H := gd_some H
      obtain ⟨g6, H⟩ := H
      replace H := vl_some H
      obtain ⟨x7, ex7, H⟩ := H
      refine ev_ialdx dX7_placeAmongGood_15 (okAb.p g6) ex7 ?_
      refine ev_iload_n dX7_placeAmongGood_16 rfl rfl ?_
      refine ev_icmp_ne (tgt := 22) dX7_placeAmongGood_17 (by decide) (fun c8 => ?_) (fun c8 => ?_)
      · rw [if_neg c8] at H
        replace H := vl_some H
        obtain ⟨x9, ex9, H⟩ := H
        refine ev_iincx (loc2 := [some (.ref l0), some (.int l1), some (.int x9)]) dX7_placeAmongGood_22 rfl (by decide) ex9 (by decide) rfl ?_
        refine ev_goto (tgt := 2) dX7_placeAmongGood_25 (by decide) ?_
        exact ih l0 l1 x9 h H
      · rw [if_pos c8] at H
        refine ev_iload_n dX7_placeAmongGood_20 rfl rfl ?_
        exact ev_iretx dX7_placeAmongGood_21 rfl rfl H
def f_X7_placeAmongGood (h : Hp) (a0 : Nat) (a1 : Int32) : Option (Int32 × Hp) :=
f_X7_placeAmongGood_L2 6000 a0 a1 (0 : Int32) h
set_option maxHeartbeats 4000000 in
set_option maxRecDepth 100000 in
theorem t_X7_placeAmongGood {X : Cx} {d : Nat} {h : Hp} {a0 : Nat} {a1 : Int32} {v : Int32} {h' : Hp} (hD : 1 ≤ d) (H : f_X7_placeAmongGood h a0 a1 = some (v, h')) : PM X mX7_placeAmongGood d [.ref a0, .int a1] h (some (.int v)) h' := by
  unfold f_X7_placeAmongGood at H
  refine PM.of (loc := [some (.ref a0), some (.int a1), none]) (by decide) rfl (Nat.le_of_ble_eq_true rfl) ?_
  refine ev_iconst (v := (0 : Int32)) dX7_placeAmongGood_0 (by decide) ?_
  refine ev_istore_n (loc2 := [some (.ref a0), some (.int a1), some (.int (0 : Int32))]) dX7_placeAmongGood_1 rfl (by decide) rfl ?_
  refine t_X7_placeAmongGood_L2 hD  6000 a0 a1 (0 : Int32) h H

theorem dX7_isPrintedAtAll_0 : decode cX7_isPrintedAtAll 0 = .ok (.aload_n 0, 1) := by decide +kernel
theorem dX7_isPrintedAtAll_1 : decode cX7_isPrintedAtAll 1 = .ok (.getfield 29, 3) := by decide +kernel
theorem dX7_isPrintedAtAll_4 : decode cX7_isPrintedAtAll 4 = .ok (.getfield 76, 3) := by decide +kernel
theorem dX7_isPrintedAtAll_7 : decode cX7_isPrintedAtAll 7 = .ok (.iload_n 1, 1) := by decide +kernel
theorem dX7_isPrintedAtAll_8 : decode cX7_isPrintedAtAll 8 = .ok (.iaload, 1) := by decide +kernel
theorem dX7_isPrintedAtAll_9 : decode cX7_isPrintedAtAll 9 = .ok (.iconst (-1), 1) := by decide +kernel
theorem dX7_isPrintedAtAll_10 : decode cX7_isPrintedAtAll 10 = .ok (.if_icmp .ne 16, 3) := by decide +kernel
theorem dX7_isPrintedAtAll_13 : decode cX7_isPrintedAtAll 13 = .ok (.aload_n 0, 1) := by decide +kernel
theorem dX7_isPrintedAtAll_14 : decode cX7_isPrintedAtAll 14 = .ok (.getfield 33, 3) := by decide +kernel
theorem dX7_isPrintedAtAll_17 : decode cX7_isPrintedAtAll 17 = .ok (.getfield 76, 3) := by decide +kernel
theorem dX7_isPrintedAtAll_20 : decode cX7_isPrintedAtAll 20 = .ok (.iload_n 1, 1) := by decide +kernel
theorem dX7_isPrintedAtAll_21 : decode cX7_isPrintedAtAll 21 = .ok (.iaload, 1) := by decide +kernel
theorem dX7_isPrintedAtAll_22 : decode cX7_isPrintedAtAll 22 = .ok (.iconst (-1), 1) := by decide +kernel
theorem dX7_isPrintedAtAll_23 : decode cX7_isPrintedAtAll 23 = .ok (.if_icmp .eq 7, 3) := by decide +kernel
theorem dX7_isPrintedAtAll_26 : decode cX7_isPrintedAtAll 26 = .ok (.iconst 1, 1) := by decide +kernel
theorem dX7_isPrintedAtAll_27 : decode cX7_isPrintedAtAll 27 = .ok (.goto 4, 3) := by decide +kernel
theorem dX7_isPrintedAtAll_30 : decode cX7_isPrintedAtAll 30 = .ok (.iconst 0, 1) := by decide +kernel
theorem dX7_isPrintedAtAll_31 : decode cX7_isPrintedAtAll 31 = .ok (.ireturn, 1) := by decide +kernel
def f_X7_isPrintedAtAll (h : Hp) (a0 : Nat) (a1 : Int32) : Option (Int32 × Hp) :=
gd (okOb h a0 7) <|
vl (gR h a0 3) fun r2 =>
un r2 fun b3 =>
gd (okOb h b3 2) <|
vl (gR h b3 1) fun r5 =>
un r5 fun b6 =>
gd (okAb h b6 11 a1) <|
vl (gI h b6 a1.toNatClampNeg) fun x8 =>
if x8 = (-1 : Int32) then (
vl (gR h a0 4) fun r10 =>
un r10 fun b11 =>
gd (okOb h b11 2) <|
vl (gR h b11 1) fun r13 =>
un r13 fun b14 =>
gd (okAb h b14 11 a1) <|
vl (gI h b14 a1.toNatClampNeg) fun x16 =>
if x16 = (-1 : Int32) then (
some ((0 : Int32), h)) else (
some ((1 : Int32), h))) else (
some ((1 : Int32), h))
set_option maxHeartbeats 4000000 in
set_option maxRecDepth 100000 in
theorem t_X7_isPrintedAtAll {X : Cx} {d : Nat} {h : Hp} {a0 : Nat} {a1 : Int32} {v : Int32} {h' : Hp} (hD : 1 ≤ d) (H : f_X7_isPrintedAtAll h a0 a1 = some (v, h')) : PM X mX7_isPrintedAtAll d [.ref a0, .int a1] h (some (.int v)) h' := by
  unfold f_X7_isPrintedAtAll at H
  refine PM.of (loc := [some (.ref a0), some (.int a1)]) (by decide) rfl (Nat.le_of_ble_eq_true rfl) ?_
  refine ev_aload_n dX7_isPrintedAtAll_0 rfl rfl rfl ?_
  replace H := gd_some H
  obtain ⟨g1, H⟩ := H
  replace H := vl_some H
  obtain ⟨r2, er2, H⟩ := H
  refine ev_getRx dX7_isPrintedAtAll_1 fgX7_29 rfl (okOb.p g1) er2 ?_
  replace H := un_some H
  obtain ⟨b3, eb3, H⟩ := H
  subst eb3
  replace H := gd_some H
  obtain ⟨g4, H⟩ := H
  replace H := vl_some H
  obtain ⟨r5, er5, H⟩ := H
  refine ev_getRx dX7_isPrintedAtAll_4 fgX7_76 rfl (okOb.p g4) er5 ?_
  refine ev_iload_n dX7_isPrintedAtAll_7 rfl rfl ?_
  replace H := un_some H
  obtain ⟨b6, eb6, H⟩ := H
  subst eb6
  replace H := gd_some H
  obtain ⟨g7, H⟩ := H
  replace H := vl_some H
  obtain ⟨x8, ex8, H⟩ := H
  refine ev_ialdx dX7_isPrintedAtAll_8 (okAb.p g7) ex8 ?_
  refine ev_iconst (v := (-1 : Int32)) dX7_isPrintedAtAll_9 (by decide) ?_
  refine ev_icmp_ne (tgt := 26) dX7_isPrintedAtAll_10 (by decide) (fun c9 => ?_) (fun c9 => ?_)
  · rw [if_neg c9] at H
    refine ev_iconst (v := (1 : Int32)) dX7_isPrintedAtAll_26 (by decide) ?_
    refine ev_goto (tgt := 31) dX7_isPrintedAtAll_27 (by decide) ?_
    exact ev_iretx dX7_isPrintedAtAll_31 rfl rfl H
  · rw [if_pos c9] at H
    refine ev_aload_n dX7_isPrintedAtAll_13 rfl rfl rfl ?_
    replace H := vl_some H
    obtain ⟨r10, er10, H⟩ := H
    refine ev_getRx dX7_isPrintedAtAll_14 fgX7_33 rfl (okOb.p g1) er10 ?_
    replace H := un_some H
    obtain ⟨b11, eb11, H⟩ := H
    subst eb11
    replace H := gd_some H
    obtain ⟨g12, H⟩ := H
    replace H := vl_some H
    obtain ⟨r13, er13, H⟩ := H
    refine ev_getRx dX7_isPrintedAtAll_17 fgX7_76 rfl (okOb.p g12) er13 ?_
    refine ev_iload_n dX7_isPrintedAtAll_20 rfl rfl ?_
    replace H := un_some H
    obtain ⟨b14, eb14, H⟩ := H
    subst eb14
    replace H := gd_some H
    obtain ⟨g15, H⟩ := H
    replace H := vl_some H
    obtain ⟨x16, ex16, H⟩ := H
    refine ev_ialdx dX7_isPrintedAtAll_21 (okAb.p g15) ex16 ?_
    refine ev_iconst (v := (-1 : Int32)) dX7_isPrintedAtAll_22 (by decide) ?_
    refine ev_icmp_eq (tgt := 30) dX7_isPrintedAtAll_23 (by decide) (fun c17 => ?_) (fun c17 => ?_)
    · rw [if_pos c17] at H
      refine ev_iconst (v := (0 : Int32)) dX7_isPrintedAtAll_30 (by decide) ?_
      exact ev_iretx dX7_isPrintedAtAll_31 rfl rfl H
    · rw [if_neg c17] at H
      refine ev_iconst (v := (1 : Int32)) dX7_isPrintedAtAll_26 (by decide) ?_
      refine ev_goto (tgt := 31) dX7_isPrintedAtAll_27 (by decide) ?_
      exact ev_iretx dX7_isPrintedAtAll_31 rfl rfl H

theorem dX7_dropGood_0 : decode cX7_dropGood 0 = .ok (.aload_n 0, 1) := by decide +kernel
theorem dX7_dropGood_1 : decode cX7_dropGood 1 = .ok (.dup, 1) := by decide +kernel
theorem dX7_dropGood_2 : decode cX7_dropGood 2 = .ok (.getfield 40, 3) := by decide +kernel
theorem dX7_dropGood_5 : decode cX7_dropGood 5 = .ok (.iconst 1, 1) := by decide +kernel
theorem dX7_dropGood_6 : decode cX7_dropGood 6 = .ok (.isub, 1) := by decide +kernel
theorem dX7_dropGood_7 : decode cX7_dropGood 7 = .ok (.putfield 40, 3) := by decide +kernel
theorem dX7_dropGood_10 : decode cX7_dropGood 10 = .ok (.iload_n 1, 1) := by decide +kernel
theorem dX7_dropGood_11 : decode cX7_dropGood 11 = .ok (.istore_n 2, 1) := by decide +kernel
theorem dX7_dropGood_12 : decode cX7_dropGood 12 = .ok (.iload_n 2, 1) := by decide +kernel
theorem dX7_dropGood_13 : decode cX7_dropGood 13 = .ok (.aload_n 0, 1) := by decide +kernel
theorem dX7_dropGood_14 : decode cX7_dropGood 14 = .ok (.getfield 40, 3) := by decide +kernel
theorem dX7_dropGood_17 : decode cX7_dropGood 17 = .ok (.if_icmp .ge 23, 3) := by decide +kernel
theorem dX7_dropGood_20 : decode cX7_dropGood 20 = .ok (.aload_n 0, 1) := by decide +kernel
theorem dX7_dropGood_21 : decode cX7_dropGood 21 = .ok (.getfield 36, 3) := by decide +kernel
theorem dX7_dropGood_24 : decode cX7_dropGood 24 = .ok (.iload_n 2, 1) := by decide +kernel
theorem dX7_dropGood_25 : decode cX7_dropGood 25 = .ok (.aload_n 0, 1) := by decide +kernel
theorem dX7_dropGood_26 : decode cX7_dropGood 26 = .ok (.getfield 36, 3) := by decide +kernel
theorem dX7_dropGood_29 : decode cX7_dropGood 29 = .ok (.iload_n 2, 1) := by decide +kernel
theorem dX7_dropGood_30 : decode cX7_dropGood 30 = .ok (.iconst 1, 1) := by decide +kernel
theorem dX7_dropGood_31 : decode cX7_dropGood 31 = .ok (.iadd, 1) := by decide +kernel
theorem dX7_dropGood_32 : decode cX7_dropGood 32 = .ok (.iaload, 1) := by decide +kernel
theorem dX7_dropGood_33 : decode cX7_dropGood 33 = .ok (.iastore, 1) := by decide +kernel
theorem dX7_dropGood_34 : decode cX7_dropGood 34 = .ok (.iinc 2 1, 3) := by decide +kernel
theorem dX7_dropGood_37 : decode cX7_dropGood 37 = .ok (.goto (-25), 3) := by decide +kernel
theorem dX7_dropGood_40 : decode cX7_dropGood 40 = .ok (.return_, 1) := by decide +kernel
def f_X7_dropGood_L12 : Nat → Nat → Int32 → Int32 → Hp → Option (Unit × Hp)
  | 0, _, _, _, _ => none
  | n + 1, l0, l1, l2, h =>
    gd (okOb h l0 7) <|
    vl (gI h l0 7) fun x5 =>
    if x5 ≤ l2 then (
    some ((), h)) else (
    vl (gR h l0 6) fun r7 =>
    vl (gR h l0 6) fun r8 =>
    un r8 fun b9 =>
    gd (okAb h b9 11 (l2 + (1 : Int32))) <|
    vl (gI h b9 (l2 + (1 : Int32)).toNatClampNeg) fun x11 =>
    un r7 fun b12 =>
    gd (okAb h b12 11 l2) <|
    vl (sI h b12 l2.toNatClampNeg x11) fun h14 =>
    vl (l2 + (1 : Int32)) fun x15 =>
    f_X7_dropGood_L12 n l0 l1 x15 h14)
set_option maxHeartbeats 4000000 in
set_option maxRecDepth 100000 in
theorem t_X7_dropGood_L12 {X : Cx} {d : Nat} {h0 h' : Hp} {v : Unit} (hD : 1 ≤ d) : ∀ (n : Nat) (l0 : Nat) (l1 : Int32) (l2 : Int32) (h : Hp), f_X7_dropGood_L12 n l0 l1 l2 h = some (v, h') → EV X mX7_dropGood d h0 (none) h' 12 [some (.ref l0), some (.int l1), some (.int l2)] [] h := by
  intro n
  induction n with
  | zero => intro l0 l1 l2 h H; simp [f_X7_dropGood_L12] at H
  | succ n ih =>
    intro l0 l1 l2 h H
    rw [f_X7_dropGood_L12] at H
    refine ev_iload_n dX7_dropGood_12 rfl rfl ?_
    refine ev_aload_n dX7_dropGood_13 rfl rfl rfl ?_
    replace H := gd_some H
    obtain ⟨g4, H⟩ := H
    replace H := vl_some H
    obtain ⟨x5, ex5, H⟩ := H
    refine ev_getIx dX7_dropGood_14 fgX7_40 rfl (okOb.p g4) ex5 ?_
    refine ev_icmp_ge (tgt := 40) dX7_dropGood_17 (by decide) (fun c6 => ?_) (fun c6 => ?_)
    · rw [if_pos c6] at H
      exact ev_vretx dX7_dropGood_40 rfl H
    · rw [if_neg c6] at H
      refine ev_aload_n dX7_dropGood_20 rfl rfl rfl ?_
      replace H := vl_some H
      obtain ⟨r7, er7, H⟩ := H
      refine ev_getRx dX7_dropGood_21 fgX7_36 rfl (okOb.p g4) er7 ?_
      refine ev_iload_n dX7_dropGood_24 rfl rfl ?_
      refine ev_aload_n dX7_dropGood_25 rfl rfl rfl ?_
      replace H := vl_some H
      obtain ⟨r8, er8, H⟩ := H
      refine ev_getRx dX7_dropGood_26 fgX7_36 rfl (okOb.p g4) er8 ?_
      refine ev_iload_n dX7_dropGood_29 rfl rfl ?_
      refine ev_iconst (v := (1 : Int32)) dX7_dropGood_30 (by decide) ?_
      refine ev_iadd dX7_dropGood_31 ?_
      replace H := un_some H
      obtain ⟨b9, eb9, H⟩ := H
      subst eb9
      replace H := gd_some H
      obtain ⟨g10, H⟩ := H
      replace H := vl_some H
      obtain ⟨x11, ex11, H⟩ := H
      refine ev_ialdx dX7_dropGood_32 (okAb.p g10) ex11 ?_
      replace H := un_some H
      obtain ⟨b12, eb12, H⟩ := H
      subst eb12
      replace H := gd_some H
      obtain ⟨g13, H⟩ := H
      replace H := vl_some H
      obtain ⟨h14, eh14, H⟩ := H
      refine ev_iast dX7_dropGood_33 (okAb.p g13) eh14 ?_
      replace H := vl_some H
      obtain ⟨x15, ex15, H⟩ := H
      refine ev_iincx (loc2 := [some (.ref l0), some (.int l1), some (.int x15)]) dX7_dropGood_34 rfl (by decide) ex15 (by decide) rfl ?_
      refine ev_goto (tgt := 12) dX7_dropGood_37 (by decide) ?_
      exact ih l0 l1 x15 h14 H
def f_X7_dropGood (h : Hp) (a0 : Nat) (a1 : Int32) : Option (Unit × Hp) :=
gd (okOb h a0 7) <|
vl (gI h a0 7) fun x2 =>
vl (sI h a0 7 (x2 - (1 : Int32))) fun h3 =>
f_X7_dropGood_L12 6000 a0 a1 a1 h3
set_option maxHeartbeats 4000000 in
set_option maxRecDepth 100000 in
theorem t_X7_dropGood {X : Cx} {d : Nat} {h : Hp} {a0 : Nat} {a1 : Int32} {v : Unit} {h' : Hp} (hD : 1 ≤ d) (H : f_X7_dropGood h a0 a1 = some (v, h')) : PM X mX7_dropGood d [.ref a0, .int a1] h (none) h' := by
  unfold f_X7_dropGood at H
  refine PM.of (loc := [some (.ref a0), some (.int a1), none]) (by decide) rfl (Nat.le_of_ble_eq_true rfl) ?_
  refine ev_aload_n dX7_dropGood_0 rfl rfl rfl ?_
  refine ev_dup dX7_dropGood_1 rfl ?_
  replace H := gd_some H
  obtain ⟨g1, H⟩ := H
  replace H := vl_some H
  obtain ⟨x2, ex2, H⟩ := H
  refine ev_getIx dX7_dropGood_2 fgX7_40 rfl (okOb.p g1) ex2 ?_
  refine ev_iconst (v := (1 : Int32)) dX7_dropGood_5 (by decide) ?_
  refine ev_isub dX7_dropGood_6 ?_
  replace H := vl_some H
  obtain ⟨h3, eh3, H⟩ := H
  refine ev_putI dX7_dropGood_7 fdX7_40 rfl rfl rfl (okOb.p g1) eh3 ?_
  refine ev_iload_n dX7_dropGood_10 rfl rfl ?_
  refine ev_istore_n (loc2 := [some (.ref a0), some (.int a1), some (.int a1)]) dX7_dropGood_11 rfl (by decide) rfl ?_
  refine t_X7_dropGood_L12 hD  6000 a0 a1 a1 h3 H

theorem dX7_spoiltCount_0 : decode cX7_spoiltCount 0 = .ok (.aload_n 0, 1) := by decide +kernel
theorem dX7_spoiltCount_1 : decode cX7_spoiltCount 1 = .ok (.getfield 18, 3) := by decide +kernel
theorem dX7_spoiltCount_4 : decode cX7_spoiltCount 4 = .ok (.aload_n 0, 1) := by decide +kernel
theorem dX7_spoiltCount_5 : decode cX7_spoiltCount 5 = .ok (.getfield 40, 3) := by decide +kernel
theorem dX7_spoiltCount_8 : decode cX7_spoiltCount 8 = .ok (.isub, 1) := by decide +kernel
theorem dX7_spoiltCount_9 : decode cX7_spoiltCount 9 = .ok (.ireturn, 1) := by decide +kernel
def f_X7_spoiltCount (h : Hp) (a0 : Nat) : Option (Int32 × Hp) :=
gd (okOb h a0 7) <|
vl (gI h a0 1) fun x2 =>
vl (gI h a0 7) fun x3 =>
some (x2 - x3, h)
set_option maxHeartbeats 4000000 in
set_option maxRecDepth 100000 in
theorem t_X7_spoiltCount {X : Cx} {d : Nat} {h : Hp} {a0 : Nat} {v : Int32} {h' : Hp} (hD : 1 ≤ d) (H : f_X7_spoiltCount h a0 = some (v, h')) : PM X mX7_spoiltCount d [.ref a0] h (some (.int v)) h' := by
  unfold f_X7_spoiltCount at H
  refine PM.of (loc := [some (.ref a0)]) (by decide) rfl (Nat.le_of_ble_eq_true rfl) ?_
  refine ev_aload_n dX7_spoiltCount_0 rfl rfl rfl ?_
  replace H := gd_some H
  obtain ⟨g1, H⟩ := H
  replace H := vl_some H
  obtain ⟨x2, ex2, H⟩ := H
  refine ev_getIx dX7_spoiltCount_1 fgX7_18 rfl (okOb.p g1) ex2 ?_
  refine ev_aload_n dX7_spoiltCount_4 rfl rfl rfl ?_
  replace H := vl_some H
  obtain ⟨x3, ex3, H⟩ := H
  refine ev_getIx dX7_spoiltCount_5 fgX7_40 rfl (okOb.p g1) ex3 ?_
  refine ev_isub dX7_spoiltCount_8 ?_
  exact ev_iretx dX7_spoiltCount_9 rfl rfl H

theorem dX7_hasForBook_0 : decode cX7_hasForBook 0 = .ok (.iload_n 1, 1) := by decide +kernel
theorem dX7_hasForBook_1 : decode cX7_hasForBook 1 = .ok (.aload_n 0, 1) := by decide +kernel
theorem dX7_hasForBook_2 : decode cX7_hasForBook 2 = .ok (.getfield 40, 3) := by decide +kernel
theorem dX7_hasForBook_5 : decode cX7_hasForBook 5 = .ok (.if_icmp .ge 43, 3) := by decide +kernel
theorem dX7_hasForBook_8 : decode cX7_hasForBook 8 = .ok (.aload_n 0, 1) := by decide +kernel
theorem dX7_hasForBook_9 : decode cX7_hasForBook 9 = .ok (.getfield 29, 3) := by decide +kernel
theorem dX7_hasForBook_12 : decode cX7_hasForBook 12 = .ok (.getfield 76, 3) := by decide +kernel
theorem dX7_hasForBook_15 : decode cX7_hasForBook 15 = .ok (.aload_n 0, 1) := by decide +kernel
theorem dX7_hasForBook_16 : decode cX7_hasForBook 16 = .ok (.getfield 36, 3) := by decide +kernel
theorem dX7_hasForBook_19 : decode cX7_hasForBook 19 = .ok (.iload_n 1, 1) := by decide +kernel
theorem dX7_hasForBook_20 : decode cX7_hasForBook 20 = .ok (.iaload, 1) := by decide +kernel
theorem dX7_hasForBook_21 : decode cX7_hasForBook 21 = .ok (.iaload, 1) := by decide +kernel
theorem dX7_hasForBook_22 : decode cX7_hasForBook 22 = .ok (.iconst (-1), 1) := by decide +kernel
theorem dX7_hasForBook_23 : decode cX7_hasForBook 23 = .ok (.if_icmp .eq 25, 3) := by decide +kernel
theorem dX7_hasForBook_26 : decode cX7_hasForBook 26 = .ok (.aload_n 0, 1) := by decide +kernel
theorem dX7_hasForBook_27 : decode cX7_hasForBook 27 = .ok (.getfield 33, 3) := by decide +kernel
theorem dX7_hasForBook_30 : decode cX7_hasForBook 30 = .ok (.getfield 76, 3) := by decide +kernel
theorem dX7_hasForBook_33 : decode cX7_hasForBook 33 = .ok (.aload_n 0, 1) := by decide +kernel
theorem dX7_hasForBook_34 : decode cX7_hasForBook 34 = .ok (.getfield 36, 3) := by decide +kernel
theorem dX7_hasForBook_37 : decode cX7_hasForBook 37 = .ok (.iload_n 1, 1) := by decide +kernel
theorem dX7_hasForBook_38 : decode cX7_hasForBook 38 = .ok (.iaload, 1) := by decide +kernel
theorem dX7_hasForBook_39 : decode cX7_hasForBook 39 = .ok (.iaload, 1) := by decide +kernel
theorem dX7_hasForBook_40 : decode cX7_hasForBook 40 = .ok (.iconst (-1), 1) := by decide +kernel
theorem dX7_hasForBook_41 : decode cX7_hasForBook 41 = .ok (.if_icmp .eq 7, 3) := by decide +kernel
theorem dX7_hasForBook_44 : decode cX7_hasForBook 44 = .ok (.iconst 1, 1) := by decide +kernel
theorem dX7_hasForBook_45 : decode cX7_hasForBook 45 = .ok (.goto 4, 3) := by decide +kernel
theorem dX7_hasForBook_48 : decode cX7_hasForBook 48 = .ok (.iconst 0, 1) := by decide +kernel
theorem dX7_hasForBook_49 : decode cX7_hasForBook 49 = .ok (.ireturn, 1) := by decide +kernel
def f_X7_hasForBook (h : Hp) (a0 : Nat) (a1 : Int32) : Option (Int32 × Hp) :=
gd (okOb h a0 7) <|
vl (gI h a0 7) fun x2 =>
if x2 ≤ a1 then (
some ((0 : Int32), h)) else (
vl (gR h a0 3) fun r4 =>
un r4 fun b5 =>
gd (okOb h b5 2) <|
vl (gR h b5 1) fun r7 =>
vl (gR h a0 6) fun r8 =>
un r8 fun b9 =>
gd (okAb h b9 11 a1) <|
vl (gI h b9 a1.toNatClampNeg) fun x11 =>
un r7 fun b12 =>
gd (okAb h b12 11 x11) <|
vl (gI h b12 x11.toNatClampNeg) fun x14 =>
if x14 = (-1 : Int32) then (
some ((0 : Int32), h)) else (
vl (gR h a0 4) fun r16 =>
un r16 fun b17 =>
gd (okOb h b17 2) <|
vl (gR h b17 1) fun r19 =>
vl (gR h a0 6) fun r20 =>
un r20 fun b21 =>
gd (okAb h b21 11 a1) <|
vl (gI h b21 a1.toNatClampNeg) fun x23 =>
un r19 fun b24 =>
gd (okAb h b24 11 x23) <|
vl (gI h b24 x23.toNatClampNeg) fun x26 =>
if x26 = (-1 : Int32) then (
some ((0 : Int32), h)) else (
some ((1 : Int32), h))))
set_option maxHeartbeats 4000000 in
set_option maxRecDepth 100000 in
theorem t_X7_hasForBook {X : Cx} {d : Nat} {h : Hp} {a0 : Nat} {a1 : Int32} {v : Int32} {h' : Hp} (hD : 1 ≤ d) (H : f_X7_hasForBook h a0 a1 = some (v, h')) : PM X mX7_hasForBook d [.ref a0, .int a1] h (some (.int v)) h' := by
  unfold f_X7_hasForBook at H
  refine PM.of (loc := [some (.ref a0), some (.int a1)]) (by decide) rfl (Nat.le_of_ble_eq_true rfl) ?_
  refine ev_iload_n dX7_hasForBook_0 rfl rfl ?_
  refine ev_aload_n dX7_hasForBook_1 rfl rfl rfl ?_
  replace H := gd_some H
  obtain ⟨g1, H⟩ := H
  replace H := vl_some H
  obtain ⟨x2, ex2, H⟩ := H
  refine ev_getIx dX7_hasForBook_2 fgX7_40 rfl (okOb.p g1) ex2 ?_
  refine ev_icmp_ge (tgt := 48) dX7_hasForBook_5 (by decide) (fun c3 => ?_) (fun c3 => ?_)
  · rw [if_pos c3] at H
    refine ev_iconst (v := (0 : Int32)) dX7_hasForBook_48 (by decide) ?_
    exact ev_iretx dX7_hasForBook_49 rfl rfl H
  · rw [if_neg c3] at H
    refine ev_aload_n dX7_hasForBook_8 rfl rfl rfl ?_
    replace H := vl_some H
    obtain ⟨r4, er4, H⟩ := H
    refine ev_getRx dX7_hasForBook_9 fgX7_29 rfl (okOb.p g1) er4 ?_
    replace H := un_some H
    obtain ⟨b5, eb5, H⟩ := H
    subst eb5
    replace H := gd_some H
    obtain ⟨g6, H⟩ := H
    replace H := vl_some H
    obtain ⟨r7, er7, H⟩ := H
    refine ev_getRx dX7_hasForBook_12 fgX7_76 rfl (okOb.p g6) er7 ?_
    refine ev_aload_n dX7_hasForBook_15 rfl rfl rfl ?_
    replace H := vl_some H
    obtain ⟨r8, er8, H⟩ := H
    refine ev_getRx dX7_hasForBook_16 fgX7_36 rfl (okOb.p g1) er8 ?_
    refine ev_iload_n dX7_hasForBook_19 rfl rfl ?_
    replace H := un_some H
    obtain ⟨b9, eb9, H⟩ := H
    subst eb9
    replace H := gd_some H
    obtain ⟨g10, H⟩ := H
    replace H := vl_some H
    obtain ⟨x11, ex11, H⟩ := H
    refine ev_ialdx dX7_hasForBook_20 (okAb.p g10) ex11 ?_
    replace H := un_some H
    obtain ⟨b12, eb12, H⟩ := H
    subst eb12
    replace H := gd_some H
    obtain ⟨g13, H⟩ := H
    replace H := vl_some H
    obtain ⟨x14, ex14, H⟩ := H
    refine ev_ialdx dX7_hasForBook_21 (okAb.p g13) ex14 ?_
    refine ev_iconst (v := (-1 : Int32)) dX7_hasForBook_22 (by decide) ?_
    refine ev_icmp_eq (tgt := 48) dX7_hasForBook_23 (by decide) (fun c15 => ?_) (fun c15 => ?_)
    · rw [if_pos c15] at H
      refine ev_iconst (v := (0 : Int32)) dX7_hasForBook_48 (by decide) ?_
      exact ev_iretx dX7_hasForBook_49 rfl rfl H
    · rw [if_neg c15] at H
      refine ev_aload_n dX7_hasForBook_26 rfl rfl rfl ?_
      replace H := vl_some H
      obtain ⟨r16, er16, H⟩ := H
      refine ev_getRx dX7_hasForBook_27 fgX7_33 rfl (okOb.p g1) er16 ?_
      replace H := un_some H
      obtain ⟨b17, eb17, H⟩ := H
      subst eb17
      replace H := gd_some H
      obtain ⟨g18, H⟩ := H
      replace H := vl_some H
      obtain ⟨r19, er19, H⟩ := H
      refine ev_getRx dX7_hasForBook_30 fgX7_76 rfl (okOb.p g18) er19 ?_
      refine ev_aload_n dX7_hasForBook_33 rfl rfl rfl ?_
      replace H := vl_some H
      obtain ⟨r20, er20, H⟩ := H
      refine ev_getRx dX7_hasForBook_34 fgX7_36 rfl (okOb.p g1) er20 ?_
      refine ev_iload_n dX7_hasForBook_37 rfl rfl ?_
      replace H := un_some H
      obtain ⟨b21, eb21, H⟩ := H
      subst eb21
      replace H := gd_some H
      obtain ⟨g22, H⟩ := H
      replace H := vl_some H
      obtain ⟨x23, ex23, H⟩ := H
      refine ev_ialdx dX7_hasForBook_38 (okAb.p g22) ex23 ?_
      replace H := un_some H
      obtain ⟨b24, eb24, H⟩ := H
      subst eb24
      replace H := gd_some H
      obtain ⟨g25, H⟩ := H
      replace H := vl_some H
      obtain ⟨x26, ex26, H⟩ := H
      refine ev_ialdx dX7_hasForBook_39 (okAb.p g25) ex26 ?_
      refine ev_iconst (v := (-1 : Int32)) dX7_hasForBook_40 (by decide) ?_
      refine ev_icmp_eq (tgt := 48) dX7_hasForBook_41 (by decide) (fun c27 => ?_) (fun c27 => ?_)
      · rw [if_pos c27] at H
        refine ev_iconst (v := (0 : Int32)) dX7_hasForBook_48 (by decide) ?_
        exact ev_iretx dX7_hasForBook_49 rfl rfl H
      · rw [if_neg c27] at H
        refine ev_iconst (v := (1 : Int32)) dX7_hasForBook_44 (by decide) ?_
        refine ev_goto (tgt := 49) dX7_hasForBook_45 (by decide) ?_
        exact ev_iretx dX7_hasForBook_49 rfl rfl H

theorem dX7_unlikeSides_0 : decode cX7_unlikeSides 0 = .ok (.iconst 0, 1) := by decide +kernel
theorem dX7_unlikeSides_1 : decode cX7_unlikeSides 1 = .ok (.istore_n 3, 1) := by decide +kernel
theorem dX7_unlikeSides_2 : decode cX7_unlikeSides 2 = .ok (.aload_n 0, 1) := by decide +kernel
theorem dX7_unlikeSides_3 : decode cX7_unlikeSides 3 = .ok (.getfield 29, 3) := by decide +kernel
theorem dX7_unlikeSides_6 : decode cX7_unlikeSides 6 = .ok (.getfield 76, 3) := by decide +kernel
theorem dX7_unlikeSides_9 : decode cX7_unlikeSides 9 = .ok (.aload_n 0, 1) := by decide +kernel
theorem dX7_unlikeSides_10 : decode cX7_unlikeSides 10 = .ok (.getfield 36, 3) := by decide +kernel
theorem dX7_unlikeSides_13 : decode cX7_unlikeSides 13 = .ok (.iload_n 1, 1) := by decide +kernel
theorem dX7_unlikeSides_14 : decode cX7_unlikeSides 14 = .ok (.iaload, 1) := by decide +kernel
theorem dX7_unlikeSides_15 : decode cX7_unlikeSides 15 = .ok (.iaload, 1) := by decide +kernel
theorem dX7_unlikeSides_16 : decode cX7_unlikeSides 16 = .ok (.aload_n 0, 1) := by decide +kernel
theorem dX7_unlikeSides_17 : decode cX7_unlikeSides 17 = .ok (.getfield 29, 3) := by decide +kernel
theorem dX7_unlikeSides_20 : decode cX7_unlikeSides 20 = .ok (.getfield 76, 3) := by decide +kernel
theorem dX7_unlikeSides_23 : decode cX7_unlikeSides 23 = .ok (.aload_n 0, 1) := by decide +kernel
theorem dX7_unlikeSides_24 : decode cX7_unlikeSides 24 = .ok (.getfield 36, 3) := by decide +kernel
theorem dX7_unlikeSides_27 : decode cX7_unlikeSides 27 = .ok (.iload_n 2, 1) := by decide +kernel
theorem dX7_unlikeSides_28 : decode cX7_unlikeSides 28 = .ok (.iaload, 1) := by decide +kernel
theorem dX7_unlikeSides_29 : decode cX7_unlikeSides 29 = .ok (.iaload, 1) := by decide +kernel
theorem dX7_unlikeSides_30 : decode cX7_unlikeSides 30 = .ok (.if_icmp .eq 6, 3) := by decide +kernel
theorem dX7_unlikeSides_33 : decode cX7_unlikeSides 33 = .ok (.iinc 3 1, 3) := by decide +kernel
theorem dX7_unlikeSides_36 : decode cX7_unlikeSides 36 = .ok (.aload_n 0, 1) := by decide +kernel
theorem dX7_unlikeSides_37 : decode cX7_unlikeSides 37 = .ok (.getfield 33, 3) := by decide +kernel
theorem dX7_unlikeSides_40 : decode cX7_unlikeSides 40 = .ok (.getfield 76, 3) := by decide +kernel
theorem dX7_unlikeSides_43 : decode cX7_unlikeSides 43 = .ok (.aload_n 0, 1) := by decide +kernel
theorem dX7_unlikeSides_44 : decode cX7_unlikeSides 44 = .ok (.getfield 36, 3) := by decide +kernel
theorem dX7_unlikeSides_47 : decode cX7_unlikeSides 47 = .ok (.iload_n 1, 1) := by decide +kernel
theorem dX7_unlikeSides_48 : decode cX7_unlikeSides 48 = .ok (.iaload, 1) := by decide +kernel
theorem dX7_unlikeSides_49 : decode cX7_unlikeSides 49 = .ok (.iaload, 1) := by decide +kernel
theorem dX7_unlikeSides_50 : decode cX7_unlikeSides 50 = .ok (.aload_n 0, 1) := by decide +kernel
theorem dX7_unlikeSides_51 : decode cX7_unlikeSides 51 = .ok (.getfield 33, 3) := by decide +kernel
theorem dX7_unlikeSides_54 : decode cX7_unlikeSides 54 = .ok (.getfield 76, 3) := by decide +kernel
theorem dX7_unlikeSides_57 : decode cX7_unlikeSides 57 = .ok (.aload_n 0, 1) := by decide +kernel
theorem dX7_unlikeSides_58 : decode cX7_unlikeSides 58 = .ok (.getfield 36, 3) := by decide +kernel
theorem dX7_unlikeSides_61 : decode cX7_unlikeSides 61 = .ok (.iload_n 2, 1) := by decide +kernel
theorem dX7_unlikeSides_62 : decode cX7_unlikeSides 62 = .ok (.iaload, 1) := by decide +kernel
theorem dX7_unlikeSides_63 : decode cX7_unlikeSides 63 = .ok (.iaload, 1) := by decide +kernel
theorem dX7_unlikeSides_64 : decode cX7_unlikeSides 64 = .ok (.if_icmp .eq 6, 3) := by decide +kernel
theorem dX7_unlikeSides_67 : decode cX7_unlikeSides 67 = .ok (.iinc 3 1, 3) := by decide +kernel
theorem dX7_unlikeSides_70 : decode cX7_unlikeSides 70 = .ok (.iload_n 3, 1) := by decide +kernel
theorem dX7_unlikeSides_71 : decode cX7_unlikeSides 71 = .ok (.ireturn, 1) := by decide +kernel
def f_X7_unlikeSides_J36 (l0 : Nat) (l1 : Int32) (l2 : Int32) (l3 : Int32) (h : Hp) : Option (Int32 × Hp) :=
gd (okOb h l0 7) <|
vl (gR h l0 4) fun r26 =>
un r26 fun b27 =>
gd (okOb h b27 2) <|
vl (gR h b27 1) fun r29 =>
vl (gR h l0 6) fun r30 =>
un r30 fun b31 =>
gd (okAb h b31 11 l1) <|
vl (gI h b31 l1.toNatClampNeg) fun x33 =>
un r29 fun b34 =>
gd (okAb h b34 11 x33) <|
vl (gI h b34 x33.toNatClampNeg) fun x36 =>
vl (gR h l0 4) fun r37 =>
un r37 fun b38 =>
gd (okOb h b38 2) <|
vl (gR h b38 1) fun r40 =>
vl (gR h l0 6) fun r41 =>
un r41 fun b42 =>
gd (okAb h b42 11 l2) <|
vl (gI h b42 l2.toNatClampNeg) fun x44 =>
un r40 fun b45 =>
gd (okAb h b45 11 x44) <|
vl (gI h b45 x44.toNatClampNeg) fun x47 =>
if x36 = x47 then (
some (l3, h)) else (
vl (l3 + (1 : Int32)) fun x49 =>
some (x49, h))
set_option maxHeartbeats 4000000 in
set_option maxRecDepth 100000 in
theorem t_X7_unlikeSides_J36 {X : Cx} {d : Nat} {h0 h' : Hp} {v : Int32} (hD : 1 ≤ d) : ∀ (l0 : Nat) (l1 : Int32) (l2 : Int32) (l3 : Int32) (h : Hp), f_X7_unlikeSides_J36 l0 l1 l2 l3 h = some (v, h') → EV X mX7_unlikeSides d h0 (some (.int v)) h' 36 [some (.ref l0), some (.int l1), some (.int l2), some (.int l3)] [] h := by
  intro l0 l1 l2 l3 h H
  unfold f_X7_unlikeSides_J36 at H
  refine ev_aload_n dX7_unlikeSides_36 rfl rfl rfl ?_
  replace H := gd_some H
  obtain ⟨g25, H⟩ := H
  replace H := vl_some H
  obtain ⟨r26, er26, H⟩ := H
  refine ev_getRx dX7_unlikeSides_37 fgX7_33 rfl (okOb.p g25) er26 ?_
  replace H := un_some H
  obtain ⟨b27, eb27, H⟩ := H
  subst eb27
  replace H := gd_some H
  obtain ⟨g28, H⟩ := H
  replace H := vl_some H
  obtain ⟨r29, er29, H⟩ := H
  refine ev_getRx dX7_unlikeSides_40 fgX7_76 rfl (okOb.p g28) er29 ?_
  refine ev_aload_n dX7_unlikeSides_43 rfl rfl rfl ?_
  replace H := vl_some H
  obtain ⟨r30, er30, H⟩ := H
  refine ev_getRx dX7_unlikeSides_44 fgX7_36 rfl (okOb.p g25) er30 ?_
  refine ev_iload_n dX7_unlikeSides_47 rfl rfl ?_
  replace H := un_some H
  obtain ⟨b31, eb31, H⟩ := H
  subst eb31
  replace H := gd_some H
  obtain ⟨g32, H⟩ := H
  replace H := vl_some H
  obtain ⟨x33, ex33, H⟩ := H
  refine ev_ialdx dX7_unlikeSides_48 (okAb.p g32) ex33 ?_
  replace H := un_some H
  obtain ⟨b34, eb34, H⟩ := H
  subst eb34
  replace H := gd_some H
  obtain ⟨g35, H⟩ := H
  replace H := vl_some H
  obtain ⟨x36, ex36, H⟩ := H
  refine ev_ialdx dX7_unlikeSides_49 (okAb.p g35) ex36 ?_
  refine ev_aload_n dX7_unlikeSides_50 rfl rfl rfl ?_
  replace H := vl_some H
  obtain ⟨r37, er37, H⟩ := H
  refine ev_getRx dX7_unlikeSides_51 fgX7_33 rfl (okOb.p g25) er37 ?_
  replace H := un_some H
  obtain ⟨b38, eb38, H⟩ := H
  subst eb38
  replace H := gd_some H
  obtain ⟨g39, H⟩ := H
  replace H := vl_some H
  obtain ⟨r40, er40, H⟩ := H
  refine ev_getRx dX7_unlikeSides_54 fgX7_76 rfl (okOb.p g39) er40 ?_
  refine ev_aload_n dX7_unlikeSides_57 rfl rfl rfl ?_
  replace H := vl_some H
  obtain ⟨r41, er41, H⟩ := H
  refine ev_getRx dX7_unlikeSides_58 fgX7_36 rfl (okOb.p g25) er41 ?_
  refine ev_iload_n dX7_unlikeSides_61 rfl rfl ?_
  replace H := un_some H
  obtain ⟨b42, eb42, H⟩ := H
  subst eb42
  replace H := gd_some H
  obtain ⟨g43, H⟩ := H
  replace H := vl_some H
  obtain ⟨x44, ex44, H⟩ := H
  refine ev_ialdx dX7_unlikeSides_62 (okAb.p g43) ex44 ?_
  replace H := un_some H
  obtain ⟨b45, eb45, H⟩ := H
  subst eb45
  replace H := gd_some H
  obtain ⟨g46, H⟩ := H
  replace H := vl_some H
  obtain ⟨x47, ex47, H⟩ := H
  refine ev_ialdx dX7_unlikeSides_63 (okAb.p g46) ex47 ?_
  refine ev_icmp_eq (tgt := 70) dX7_unlikeSides_64 (by decide) (fun c48 => ?_) (fun c48 => ?_)
  · rw [if_pos c48] at H
    refine ev_iload_n dX7_unlikeSides_70 rfl rfl ?_
    exact ev_iretx dX7_unlikeSides_71 rfl rfl H
  · rw [if_neg c48] at H
    replace H := vl_some H
    obtain ⟨x49, ex49, H⟩ := H
    refine ev_iincx (loc2 := [some (.ref l0), some (.int l1), some (.int l2), some (.int x49)]) dX7_unlikeSides_67 rfl (by decide) ex49 (by decide) rfl ?_
    refine ev_iload_n dX7_unlikeSides_70 rfl rfl ?_
    exact ev_iretx dX7_unlikeSides_71 rfl rfl H
def f_X7_unlikeSides (h : Hp) (a0 : Nat) (a1 : Int32) (a2 : Int32) : Option (Int32 × Hp) :=
gd (okOb h a0 7) <|
vl (gR h a0 3) fun r2 =>
un r2 fun b3 =>
gd (okOb h b3 2) <|
vl (gR h b3 1) fun r5 =>
vl (gR h a0 6) fun r6 =>
un r6 fun b7 =>
gd (okAb h b7 11 a1) <|
vl (gI h b7 a1.toNatClampNeg) fun x9 =>
un r5 fun b10 =>
gd (okAb h b10 11 x9) <|
vl (gI h b10 x9.toNatClampNeg) fun x12 =>
vl (gR h a0 3) fun r13 =>
un r13 fun b14 =>
gd (okOb h b14 2) <|
vl (gR h b14 1) fun r16 =>
vl (gR h a0 6) fun r17 =>
un r17 fun b18 =>
gd (okAb h b18 11 a2) <|
vl (gI h b18 a2.toNatClampNeg) fun x20 =>
un r16 fun b21 =>
gd (okAb h b21 11 x20) <|
vl (gI h b21 x20.toNatClampNeg) fun x23 =>
if x12 = x23 then (
f_X7_unlikeSides_J36 a0 a1 a2 (0 : Int32) h) else (
vl ((0 : Int32) + (1 : Int32)) fun x50 =>
f_X7_unlikeSides_J36 a0 a1 a2 x50 h)
set_option maxHeartbeats 4000000 in
set_option maxRecDepth 100000 in
theorem t_X7_unlikeSides {X : Cx} {d : Nat} {h : Hp} {a0 : Nat} {a1 : Int32} {a2 : Int32} {v : Int32} {h' : Hp} (hD : 1 ≤ d) (H : f_X7_unlikeSides h a0 a1 a2 = some (v, h')) : PM X mX7_unlikeSides d [.ref a0, .int a1, .int a2] h (some (.int v)) h' := by
  unfold f_X7_unlikeSides at H
  refine PM.of (loc := [some (.ref a0), some (.int a1), some (.int a2), none]) (by decide) rfl (Nat.le_of_ble_eq_true rfl) ?_
  refine ev_iconst (v := (0 : Int32)) dX7_unlikeSides_0 (by decide) ?_
  refine ev_istore_n (loc2 := [some (.ref a0), some (.int a1), some (.int a2), some (.int (0 : Int32))]) dX7_unlikeSides_1 rfl (by decide) rfl ?_
  refine ev_aload_n dX7_unlikeSides_2 rfl rfl rfl ?_
  replace H := gd_some H
  obtain ⟨g1, H⟩ := H
  replace H := vl_some H
  obtain ⟨r2, er2, H⟩ := H
  refine ev_getRx dX7_unlikeSides_3 fgX7_29 rfl (okOb.p g1) er2 ?_
  replace H := un_some H
  obtain ⟨b3, eb3, H⟩ := H
  subst eb3
  replace H := gd_some H
  obtain ⟨g4, H⟩ := H
  replace H := vl_some H
  obtain ⟨r5, er5, H⟩ := H
  refine ev_getRx dX7_unlikeSides_6 fgX7_76 rfl (okOb.p g4) er5 ?_
  refine ev_aload_n dX7_unlikeSides_9 rfl rfl rfl ?_
  replace H := vl_some H
  obtain ⟨r6, er6, H⟩ := H
  refine ev_getRx dX7_unlikeSides_10 fgX7_36 rfl (okOb.p g1) er6 ?_
  refine ev_iload_n dX7_unlikeSides_13 rfl rfl ?_
  replace H := un_some H
  obtain ⟨b7, eb7, H⟩ := H
  subst eb7
  replace H := gd_some H
  obtain ⟨g8, H⟩ := H
  replace H := vl_some H
  obtain ⟨x9, ex9, H⟩ := H
  refine ev_ialdx dX7_unlikeSides_14 (okAb.p g8) ex9 ?_
  replace H := un_some H
  obtain ⟨b10, eb10, H⟩ := H
  subst eb10
  replace H := gd_some H
  obtain ⟨g11, H⟩ := H
  replace H := vl_some H
  obtain ⟨x12, ex12, H⟩ := H
  refine ev_ialdx dX7_unlikeSides_15 (okAb.p g11) ex12 ?_
  refine ev_aload_n dX7_unlikeSides_16 rfl rfl rfl ?_
  replace H := vl_some H
  obtain ⟨r13, er13, H⟩ := H
  refine ev_getRx dX7_unlikeSides_17 fgX7_29 rfl (okOb.p g1) er13 ?_
  replace H := un_some H
  obtain ⟨b14, eb14, H⟩ := H
  subst eb14
  replace H := gd_some H
  obtain ⟨g15, H⟩ := H
  replace H := vl_some H
  obtain ⟨r16, er16, H⟩ := H
  refine ev_getRx dX7_unlikeSides_20 fgX7_76 rfl (okOb.p g15) er16 ?_
  refine ev_aload_n dX7_unlikeSides_23 rfl rfl rfl ?_
  replace H := vl_some H
  obtain ⟨r17, er17, H⟩ := H
  refine ev_getRx dX7_unlikeSides_24 fgX7_36 rfl (okOb.p g1) er17 ?_
  refine ev_iload_n dX7_unlikeSides_27 rfl rfl ?_
  replace H := un_some H
  obtain ⟨b18, eb18, H⟩ := H
  subst eb18
  replace H := gd_some H
  obtain ⟨g19, H⟩ := H
  replace H := vl_some H
  obtain ⟨x20, ex20, H⟩ := H
  refine ev_ialdx dX7_unlikeSides_28 (okAb.p g19) ex20 ?_
  replace H := un_some H
  obtain ⟨b21, eb21, H⟩ := H
  subst eb21
  replace H := gd_some H
  obtain ⟨g22, H⟩ := H
  replace H := vl_some H
  obtain ⟨x23, ex23, H⟩ := H
  refine ev_ialdx dX7_unlikeSides_29 (okAb.p g22) ex23 ?_
  refine ev_icmp_eq (tgt := 36) dX7_unlikeSides_30 (by decide) (fun c24 => ?_) (fun c24 => ?_)
  · rw [if_pos c24] at H
    exact t_X7_unlikeSides_J36 hD a0 a1 a2 (0 : Int32) h H
  · rw [if_neg c24] at H
    replace H := vl_some H
    obtain ⟨x50, ex50, H⟩ := H
    refine ev_iincx (loc2 := [some (.ref a0), some (.int a1), some (.int a2), some (.int x50)]) dX7_unlikeSides_33 rfl (by decide) ex50 (by decide) rfl ?_
    exact t_X7_unlikeSides_J36 hD a0 a1 a2 x50 h H
