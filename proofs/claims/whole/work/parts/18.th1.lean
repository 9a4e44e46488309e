theorem dX9_isSide_0 : decode cX9_isSide 0 = .ok (.iload_n 0, 1) := by decide +kernel
theorem dX9_isSide_1 : decode cX9_isSide 1 = .ok (.ifCond .eq 8, 3) := by decide +kernel
theorem dX9_isSide_4 : decode cX9_isSide 4 = .ok (.iload_n 0, 1) := by decide +kernel
theorem dX9_isSide_5 : decode cX9_isSide 5 = .ok (.iconst 1, 1) := by decide +kernel
theorem dX9_isSide_6 : decode cX9_isSide 6 = .ok (.if_icmp .ne 7, 3) := by decide +kernel
theorem dX9_isSide_9 : decode cX9_isSide 9 = .ok (.iconst 1, 1) := by decide +kernel
theorem dX9_isSide_10 : decode cX9_isSide 10 = .ok (.goto 4, 3) := by decide +kernel
theorem dX9_isSide_13 : decode cX9_isSide 13 = .ok (.iconst 0, 1) := by decide +kernel
theorem dX9_isSide_14 : decode cX9_isSide 14 = .ok (.ireturn, 1) := by decide +kernel
def f_X9_isSide (h : Hp) (a0 : Int32) : Option (Int32 × Hp) :=
if a0 = 0 then (
some ((1 : Int32), h)) else (
if a0 = (1 : Int32) then (
some ((1 : Int32), h)) else (
some ((0 : Int32), h)))
set_option maxHeartbeats 4000000 in
set_option maxRecDepth 100000 in
theorem t_X9_isSide {X : Cx} {d : Nat} {h : Hp} {a0 : Int32} {v : Int32} {h' : Hp} (hD : 1 ≤ d) (H : f_X9_isSide h a0 = some (v, h')) : PM X mX9_isSide d [.int a0] h (some (.int v)) h' := by
  unfold f_X9_isSide at H
  refine PM.of (loc := [some (.int a0)]) (by decide) rfl (Nat.le_of_ble_eq_true rfl) ?_
  refine ev_iload_n dX9_isSide_0 rfl rfl ?_
  refine ev_if_eq (tgt := 9) dX9_isSide_1 (by decide) (fun c1 => ?_) (fun c1 => ?_)
  · rw [if_pos c1] at H
    refine ev_iconst (v := (1 : Int32)) dX9_isSide_9 (by decide) ?_
    refine ev_goto (tgt := 14) dX9_isSide_10 (by decide) ?_
    exact ev_iretx dX9_isSide_14 rfl rfl H
  · rw [if_neg c1] at H
    refine ev_iload_n dX9_isSide_4 rfl rfl ?_
    refine ev_iconst (v := (1 : Int32)) dX9_isSide_5 (by decide) ?_
    refine ev_icmp_ne (tgt := 13) dX9_isSide_6 (by decide) (fun c2 => ?_) (fun c2 => ?_)
    · rw [if_neg c2] at H
      refine ev_iconst (v := (0 : Int32)) dX9_isSide_13 (by decide) ?_
      exact ev_iretx dX9_isSide_14 rfl rfl H
    · rw [if_pos c2] at H
      refine ev_iconst (v := (1 : Int32)) dX9_isSide_9 (by decide) ?_
      refine ev_goto (tgt := 14) dX9_isSide_10 (by decide) ?_
      exact ev_iretx dX9_isSide_14 rfl rfl H

theorem dX9_fold_0 : decode cX9_fold 0 = .ok (.iload_n 1, 1) := by decide +kernel
theorem dX9_fold_1 : decode cX9_fold 1 = .ok (.invokestatic 159, 3) := by decide +kernel
theorem dX9_fold_4 : decode cX9_fold 4 = .ok (.ifCond .ne 6, 3) := by decide +kernel
theorem dX9_fold_7 : decode cX9_fold 7 = .ok (.bipush (-2), 2) := by decide +kernel
theorem dX9_fold_9 : decode cX9_fold 9 = .ok (.ireturn, 1) := by decide +kernel
theorem dX9_fold_10 : decode cX9_fold 10 = .ok (.aload_n 0, 1) := by decide +kernel
theorem dX9_fold_11 : decode cX9_fold 11 = .ok (.getfield 31, 3) := by decide +kernel
theorem dX9_fold_14 : decode cX9_fold 14 = .ok (.iload_n 1, 1) := by decide +kernel
theorem dX9_fold_15 : decode cX9_fold 15 = .ok (.iconst 1, 1) := by decide +kernel
theorem dX9_fold_16 : decode cX9_fold 16 = .ok (.isub, 1) := by decide +kernel
theorem dX9_fold_17 : decode cX9_fold 17 = .ok (.aaload, 1) := by decide +kernel
theorem dX9_fold_18 : decode cX9_fold 18 = .ok (.astore 6, 2) := by decide +kernel
theorem dX9_fold_20 : decode cX9_fold 20 = .ok (.aload 6, 2) := by decide +kernel
theorem dX9_fold_22 : decode cX9_fold 22 = .ok (.iload_n 2, 1) := by decide +kernel
theorem dX9_fold_23 : decode cX9_fold 23 = .ok (.iload_n 3, 1) := by decide +kernel
theorem dX9_fold_24 : decode cX9_fold 24 = .ok (.invokevirtual 174, 3) := by decide +kernel
theorem dX9_fold_27 : decode cX9_fold 27 = .ok (.ifCond .eq 22, 3) := by decide +kernel
theorem dX9_fold_30 : decode cX9_fold 30 = .ok (.iload 4, 2) := by decide +kernel
theorem dX9_fold_32 : decode cX9_fold 32 = .ok (.invokestatic 178, 3) := by decide +kernel
theorem dX9_fold_35 : decode cX9_fold 35 = .ok (.ifCond .eq 14, 3) := by decide +kernel
theorem dX9_fold_38 : decode cX9_fold 38 = .ok (.iload 5, 2) := by decide +kernel
theorem dX9_fold_40 : decode cX9_fold 40 = .ok (.ifCond .lt 9, 3) := by decide +kernel
theorem dX9_fold_43 : decode cX9_fold 43 = .ok (.iload 5, 2) := by decide +kernel
theorem dX9_fold_45 : decode cX9_fold 45 = .ok (.iconst 1, 1) := by decide +kernel
theorem dX9_fold_46 : decode cX9_fold 46 = .ok (.if_icmp .le 5, 3) := by decide +kernel
theorem dX9_fold_49 : decode cX9_fold 49 = .ok (.iconst (-1), 1) := by decide +kernel
theorem dX9_fold_50 : decode cX9_fold 50 = .ok (.ireturn, 1) := by decide +kernel
theorem dX9_fold_51 : decode cX9_fold 51 = .ok (.aload 6, 2) := by decide +kernel
theorem dX9_fold_53 : decode cX9_fold 53 = .ok (.iload_n 2, 1) := by decide +kernel
theorem dX9_fold_54 : decode cX9_fold 54 = .ok (.iload_n 3, 1) := by decide +kernel
theorem dX9_fold_55 : decode cX9_fold 55 = .ok (.invokevirtual 181, 3) := by decide +kernel
theorem dX9_fold_58 : decode cX9_fold 58 = .ok (.istore 7, 2) := by decide +kernel
theorem dX9_fold_60 : decode cX9_fold 60 = .ok (.iload 5, 2) := by decide +kernel
theorem dX9_fold_62 : decode cX9_fold 62 = .ok (.ifCond .ne 19, 3) := by decide +kernel
theorem dX9_fold_65 : decode cX9_fold 65 = .ok (.aload 6, 2) := by decide +kernel
theorem dX9_fold_67 : decode cX9_fold 67 = .ok (.getfield 185, 3) := by decide +kernel
theorem dX9_fold_70 : decode cX9_fold 70 = .ok (.iconst 2, 1) := by decide +kernel
theorem dX9_fold_71 : decode cX9_fold 71 = .ok (.iload 7, 2) := by decide +kernel
theorem dX9_fold_73 : decode cX9_fold 73 = .ok (.imul, 1) := by decide +kernel
theorem dX9_fold_74 : decode cX9_fold 74 = .ok (.iload 4, 2) := by decide +kernel
theorem dX9_fold_76 : decode cX9_fold 76 = .ok (.iadd, 1) := by decide +kernel
theorem dX9_fold_77 : decode cX9_fold 77 = .ok (.iaload, 1) := by decide +kernel
theorem dX9_fold_78 : decode cX9_fold 78 = .ok (.goto 11, 3) := by decide +kernel
theorem dX9_fold_81 : decode cX9_fold 81 = .ok (.aload 6, 2) := by decide +kernel
theorem dX9_fold_83 : decode cX9_fold 83 = .ok (.getfield 188, 3) := by decide +kernel
theorem dX9_fold_86 : decode cX9_fold 86 = .ok (.iload 7, 2) := by decide +kernel
theorem dX9_fold_88 : decode cX9_fold 88 = .ok (.iaload, 1) := by decide +kernel
theorem dX9_fold_89 : decode cX9_fold 89 = .ok (.ireturn, 1) := by decide +kernel
def f_X9_fold (h : Hp) (a0 : Nat) (a1 : Int32) (a2 : Int32) (a3 : Int32) (a4 : Int32) (a5 : Int32) : Option (Int32 × Hp) :=
bnd (f_X9_isFormat h a1) fun v1 h2 =>
if v1 = 0 then (
some ((-2 : Int32), h2)) else (
gd (okOb h2 a0 9) <|
vl (gR h2 a0 5) fun r5 =>
un r5 fun b6 =>
gd (okAb h2 b6 13 (a1 - (1 : Int32))) <|
vl (gR h2 b6 (a1 - (1 : Int32)).toNatClampNeg) fun r8 =>
un r8 fun b9 =>
gd (okOb h2 b9 1) <|
bnd (f_X1_hasLeaf h2 b9 a2 a3) fun v11 h12 =>
if v11 = 0 then (
some ((-1 : Int32), h12)) else (
bnd (f_X9_isSide h12 a4) fun v14 h15 =>
if v14 = 0 then (
some ((-1 : Int32), h15)) else (
if a5 < 0 then (
some ((-1 : Int32), h15)) else (
if a5 ≤ (1 : Int32) then (
bnd (f_X1_leafAt h15 b9 a2 a3) fun v19 h20 =>
if a5 = 0 then (
vl (gR h20 b9 2) fun r26 =>
un r26 fun b27 =>
gd (okAb h20 b27 11 (((2 : Int32) * v19) + a4)) <|
vl (gI h20 b27 (((2 : Int32) * v19) + a4).toNatClampNeg) fun x29 =>
some (x29, h20)) else (
vl (gR h20 b9 3) fun r22 =>
un r22 fun b23 =>
gd (okAb h20 b23 11 v19) <|
vl (gI h20 b23 v19.toNatClampNeg) fun x25 =>
some (x25, h20))) else (
some ((-1 : Int32), h15))))))
set_option maxHeartbeats 4000000 in
set_option maxRecDepth 100000 in
theorem t_X9_fold {X : Cx} {d : Nat} {h : Hp} {a0 : Nat} {a1 : Int32} {a2 : Int32} {a3 : Int32} {a4 : Int32} {a5 : Int32} {v : Int32} {h' : Hp} (hD : 2 ≤ d) (H : f_X9_fold h a0 a1 a2 a3 a4 a5 = some (v, h')) : PM X mX9_fold d [.ref a0, .int a1, .int a2, .int a3, .int a4, .int a5] h (some (.int v)) h' := by
  unfold f_X9_fold at H
  refine PM.of (loc := [some (.ref a0), some (.int a1), some (.int a2), some (.int a3), some (.int a4), some (.int a5), none, none]) (by decide) rfl (Nat.le_of_ble_eq_true rfl) ?_
  refine ev_iload_n dX9_fold_0 rfl rfl ?_
  replace H := bnd_some H
  obtain ⟨v1, h2, eh2, H⟩ := H
  have ph2 := (t_X9_isFormat (X := X) (d := 1) (by omega) eh2)
  refine ev_callS (as := [.int a1]) dX9_fold_1 ph2 ok_X9_isFormat (by omega) rfl k2_157 k2_158 rfl (Nat.le_of_ble_eq_true rfl) ?_
  refine ev_if_ne (tgt := 10) dX9_fold_4 (by decide) (fun c3 => ?_) (fun c3 => ?_)
  · rw [if_neg c3] at H
    refine ev_aload_n dX9_fold_10 rfl rfl rfl ?_
    replace H := gd_some H
    obtain ⟨g4, H⟩ := H
    replace H := vl_some H
    obtain ⟨r5, er5, H⟩ := H
    refine ev_getRx dX9_fold_11 fgX9_31 rfl (okOb.p g4) er5 ?_
    refine ev_iload_n dX9_fold_14 rfl rfl ?_
    refine ev_iconst (v := (1 : Int32)) dX9_fold_15 (by decide) ?_
    refine ev_isub dX9_fold_16 ?_
    replace H := un_some H
    obtain ⟨b6, eb6, H⟩ := H
    subst eb6
    replace H := gd_some H
    obtain ⟨g7, H⟩ := H
    replace H := vl_some H
    obtain ⟨r8, er8, H⟩ := H
    refine ev_aaldx (kd := 13) (t0 := 2) dX9_fold_17 (by decide) (fun _ => rfl) (okAb.p g7) er8 ?_
    refine ev_astore (loc2 := [some (.ref a0), some (.int a1), some (.int a2), some (.int a3), some (.int a4), some (.int a5), some (rv r8), none]) dX9_fold_18 (by decide) (isA_rv _) rfl ?_
    refine ev_aload dX9_fold_20 rfl (isA_rv _) ?_
    refine ev_iload_n dX9_fold_22 rfl rfl ?_
    refine ev_iload_n dX9_fold_23 rfl rfl ?_
    replace H := un_some H
    obtain ⟨b9, eb9, H⟩ := H
    subst eb9
    replace H := gd_some H
    obtain ⟨g10, H⟩ := H
    replace H := bnd_some H
    obtain ⟨v11, h12, eh12, H⟩ := H
    have ph12 := (t_X1_hasLeaf (X := X) (d := 1) (by omega) eh12)
    refine ev_callV (as := [.int a2, .int a3]) dX9_fold_24 ph12 ok_X1_hasLeaf (by omega) rfl k3_17 k3_18 k3_19 (ci := 1) (by decide) rfl rfl (okOb.p g10) rfl (Nat.le_of_ble_eq_true rfl) ?_
    refine ev_if_eq (tgt := 49) dX9_fold_27 (by decide) (fun c13 => ?_) (fun c13 => ?_)
    · rw [if_pos c13] at H
      refine ev_iconst (v := (-1 : Int32)) dX9_fold_49 (by decide) ?_
      exact ev_iretx dX9_fold_50 rfl rfl H
    · rw [if_neg c13] at H
      refine ev_iload dX9_fold_30 rfl ?_
      replace H := bnd_some H
      obtain ⟨v14, h15, eh15, H⟩ := H
      have ph15 := (t_X9_isSide (X := X) (d := 1) (by omega) eh15)
      refine ev_callS (as := [.int a4]) dX9_fold_32 ph15 ok_X9_isSide (by omega) rfl k3_21 k3_22 rfl (Nat.le_of_ble_eq_true rfl) ?_
      refine ev_if_eq (tgt := 49) dX9_fold_35 (by decide) (fun c16 => ?_) (fun c16 => ?_)
      · rw [if_pos c16] at H
        refine ev_iconst (v := (-1 : Int32)) dX9_fold_49 (by decide) ?_
        exact ev_iretx dX9_fold_50 rfl rfl H
      · rw [if_neg c16] at H
        refine ev_iload dX9_fold_38 rfl ?_
        refine ev_if_lt (tgt := 49) dX9_fold_40 (by decide) (fun c17 => ?_) (fun c17 => ?_)
        · rw [if_pos c17] at H
          refine ev_iconst (v := (-1 : Int32)) dX9_fold_49 (by decide) ?_
          exact ev_iretx dX9_fold_50 rfl rfl H
        · rw [if_neg c17] at H
          refine ev_iload dX9_fold_43 rfl ?_
          refine ev_iconst (v := (1 : Int32)) dX9_fold_45 (by decide) ?_
          refine ev_icmp_le (tgt := 51) dX9_fold_46 (by decide) (fun c18 => ?_) (fun c18 => ?_)
          · rw [if_pos c18] at H
            refine ev_aload dX9_fold_51 rfl rfl ?_
            refine ev_iload_n dX9_fold_53 rfl rfl ?_
            refine ev_iload_n dX9_fold_54 rfl rfl ?_
            replace H := bnd_some H
            obtain ⟨v19, h20, eh20, H⟩ := H
            have ph20 := (t_X1_leafAt (X := X) (d := 1) (by omega) eh20)
            refine ev_callV (as := [.int a2, .int a3]) dX9_fold_55 ph20 ok_X1_leafAt (by omega) rfl k3_24 k3_25 k3_26 (ci := 1) (by decide) rfl rfl (okO_ext ph15.1 (okO_ext ph12.1 (okOb.p g10))) rfl (Nat.le_of_ble_eq_true rfl) ?_
            refine ev_istore (loc2 := [some (.ref a0), some (.int a1), some (.int a2), some (.int a3), some (.int a4), some (.int a5), some (.ref b9), some (.int v19)]) dX9_fold_58 (by decide) rfl ?_
            refine ev_iload dX9_fold_60 rfl ?_
            refine ev_if_ne (tgt := 81) dX9_fold_62 (by decide) (fun c21 => ?_) (fun c21 => ?_)
            · rw [if_neg c21] at H
              refine ev_aload dX9_fold_81 rfl rfl ?_
              replace H := vl_some H
              obtain ⟨r22, er22, H⟩ := H
              refine ev_getRx dX9_fold_83 fgX9_188 rfl (okO_ext ph20.1 (okO_ext ph15.1 (okO_ext ph12.1 (okOb.p g10)))) er22 ?_
              refine ev_iload dX9_fold_86 rfl ?_
              replace H := un_some H
              obtain ⟨b23, eb23, H⟩ := H
              subst eb23
              replace H := gd_some H
              obtain ⟨g24, H⟩ := H
              replace H := vl_some H
              obtain ⟨x25, ex25, H⟩ := H
              refine ev_ialdx dX9_fold_88 (okAb.p g24) ex25 ?_
              exact ev_iretx dX9_fold_89 rfl rfl H
            · rw [if_pos c21] at H
              refine ev_aload dX9_fold_65 rfl rfl ?_
              replace H := vl_some H
              obtain ⟨r26, er26, H⟩ := H
              refine ev_getRx dX9_fold_67 fgX9_185 rfl (okO_ext ph20.1 (okO_ext ph15.1 (okO_ext ph12.1 (okOb.p g10)))) er26 ?_
              refine ev_iconst (v := (2 : Int32)) dX9_fold_70 (by decide) ?_
              refine ev_iload dX9_fold_71 rfl ?_
              refine ev_imul dX9_fold_73 ?_
              refine ev_iload dX9_fold_74 rfl ?_
              refine ev_iadd dX9_fold_76 ?_
              replace H := un_some H
              obtain ⟨b27, eb27, H⟩ := H
              subst eb27
              replace H := gd_some H
              obtain ⟨g28, H⟩ := H
              replace H := vl_some H
              obtain ⟨x29, ex29, H⟩ := H
              refine ev_ialdx dX9_fold_77 (okAb.p g28) ex29 ?_
              refine ev_goto (tgt := 89) dX9_fold_78 (by decide) ?_
              exact ev_iretx dX9_fold_89 rfl rfl H
          · rw [if_neg c18] at H
            refine ev_iconst (v := (-1 : Int32)) dX9_fold_49 (by decide) ?_
            exact ev_iretx dX9_fold_50 rfl rfl H
  · rw [if_pos c3] at H
    refine ev_bipush (v := (-2 : Int32)) dX9_fold_7 (by decide) ?_
    exact ev_iretx dX9_fold_9 rfl rfl H

theorem dX9_findForme_0 : decode cX9_findForme 0 = .ok (.iload_n 1, 1) := by decide +kernel
theorem dX9_findForme_1 : decode cX9_findForme 1 = .ok (.ifCond .lt 30, 3) := by decide +kernel
theorem dX9_findForme_4 : decode cX9_findForme 4 = .ok (.iload_n 1, 1) := by decide +kernel
theorem dX9_findForme_5 : decode cX9_findForme 5 = .ok (.iconst 2, 1) := by decide +kernel
theorem dX9_findForme_6 : decode cX9_findForme 6 = .ok (.aload_n 0, 1) := by decide +kernel
theorem dX9_findForme_7 : decode cX9_findForme 7 = .ok (.getfield 165, 3) := by decide +kernel
theorem dX9_findForme_10 : decode cX9_findForme 10 = .ok (.imul, 1) := by decide +kernel
theorem dX9_findForme_11 : decode cX9_findForme 11 = .ok (.if_icmp .ge 20, 3) := by decide +kernel
theorem dX9_findForme_14 : decode cX9_findForme 14 = .ok (.aload_n 0, 1) := by decide +kernel
theorem dX9_findForme_15 : decode cX9_findForme 15 = .ok (.getfield 37, 3) := by decide +kernel
theorem dX9_findForme_18 : decode cX9_findForme 18 = .ok (.iload_n 1, 1) := by decide +kernel
theorem dX9_findForme_19 : decode cX9_findForme 19 = .ok (.iconst 1, 1) := by decide +kernel
theorem dX9_findForme_20 : decode cX9_findForme 20 = .ok (.ishr, 1) := by decide +kernel
theorem dX9_findForme_21 : decode cX9_findForme 21 = .ok (.aaload, 1) := by decide +kernel
theorem dX9_findForme_22 : decode cX9_findForme 22 = .ok (.iload_n 1, 1) := by decide +kernel
theorem dX9_findForme_23 : decode cX9_findForme 23 = .ok (.iconst 1, 1) := by decide +kernel
theorem dX9_findForme_24 : decode cX9_findForme 24 = .ok (.iand, 1) := by decide +kernel
theorem dX9_findForme_25 : decode cX9_findForme 25 = .ok (.invokevirtual 244, 3) := by decide +kernel
theorem dX9_findForme_28 : decode cX9_findForme 28 = .ok (.goto 4, 3) := by decide +kernel
theorem dX9_findForme_31 : decode cX9_findForme 31 = .ok (.aconst_null, 1) := by decide +kernel
theorem dX9_findForme_32 : decode cX9_findForme 32 = .ok (.areturn, 1) := by decide +kernel
def f_X9_findForme (h : Hp) (a0 : Nat) (a1 : Int32) : Option (Option Nat × Hp) :=
if a1 < 0 then (
some (none, h)) else (
gd (okOb h a0 9) <|
vl (gI h a0 7) fun x3 =>
if ((2 : Int32) * x3) ≤ a1 then (
some (none, h)) else (
vl (gR h a0 6) fun r5 =>
un r5 fun b6 =>
gd (okAb h b6 15 (a1 >>> ((1 : Int32) &&& 31))) <|
vl (gR h b6 (a1 >>> ((1 : Int32) &&& 31)).toNatClampNeg) fun r8 =>
un r8 fun b9 =>
gd (okOb h b9 7) <|
bnd (f_X7_formeOn h b9 (a1 &&& (1 : Int32))) fun v11 h12 =>
some (v11, h12)))
set_option maxHeartbeats 4000000 in
set_option maxRecDepth 100000 in
theorem t_X9_findForme {X : Cx} {d : Nat} {h : Hp} {a0 : Nat} {a1 : Int32} {v : Option Nat} {h' : Hp} (hD : 2 ≤ d) (H : f_X9_findForme h a0 a1 = some (v, h')) : PM X mX9_findForme d [.ref a0, .int a1] h (some (rv v)) h' := by
  unfold f_X9_findForme at H
  refine PM.of (loc := [some (.ref a0), some (.int a1)]) (by decide) rfl (Nat.le_of_ble_eq_true rfl) ?_
  refine ev_iload_n dX9_findForme_0 rfl rfl ?_
  refine ev_if_lt (tgt := 31) dX9_findForme_1 (by decide) (fun c1 => ?_) (fun c1 => ?_)
  · rw [if_pos c1] at H
    refine ev_anull dX9_findForme_31 ?_
    exact ev_aretx (t := none) dX9_findForme_32 rfl (Or.inl ⟨_, rfl⟩) H
  · rw [if_neg c1] at H
    refine ev_iload_n dX9_findForme_4 rfl rfl ?_
    refine ev_iconst (v := (2 : Int32)) dX9_findForme_5 (by decide) ?_
    refine ev_aload_n dX9_findForme_6 rfl rfl rfl ?_
    replace H := gd_some H
    obtain ⟨g2, H⟩ := H
    replace H := vl_some H
    obtain ⟨x3, ex3, H⟩ := H
    refine ev_getIx dX9_findForme_7 fgX9_165 rfl (okOb.p g2) ex3 ?_
    refine ev_imul dX9_findForme_10 ?_
    refine ev_icmp_ge (tgt := 31) dX9_findForme_11 (by decide) (fun c4 => ?_) (fun c4 => ?_)
    · rw [if_pos c4] at H
      refine ev_anull dX9_findForme_31 ?_
      exact ev_aretx (t := none) dX9_findForme_32 rfl (Or.inl ⟨_, rfl⟩) H
    · rw [if_neg c4] at H
      refine ev_aload_n dX9_findForme_14 rfl rfl rfl ?_
      replace H := vl_some H
      obtain ⟨r5, er5, H⟩ := H
      refine ev_getRx dX9_findForme_15 fgX9_37 rfl (okOb.p g2) er5 ?_
      refine ev_iload_n dX9_findForme_18 rfl rfl ?_
      refine ev_iconst (v := (1 : Int32)) dX9_findForme_19 (by decide) ?_
      refine ev_ishr dX9_findForme_20 ?_
      replace H := un_some H
      obtain ⟨b6, eb6, H⟩ := H
      subst eb6
      replace H := gd_some H
      obtain ⟨g7, H⟩ := H
      replace H := vl_some H
      obtain ⟨r8, er8, H⟩ := H
      refine ev_aaldx (kd := 15) (t0 := 4) dX9_findForme_21 (by decide) (fun _ => rfl) (okAb.p g7) er8 ?_
      refine ev_iload_n dX9_findForme_22 rfl rfl ?_
      refine ev_iconst (v := (1 : Int32)) dX9_findForme_23 (by decide) ?_
      refine ev_iand dX9_findForme_24 ?_
      replace H := un_some H
      obtain ⟨b9, eb9, H⟩ := H
      subst eb9
      replace H := gd_some H
      obtain ⟨g10, H⟩ := H
      replace H := bnd_some H
      obtain ⟨v11, h12, eh12, H⟩ := H
      have ph12 := (t_X7_formeOn (X := X) (d := 1) (by omega) eh12)
      refine ev_callV (as := [.int (a1 &&& (1 : Int32))]) dX9_findForme_25 ph12 ok_X7_formeOn (by omega) rfl k3_36 k3_10 k3_11 (ci := 7) (by decide) rfl rfl (okOb.p g10) rfl (Nat.le_of_ble_eq_true rfl) ?_
      refine ev_goto (tgt := 32) dX9_findForme_28 (by decide) ?_
      exact ev_aretx (t := v11) dX9_findForme_32 rfl (Or.inl ⟨_, rfl⟩) H

theorem dX9_impose_0 : decode cX9_impose 0 = .ok (.aload_n 0, 1) := by decide +kernel
theorem dX9_impose_1 : decode cX9_impose 1 = .ok (.iload_n 1, 1) := by decide +kernel
theorem dX9_impose_2 : decode cX9_impose 2 = .ok (.invokevirtual 191, 3) := by decide +kernel
theorem dX9_impose_5 : decode cX9_impose 5 = .ok (.astore_n 3, 1) := by decide +kernel
theorem dX9_impose_6 : decode cX9_impose 6 = .ok (.aload_n 3, 1) := by decide +kernel
theorem dX9_impose_7 : decode cX9_impose 7 = .ok (.ifnull 12, 3) := by decide +kernel
theorem dX9_impose_10 : decode cX9_impose 10 = .ok (.iload_n 2, 1) := by decide +kernel
theorem dX9_impose_11 : decode cX9_impose 11 = .ok (.ifCond .lt 8, 3) := by decide +kernel
theorem dX9_impose_14 : decode cX9_impose 14 = .ok (.iload_n 2, 1) := by decide +kernel
theorem dX9_impose_15 : decode cX9_impose 15 = .ok (.iconst 4, 1) := by decide +kernel
theorem dX9_impose_16 : decode cX9_impose 16 = .ok (.if_icmp .lt 5, 3) := by decide +kernel
theorem dX9_impose_19 : decode cX9_impose 19 = .ok (.iconst (-1), 1) := by decide +kernel
theorem dX9_impose_20 : decode cX9_impose 20 = .ok (.ireturn, 1) := by decide +kernel
theorem dX9_impose_21 : decode cX9_impose 21 = .ok (.aload_n 3, 1) := by decide +kernel
theorem dX9_impose_22 : decode cX9_impose 22 = .ok (.invokevirtual 195, 3) := by decide +kernel
theorem dX9_impose_25 : decode cX9_impose 25 = .ok (.ifCond .ne 26, 3) := by decide +kernel
theorem dX9_impose_28 : decode cX9_impose 28 = .ok (.aload_n 3, 1) := by decide +kernel
theorem dX9_impose_29 : decode cX9_impose 29 = .ok (.getfield 137, 3) := by decide +kernel
theorem dX9_impose_32 : decode cX9_impose 32 = .ok (.ifCond .gt 19, 3) := by decide +kernel
theorem dX9_impose_35 : decode cX9_impose 35 = .ok (.aload_n 0, 1) := by decide +kernel
theorem dX9_impose_36 : decode cX9_impose 36 = .ok (.getfield 41, 3) := by decide +kernel
theorem dX9_impose_39 : decode cX9_impose 39 = .ok (.iload_n 2, 1) := by decide +kernel
theorem dX9_impose_40 : decode cX9_impose 40 = .ok (.baload, 1) := by decide +kernel
theorem dX9_impose_41 : decode cX9_impose 41 = .ok (.ifCond .ne 10, 3) := by decide +kernel
theorem dX9_impose_44 : decode cX9_impose 44 = .ok (.aload_n 3, 1) := by decide +kernel
theorem dX9_impose_45 : decode cX9_impose 45 = .ok (.invokevirtual 198, 3) := by decide +kernel
theorem dX9_impose_48 : decode cX9_impose 48 = .ok (.ifCond .ne 6, 3) := by decide +kernel
theorem dX9_impose_51 : decode cX9_impose 51 = .ok (.bipush (-3), 2) := by decide +kernel
theorem dX9_impose_53 : decode cX9_impose 53 = .ok (.ireturn, 1) := by decide +kernel
theorem dX9_impose_54 : decode cX9_impose 54 = .ok (.aload_n 3, 1) := by decide +kernel
theorem dX9_impose_55 : decode cX9_impose 55 = .ok (.iload_n 2, 1) := by decide +kernel
theorem dX9_impose_56 : decode cX9_impose 56 = .ok (.putfield 201, 3) := by decide +kernel
theorem dX9_impose_59 : decode cX9_impose 59 = .ok (.aload_n 0, 1) := by decide +kernel
theorem dX9_impose_60 : decode cX9_impose 60 = .ok (.getfield 41, 3) := by decide +kernel
theorem dX9_impose_63 : decode cX9_impose 63 = .ok (.iload_n 2, 1) := by decide +kernel
theorem dX9_impose_64 : decode cX9_impose 64 = .ok (.iconst 1, 1) := by decide +kernel
theorem dX9_impose_65 : decode cX9_impose 65 = .ok (.bastore, 1) := by decide +kernel
theorem dX9_impose_66 : decode cX9_impose 66 = .ok (.aload_n 3, 1) := by decide +kernel
theorem dX9_impose_67 : decode cX9_impose 67 = .ok (.getfield 204, 3) := by decide +kernel
theorem dX9_impose_70 : decode cX9_impose 70 = .ok (.arraylength, 1) := by decide +kernel
theorem dX9_impose_71 : decode cX9_impose 71 = .ok (.ireturn, 1) := by decide +kernel
def f_X9_impose (h : Hp) (a0 : Nat) (a1 : Int32) (a2 : Int32) : Option (Int32 × Hp) :=
gd (okOb h a0 9) <|
bnd (f_X9_findForme h a0 a1) fun v2 h3 =>
nl v2 (
some ((-1 : Int32), h3)) fun b4 =>
if a2 < 0 then (
some ((-1 : Int32), h3)) else (
if a2 < (4 : Int32) then (
gd (okOb h3 b4 2) <|
bnd (f_X2_isImposed h3 b4) fun v8 h9 =>
if v8 = 0 then (
vl (gI h9 b4 3) fun x11 =>
if 0 < x11 then (
some ((-3 : Int32), h9)) else (
vl (gR h9 a0 8) fun r13 =>
un r13 fun b14 =>
gd (okAb h9 b14 12 a2) <|
vl (gI h9 b14 a2.toNatClampNeg) fun x16 =>
if x16 = 0 then (
bnd (f_X2_allPagesSet h9 b4) fun v18 h19 =>
if v18 = 0 then (
some ((-3 : Int32), h19)) else (
vl (sI h19 b4 2 a2) fun h21 =>
vl (gR h21 a0 8) fun r22 =>
un r22 fun b23 =>
gd (okAb h21 b23 12 a2) <|
vl (sI h21 b23 a2.toNatClampNeg (1 : Int32)) fun h25 =>
vl (gR h25 b4 0) fun r26 =>
un r26 fun b27 =>
gd (okOb h25 b27 14) <|
some (Int32.ofNat (gL h25 b27), h25))) else (
some ((-3 : Int32), h9)))) else (
some ((-3 : Int32), h9))) else (
some ((-1 : Int32), h3)))
set_option maxHeartbeats 4000000 in
set_option maxRecDepth 100000 in
theorem t_X9_impose {X : Cx} {d : Nat} {h : Hp} {a0 : Nat} {a1 : Int32} {a2 : Int32} {v : Int32} {h' : Hp} (hD : 3 ≤ d) (H : f_X9_impose h a0 a1 a2 = some (v, h')) : PM X mX9_impose d [.ref a0, .int a1, .int a2] h (some (.int v)) h' := by
  unfold f_X9_impose at H
  refine PM.of (loc := [some (.ref a0), some (.int a1), some (.int a2), none]) (by decide) rfl (Nat.le_of_ble_eq_true rfl) ?_
  refine ev_aload_n dX9_impose_0 rfl rfl rfl ?_
  refine ev_iload_n dX9_impose_1 rfl rfl ?_
  replace H := gd_some H
  obtain ⟨g1, H⟩ := H
  replace H := bnd_some H
  obtain ⟨v2, h3, eh3, H⟩ := H
  have ph3 := (t_X9_findForme (X := X) (d := 2) (by omega) eh3)
  refine ev_callV (as := [.int a1]) dX9_impose_2 ph3 ok_X9_findForme (by omega) rfl k3_32 k3_34 ks_2 (ci := 9) (by decide) rfl rfl (okOb.p g1) rfl (Nat.le_of_ble_eq_true rfl) ?_
  refine ev_astore_n (loc2 := [some (.ref a0), some (.int a1), some (.int a2), some (rv v2)]) dX9_impose_5 rfl (by decide) (isA_rv _) rfl ?_
  refine ev_aload_n dX9_impose_6 rfl rfl (isA_rv _) ?_
  replace H := nl_some H
  rcases H with ⟨eb4, H⟩ | ⟨b4, eb4, H⟩
  · subst eb4
    refine ev_ifnull_n (tgt := 19) dX9_impose_7 (by decide) ?_
    refine ev_iconst (v := (-1 : Int32)) dX9_impose_19 (by decide) ?_
    exact ev_iretx dX9_impose_20 rfl rfl H
  · subst eb4
    refine ev_ifnull_s dX9_impose_7 ?_
    refine ev_iload_n dX9_impose_10 rfl rfl ?_
    refine ev_if_lt (tgt := 19) dX9_impose_11 (by decide) (fun c5 => ?_) (fun c5 => ?_)
    · rw [if_pos c5] at H
      refine ev_iconst (v := (-1 : Int32)) dX9_impose_19 (by decide) ?_
      exact ev_iretx dX9_impose_20 rfl rfl H
    · rw [if_neg c5] at H
      refine ev_iload_n dX9_impose_14 rfl rfl ?_
      refine ev_iconst (v := (4 : Int32)) dX9_impose_15 (by decide) ?_
      refine ev_icmp_lt (tgt := 21) dX9_impose_16 (by decide) (fun c6 => ?_) (fun c6 => ?_)
      · rw [if_pos c6] at H
        refine ev_aload_n dX9_impose_21 rfl rfl rfl ?_
        replace H := gd_some H
        obtain ⟨g7, H⟩ := H
        replace H := bnd_some H
        obtain ⟨v8, h9, eh9, H⟩ := H
        have ph9 := (t_X2_isImposed (X := X) (d := 1) (by omega) eh9)
        refine ev_callV (as := []) dX9_impose_22 ph9 ok_X2_isImposed (by omega) rfl k3_37 k2_122 k2_123 (ci := 2) (by decide) rfl rfl (okOb.p g7) rfl (Nat.le_of_ble_eq_true rfl) ?_
        refine ev_if_ne (tgt := 51) dX9_impose_25 (by decide) (fun c10 => ?_) (fun c10 => ?_)
        · rw [if_neg c10] at H
          refine ev_bipush (v := (-3 : Int32)) dX9_impose_51 (by decide) ?_
          exact ev_iretx dX9_impose_53 rfl rfl H
        · rw [if_pos c10] at H
          refine ev_aload_n dX9_impose_28 rfl rfl rfl ?_
          replace H := vl_some H
          obtain ⟨x11, ex11, H⟩ := H
          refine ev_getIx dX9_impose_29 fgX9_137 rfl (okO_ext ph9.1 (okOb.p g7)) ex11 ?_
          refine ev_if_gt (tgt := 51) dX9_impose_32 (by decide) (fun c12 => ?_) (fun c12 => ?_)
          · rw [if_pos c12] at H
            refine ev_bipush (v := (-3 : Int32)) dX9_impose_51 (by decide) ?_
            exact ev_iretx dX9_impose_53 rfl rfl H
          · rw [if_neg c12] at H
            refine ev_aload_n dX9_impose_35 rfl rfl rfl ?_
            replace H := vl_some H
            obtain ⟨r13, er13, H⟩ := H
            refine ev_getRx dX9_impose_36 fgX9_41 rfl (okO_ext ph9.1 (okO_ext ph3.1 (okOb.p g1))) er13 ?_
            refine ev_iload_n dX9_impose_39 rfl rfl ?_
            replace H := un_some H
            obtain ⟨b14, eb14, H⟩ := H
            subst eb14
            replace H := gd_some H
            obtain ⟨g15, H⟩ := H
            replace H := vl_some H
            obtain ⟨x16, ex16, H⟩ := H
            refine ev_zaldx dX9_impose_40 (okAb.p g15) ex16 ?_
            refine ev_if_ne (tgt := 51) dX9_impose_41 (by decide) (fun c17 => ?_) (fun c17 => ?_)
            · rw [if_neg c17] at H
              refine ev_bipush (v := (-3 : Int32)) dX9_impose_51 (by decide) ?_
              exact ev_iretx dX9_impose_53 rfl rfl H
            · rw [if_pos c17] at H
              refine ev_aload_n dX9_impose_44 rfl rfl rfl ?_
              replace H := bnd_some H
              obtain ⟨v18, h19, eh19, H⟩ := H
              have ph19 := (t_X2_allPagesSet (X := X) (d := 1) (by omega) eh19)
              refine ev_callV (as := []) dX9_impose_45 ph19 ok_X2_allPagesSet (by omega) rfl k3_38 k3_39 k3_40 (ci := 2) (by decide) rfl rfl (okO_ext ph9.1 (okOb.p g7)) rfl (Nat.le_of_ble_eq_true rfl) ?_
              refine ev_if_ne (tgt := 54) dX9_impose_48 (by decide) (fun c20 => ?_) (fun c20 => ?_)
              · rw [if_neg c20] at H
                refine ev_aload_n dX9_impose_54 rfl rfl rfl ?_
                refine ev_iload_n dX9_impose_55 rfl rfl ?_
                replace H := vl_some H
                obtain ⟨h21, eh21, H⟩ := H
                refine ev_putI dX9_impose_56 fdX9_201 rfl rfl rfl (okO_ext ph19.1 (okO_ext ph9.1 (okOb.p g7))) eh21 ?_
                refine ev_aload_n dX9_impose_59 rfl rfl rfl ?_
                replace H := vl_some H
                obtain ⟨r22, er22, H⟩ := H
                refine ev_getRx dX9_impose_60 fgX9_41 rfl (okO_sI eh21 (okO_ext ph19.1 (okO_ext ph9.1 (okO_ext ph3.1 (okOb.p g1))))) er22 ?_
                refine ev_iload_n dX9_impose_63 rfl rfl ?_
                refine ev_iconst (v := (1 : Int32)) dX9_impose_64 (by decide) ?_
                replace H := un_some H
                obtain ⟨b23, eb23, H⟩ := H
                subst eb23
                replace H := gd_some H
                obtain ⟨g24, H⟩ := H
                replace H := vl_some H
                obtain ⟨h25, eh25, H⟩ := H
                refine ev_zast dX9_impose_65 rfl (okAb.p g24) eh25 ?_
                refine ev_aload_n dX9_impose_66 rfl rfl rfl ?_
                replace H := vl_some H
                obtain ⟨r26, er26, H⟩ := H
                refine ev_getRx dX9_impose_67 fgX9_204 rfl (okO_sI eh25 (okO_sI eh21 (okO_ext ph19.1 (okO_ext ph9.1 (okOb.p g7))))) er26 ?_
                replace H := un_some H
                obtain ⟨b27, eb27, H⟩ := H
                subst eb27
                replace H := gd_some H
                obtain ⟨g28, H⟩ := H
                refine ev_alen (kd := 14) (t0 := 3) dX9_impose_70 (by decide) (fun _ => rfl) (okOb.p g28) ?_
                exact ev_iretx dX9_impose_71 rfl rfl H
              · rw [if_pos c20] at H
                refine ev_bipush (v := (-3 : Int32)) dX9_impose_51 (by decide) ?_
                exact ev_iretx dX9_impose_53 rfl rfl H
      · rw [if_neg c6] at H
        refine ev_iconst (v := (-1 : Int32)) dX9_impose_19 (by decide) ?_
        exact ev_iretx dX9_impose_20 rfl rfl H

theorem dX9_breakUp_0 : decode cX9_breakUp 0 = .ok (.aload_n 0, 1) := by decide +kernel
theorem dX9_breakUp_1 : decode cX9_breakUp 1 = .ok (.iload_n 1, 1) := by decide +kernel
theorem dX9_breakUp_2 : decode cX9_breakUp 2 = .ok (.invokevirtual 191, 3) := by decide +kernel
theorem dX9_breakUp_5 : decode cX9_breakUp 5 = .ok (.astore_n 2, 1) := by decide +kernel
theorem dX9_breakUp_6 : decode cX9_breakUp 6 = .ok (.aload_n 2, 1) := by decide +kernel
theorem dX9_breakUp_7 : decode cX9_breakUp 7 = .ok (.ifnonnull 5, 3) := by decide +kernel
theorem dX9_breakUp_10 : decode cX9_breakUp 10 = .ok (.iconst (-1), 1) := by decide +kernel
theorem dX9_breakUp_11 : decode cX9_breakUp 11 = .ok (.ireturn, 1) := by decide +kernel
theorem dX9_breakUp_12 : decode cX9_breakUp 12 = .ok (.aload_n 2, 1) := by decide +kernel
theorem dX9_breakUp_13 : decode cX9_breakUp 13 = .ok (.invokevirtual 195, 3) := by decide +kernel
theorem dX9_breakUp_16 : decode cX9_breakUp 16 = .ok (.ifCond .eq 17, 3) := by decide +kernel
theorem dX9_breakUp_19 : decode cX9_breakUp 19 = .ok (.aload_n 2, 1) := by decide +kernel
theorem dX9_breakUp_20 : decode cX9_breakUp 20 = .ok (.getfield 137, 3) := by decide +kernel
theorem dX9_breakUp_23 : decode cX9_breakUp 23 = .ok (.ifCond .le 13, 3) := by decide +kernel
theorem dX9_breakUp_26 : decode cX9_breakUp 26 = .ok (.aload_n 2, 1) := by decide +kernel
theorem dX9_breakUp_27 : decode cX9_breakUp 27 = .ok (.invokevirtual 205, 3) := by decide +kernel
theorem dX9_breakUp_30 : decode cX9_breakUp 30 = .ok (.ifCond .ne 6, 3) := by decide +kernel
theorem dX9_breakUp_33 : decode cX9_breakUp 33 = .ok (.bipush (-3), 2) := by decide +kernel
theorem dX9_breakUp_35 : decode cX9_breakUp 35 = .ok (.ireturn, 1) := by decide +kernel
theorem dX9_breakUp_36 : decode cX9_breakUp 36 = .ok (.aload_n 2, 1) := by decide +kernel
theorem dX9_breakUp_37 : decode cX9_breakUp 37 = .ok (.getfield 201, 3) := by decide +kernel
theorem dX9_breakUp_40 : decode cX9_breakUp 40 = .ok (.istore_n 3, 1) := by decide +kernel
theorem dX9_breakUp_41 : decode cX9_breakUp 41 = .ok (.aload_n 2, 1) := by decide +kernel
theorem dX9_breakUp_42 : decode cX9_breakUp 42 = .ok (.iconst (-1), 1) := by decide +kernel
theorem dX9_breakUp_43 : decode cX9_breakUp 43 = .ok (.putfield 201, 3) := by decide +kernel
theorem dX9_breakUp_46 : decode cX9_breakUp 46 = .ok (.aload_n 0, 1) := by decide +kernel
theorem dX9_breakUp_47 : decode cX9_breakUp 47 = .ok (.getfield 41, 3) := by decide +kernel
theorem dX9_breakUp_50 : decode cX9_breakUp 50 = .ok (.iload_n 3, 1) := by decide +kernel
theorem dX9_breakUp_51 : decode cX9_breakUp 51 = .ok (.iconst 0, 1) := by decide +kernel
theorem dX9_breakUp_52 : decode cX9_breakUp 52 = .ok (.bastore, 1) := by decide +kernel
theorem dX9_breakUp_53 : decode cX9_breakUp 53 = .ok (.iload_n 3, 1) := by decide +kernel
theorem dX9_breakUp_54 : decode cX9_breakUp 54 = .ok (.ireturn, 1) := by decide +kernel
def f_X9_breakUp_J36 (l0 : Nat) (l1 : Int32) (l2 : Nat) (h : Hp) : Option (Int32 × Hp) :=
gd (okOb h l2 2) <|
vl (gI h l2 2) fun x12 =>
vl (sI h l2 2 (-1 : Int32)) fun h13 =>
gd (okOb h13 l0 9) <|
vl (gR h13 l0 8) fun r15 =>
un r15 fun b16 =>
gd (okAb h13 b16 12 x12) <|
vl (sI h13 b16 x12.toNatClampNeg (0 : Int32)) fun h18 =>
some (x12, h18)
set_option maxHeartbeats 4000000 in
set_option maxRecDepth 100000 in
theorem t_X9_breakUp_J36 {X : Cx} {d : Nat} {h0 h' : Hp} {v : Int32} (hD : 3 ≤ d) : ∀ (l0 : Nat) (l1 : Int32) (l2 : Nat) (h : Hp), f_X9_breakUp_J36 l0 l1 l2 h = some (v, h') → EV X mX9_breakUp d h0 (some (.int v)) h' 36 [some (.ref l0), some (.int l1), some (.ref l2), none] [] h := by
  intro l0 l1 l2 h H
  unfold f_X9_breakUp_J36 at H
  refine ev_aload_n dX9_breakUp_36 rfl rfl rfl ?_
  replace H := gd_some H
  obtain ⟨g11, H⟩ := H
  replace H := vl_some H
  obtain ⟨x12, ex12, H⟩ := H
  refine ev_getIx dX9_breakUp_37 fgX9_201 rfl (okOb.p g11) ex12 ?_
  refine ev_istore_n (loc2 := [some (.ref l0), some (.int l1), some (.ref l2), some (.int x12)]) dX9_breakUp_40 rfl (by decide) rfl ?_
  refine ev_aload_n dX9_breakUp_41 rfl rfl rfl ?_
  refine ev_iconst (v := (-1 : Int32)) dX9_breakUp_42 (by decide) ?_
  replace H := vl_some H
  obtain ⟨h13, eh13, H⟩ := H
  refine ev_putI dX9_breakUp_43 fdX9_201 rfl rfl rfl (okOb.p g11) eh13 ?_
  refine ev_aload_n dX9_breakUp_46 rfl rfl rfl ?_
  replace H := gd_some H
  obtain ⟨g14, H⟩ := H
  replace H := vl_some H
  obtain ⟨r15, er15, H⟩ := H
  refine ev_getRx dX9_breakUp_47 fgX9_41 rfl (okOb.p g14) er15 ?_
  refine ev_iload_n dX9_breakUp_50 rfl rfl ?_
  refine ev_iconst (v := (0 : Int32)) dX9_breakUp_51 (by decide) ?_
  replace H := un_some H
  obtain ⟨b16, eb16, H⟩ := H
  subst eb16
  replace H := gd_some H
  obtain ⟨g17, H⟩ := H
  replace H := vl_some H
  obtain ⟨h18, eh18, H⟩ := H
  refine ev_zast dX9_breakUp_52 rfl (okAb.p g17) eh18 ?_
  refine ev_iload_n dX9_breakUp_53 rfl rfl ?_
  exact ev_iretx dX9_breakUp_54 rfl rfl H
def f_X9_breakUp (h : Hp) (a0 : Nat) (a1 : Int32) : Option (Int32 × Hp) :=
gd (okOb h a0 9) <|
bnd (f_X9_findForme h a0 a1) fun v2 h3 =>
nl v2 (
some ((-1 : Int32), h3)) fun b4 =>
gd (okOb h3 b4 2) <|
bnd (f_X2_isImposed h3 b4) fun v6 h7 =>
if v6 = 0 then (
some ((-3 : Int32), h7)) else (
vl (gI h7 b4 3) fun x9 =>
if x9 ≤ 0 then (
f_X9_breakUp_J36 a0 a1 b4 h7) else (
bnd (f_X2_hasAll h7 b4) fun v19 h20 =>
if v19 = 0 then (
some ((-3 : Int32), h20)) else (
f_X9_breakUp_J36 a0 a1 b4 h20)))
set_option maxHeartbeats 4000000 in
set_option maxRecDepth 100000 in
theorem t_X9_breakUp {X : Cx} {d : Nat} {h : Hp} {a0 : Nat} {a1 : Int32} {v : Int32} {h' : Hp} (hD : 3 ≤ d) (H : f_X9_breakUp h a0 a1 = some (v, h')) : PM X mX9_breakUp d [.ref a0, .int a1] h (some (.int v)) h' := by
  unfold f_X9_breakUp at H
  refine PM.of (loc := [some (.ref a0), some (.int a1), none, none]) (by decide) rfl (Nat.le_of_ble_eq_true rfl) ?_
  refine ev_aload_n dX9_breakUp_0 rfl rfl rfl ?_
  refine ev_iload_n dX9_breakUp_1 rfl rfl ?_
  replace H := gd_some H
  obtain ⟨g1, H⟩ := H
  replace H := bnd_some H
  obtain ⟨v2, h3, eh3, H⟩ := H
  have ph3 := (t_X9_findForme (X := X) (d := 2) (by omega) eh3)
  refine ev_callV (as := [.int a1]) dX9_breakUp_2 ph3 ok_X9_findForme (by omega) rfl k3_32 k3_34 ks_2 (ci := 9) (by decide) rfl rfl (okOb.p g1) rfl (Nat.le_of_ble_eq_true rfl) ?_
  refine ev_astore_n (loc2 := [some (.ref a0), some (.int a1), some (rv v2), none]) dX9_breakUp_5 rfl (by decide) (isA_rv _) rfl ?_
  refine ev_aload_n dX9_breakUp_6 rfl rfl (isA_rv _) ?_
  replace H := nl_some H
  rcases H with ⟨eb4, H⟩ | ⟨b4, eb4, H⟩
  · subst eb4
    refine ev_ifnonnull_n dX9_breakUp_7 ?_
    refine ev_iconst (v := (-1 : Int32)) dX9_breakUp_10 (by decide) ?_
    exact ev_iretx dX9_breakUp_11 rfl rfl H
  · subst eb4
    refine ev_ifnonnull_s (tgt := 12) dX9_breakUp_7 (by decide) ?_
    refine ev_aload_n dX9_breakUp_12 rfl rfl rfl ?_
    replace H := gd_some H
    obtain ⟨g5, H⟩ := H
    replace H := bnd_some H
    obtain ⟨v6, h7, eh7, H⟩ := H
    have ph7 := (t_X2_isImposed (X := X) (d := 1) (by omega) eh7)
    refine ev_callV (as := []) dX9_breakUp_13 ph7 ok_X2_isImposed (by omega) rfl k3_37 k2_122 k2_123 (ci := 2) (by decide) rfl rfl (okOb.p g5) rfl (Nat.le_of_ble_eq_true rfl) ?_
    refine ev_if_eq (tgt := 33) dX9_breakUp_16 (by decide) (fun c8 => ?_) (fun c8 => ?_)
    · rw [if_pos c8] at H
      refine ev_bipush (v := (-3 : Int32)) dX9_breakUp_33 (by decide) ?_
      exact ev_iretx dX9_breakUp_35 rfl rfl H
    · rw [if_neg c8] at H
      refine ev_aload_n dX9_breakUp_19 rfl rfl rfl ?_
      replace H := vl_some H
      obtain ⟨x9, ex9, H⟩ := H
      refine ev_getIx dX9_breakUp_20 fgX9_137 rfl (okO_ext ph7.1 (okOb.p g5)) ex9 ?_
      refine ev_if_le (tgt := 36) dX9_breakUp_23 (by decide) (fun c10 => ?_) (fun c10 => ?_)
      · rw [if_pos c10] at H
        exact t_X9_breakUp_J36 hD a0 a1 b4 h7 H
      · rw [if_neg c10] at H
        refine ev_aload_n dX9_breakUp_26 rfl rfl rfl ?_
        replace H := bnd_some H
        obtain ⟨v19, h20, eh20, H⟩ := H
        have ph20 := (t_X2_hasAll (X := X) (d := 1) (by omega) eh20)
        refine ev_callV (as := []) dX9_breakUp_27 ph20 ok_X2_hasAll (by omega) rfl k3_46 k3_47 k3_48 (ci := 2) (by decide) rfl rfl (okO_ext ph7.1 (okOb.p g5)) rfl (Nat.le_of_ble_eq_true rfl) ?_
        refine ev_if_ne (tgt := 36) dX9_breakUp_30 (by decide) (fun c21 => ?_) (fun c21 => ?_)
        · rw [if_neg c21] at H
          exact t_X9_breakUp_J36 hD a0 a1 b4 h20 H
        · rw [if_pos c21] at H
          refine ev_bipush (v := (-3 : Int32)) dX9_breakUp_33 (by decide) ?_
          exact ev_iretx dX9_breakUp_35 rfl rfl H

theorem dX9_paper_0 : decode cX9_paper 0 = .ok (.iload_n 1, 1) := by decide +kernel
theorem dX9_paper_1 : decode cX9_paper 1 = .ok (.iconst 1, 1) := by decide +kernel
theorem dX9_paper_2 : decode cX9_paper 2 = .ok (.if_icmp .lt 9, 3) := by decide +kernel
theorem dX9_paper_5 : decode cX9_paper 5 = .ok (.iload_n 1, 1) := by decide +kernel
theorem dX9_paper_6 : decode cX9_paper 6 = .ok (.bipush 60, 2) := by decide +kernel
theorem dX9_paper_8 : decode cX9_paper 8 = .ok (.if_icmp .le 6, 3) := by decide +kernel
theorem dX9_paper_11 : decode cX9_paper 11 = .ok (.bipush (-2), 2) := by decide +kernel
theorem dX9_paper_13 : decode cX9_paper 13 = .ok (.ireturn, 1) := by decide +kernel
theorem dX9_paper_14 : decode cX9_paper 14 = .ok (.aload_n 0, 1) := by decide +kernel
theorem dX9_paper_15 : decode cX9_paper 15 = .ok (.getfield 208, 3) := by decide +kernel
theorem dX9_paper_18 : decode cX9_paper 18 = .ok (.iload_n 1, 1) := by decide +kernel
theorem dX9_paper_19 : decode cX9_paper 19 = .ok (.iadd, 1) := by decide +kernel
theorem dX9_paper_20 : decode cX9_paper 20 = .ok (.sipush 10000, 3) := by decide +kernel
theorem dX9_paper_23 : decode cX9_paper 23 = .ok (.if_icmp .le 6, 3) := by decide +kernel
theorem dX9_paper_26 : decode cX9_paper 26 = .ok (.bipush (-4), 2) := by decide +kernel
theorem dX9_paper_28 : decode cX9_paper 28 = .ok (.ireturn, 1) := by decide +kernel
theorem dX9_paper_29 : decode cX9_paper 29 = .ok (.aload_n 0, 1) := by decide +kernel
theorem dX9_paper_30 : decode cX9_paper 30 = .ok (.dup, 1) := by decide +kernel
theorem dX9_paper_31 : decode cX9_paper 31 = .ok (.getfield 208, 3) := by decide +kernel
theorem dX9_paper_34 : decode cX9_paper 34 = .ok (.iload_n 1, 1) := by decide +kernel
theorem dX9_paper_35 : decode cX9_paper 35 = .ok (.iadd, 1) := by decide +kernel
theorem dX9_paper_36 : decode cX9_paper 36 = .ok (.putfield 208, 3) := by decide +kernel
theorem dX9_paper_39 : decode cX9_paper 39 = .ok (.aload_n 0, 1) := by decide +kernel
theorem dX9_paper_40 : decode cX9_paper 40 = .ok (.getfield 208, 3) := by decide +kernel
theorem dX9_paper_43 : decode cX9_paper 43 = .ok (.ireturn, 1) := by decide +kernel
def f_X9_paper (h : Hp) (a0 : Nat) (a1 : Int32) : Option (Int32 × Hp) :=
if a1 < (1 : Int32) then (
some ((-2 : Int32), h)) else (
if a1 ≤ (60 : Int32) then (
gd (okOb h a0 9) <|
vl (gI h a0 9) fun x4 =>
if (x4 + a1) ≤ (10000 : Int32) then (
vl (gI h a0 9) fun x6 =>
vl (sI h a0 9 (x6 + a1)) fun h7 =>
vl (gI h7 a0 9) fun x8 =>
some (x8, h7)) else (
some ((-4 : Int32), h))) else (
some ((-2 : Int32), h)))
set_option maxHeartbeats 4000000 in
set_option maxRecDepth 100000 in
theorem t_X9_paper {X : Cx} {d : Nat} {h : Hp} {a0 : Nat} {a1 : Int32} {v : Int32} {h' : Hp} (hD : 1 ≤ d) (H : f_X9_paper h a0 a1 = some (v, h')) : PM X mX9_paper d [.ref a0, .int a1] h (some (.int v)) h' := by
  unfold f_X9_paper at H
  refine PM.of (loc := [some (.ref a0), some (.int a1)]) (by decide) rfl (Nat.le_of_ble_eq_true rfl) ?_
  refine ev_iload_n dX9_paper_0 rfl rfl ?_
  refine ev_iconst (v := (1 : Int32)) dX9_paper_1 (by decide) ?_
  refine ev_icmp_lt (tgt := 11) dX9_paper_2 (by decide) (fun c1 => ?_) (fun c1 => ?_)
  · rw [if_pos c1] at H
    refine ev_bipush (v := (-2 : Int32)) dX9_paper_11 (by decide) ?_
    exact ev_iretx dX9_paper_13 rfl rfl H
  · rw [if_neg c1] at H
    refine ev_iload_n dX9_paper_5 rfl rfl ?_
    refine ev_bipush (v := (60 : Int32)) dX9_paper_6 (by decide) ?_
    refine ev_icmp_le (tgt := 14) dX9_paper_8 (by decide) (fun c2 => ?_) (fun c2 => ?_)
    · rw [if_pos c2] at H
      refine ev_aload_n dX9_paper_14 rfl rfl rfl ?_
      replace H := gd_some H
      obtain ⟨g3, H⟩ := H
      replace H := vl_some H
      obtain ⟨x4, ex4, H⟩ := H
      refine ev_getIx dX9_paper_15 fgX9_208 rfl (okOb.p g3) ex4 ?_
      refine ev_iload_n dX9_paper_18 rfl rfl ?_
      refine ev_iadd dX9_paper_19 ?_
      refine ev_sipush (v := (10000 : Int32)) dX9_paper_20 (by decide) ?_
      refine ev_icmp_le (tgt := 29) dX9_paper_23 (by decide) (fun c5 => ?_) (fun c5 => ?_)
      · rw [if_pos c5] at H
        refine ev_aload_n dX9_paper_29 rfl rfl rfl ?_
        refine ev_dup dX9_paper_30 rfl ?_
        replace H := vl_some H
        obtain ⟨x6, ex6, H⟩ := H
        refine ev_getIx dX9_paper_31 fgX9_208 rfl (okOb.p g3) ex6 ?_
        refine ev_iload_n dX9_paper_34 rfl rfl ?_
        refine ev_iadd dX9_paper_35 ?_
        replace H := vl_some H
        obtain ⟨h7, eh7, H⟩ := H
        refine ev_putI dX9_paper_36 fdX9_208 rfl rfl rfl (okOb.p g3) eh7 ?_
        refine ev_aload_n dX9_paper_39 rfl rfl rfl ?_
        replace H := vl_some H
        obtain ⟨x8, ex8, H⟩ := H
        refine ev_getIx dX9_paper_40 fgX9_208 rfl (okO_sI eh7 (okOb.p g3)) ex8 ?_
        exact ev_iretx dX9_paper_43 rfl rfl H
      · rw [if_neg c5] at H
        refine ev_bipush (v := (-4 : Int32)) dX9_paper_26 (by decide) ?_
        exact ev_iretx dX9_paper_28 rfl rfl H
    · rw [if_neg c2] at H
      refine ev_bipush (v := (-2 : Int32)) dX9_paper_11 (by decide) ?_
      exact ev_iretx dX9_paper_13 rfl rfl H

theorem dX9_print_0 : decode cX9_print 0 = .ok (.aload_n 0, 1) := by decide +kernel
theorem dX9_print_1 : decode cX9_print 1 = .ok (.iload_n 1, 1) := by decide +kernel
theorem dX9_print_2 : decode cX9_print 2 = .ok (.invokevirtual 191, 3) := by decide +kernel
theorem dX9_print_5 : decode cX9_print 5 = .ok (.astore 4, 2) := by decide +kernel
theorem dX9_print_7 : decode cX9_print 7 = .ok (.aload 4, 2) := by decide +kernel
theorem dX9_print_9 : decode cX9_print 9 = .ok (.ifnull 10, 3) := by decide +kernel
theorem dX9_print_12 : decode cX9_print 12 = .ok (.iload_n 2, 1) := by decide +kernel
theorem dX9_print_13 : decode cX9_print 13 = .ok (.invokestatic 102, 3) := by decide +kernel
theorem dX9_print_16 : decode cX9_print 16 = .ok (.ifCond .ne 5, 3) := by decide +kernel
theorem dX9_print_19 : decode cX9_print 19 = .ok (.iconst (-1), 1) := by decide +kernel
theorem dX9_print_20 : decode cX9_print 20 = .ok (.ireturn, 1) := by decide +kernel
theorem dX9_print_21 : decode cX9_print 21 = .ok (.iload_n 3, 1) := by decide +kernel
theorem dX9_print_22 : decode cX9_print 22 = .ok (.iconst 1, 1) := by decide +kernel
theorem dX9_print_23 : decode cX9_print 23 = .ok (.if_icmp .lt 9, 3) := by decide +kernel
theorem dX9_print_26 : decode cX9_print 26 = .ok (.iload_n 3, 1) := by decide +kernel
theorem dX9_print_27 : decode cX9_print 27 = .ok (.bipush 60, 2) := by decide +kernel
theorem dX9_print_29 : decode cX9_print 29 = .ok (.if_icmp .le 6, 3) := by decide +kernel
theorem dX9_print_32 : decode cX9_print 32 = .ok (.bipush (-2), 2) := by decide +kernel
theorem dX9_print_34 : decode cX9_print 34 = .ok (.ireturn, 1) := by decide +kernel
theorem dX9_print_35 : decode cX9_print 35 = .ok (.aload_n 0, 1) := by decide +kernel
theorem dX9_print_36 : decode cX9_print 36 = .ok (.getfield 37, 3) := by decide +kernel
theorem dX9_print_39 : decode cX9_print 39 = .ok (.iload_n 1, 1) := by decide +kernel
theorem dX9_print_40 : decode cX9_print 40 = .ok (.iconst 1, 1) := by decide +kernel
theorem dX9_print_41 : decode cX9_print 41 = .ok (.ishr, 1) := by decide +kernel
theorem dX9_print_42 : decode cX9_print 42 = .ok (.aaload, 1) := by decide +kernel
theorem dX9_print_43 : decode cX9_print 43 = .ok (.astore 5, 2) := by decide +kernel
theorem dX9_print_45 : decode cX9_print 45 = .ok (.iload_n 1, 1) := by decide +kernel
theorem dX9_print_46 : decode cX9_print 46 = .ok (.iconst 1, 1) := by decide +kernel
theorem dX9_print_47 : decode cX9_print 47 = .ok (.iand, 1) := by decide +kernel
theorem dX9_print_48 : decode cX9_print 48 = .ok (.istore 6, 2) := by decide +kernel
theorem dX9_print_50 : decode cX9_print 50 = .ok (.aload 4, 2) := by decide +kernel
theorem dX9_print_52 : decode cX9_print 52 = .ok (.invokevirtual 195, 3) := by decide +kernel
theorem dX9_print_55 : decode cX9_print 55 = .ok (.ifCond .eq 13, 3) := by decide +kernel
theorem dX9_print_58 : decode cX9_print 58 = .ok (.aload 5, 2) := by decide +kernel
theorem dX9_print_60 : decode cX9_print 60 = .ok (.iload 6, 2) := by decide +kernel
theorem dX9_print_62 : decode cX9_print 62 = .ok (.invokevirtual 211, 3) := by decide +kernel
theorem dX9_print_65 : decode cX9_print 65 = .ok (.ifCond .ne 6, 3) := by decide +kernel
theorem dX9_print_68 : decode cX9_print 68 = .ok (.bipush (-3), 2) := by decide +kernel
theorem dX9_print_70 : decode cX9_print 70 = .ok (.ireturn, 1) := by decide +kernel
theorem dX9_print_71 : decode cX9_print 71 = .ok (.iload_n 3, 1) := by decide +kernel
theorem dX9_print_72 : decode cX9_print 72 = .ok (.aload 5, 2) := by decide +kernel
theorem dX9_print_74 : decode cX9_print 74 = .ok (.getfield 214, 3) := by decide +kernel
theorem dX9_print_77 : decode cX9_print 77 = .ok (.aload 4, 2) := by decide +kernel
theorem dX9_print_79 : decode cX9_print 79 = .ok (.getfield 137, 3) := by decide +kernel
theorem dX9_print_82 : decode cX9_print 82 = .ok (.isub, 1) := by decide +kernel
theorem dX9_print_83 : decode cX9_print 83 = .ok (.invokestatic 217, 3) := by decide +kernel
theorem dX9_print_86 : decode cX9_print 86 = .ok (.istore 7, 2) := by decide +kernel
theorem dX9_print_88 : decode cX9_print 88 = .ok (.aload 5, 2) := by decide +kernel
theorem dX9_print_90 : decode cX9_print 90 = .ok (.iload 6, 2) := by decide +kernel
theorem dX9_print_92 : decode cX9_print 92 = .ok (.invokevirtual 222, 3) := by decide +kernel
theorem dX9_print_95 : decode cX9_print 95 = .ok (.istore 8, 2) := by decide +kernel
theorem dX9_print_97 : decode cX9_print 97 = .ok (.iload 8, 2) := by decide +kernel
theorem dX9_print_99 : decode cX9_print 99 = .ok (.ifCond .eq 14, 3) := by decide +kernel
theorem dX9_print_102 : decode cX9_print 102 = .ok (.iload 7, 2) := by decide +kernel
theorem dX9_print_104 : decode cX9_print 104 = .ok (.aload_n 0, 1) := by decide +kernel
theorem dX9_print_105 : decode cX9_print 105 = .ok (.getfield 208, 3) := by decide +kernel
theorem dX9_print_108 : decode cX9_print 108 = .ok (.invokestatic 217, 3) := by decide +kernel
theorem dX9_print_111 : decode cX9_print 111 = .ok (.istore 7, 2) := by decide +kernel
theorem dX9_print_113 : decode cX9_print 113 = .ok (.iload 7, 2) := by decide +kernel
theorem dX9_print_115 : decode cX9_print 115 = .ok (.iconst 1, 1) := by decide +kernel
theorem dX9_print_116 : decode cX9_print 116 = .ok (.if_icmp .ge 6, 3) := by decide +kernel
theorem dX9_print_119 : decode cX9_print 119 = .ok (.bipush (-3), 2) := by decide +kernel
theorem dX9_print_121 : decode cX9_print 121 = .ok (.ireturn, 1) := by decide +kernel
theorem dX9_print_122 : decode cX9_print 122 = .ok (.iload 8, 2) := by decide +kernel
theorem dX9_print_124 : decode cX9_print 124 = .ok (.ifCond .eq 14, 3) := by decide +kernel
theorem dX9_print_127 : decode cX9_print 127 = .ok (.aload_n 0, 1) := by decide +kernel
theorem dX9_print_128 : decode cX9_print 128 = .ok (.dup, 1) := by decide +kernel
theorem dX9_print_129 : decode cX9_print 129 = .ok (.getfield 208, 3) := by decide +kernel
theorem dX9_print_132 : decode cX9_print 132 = .ok (.iload 7, 2) := by decide +kernel
theorem dX9_print_134 : decode cX9_print 134 = .ok (.isub, 1) := by decide +kernel
theorem dX9_print_135 : decode cX9_print 135 = .ok (.putfield 208, 3) := by decide +kernel
theorem dX9_print_138 : decode cX9_print 138 = .ok (.aload 5, 2) := by decide +kernel
theorem dX9_print_140 : decode cX9_print 140 = .ok (.iload 6, 2) := by decide +kernel
theorem dX9_print_142 : decode cX9_print 142 = .ok (.iload 7, 2) := by decide +kernel
theorem dX9_print_144 : decode cX9_print 144 = .ok (.invokevirtual 225, 3) := by decide +kernel
theorem dX9_print_147 : decode cX9_print 147 = .ok (.aload_n 0, 1) := by decide +kernel
theorem dX9_print_148 : decode cX9_print 148 = .ok (.getfield 48, 3) := by decide +kernel
theorem dX9_print_151 : decode cX9_print 151 = .ok (.getfield 228, 3) := by decide +kernel
theorem dX9_print_154 : decode cX9_print 154 = .ok (.iload_n 2, 1) := by decide +kernel
theorem dX9_print_155 : decode cX9_print 155 = .ok (.dup2, 1) := by decide +kernel
theorem dX9_print_156 : decode cX9_print 156 = .ok (.iaload, 1) := by decide +kernel
theorem dX9_print_157 : decode cX9_print 157 = .ok (.iload 7, 2) := by decide +kernel
theorem dX9_print_159 : decode cX9_print 159 = .ok (.iadd, 1) := by decide +kernel
theorem dX9_print_160 : decode cX9_print 160 = .ok (.iastore, 1) := by decide +kernel
theorem dX9_print_161 : decode cX9_print 161 = .ok (.iload 7, 2) := by decide +kernel
theorem dX9_print_163 : decode cX9_print 163 = .ok (.ireturn, 1) := by decide +kernel
def f_X9_print_J138 (l0 : Nat) (l1 : Int32) (l2 : Int32) (l3 : Int32) (l4 : Nat) (l5 : Nat) (l6 : Int32) (l7 : Int32) (l8 : Int32) (h : Hp) : Option (Int32 × Hp) :=
gd (okOb h l5 7) <|
bnd (f_X7_printRun h l5 l6 l7) fun u33 h34 =>
gd (okOb h34 l0 9) <|
vl (gR h34 l0 10) fun r36 =>
un r36 fun b37 =>
gd (okOb h34 b37 3) <|
vl (gR h34 b37 1) fun r39 =>
un r39 fun b40 =>
gd (okAb h34 b40 11 l2) <|
vl (gI h34 b40 l2.toNatClampNeg) fun x42 =>
gd (okAb h34 b40 11 l2) <|
vl (sI h34 b40 l2.toNatClampNeg (x42 + l7)) fun h44 =>
some (l7, h44)
set_option maxHeartbeats 4000000 in
set_option maxRecDepth 100000 in
theorem t_X9_print_J138 {X : Cx} {d : Nat} {h0 h' : Hp} {v : Int32} (hD : 4 ≤ d) : ∀ (l0 : Nat) (l1 : Int32) (l2 : Int32) (l3 : Int32) (l4 : Nat) (l5 : Nat) (l6 : Int32) (l7 : Int32) (l8 : Int32) (h : Hp), f_X9_print_J138 l0 l1 l2 l3 l4 l5 l6 l7 l8 h = some (v, h') → EV X mX9_print d h0 (some (.int v)) h' 138 [some (.ref l0), some (.int l1), some (.int l2), some (.int l3), some (.ref l4), some (.ref l5), some (.int l6), some (.int l7), some (.int l8)] [] h := by
  intro l0 l1 l2 l3 l4 l5 l6 l7 l8 h H
  unfold f_X9_print_J138 at H
  refine ev_aload dX9_print_138 rfl rfl ?_
  refine ev_iload dX9_print_140 rfl ?_
  refine ev_iload dX9_print_142 rfl ?_
  replace H := gd_some H
  obtain ⟨g32, H⟩ := H
  replace H := bnd_some H
  obtain ⟨u33, h34, eh34, H⟩ := H
  have ph34 := (t_X7_printRun (X := X) (d := 3) (by omega) eh34)
  refine ev_callV (as := [.int l6, .int l7]) dX9_print_144 ph34 ok_X7_printRun (by omega) rfl k3_69 k3_70 k3_71 (ci := 7) (by decide) rfl rfl (okOb.p g32) rfl (Nat.le_of_ble_eq_true rfl) ?_
  refine ev_aload_n dX9_print_147 rfl rfl rfl ?_
  replace H := gd_some H
  obtain ⟨g35, H⟩ := H
  replace H := vl_some H
  obtain ⟨r36, er36, H⟩ := H
  refine ev_getRx dX9_print_148 fgX9_48 rfl (okOb.p g35) er36 ?_
  replace H := un_some H
  obtain ⟨b37, eb37, H⟩ := H
  subst eb37
  replace H := gd_some H
  obtain ⟨g38, H⟩ := H
  replace H := vl_some H
  obtain ⟨r39, er39, H⟩ := H
  refine ev_getRx dX9_print_151 fgX9_228 rfl (okOb.p g38) er39 ?_
  refine ev_iload_n dX9_print_154 rfl rfl ?_
  refine ev_dup2 dX9_print_155 rfl (rv_cat _) ?_
  replace H := un_some H
  obtain ⟨b40, eb40, H⟩ := H
  subst eb40
  replace H := gd_some H
  obtain ⟨g41, H⟩ := H
  replace H := vl_some H
  obtain ⟨x42, ex42, H⟩ := H
  refine ev_ialdx dX9_print_156 (okAb.p g41) ex42 ?_
  refine ev_iload dX9_print_157 rfl ?_
  refine ev_iadd dX9_print_159 ?_
  replace H := gd_some H
  obtain ⟨g43, H⟩ := H
  replace H := vl_some H
  obtain ⟨h44, eh44, H⟩ := H
  refine ev_iast dX9_print_160 (okAb.p g43) eh44 ?_
  refine ev_iload dX9_print_161 rfl ?_
  exact ev_iretx dX9_print_163 rfl rfl H
def f_X9_print_J113 (l0 : Nat) (l1 : Int32) (l2 : Int32) (l3 : Int32) (l4 : Nat) (l5 : Nat) (l6 : Int32) (l7 : Int32) (l8 : Int32) (h : Hp) : Option (Int32 × Hp) :=
if (1 : Int32) ≤ l7 then (
if l8 = 0 then (
f_X9_print_J138 l0 l1 l2 l3 l4 l5 l6 l7 l8 h) else (
gd (okOb h l0 9) <|
vl (gI h l0 9) fun x46 =>
vl (sI h l0 9 (x46 - l7)) fun h47 =>
f_X9_print_J138 l0 l1 l2 l3 l4 l5 l6 l7 l8 h47)) else (
some ((-3 : Int32), h))
set_option maxHeartbeats 4000000 in
set_option maxRecDepth 100000 in
theorem t_X9_print_J113 {X : Cx} {d : Nat} {h0 h' : Hp} {v : Int32} (hD : 4 ≤ d) : ∀ (l0 : Nat) (l1 : Int32) (l2 : Int32) (l3 : Int32) (l4 : Nat) (l5 : Nat) (l6 : Int32) (l7 : Int32) (l8 : Int32) (h : Hp), f_X9_print_J113 l0 l1 l2 l3 l4 l5 l6 l7 l8 h = some (v, h') → EV X mX9_print d h0 (some (.int v)) h' 113 [some (.ref l0), some (.int l1), some (.int l2), some (.int l3), some (.ref l4), some (.ref l5), some (.int l6), some (.int l7), some (.int l8)] [] h := by
  intro l0 l1 l2 l3 l4 l5 l6 l7 l8 h H
  unfold f_X9_print_J113 at H
  refine ev_iload dX9_print_113 rfl ?_
  refine ev_iconst (v := (1 : Int32)) dX9_print_115 (by decide) ?_
  refine ev_icmp_ge (tgt := 122) dX9_print_116 (by decide) (fun c30 => ?_) (fun c30 => ?_)
  · rw [if_pos c30] at H
    refine ev_iload dX9_print_122 rfl ?_
    refine ev_if_eq (tgt := 138) dX9_print_124 (by decide) (fun c31 => ?_) (fun c31 => ?_)
    · rw [if_pos c31] at H
      exact t_X9_print_J138 hD l0 l1 l2 l3 l4 l5 l6 l7 l8 h H
    · rw [if_neg c31] at H
      refine ev_aload_n dX9_print_127 rfl rfl rfl ?_
      refine ev_dup dX9_print_128 rfl ?_
      replace H := gd_some H
      obtain ⟨g45, H⟩ := H
      replace H := vl_some H
      obtain ⟨x46, ex46, H⟩ := H
      refine ev_getIx dX9_print_129 fgX9_208 rfl (okOb.p g45) ex46 ?_
      refine ev_iload dX9_print_132 rfl ?_
      refine ev_isub dX9_print_134 ?_
      replace H := vl_some H
      obtain ⟨h47, eh47, H⟩ := H
      refine ev_putI dX9_print_135 fdX9_208 rfl rfl rfl (okOb.p g45) eh47 ?_
      exact t_X9_print_J138 hD l0 l1 l2 l3 l4 l5 l6 l7 l8 h47 H
  · rw [if_neg c30] at H
    refine ev_bipush (v := (-3 : Int32)) dX9_print_119 (by decide) ?_
    exact ev_iretx dX9_print_121 rfl rfl H
def f_X9_print (h : Hp) (a0 : Nat) (a1 : Int32) (a2 : Int32) (a3 : Int32) : Option (Int32 × Hp) :=
gd (okOb h a0 9) <|
bnd (f_X9_findForme h a0 a1) fun v2 h3 =>
nl v2 (
some ((-1 : Int32), h3)) fun b4 =>
bnd (f_X9_isHand h3 a2) fun v5 h6 =>
if v5 = 0 then (
some ((-1 : Int32), h6)) else (
if a3 < (1 : Int32) then (
some ((-2 : Int32), h6)) else (
if a3 ≤ (60 : Int32) then (
vl (gR h6 a0 6) fun r10 =>
un r10 fun b11 =>
gd (okAb h6 b11 15 (a1 >>> ((1 : Int32) &&& 31))) <|
vl (gR h6 b11 (a1 >>> ((1 : Int32) &&& 31)).toNatClampNeg) fun r13 =>
vl (a1 &&& (1 : Int32)) fun x14 =>
gd (okOb h6 b4 2) <|
bnd (f_X2_isImposed h6 b4) fun v16 h17 =>
if v16 = 0 then (
some ((-3 : Int32), h17)) else (
un r13 fun b19 =>
gd (okOb h17 b19 7) <|
bnd (f_X7_mayBePrintedOn h17 b19 x14) fun v21 h22 =>
if v21 = 0 then (
some ((-3 : Int32), h22)) else (
vl (gI h22 b19 1) fun x24 =>
vl (gI h22 b4 3) fun x25 =>
vl (if (x24 - x25) < a3 then (x24 - x25) else a3) fun x26 =>
bnd (f_X7_isFirstSide h22 b19 x14) fun v27 h28 =>
if v27 = 0 then (
f_X9_print_J113 a0 a1 a2 a3 b4 b19 x14 x26 v27 h28) else (
vl (gI h28 a0 9) fun x48 =>
vl (if x48 < x26 then x48 else x26) fun x49 =>
f_X9_print_J113 a0 a1 a2 a3 b4 b19 x14 x49 v27 h28)))) else (
some ((-2 : Int32), h6))))
set_option maxHeartbeats 4000000 in
set_option maxRecDepth 100000 in
theorem t_X9_print {X : Cx} {d : Nat} {h : Hp} {a0 : Nat} {a1 : Int32} {a2 : Int32} {a3 : Int32} {v : Int32} {h' : Hp} (hD : 4 ≤ d) (H : f_X9_print h a0 a1 a2 a3 = some (v, h')) : PM X mX9_print d [.ref a0, .int a1, .int a2, .int a3] h (some (.int v)) h' := by
  unfold f_X9_print at H
  refine PM.of (loc := [some (.ref a0), some (.int a1), some (.int a2), some (.int a3), none, none, none, none, none]) (by decide) rfl (Nat.le_of_ble_eq_true rfl) ?_
  refine ev_aload_n dX9_print_0 rfl rfl rfl ?_
  refine ev_iload_n dX9_print_1 rfl rfl ?_
  replace H := gd_some H
  obtain ⟨g1, H⟩ := H
  replace H := bnd_some H
  obtain ⟨v2, h3, eh3, H⟩ := H
  have ph3 := (t_X9_findForme (X := X) (d := 2) (by omega) eh3)
  refine ev_callV (as := [.int a1]) dX9_print_2 ph3 ok_X9_findForme (by omega) rfl k3_32 k3_34 ks_2 (ci := 9) (by decide) rfl rfl (okOb.p g1) rfl (Nat.le_of_ble_eq_true rfl) ?_
  refine ev_astore (loc2 := [some (.ref a0), some (.int a1), some (.int a2), some (.int a3), some (rv v2), none, none, none, none]) dX9_print_5 (by decide) (isA_rv _) rfl ?_
  refine ev_aload dX9_print_7 rfl (isA_rv _) ?_
  replace H := nl_some H
  rcases H with ⟨eb4, H⟩ | ⟨b4, eb4, H⟩
  · subst eb4
    refine ev_ifnull_n (tgt := 19) dX9_print_9 (by decide) ?_
    refine ev_iconst (v := (-1 : Int32)) dX9_print_19 (by decide) ?_
    exact ev_iretx dX9_print_20 rfl rfl H
  · subst eb4
    refine ev_ifnull_s dX9_print_9 ?_
    refine ev_iload_n dX9_print_12 rfl rfl ?_
    replace H := bnd_some H
    obtain ⟨v5, h6, eh6, H⟩ := H
    have ph6 := (t_X9_isHand (X := X) (d := 1) (by omega) eh6)
    refine ev_callS (as := [.int a2]) dX9_print_13 ph6 ok_X9_isHand (by omega) rfl k2_94 k2_95 rfl (Nat.le_of_ble_eq_true rfl) ?_
    refine ev_if_ne (tgt := 21) dX9_print_16 (by decide) (fun c7 => ?_) (fun c7 => ?_)
    · rw [if_neg c7] at H
      refine ev_iload_n dX9_print_21 rfl rfl ?_
      refine ev_iconst (v := (1 : Int32)) dX9_print_22 (by decide) ?_
      refine ev_icmp_lt (tgt := 32) dX9_print_23 (by decide) (fun c8 => ?_) (fun c8 => ?_)
      · rw [if_pos c8] at H
        refine ev_bipush (v := (-2 : Int32)) dX9_print_32 (by decide) ?_
        exact ev_iretx dX9_print_34 rfl rfl H
      · rw [if_neg c8] at H
        refine ev_iload_n dX9_print_26 rfl rfl ?_
        refine ev_bipush (v := (60 : Int32)) dX9_print_27 (by decide) ?_
        refine ev_icmp_le (tgt := 35) dX9_print_29 (by decide) (fun c9 => ?_) (fun c9 => ?_)
        · rw [if_pos c9] at H
          refine ev_aload_n dX9_print_35 rfl rfl rfl ?_
          replace H := vl_some H
          obtain ⟨r10, er10, H⟩ := H
          refine ev_getRx dX9_print_36 fgX9_37 rfl (okO_ext ph6.1 (okO_ext ph3.1 (okOb.p g1))) er10 ?_
          refine ev_iload_n dX9_print_39 rfl rfl ?_
          refine ev_iconst (v := (1 : Int32)) dX9_print_40 (by decide) ?_
          refine ev_ishr dX9_print_41 ?_
          replace H := un_some H
          obtain ⟨b11, eb11, H⟩ := H
          subst eb11
          replace H := gd_some H
          obtain ⟨g12, H⟩ := H
          replace H := vl_some H
          obtain ⟨r13, er13, H⟩ := H
          refine ev_aaldx (kd := 15) (t0 := 4) dX9_print_42 (by decide) (fun _ => rfl) (okAb.p g12) er13 ?_
          refine ev_astore (loc2 := [some (.ref a0), some (.int a1), some (.int a2), some (.int a3), some (.ref b4), some (rv r13), none, none, none]) dX9_print_43 (by decide) (isA_rv _) rfl ?_
          refine ev_iload_n dX9_print_45 rfl rfl ?_
          refine ev_iconst (v := (1 : Int32)) dX9_print_46 (by decide) ?_
          refine ev_iand dX9_print_47 ?_
          replace H := vl_some H
          obtain ⟨x14, ex14, H⟩ := H
          refine ev_istorex (loc2 := [some (.ref a0), some (.int a1), some (.int a2), some (.int a3), some (.ref b4), some (rv r13), some (.int x14), none, none]) dX9_print_48 (by decide) ex14 (by cases r13 <;> rfl) ?_
          refine ev_aload dX9_print_50 rfl rfl ?_
          replace H := gd_some H
          obtain ⟨g15, H⟩ := H
          replace H := bnd_some H
          obtain ⟨v16, h17, eh17, H⟩ := H
          have ph17 := (t_X2_isImposed (X := X) (d := 1) (by omega) eh17)
          refine ev_callV (as := []) dX9_print_52 ph17 ok_X2_isImposed (by omega) rfl k3_37 k2_122 k2_123 (ci := 2) (by decide) rfl rfl (okOb.p g15) rfl (Nat.le_of_ble_eq_true rfl) ?_
          refine ev_if_eq (tgt := 68) dX9_print_55 (by decide) (fun c18 => ?_) (fun c18 => ?_)
          · rw [if_pos c18] at H
            refine ev_bipush (v := (-3 : Int32)) dX9_print_68 (by decide) ?_
            exact ev_iretx dX9_print_70 rfl rfl H
          · rw [if_neg c18] at H
            refine ev_aload dX9_print_58 rfl (isA_rv _) ?_
            refine ev_iload dX9_print_60 rfl ?_
            replace H := un_some H
            obtain ⟨b19, eb19, H⟩ := H
            subst eb19
            replace H := gd_some H
            obtain ⟨g20, H⟩ := H
            replace H := bnd_some H
            obtain ⟨v21, h22, eh22, H⟩ := H
            have ph22 := (t_X7_mayBePrintedOn (X := X) (d := 2) (by omega) eh22)
            refine ev_callV (as := [.int x14]) dX9_print_62 ph22 ok_X7_mayBePrintedOn (by omega) rfl k3_58 k3_59 k3_60 (ci := 7) (by decide) rfl rfl (okOb.p g20) rfl (Nat.le_of_ble_eq_true rfl) ?_
            refine ev_if_ne (tgt := 71) dX9_print_65 (by decide) (fun c23 => ?_) (fun c23 => ?_)
            · rw [if_neg c23] at H
              refine ev_iload_n dX9_print_71 rfl rfl ?_
              refine ev_aload dX9_print_72 rfl rfl ?_
              replace H := vl_some H
              obtain ⟨x24, ex24, H⟩ := H
              refine ev_getIx dX9_print_74 fgX9_214 rfl (okO_ext ph22.1 (okOb.p g20)) ex24 ?_
              refine ev_aload dX9_print_77 rfl rfl ?_
              replace H := vl_some H
              obtain ⟨x25, ex25, H⟩ := H
              refine ev_getIx dX9_print_79 fgX9_137 rfl (okO_ext ph22.1 (okO_ext ph17.1 (okOb.p g15))) ex25 ?_
              refine ev_isub dX9_print_82 ?_
              refine ev_mmin dX9_print_83 k3_67 k2_33 k1_10 k2_34 (by omega) (Nat.le_of_ble_eq_true rfl) ?_
              replace H := vl_some H
              obtain ⟨x26, ex26, H⟩ := H
              refine ev_istorex (loc2 := [some (.ref a0), some (.int a1), some (.int a2), some (.int a3), some (.ref b4), some (.ref b19), some (.int x14), some (.int x26), none]) dX9_print_86 (by decide) ex26 rfl ?_
              refine ev_aload dX9_print_88 rfl rfl ?_
              refine ev_iload dX9_print_90 rfl ?_
              replace H := bnd_some H
              obtain ⟨v27, h28, eh28, H⟩ := H
              have ph28 := (t_X7_isFirstSide (X := X) (d := 1) (by omega) eh28)
              refine ev_callV (as := [.int x14]) dX9_print_92 ph28 ok_X7_isFirstSide (by omega) rfl k3_68 k3_63 k3_64 (ci := 7) (by decide) rfl rfl (okO_ext ph22.1 (okOb.p g20)) rfl (Nat.le_of_ble_eq_true rfl) ?_
              refine ev_istore (loc2 := [some (.ref a0), some (.int a1), some (.int a2), some (.int a3), some (.ref b4), some (.ref b19), some (.int x14), some (.int x26), some (.int v27)]) dX9_print_95 (by decide) rfl ?_
              refine ev_iload dX9_print_97 rfl ?_
              refine ev_if_eq (tgt := 113) dX9_print_99 (by decide) (fun c29 => ?_) (fun c29 => ?_)
              · rw [if_pos c29] at H
                exact t_X9_print_J113 hD a0 a1 a2 a3 b4 b19 x14 x26 v27 h28 H
              · rw [if_neg c29] at H
                refine ev_iload dX9_print_102 rfl ?_
                refine ev_aload_n dX9_print_104 rfl rfl rfl ?_
                replace H := vl_some H
                obtain ⟨x48, ex48, H⟩ := H
                refine ev_getIx dX9_print_105 fgX9_208 rfl (okO_ext ph28.1 (okO_ext ph22.1 (okO_ext ph17.1 (okO_ext ph6.1 (okO_ext ph3.1 (okOb.p g1)))))) ex48 ?_
                refine ev_mmin dX9_print_108 k3_67 k2_33 k1_10 k2_34 (by omega) (Nat.le_of_ble_eq_true rfl) ?_
                replace H := vl_some H
                obtain ⟨x49, ex49, H⟩ := H
                refine ev_istorex (loc2 := [some (.ref a0), some (.int a1), some (.int a2), some (.int a3), some (.ref b4), some (.ref b19), some (.int x14), some (.int x49), some (.int v27)]) dX9_print_111 (by decide) ex49 rfl ?_
                exact t_X9_print_J113 hD a0 a1 a2 a3 b4 b19 x14 x49 v27 h28 H
            · rw [if_pos c23] at H
              refine ev_bipush (v := (-3 : Int32)) dX9_print_68 (by decide) ?_
              exact ev_iretx dX9_print_70 rfl rfl H
        · rw [if_neg c9] at H
          refine ev_bipush (v := (-2 : Int32)) dX9_print_32 (by decide) ?_
          exact ev_iretx dX9_print_34 rfl rfl H
    · rw [if_pos c7] at H
      refine ev_iconst (v := (-1 : Int32)) dX9_print_19 (by decide) ?_
      exact ev_iretx dX9_print_20 rfl rfl H

theorem dX9_forme_0 : decode cX9_forme 0 = .ok (.aload_n 0, 1) := by decide +kernel
theorem dX9_forme_1 : decode cX9_forme 1 = .ok (.iload_n 1, 1) := by decide +kernel
theorem dX9_forme_2 : decode cX9_forme 2 = .ok (.invokevirtual 191, 3) := by decide +kernel
theorem dX9_forme_5 : decode cX9_forme 5 = .ok (.astore_n 3, 1) := by decide +kernel
theorem dX9_forme_6 : decode cX9_forme 6 = .ok (.aload_n 3, 1) := by decide +kernel
theorem dX9_forme_7 : decode cX9_forme 7 = .ok (.ifnonnull 6, 3) := by decide +kernel
theorem dX9_forme_10 : decode cX9_forme 10 = .ok (.bipush (-5), 2) := by decide +kernel
theorem dX9_forme_12 : decode cX9_forme 12 = .ok (.ireturn, 1) := by decide +kernel
theorem dX9_forme_13 : decode cX9_forme 13 = .ok (.iload_n 2, 1) := by decide +kernel
theorem dX9_forme_14 : decode cX9_forme 14 = .ok (.tableswitch 94 0 5 #[38, 51, 56, 61, 66, 71], 38) := by decide +kernel
theorem dX9_forme_52 : decode cX9_forme 52 = .ok (.aload_n 3, 1) := by decide +kernel
theorem dX9_forme_53 : decode cX9_forme 53 = .ok (.invokevirtual 195, 3) := by decide +kernel
theorem dX9_forme_56 : decode cX9_forme 56 = .ok (.ifCond .eq 7, 3) := by decide +kernel
theorem dX9_forme_59 : decode cX9_forme 59 = .ok (.iconst 1, 1) := by decide +kernel
theorem dX9_forme_60 : decode cX9_forme 60 = .ok (.goto 4, 3) := by decide +kernel
theorem dX9_forme_63 : decode cX9_forme 63 = .ok (.iconst 0, 1) := by decide +kernel
theorem dX9_forme_64 : decode cX9_forme 64 = .ok (.ireturn, 1) := by decide +kernel
theorem dX9_forme_65 : decode cX9_forme 65 = .ok (.aload_n 3, 1) := by decide +kernel
theorem dX9_forme_66 : decode cX9_forme 66 = .ok (.getfield 201, 3) := by decide +kernel
theorem dX9_forme_69 : decode cX9_forme 69 = .ok (.ireturn, 1) := by decide +kernel
theorem dX9_forme_70 : decode cX9_forme 70 = .ok (.aload_n 3, 1) := by decide +kernel
theorem dX9_forme_71 : decode cX9_forme 71 = .ok (.getfield 137, 3) := by decide +kernel
theorem dX9_forme_74 : decode cX9_forme 74 = .ok (.ireturn, 1) := by decide +kernel
theorem dX9_forme_75 : decode cX9_forme 75 = .ok (.aload_n 3, 1) := by decide +kernel
theorem dX9_forme_76 : decode cX9_forme 76 = .ok (.getfield 142, 3) := by decide +kernel
theorem dX9_forme_79 : decode cX9_forme 79 = .ok (.ireturn, 1) := by decide +kernel
theorem dX9_forme_80 : decode cX9_forme 80 = .ok (.aload_n 3, 1) := by decide +kernel
theorem dX9_forme_81 : decode cX9_forme 81 = .ok (.getfield 231, 3) := by decide +kernel
theorem dX9_forme_84 : decode cX9_forme 84 = .ok (.ireturn, 1) := by decide +kernel
theorem dX9_forme_85 : decode cX9_forme 85 = .ok (.aload_n 0, 1) := by decide +kernel
theorem dX9_forme_86 : decode cX9_forme 86 = .ok (.getfield 37, 3) := by decide +kernel
theorem dX9_forme_89 : decode cX9_forme 89 = .ok (.iload_n 1, 1) := by decide +kernel
theorem dX9_forme_90 : decode cX9_forme 90 = .ok (.iconst 1, 1) := by decide +kernel
theorem dX9_forme_91 : decode cX9_forme 91 = .ok (.ishr, 1) := by decide +kernel
theorem dX9_forme_92 : decode cX9_forme 92 = .ok (.aaload, 1) := by decide +kernel
theorem dX9_forme_93 : decode cX9_forme 93 = .ok (.getfield 234, 3) := by decide +kernel
theorem dX9_forme_96 : decode cX9_forme 96 = .ok (.iload_n 1, 1) := by decide +kernel
theorem dX9_forme_97 : decode cX9_forme 97 = .ok (.iconst 1, 1) := by decide +kernel
theorem dX9_forme_98 : decode cX9_forme 98 = .ok (.iand, 1) := by decide +kernel
theorem dX9_forme_99 : decode cX9_forme 99 = .ok (.if_icmp .ne 7, 3) := by decide +kernel
theorem dX9_forme_102 : decode cX9_forme 102 = .ok (.iconst 1, 1) := by decide +kernel
theorem dX9_forme_103 : decode cX9_forme 103 = .ok (.goto 4, 3) := by decide +kernel
theorem dX9_forme_106 : decode cX9_forme 106 = .ok (.iconst 0, 1) := by decide +kernel
theorem dX9_forme_107 : decode cX9_forme 107 = .ok (.ireturn, 1) := by decide +kernel
theorem dX9_forme_108 : decode cX9_forme 108 = .ok (.bipush (-5), 2) := by decide +kernel
theorem dX9_forme_110 : decode cX9_forme 110 = .ok (.ireturn, 1) := by decide +kernel
def f_X9_forme (h : Hp) (a0 : Nat) (a1 : Int32) (a2 : Int32) : Option (Int32 × Hp) :=
gd (okOb h a0 9) <|
bnd (f_X9_findForme h a0 a1) fun v2 h3 =>
nl v2 (
some ((-5 : Int32), h3)) fun b4 =>
if a2 = (0 : Int32) then (
gd (okOb h3 b4 2) <|
bnd (f_X2_isImposed h3 b4) fun v7 h8 =>
if v7 = 0 then (
some ((0 : Int32), h8)) else (
some ((1 : Int32), h8))) else if a2 = (1 : Int32) then (
gd (okOb h3 b4 2) <|
vl (gI h3 b4 2) fun x12 =>
some (x12, h3)) else if a2 = (2 : Int32) then (
gd (okOb h3 b4 2) <|
vl (gI h3 b4 3) fun x15 =>
some (x15, h3)) else if a2 = (3 : Int32) then (
gd (okOb h3 b4 2) <|
vl (gI h3 b4 4) fun x18 =>
some (x18, h3)) else if a2 = (4 : Int32) then (
gd (okOb h3 b4 2) <|
vl (gI h3 b4 5) fun x21 =>
some (x21, h3)) else if a2 = (5 : Int32) then (
vl (gR h3 a0 6) fun r23 =>
un r23 fun b24 =>
gd (okAb h3 b24 15 (a1 >>> ((1 : Int32) &&& 31))) <|
vl (gR h3 b24 (a1 >>> ((1 : Int32) &&& 31)).toNatClampNeg) fun r26 =>
un r26 fun b27 =>
gd (okOb h3 b27 7) <|
vl (gI h3 b27 5) fun x29 =>
if x29 = (a1 &&& (1 : Int32)) then (
some ((1 : Int32), h3)) else (
some ((0 : Int32), h3))) else (
some ((-5 : Int32), h3))
set_option maxHeartbeats 4000000 in
set_option maxRecDepth 100000 in
theorem t_X9_forme {X : Cx} {d : Nat} {h : Hp} {a0 : Nat} {a1 : Int32} {a2 : Int32} {v : Int32} {h' : Hp} (hD : 3 ≤ d) (H : f_X9_forme h a0 a1 a2 = some (v, h')) : PM X mX9_forme d [.ref a0, .int a1, .int a2] h (some (.int v)) h' := by
  unfold f_X9_forme at H
  refine PM.of (loc := [some (.ref a0), some (.int a1), some (.int a2), none]) (by decide) rfl (Nat.le_of_ble_eq_true rfl) ?_
  refine ev_aload_n dX9_forme_0 rfl rfl rfl ?_
  refine ev_iload_n dX9_forme_1 rfl rfl ?_
  replace H := gd_some H
  obtain ⟨g1, H⟩ := H
  replace H := bnd_some H
  obtain ⟨v2, h3, eh3, H⟩ := H
  have ph3 := (t_X9_findForme (X := X) (d := 2) (by omega) eh3)
  refine ev_callV (as := [.int a1]) dX9_forme_2 ph3 ok_X9_findForme (by omega) rfl k3_32 k3_34 ks_2 (ci := 9) (by decide) rfl rfl (okOb.p g1) rfl (Nat.le_of_ble_eq_true rfl) ?_
  refine ev_astore_n (loc2 := [some (.ref a0), some (.int a1), some (.int a2), some (rv v2)]) dX9_forme_5 rfl (by decide) (isA_rv _) rfl ?_
  refine ev_aload_n dX9_forme_6 rfl rfl (isA_rv _) ?_
  replace H := nl_some H
  rcases H with ⟨eb4, H⟩ | ⟨b4, eb4, H⟩
  · subst eb4
    refine ev_ifnonnull_n dX9_forme_7 ?_
    refine ev_bipush (v := (-5 : Int32)) dX9_forme_10 (by decide) ?_
    exact ev_iretx dX9_forme_12 rfl rfl H
  · subst eb4
    refine ev_ifnonnull_s (tgt := 13) dX9_forme_7 (by decide) ?_
    refine ev_iload_n dX9_forme_13 rfl rfl ?_
    by_cases c5 : a2 = (0 : Int32)
    · rw [if_pos c5] at H
      refine ev_tsIn (tgt := 52) dX9_forme_14 (by rw [c5]; decide) (by rw [c5]; decide) (by rw [c5]; rfl) (by decide) ?_
      refine ev_aload_n dX9_forme_52 rfl rfl rfl ?_
      replace H := gd_some H
      obtain ⟨g6, H⟩ := H
      replace H := bnd_some H
      obtain ⟨v7, h8, eh8, H⟩ := H
      have ph8 := (t_X2_isImposed (X := X) (d := 1) (by omega) eh8)
      refine ev_callV (as := []) dX9_forme_53 ph8 ok_X2_isImposed (by omega) rfl k3_37 k2_122 k2_123 (ci := 2) (by decide) rfl rfl (okOb.p g6) rfl (Nat.le_of_ble_eq_true rfl) ?_
      refine ev_if_eq (tgt := 63) dX9_forme_56 (by decide) (fun c9 => ?_) (fun c9 => ?_)
      · rw [if_pos c9] at H
        refine ev_iconst (v := (0 : Int32)) dX9_forme_63 (by decide) ?_
        exact ev_iretx dX9_forme_64 rfl rfl H
      · rw [if_neg c9] at H
        refine ev_iconst (v := (1 : Int32)) dX9_forme_59 (by decide) ?_
        refine ev_goto (tgt := 64) dX9_forme_60 (by decide) ?_
        exact ev_iretx dX9_forme_64 rfl rfl H
    rw [if_neg c5] at H
    by_cases c10 : a2 = (1 : Int32)
    · rw [if_pos c10] at H
      refine ev_tsIn (tgt := 65) dX9_forme_14 (by rw [c10]; decide) (by rw [c10]; decide) (by rw [c10]; rfl) (by decide) ?_
      refine ev_aload_n dX9_forme_65 rfl rfl rfl ?_
      replace H := gd_some H
      obtain ⟨g11, H⟩ := H
      replace H := vl_some H
      obtain ⟨x12, ex12, H⟩ := H
      refine ev_getIx dX9_forme_66 fgX9_201 rfl (okOb.p g11) ex12 ?_
      exact ev_iretx dX9_forme_69 rfl rfl H
    rw [if_neg c10] at H
    by_cases c13 : a2 = (2 : Int32)
    · rw [if_pos c13] at H
      refine ev_tsIn (tgt := 70) dX9_forme_14 (by rw [c13]; decide) (by rw [c13]; decide) (by rw [c13]; rfl) (by decide) ?_
      refine ev_aload_n dX9_forme_70 rfl rfl rfl ?_
      replace H := gd_some H
      obtain ⟨g14, H⟩ := H
      replace H := vl_some H
      obtain ⟨x15, ex15, H⟩ := H
      refine ev_getIx dX9_forme_71 fgX9_137 rfl (okOb.p g14) ex15 ?_
      exact ev_iretx dX9_forme_74 rfl rfl H
    rw [if_neg c13] at H
    by_cases c16 : a2 = (3 : Int32)
    · rw [if_pos c16] at H
      refine ev_tsIn (tgt := 75) dX9_forme_14 (by rw [c16]; decide) (by rw [c16]; decide) (by rw [c16]; rfl) (by decide) ?_
      refine ev_aload_n dX9_forme_75 rfl rfl rfl ?_
      replace H := gd_some H
      obtain ⟨g17, H⟩ := H
      replace H := vl_some H
      obtain ⟨x18, ex18, H⟩ := H
      refine ev_getIx dX9_forme_76 fgX9_142 rfl (okOb.p g17) ex18 ?_
      exact ev_iretx dX9_forme_79 rfl rfl H
    rw [if_neg c16] at H
    by_cases c19 : a2 = (4 : Int32)
    · rw [if_pos c19] at H
      refine ev_tsIn (tgt := 80) dX9_forme_14 (by rw [c19]; decide) (by rw [c19]; decide) (by rw [c19]; rfl) (by decide) ?_
      refine ev_aload_n dX9_forme_80 rfl rfl rfl ?_
      replace H := gd_some H
      obtain ⟨g20, H⟩ := H
      replace H := vl_some H
      obtain ⟨x21, ex21, H⟩ := H
      refine ev_getIx dX9_forme_81 fgX9_231 rfl (okOb.p g20) ex21 ?_
      exact ev_iretx dX9_forme_84 rfl rfl H
    rw [if_neg c19] at H
    by_cases c22 : a2 = (5 : Int32)
    · rw [if_pos c22] at H
      refine ev_tsIn (tgt := 85) dX9_forme_14 (by rw [c22]; decide) (by rw [c22]; decide) (by rw [c22]; rfl) (by decide) ?_
      refine ev_aload_n dX9_forme_85 rfl rfl rfl ?_
      replace H := vl_some H
      obtain ⟨r23, er23, H⟩ := H
      refine ev_getRx dX9_forme_86 fgX9_37 rfl (okO_ext ph3.1 (okOb.p g1)) er23 ?_
      refine ev_iload_n dX9_forme_89 rfl rfl ?_
      refine ev_iconst (v := (1 : Int32)) dX9_forme_90 (by decide) ?_
      refine ev_ishr dX9_forme_91 ?_
      replace H := un_some H
      obtain ⟨b24, eb24, H⟩ := H
      subst eb24
      replace H := gd_some H
      obtain ⟨g25, H⟩ := H
      replace H := vl_some H
      obtain ⟨r26, er26, H⟩ := H
      refine ev_aaldx (kd := 15) (t0 := 4) dX9_forme_92 (by decide) (fun _ => rfl) (okAb.p g25) er26 ?_
      replace H := un_some H
      obtain ⟨b27, eb27, H⟩ := H
      subst eb27
      replace H := gd_some H
      obtain ⟨g28, H⟩ := H
      replace H := vl_some H
      obtain ⟨x29, ex29, H⟩ := H
      refine ev_getIx dX9_forme_93 fgX9_234 rfl (okOb.p g28) ex29 ?_
      refine ev_iload_n dX9_forme_96 rfl rfl ?_
      refine ev_iconst (v := (1 : Int32)) dX9_forme_97 (by decide) ?_
      refine ev_iand dX9_forme_98 ?_
      refine ev_icmp_ne (tgt := 106) dX9_forme_99 (by decide) (fun c30 => ?_) (fun c30 => ?_)
      · rw [if_neg c30] at H
        refine ev_iconst (v := (0 : Int32)) dX9_forme_106 (by decide) ?_
        exact ev_iretx dX9_forme_107 rfl rfl H
      · rw [if_pos c30] at H
        refine ev_iconst (v := (1 : Int32)) dX9_forme_102 (by decide) ?_
        refine ev_goto (tgt := 107) dX9_forme_103 (by decide) ?_
        exact ev_iretx dX9_forme_107 rfl rfl H
    rw [if_neg c22] at H
    refine ev_tsOut (tgt := 108) dX9_forme_14 (ts_out (n := 6) (by decide) (by decide) (fun j hj => ?_)) (by decide) ?_
    · match j, hj with
      | 0, _ => exact fun q => c5 (by rw [q]; decide)
      | 1, _ => exact fun q => c10 (by rw [q]; decide)
      | 2, _ => exact fun q => c13 (by rw [q]; decide)
      | 3, _ => exact fun q => c16 (by rw [q]; decide)
      | 4, _ => exact fun q => c19 (by rw [q]; decide)
      | 5, _ => exact fun q => c22 (by rw [q]; decide)
    refine ev_bipush (v := (-5 : Int32)) dX9_forme_108 (by decide) ?_
    exact ev_iretx dX9_forme_110 rfl rfl H

theorem dX9_findSheet_0 : decode cX9_findSheet 0 = .ok (.iload_n 1, 1) := by decide +kernel
theorem dX9_findSheet_1 : decode cX9_findSheet 1 = .ok (.ifCond .lt 20, 3) := by decide +kernel
theorem dX9_findSheet_4 : decode cX9_findSheet 4 = .ok (.iload_n 1, 1) := by decide +kernel
theorem dX9_findSheet_5 : decode cX9_findSheet 5 = .ok (.aload_n 0, 1) := by decide +kernel
theorem dX9_findSheet_6 : decode cX9_findSheet 6 = .ok (.getfield 165, 3) := by decide +kernel
theorem dX9_findSheet_9 : decode cX9_findSheet 9 = .ok (.if_icmp .ge 12, 3) := by decide +kernel
theorem dX9_findSheet_12 : decode cX9_findSheet 12 = .ok (.aload_n 0, 1) := by decide +kernel
theorem dX9_findSheet_13 : decode cX9_findSheet 13 = .ok (.getfield 37, 3) := by decide +kernel
theorem dX9_findSheet_16 : decode cX9_findSheet 16 = .ok (.iload_n 1, 1) := by decide +kernel
theorem dX9_findSheet_17 : decode cX9_findSheet 17 = .ok (.aaload, 1) := by decide +kernel
theorem dX9_findSheet_18 : decode cX9_findSheet 18 = .ok (.goto 4, 3) := by decide +kernel
theorem dX9_findSheet_21 : decode cX9_findSheet 21 = .ok (.aconst_null, 1) := by decide +kernel
theorem dX9_findSheet_22 : decode cX9_findSheet 22 = .ok (.areturn, 1) := by decide +kernel
def f_X9_findSheet (h : Hp) (a0 : Nat) (a1 : Int32) : Option (Option Nat × Hp) :=
if a1 < 0 then (
some (none, h)) else (
gd (okOb h a0 9) <|
vl (gI h a0 7) fun x3 =>
if x3 ≤ a1 then (
some (none, h)) else (
vl (gR h a0 6) fun r5 =>
un r5 fun b6 =>
gd (okAb h b6 15 a1) <|
vl (gR h b6 a1.toNatClampNeg) fun r8 =>
some (r8, h)))
set_option maxHeartbeats 4000000 in
set_option maxRecDepth 100000 in
theorem t_X9_findSheet {X : Cx} {d : Nat} {h : Hp} {a0 : Nat} {a1 : Int32} {v : Option Nat} {h' : Hp} (hD : 1 ≤ d) (H : f_X9_findSheet h a0 a1 = some (v, h')) : PM X mX9_findSheet d [.ref a0, .int a1] h (some (rv v)) h' := by
  unfold f_X9_findSheet at H
  refine PM.of (loc := [some (.ref a0), some (.int a1)]) (by decide) rfl (Nat.le_of_ble_eq_true rfl) ?_
  refine ev_iload_n dX9_findSheet_0 rfl rfl ?_
  refine ev_if_lt (tgt := 21) dX9_findSheet_1 (by decide) (fun c1 => ?_) (fun c1 => ?_)
  · rw [if_pos c1] at H
    refine ev_anull dX9_findSheet_21 ?_
    exact ev_aretx (t := none) dX9_findSheet_22 rfl (Or.inl ⟨_, rfl⟩) H
  · rw [if_neg c1] at H
    refine ev_iload_n dX9_findSheet_4 rfl rfl ?_
    refine ev_aload_n dX9_findSheet_5 rfl rfl rfl ?_
    replace H := gd_some H
    obtain ⟨g2, H⟩ := H
    replace H := vl_some H
    obtain ⟨x3, ex3, H⟩ := H
    refine ev_getIx dX9_findSheet_6 fgX9_165 rfl (okOb.p g2) ex3 ?_
    refine ev_icmp_ge (tgt := 21) dX9_findSheet_9 (by decide) (fun c4 => ?_) (fun c4 => ?_)
    · rw [if_pos c4] at H
      refine ev_anull dX9_findSheet_21 ?_
      exact ev_aretx (t := none) dX9_findSheet_22 rfl (Or.inl ⟨_, rfl⟩) H
    · rw [if_neg c4] at H
      refine ev_aload_n dX9_findSheet_12 rfl rfl rfl ?_
      replace H := vl_some H
      obtain ⟨r5, er5, H⟩ := H
      refine ev_getRx dX9_findSheet_13 fgX9_37 rfl (okOb.p g2) er5 ?_
      refine ev_iload_n dX9_findSheet_16 rfl rfl ?_
      replace H := un_some H
      obtain ⟨b6, eb6, H⟩ := H
      subst eb6
      replace H := gd_some H
      obtain ⟨g7, H⟩ := H
      replace H := vl_some H
      obtain ⟨r8, er8, H⟩ := H
      refine ev_aaldx (kd := 15) (t0 := 4) dX9_findSheet_17 (by decide) (fun _ => rfl) (okAb.p g7) er8 ?_
      refine ev_goto (tgt := 22) dX9_findSheet_18 (by decide) ?_
      exact ev_aretx (t := r8) dX9_findSheet_22 rfl (Or.inl ⟨_, rfl⟩) H

theorem dX9_state_0 : decode cX9_state 0 = .ok (.aload_n 0, 1) := by decide +kernel
theorem dX9_state_1 : decode cX9_state 1 = .ok (.iload_n 1, 1) := by decide +kernel
theorem dX9_state_2 : decode cX9_state 2 = .ok (.invokevirtual 237, 3) := by decide +kernel
theorem dX9_state_5 : decode cX9_state 5 = .ok (.astore 4, 2) := by decide +kernel
theorem dX9_state_7 : decode cX9_state 7 = .ok (.aload 4, 2) := by decide +kernel
theorem dX9_state_9 : decode cX9_state 9 = .ok (.ifnull 19, 3) := by decide +kernel
theorem dX9_state_12 : decode cX9_state 12 = .ok (.aload 4, 2) := by decide +kernel
theorem dX9_state_14 : decode cX9_state 14 = .ok (.iload_n 2, 1) := by decide +kernel
theorem dX9_state_15 : decode cX9_state 15 = .ok (.invokevirtual 241, 3) := by decide +kernel
theorem dX9_state_18 : decode cX9_state 18 = .ok (.ifCond .eq 10, 3) := by decide +kernel
theorem dX9_state_21 : decode cX9_state 21 = .ok (.iload_n 3, 1) := by decide +kernel
theorem dX9_state_22 : decode cX9_state 22 = .ok (.invokestatic 178, 3) := by decide +kernel
theorem dX9_state_25 : decode cX9_state 25 = .ok (.ifCond .ne 5, 3) := by decide +kernel
theorem dX9_state_28 : decode cX9_state 28 = .ok (.iconst (-1), 1) := by decide +kernel
theorem dX9_state_29 : decode cX9_state 29 = .ok (.ireturn, 1) := by decide +kernel
theorem dX9_state_30 : decode cX9_state 30 = .ok (.aload 4, 2) := by decide +kernel
theorem dX9_state_32 : decode cX9_state 32 = .ok (.iload_n 3, 1) := by decide +kernel
theorem dX9_state_33 : decode cX9_state 33 = .ok (.invokevirtual 244, 3) := by decide +kernel
theorem dX9_state_36 : decode cX9_state 36 = .ok (.getfield 247, 3) := by decide +kernel
theorem dX9_state_39 : decode cX9_state 39 = .ok (.iload_n 2, 1) := by decide +kernel
theorem dX9_state_40 : decode cX9_state 40 = .ok (.iaload, 1) := by decide +kernel
theorem dX9_state_41 : decode cX9_state 41 = .ok (.ireturn, 1) := by decide +kernel
def f_X9_state (h : Hp) (a0 : Nat) (a1 : Int32) (a2 : Int32) (a3 : Int32) : Option (Int32 × Hp) :=
gd (okOb h a0 9) <|
bnd (f_X9_findSheet h a0 a1) fun v2 h3 =>
nl v2 (
some ((-1 : Int32), h3)) fun b4 =>
gd (okOb h3 b4 7) <|
bnd (f_X7_hasCopy h3 b4 a2) fun v6 h7 =>
if v6 = 0 then (
some ((-1 : Int32), h7)) else (
bnd (f_X9_isSide h7 a3) fun v9 h10 =>
if v9 = 0 then (
some ((-1 : Int32), h10)) else (
bnd (f_X7_formeOn h10 b4 a3) fun v12 h13 =>
un v12 fun b14 =>
gd (okOb h13 b14 2) <|
vl (gR h13 b14 1) fun r16 =>
un r16 fun b17 =>
gd (okAb h13 b17 11 a2) <|
vl (gI h13 b17 a2.toNatClampNeg) fun x19 =>
some (x19, h13)))
set_option maxHeartbeats 4000000 in
set_option maxRecDepth 100000 in
theorem t_X9_state {X : Cx} {d : Nat} {h : Hp} {a0 : Nat} {a1 : Int32} {a2 : Int32} {a3 : Int32} {v : Int32} {h' : Hp} (hD : 2 ≤ d) (H : f_X9_state h a0 a1 a2 a3 = some (v, h')) : PM X mX9_state d [.ref a0, .int a1, .int a2, .int a3] h (some (.int v)) h' := by
  unfold f_X9_state at H
  refine PM.of (loc := [some (.ref a0), some (.int a1), some (.int a2), some (.int a3), none]) (by decide) rfl (Nat.le_of_ble_eq_true rfl) ?_
  refine ev_aload_n dX9_state_0 rfl rfl rfl ?_
  refine ev_iload_n dX9_state_1 rfl rfl ?_
  replace H := gd_some H
  obtain ⟨g1, H⟩ := H
  replace H := bnd_some H
  obtain ⟨v2, h3, eh3, H⟩ := H
  have ph3 := (t_X9_findSheet (X := X) (d := 1) (by omega) eh3)
  refine ev_callV (as := [.int a1]) dX9_state_2 ph3 ok_X9_findSheet (by omega) rfl k3_90 k3_92 ks_4 (ci := 9) (by decide) rfl rfl (okOb.p g1) rfl (Nat.le_of_ble_eq_true rfl) ?_
  refine ev_astore (loc2 := [some (.ref a0), some (.int a1), some (.int a2), some (.int a3), some (rv v2)]) dX9_state_5 (by decide) (isA_rv _) rfl ?_
  refine ev_aload dX9_state_7 rfl (isA_rv _) ?_
  replace H := nl_some H
  rcases H with ⟨eb4, H⟩ | ⟨b4, eb4, H⟩
  · subst eb4
    refine ev_ifnull_n (tgt := 28) dX9_state_9 (by decide) ?_
    refine ev_iconst (v := (-1 : Int32)) dX9_state_28 (by decide) ?_
    exact ev_iretx dX9_state_29 rfl rfl H
  · subst eb4
    refine ev_ifnull_s dX9_state_9 ?_
    refine ev_aload dX9_state_12 rfl rfl ?_
    refine ev_iload_n dX9_state_14 rfl rfl ?_
    replace H := gd_some H
    obtain ⟨g5, H⟩ := H
    replace H := bnd_some H
    obtain ⟨v6, h7, eh7, H⟩ := H
    have ph7 := (t_X7_hasCopy (X := X) (d := 1) (by omega) eh7)
    refine ev_callV (as := [.int a2]) dX9_state_15 ph7 ok_X7_hasCopy (by omega) rfl k3_94 k3_95 k3_96 (ci := 7) (by decide) rfl rfl (okOb.p g5) rfl (Nat.le_of_ble_eq_true rfl) ?_
    refine ev_if_eq (tgt := 28) dX9_state_18 (by decide) (fun c8 => ?_) (fun c8 => ?_)
    · rw [if_pos c8] at H
      refine ev_iconst (v := (-1 : Int32)) dX9_state_28 (by decide) ?_
      exact ev_iretx dX9_state_29 rfl rfl H
    · rw [if_neg c8] at H
      refine ev_iload_n dX9_state_21 rfl rfl ?_
      replace H := bnd_some H
      obtain ⟨v9, h10, eh10, H⟩ := H
      have ph10 := (t_X9_isSide (X := X) (d := 1) (by omega) eh10)
      refine ev_callS (as := [.int a3]) dX9_state_22 ph10 ok_X9_isSide (by omega) rfl k3_21 k3_22 rfl (Nat.le_of_ble_eq_true rfl) ?_
      refine ev_if_ne (tgt := 30) dX9_state_25 (by decide) (fun c11 => ?_) (fun c11 => ?_)
      · rw [if_neg c11] at H
        refine ev_aload dX9_state_30 rfl rfl ?_
        refine ev_iload_n dX9_state_32 rfl rfl ?_
        replace H := bnd_some H
        obtain ⟨v12, h13, eh13, H⟩ := H
        have ph13 := (t_X7_formeOn (X := X) (d := 1) (by omega) eh13)
        refine ev_callV (as := [.int a3]) dX9_state_33 ph13 ok_X7_formeOn (by omega) rfl k3_36 k3_10 k3_11 (ci := 7) (by decide) rfl rfl (okO_ext ph10.1 (okO_ext ph7.1 (okOb.p g5))) rfl (Nat.le_of_ble_eq_true rfl) ?_
        replace H := un_some H
        obtain ⟨b14, eb14, H⟩ := H
        subst eb14
        replace H := gd_some H
        obtain ⟨g15, H⟩ := H
        replace H := vl_some H
        obtain ⟨r16, er16, H⟩ := H
        refine ev_getRx dX9_state_36 fgX9_247 rfl (okOb.p g15) er16 ?_
        refine ev_iload_n dX9_state_39 rfl rfl ?_
        replace H := un_some H
        obtain ⟨b17, eb17, H⟩ := H
        subst eb17
        replace H := gd_some H
        obtain ⟨g18, H⟩ := H
        replace H := vl_some H
        obtain ⟨x19, ex19, H⟩ := H
        refine ev_ialdx dX9_state_40 (okAb.p g18) ex19 ?_
        exact ev_iretx dX9_state_41 rfl rfl H
      · rw [if_pos c11] at H
        refine ev_iconst (v := (-1 : Int32)) dX9_state_28 (by decide) ?_
        exact ev_iretx dX9_state_29 rfl rfl H

theorem dX9_read_0 : decode cX9_read 0 = .ok (.aload_n 0, 1) := by decide +kernel
theorem dX9_read_1 : decode cX9_read 1 = .ok (.iload_n 1, 1) := by decide +kernel
theorem dX9_read_2 : decode cX9_read 2 = .ok (.invokevirtual 237, 3) := by decide +kernel
theorem dX9_read_5 : decode cX9_read 5 = .ok (.astore 5, 2) := by decide +kernel
theorem dX9_read_7 : decode cX9_read 7 = .ok (.aload_n 0, 1) := by decide +kernel
theorem dX9_read_8 : decode cX9_read 8 = .ok (.iload_n 3, 1) := by decide +kernel
theorem dX9_read_9 : decode cX9_read 9 = .ok (.invokevirtual 98, 3) := by decide +kernel
theorem dX9_read_12 : decode cX9_read 12 = .ok (.astore 6, 2) := by decide +kernel
theorem dX9_read_14 : decode cX9_read 14 = .ok (.aload 5, 2) := by decide +kernel
theorem dX9_read_16 : decode cX9_read 16 = .ok (.ifnull 27, 3) := by decide +kernel
theorem dX9_read_19 : decode cX9_read 19 = .ok (.aload 5, 2) := by decide +kernel
theorem dX9_read_21 : decode cX9_read 21 = .ok (.iload_n 2, 1) := by decide +kernel
theorem dX9_read_22 : decode cX9_read 22 = .ok (.invokevirtual 241, 3) := by decide +kernel
theorem dX9_read_25 : decode cX9_read 25 = .ok (.ifCond .eq 18, 3) := by decide +kernel
theorem dX9_read_28 : decode cX9_read 28 = .ok (.aload 6, 2) := by decide +kernel
theorem dX9_read_30 : decode cX9_read 30 = .ok (.ifnull 13, 3) := by decide +kernel
theorem dX9_read_33 : decode cX9_read 33 = .ok (.aload 6, 2) := by decide +kernel
theorem dX9_read_35 : decode cX9_read 35 = .ok (.iload 4, 2) := by decide +kernel
theorem dX9_read_37 : decode cX9_read 37 = .ok (.invokevirtual 123, 3) := by decide +kernel
theorem dX9_read_40 : decode cX9_read 40 = .ok (.ifCond .ne 5, 3) := by decide +kernel
theorem dX9_read_43 : decode cX9_read 43 = .ok (.iconst (-1), 1) := by decide +kernel
theorem dX9_read_44 : decode cX9_read 44 = .ok (.ireturn, 1) := by decide +kernel
theorem dX9_read_45 : decode cX9_read 45 = .ok (.aload 6, 2) := by decide +kernel
theorem dX9_read_47 : decode cX9_read 47 = .ok (.getfield 133, 3) := by decide +kernel
theorem dX9_read_50 : decode cX9_read 50 = .ok (.ifnull 12, 3) := by decide +kernel
theorem dX9_read_53 : decode cX9_read 53 = .ok (.aload 5, 2) := by decide +kernel
theorem dX9_read_55 : decode cX9_read 55 = .ok (.iload_n 3, 1) := by decide +kernel
theorem dX9_read_56 : decode cX9_read 56 = .ok (.invokevirtual 250, 3) := by decide +kernel
theorem dX9_read_59 : decode cX9_read 59 = .ok (.ifCond .ne 5, 3) := by decide +kernel
theorem dX9_read_62 : decode cX9_read 62 = .ok (.iconst (-1), 1) := by decide +kernel
theorem dX9_read_63 : decode cX9_read 63 = .ok (.ireturn, 1) := by decide +kernel
theorem dX9_read_64 : decode cX9_read 64 = .ok (.aload 6, 2) := by decide +kernel
theorem dX9_read_66 : decode cX9_read 66 = .ok (.getfield 133, 3) := by decide +kernel
theorem dX9_read_69 : decode cX9_read 69 = .ok (.aload 6, 2) := by decide +kernel
theorem dX9_read_71 : decode cX9_read 71 = .ok (.iload 4, 2) := by decide +kernel
theorem dX9_read_73 : decode cX9_read 73 = .ok (.iload_n 2, 1) := by decide +kernel
theorem dX9_read_74 : decode cX9_read 74 = .ok (.invokevirtual 253, 3) := by decide +kernel
theorem dX9_read_77 : decode cX9_read 77 = .ok (.ireturn, 1) := by decide +kernel
def f_X9_read (h : Hp) (a0 : Nat) (a1 : Int32) (a2 : Int32) (a3 : Int32) (a4 : Int32) : Option (Int32 × Hp) :=
gd (okOb h a0 9) <|
bnd (f_X9_findSheet h a0 a1) fun v2 h3 =>
bnd (f_X9_findPage h3 a0 a3) fun v4 h5 =>
nl v2 (
some ((-1 : Int32), h5)) fun b6 =>
gd (okOb h5 b6 7) <|
bnd (f_X7_hasCopy h5 b6 a2) fun v8 h9 =>
if v8 = 0 then (
some ((-1 : Int32), h9)) else (
nl v4 (
some ((-1 : Int32), h9)) fun b11 =>
gd (okOb h9 b11 6) <|
bnd (f_X6_hasPlace h9 b11 a4) fun v13 h14 =>
if v13 = 0 then (
some ((-1 : Int32), h14)) else (
vl (gR h14 b11 7) fun r16 =>
nl r16 (
some ((-1 : Int32), h14)) fun b17 =>
bnd (f_X7_hasPage h14 b6 a3) fun v18 h19 =>
if v18 = 0 then (
some ((-1 : Int32), h19)) else (
vl (gR h19 b11 7) fun r21 =>
un r21 fun b22 =>
gd (okOb h19 b22 2) <|
bnd (f_X2_shownAt h19 b22 b11 a4 a2) fun v24 h25 =>
some (v24, h25))))
set_option maxHeartbeats 4000000 in
set_option maxRecDepth 100000 in
theorem t_X9_read {X : Cx} {d : Nat} {h : Hp} {a0 : Nat} {a1 : Int32} {a2 : Int32} {a3 : Int32} {a4 : Int32} {v : Int32} {h' : Hp} (hD : 2 ≤ d) (H : f_X9_read h a0 a1 a2 a3 a4 = some (v, h')) : PM X mX9_read d [.ref a0, .int a1, .int a2, .int a3, .int a4] h (some (.int v)) h' := by
  unfold f_X9_read at H
  refine PM.of (loc := [some (.ref a0), some (.int a1), some (.int a2), some (.int a3), some (.int a4), none, none]) (by decide) rfl (Nat.le_of_ble_eq_true rfl) ?_
  refine ev_aload_n dX9_read_0 rfl rfl rfl ?_
  refine ev_iload_n dX9_read_1 rfl rfl ?_
  replace H := gd_some H
  obtain ⟨g1, H⟩ := H
  replace H := bnd_some H
  obtain ⟨v2, h3, eh3, H⟩ := H
  have ph3 := (t_X9_findSheet (X := X) (d := 1) (by omega) eh3)
  refine ev_callV (as := [.int a1]) dX9_read_2 ph3 ok_X9_findSheet (by omega) rfl k3_90 k3_92 ks_4 (ci := 9) (by decide) rfl rfl (okOb.p g1) rfl (Nat.le_of_ble_eq_true rfl) ?_
  refine ev_astore (loc2 := [some (.ref a0), some (.int a1), some (.int a2), some (.int a3), some (.int a4), some (rv v2), none]) dX9_read_5 (by decide) (isA_rv _) rfl ?_
  refine ev_aload_n dX9_read_7 rfl rfl rfl ?_
  refine ev_iload_n dX9_read_8 rfl rfl ?_
  replace H := bnd_some H
  obtain ⟨v4, h5, eh5, H⟩ := H
  have ph5 := (t_X9_findPage (X := X) (d := 1) (by omega) eh5)
  refine ev_callV (as := [.int a3]) dX9_read_9 ph5 ok_X9_findPage (by omega) rfl k2_90 k2_92 ks_0 (ci := 9) (by decide) rfl rfl (okO_ext ph3.1 (okOb.p g1)) rfl (Nat.le_of_ble_eq_true rfl) ?_
  refine ev_astore (loc2 := [some (.ref a0), some (.int a1), some (.int a2), some (.int a3), some (.int a4), some (rv v2), some (rv v4)]) dX9_read_12 (by decide) (isA_rv _) (by cases v2 <;> rfl) ?_
  refine ev_aload dX9_read_14 rfl (isA_rv _) ?_
  replace H := nl_some H
  rcases H with ⟨eb6, H⟩ | ⟨b6, eb6, H⟩
  · subst eb6
    refine ev_ifnull_n (tgt := 43) dX9_read_16 (by decide) ?_
    refine ev_iconst (v := (-1 : Int32)) dX9_read_43 (by decide) ?_
    exact ev_iretx dX9_read_44 rfl rfl H
  · subst eb6
    refine ev_ifnull_s dX9_read_16 ?_
    refine ev_aload dX9_read_19 rfl rfl ?_
    refine ev_iload_n dX9_read_21 rfl rfl ?_
    replace H := gd_some H
    obtain ⟨g7, H⟩ := H
    replace H := bnd_some H
    obtain ⟨v8, h9, eh9, H⟩ := H
    have ph9 := (t_X7_hasCopy (X := X) (d := 1) (by omega) eh9)
    refine ev_callV (as := [.int a2]) dX9_read_22 ph9 ok_X7_hasCopy (by omega) rfl k3_94 k3_95 k3_96 (ci := 7) (by decide) rfl rfl (okOb.p g7) rfl (Nat.le_of_ble_eq_true rfl) ?_
    refine ev_if_eq (tgt := 43) dX9_read_25 (by decide) (fun c10 => ?_) (fun c10 => ?_)
    · rw [if_pos c10] at H
      refine ev_iconst (v := (-1 : Int32)) dX9_read_43 (by decide) ?_
      exact ev_iretx dX9_read_44 rfl rfl H
    · rw [if_neg c10] at H
      refine ev_aload dX9_read_28 rfl (isA_rv _) ?_
      replace H := nl_some H
      rcases H with ⟨eb11, H⟩ | ⟨b11, eb11, H⟩
      · subst eb11
        refine ev_ifnull_n (tgt := 43) dX9_read_30 (by decide) ?_
        refine ev_iconst (v := (-1 : Int32)) dX9_read_43 (by decide) ?_
        exact ev_iretx dX9_read_44 rfl rfl H
      · subst eb11
        refine ev_ifnull_s dX9_read_30 ?_
        refine ev_aload dX9_read_33 rfl rfl ?_
        refine ev_iload dX9_read_35 rfl ?_
        replace H := gd_some H
        obtain ⟨g12, H⟩ := H
        replace H := bnd_some H
        obtain ⟨v13, h14, eh14, H⟩ := H
        have ph14 := (t_X6_hasPlace (X := X) (d := 1) (by omega) eh14)
        refine ev_callV (as := [.int a4]) dX9_read_37 ph14 ok_X6_hasPlace (by omega) rfl k2_113 k2_114 k2_115 (ci := 6) (by decide) rfl rfl (okOb.p g12) rfl (Nat.le_of_ble_eq_true rfl) ?_
        refine ev_if_ne (tgt := 45) dX9_read_40 (by decide) (fun c15 => ?_) (fun c15 => ?_)
        · rw [if_neg c15] at H
          refine ev_aload dX9_read_45 rfl rfl ?_
          replace H := vl_some H
          obtain ⟨r16, er16, H⟩ := H
          refine ev_getRx dX9_read_47 fgX9_133 rfl (okO_ext ph14.1 (okOb.p g12)) er16 ?_
          replace H := nl_some H
          rcases H with ⟨eb17, H⟩ | ⟨b17, eb17, H⟩
          · subst eb17
            refine ev_ifnull_n (tgt := 62) dX9_read_50 (by decide) ?_
            refine ev_iconst (v := (-1 : Int32)) dX9_read_62 (by decide) ?_
            exact ev_iretx dX9_read_63 rfl rfl H
          · subst eb17
            refine ev_ifnull_s dX9_read_50 ?_
            refine ev_aload dX9_read_53 rfl rfl ?_
            refine ev_iload_n dX9_read_55 rfl rfl ?_
            replace H := bnd_some H
            obtain ⟨v18, h19, eh19, H⟩ := H
            have ph19 := (t_X7_hasPage (X := X) (d := 1) (by omega) eh19)
            refine ev_callV (as := [.int a3]) dX9_read_56 ph19 ok_X7_hasPage (by omega) rfl k3_102 k3_103 k3_104 (ci := 7) (by decide) rfl rfl (okO_ext ph14.1 (okO_ext ph9.1 (okOb.p g7))) rfl (Nat.le_of_ble_eq_true rfl) ?_
            refine ev_if_ne (tgt := 64) dX9_read_59 (by decide) (fun c20 => ?_) (fun c20 => ?_)
            · rw [if_neg c20] at H
              refine ev_aload dX9_read_64 rfl rfl ?_
              replace H := vl_some H
              obtain ⟨r21, er21, H⟩ := H
              refine ev_getRx dX9_read_66 fgX9_133 rfl (okO_ext ph19.1 (okO_ext ph14.1 (okOb.p g12))) er21 ?_
              refine ev_aload dX9_read_69 rfl rfl ?_
              refine ev_iload dX9_read_71 rfl ?_
              refine ev_iload_n dX9_read_73 rfl rfl ?_
              replace H := un_some H
              obtain ⟨b22, eb22, H⟩ := H
              subst eb22
              replace H := gd_some H
              obtain ⟨g23, H⟩ := H
              replace H := bnd_some H
              obtain ⟨v24, h25, eh25, H⟩ := H
              have ph25 := (t_X2_shownAt (X := X) (d := 1) (by omega) eh25)
              refine ev_callV (as := [.ref b11, .int a4, .int a2]) dX9_read_74 ph25 ok_X2_shownAt (by omega) rfl k3_106 k3_107 k3_108 (ci := 2) (by decide) rfl rfl (okOb.p g23) rfl (Nat.le_of_ble_eq_true rfl) ?_
              exact ev_iretx dX9_read_77 rfl rfl H
            · rw [if_pos c20] at H
              refine ev_iconst (v := (-1 : Int32)) dX9_read_62 (by decide) ?_
              exact ev_iretx dX9_read_63 rfl rfl H
        · rw [if_pos c15] at H
          refine ev_iconst (v := (-1 : Int32)) dX9_read_43 (by decide) ?_
          exact ev_iretx dX9_read_44 rfl rfl H

theorem dX9_spoil_0 : decode cX9_spoil 0 = .ok (.aload_n 0, 1) := by decide +kernel
theorem dX9_spoil_1 : decode cX9_spoil 1 = .ok (.iload_n 1, 1) := by decide +kernel
theorem dX9_spoil_2 : decode cX9_spoil 2 = .ok (.invokevirtual 237, 3) := by decide +kernel
theorem dX9_spoil_5 : decode cX9_spoil 5 = .ok (.astore 4, 2) := by decide +kernel
theorem dX9_spoil_7 : decode cX9_spoil 7 = .ok (.aload 4, 2) := by decide +kernel
theorem dX9_spoil_9 : decode cX9_spoil 9 = .ok (.ifnull 19, 3) := by decide +kernel
theorem dX9_spoil_12 : decode cX9_spoil 12 = .ok (.aload 4, 2) := by decide +kernel
theorem dX9_spoil_14 : decode cX9_spoil 14 = .ok (.iload_n 2, 1) := by decide +kernel
theorem dX9_spoil_15 : decode cX9_spoil 15 = .ok (.invokevirtual 241, 3) := by decide +kernel
theorem dX9_spoil_18 : decode cX9_spoil 18 = .ok (.ifCond .eq 10, 3) := by decide +kernel
theorem dX9_spoil_21 : decode cX9_spoil 21 = .ok (.iload_n 3, 1) := by decide +kernel
theorem dX9_spoil_22 : decode cX9_spoil 22 = .ok (.invokestatic 102, 3) := by decide +kernel
theorem dX9_spoil_25 : decode cX9_spoil 25 = .ok (.ifCond .ne 5, 3) := by decide +kernel
theorem dX9_spoil_28 : decode cX9_spoil 28 = .ok (.iconst (-1), 1) := by decide +kernel
theorem dX9_spoil_29 : decode cX9_spoil 29 = .ok (.ireturn, 1) := by decide +kernel
theorem dX9_spoil_30 : decode cX9_spoil 30 = .ok (.aload 4, 2) := by decide +kernel
theorem dX9_spoil_32 : decode cX9_spoil 32 = .ok (.iload_n 2, 1) := by decide +kernel
theorem dX9_spoil_33 : decode cX9_spoil 33 = .ok (.invokevirtual 257, 3) := by decide +kernel
theorem dX9_spoil_36 : decode cX9_spoil 36 = .ok (.istore 5, 2) := by decide +kernel
theorem dX9_spoil_38 : decode cX9_spoil 38 = .ok (.iload 5, 2) := by decide +kernel
theorem dX9_spoil_40 : decode cX9_spoil 40 = .ok (.iconst (-1), 1) := by decide +kernel
theorem dX9_spoil_41 : decode cX9_spoil 41 = .ok (.if_icmp .eq 12, 3) := by decide +kernel
theorem dX9_spoil_44 : decode cX9_spoil 44 = .ok (.aload 4, 2) := by decide +kernel
theorem dX9_spoil_46 : decode cX9_spoil 46 = .ok (.iload_n 2, 1) := by decide +kernel
theorem dX9_spoil_47 : decode cX9_spoil 47 = .ok (.invokevirtual 260, 3) := by decide +kernel
theorem dX9_spoil_50 : decode cX9_spoil 50 = .ok (.ifCond .ne 6, 3) := by decide +kernel
theorem dX9_spoil_53 : decode cX9_spoil 53 = .ok (.bipush (-3), 2) := by decide +kernel
theorem dX9_spoil_55 : decode cX9_spoil 55 = .ok (.ireturn, 1) := by decide +kernel
theorem dX9_spoil_56 : decode cX9_spoil 56 = .ok (.aload 4, 2) := by decide +kernel
theorem dX9_spoil_58 : decode cX9_spoil 58 = .ok (.iload 5, 2) := by decide +kernel
theorem dX9_spoil_60 : decode cX9_spoil 60 = .ok (.invokevirtual 263, 3) := by decide +kernel
theorem dX9_spoil_63 : decode cX9_spoil 63 = .ok (.aload_n 0, 1) := by decide +kernel
theorem dX9_spoil_64 : decode cX9_spoil 64 = .ok (.getfield 48, 3) := by decide +kernel
theorem dX9_spoil_67 : decode cX9_spoil 67 = .ok (.getfield 266, 3) := by decide +kernel
theorem dX9_spoil_70 : decode cX9_spoil 70 = .ok (.iload_n 3, 1) := by decide +kernel
theorem dX9_spoil_71 : decode cX9_spoil 71 = .ok (.dup2, 1) := by decide +kernel
theorem dX9_spoil_72 : decode cX9_spoil 72 = .ok (.iaload, 1) := by decide +kernel
theorem dX9_spoil_73 : decode cX9_spoil 73 = .ok (.iconst 1, 1) := by decide +kernel
theorem dX9_spoil_74 : decode cX9_spoil 74 = .ok (.iadd, 1) := by decide +kernel
theorem dX9_spoil_75 : decode cX9_spoil 75 = .ok (.iastore, 1) := by decide +kernel
theorem dX9_spoil_76 : decode cX9_spoil 76 = .ok (.aload 4, 2) := by decide +kernel
theorem dX9_spoil_78 : decode cX9_spoil 78 = .ok (.invokevirtual 269, 3) := by decide +kernel
theorem dX9_spoil_81 : decode cX9_spoil 81 = .ok (.ireturn, 1) := by decide +kernel
def f_X9_spoil (h : Hp) (a0 : Nat) (a1 : Int32) (a2 : Int32) (a3 : Int32) : Option (Int32 × Hp) :=
gd (okOb h a0 9) <|
bnd (f_X9_findSheet h a0 a1) fun v2 h3 =>
nl v2 (
some ((-1 : Int32), h3)) fun b4 =>
gd (okOb h3 b4 7) <|
bnd (f_X7_hasCopy h3 b4 a2) fun v6 h7 =>
if v6 = 0 then (
some ((-1 : Int32), h7)) else (
bnd (f_X9_isHand h7 a3) fun v9 h10 =>
if v9 = 0 then (
some ((-1 : Int32), h10)) else (
bnd (f_X7_placeAmongGood h10 b4 a2) fun v12 h13 =>
if v12 = (-1 : Int32) then (
some ((-3 : Int32), h13)) else (
bnd (f_X7_isPrintedAtAll h13 b4 a2) fun v15 h16 =>
if v15 = 0 then (
some ((-3 : Int32), h16)) else (
bnd (f_X7_dropGood h16 b4 v12) fun u18 h19 =>
vl (gR h19 a0 10) fun r20 =>
un r20 fun b21 =>
gd (okOb h19 b21 3) <|
vl (gR h19 b21 2) fun r23 =>
un r23 fun b24 =>
gd (okAb h19 b24 11 a3) <|
vl (gI h19 b24 a3.toNatClampNeg) fun x26 =>
gd (okAb h19 b24 11 a3) <|
vl (sI h19 b24 a3.toNatClampNeg (x26 + (1 : Int32))) fun h28 =>
bnd (f_X7_spoiltCount h28 b4) fun v29 h30 =>
some (v29, h30)))))
set_option maxHeartbeats 4000000 in
set_option maxRecDepth 100000 in
theorem t_X9_spoil {X : Cx} {d : Nat} {h : Hp} {a0 : Nat} {a1 : Int32} {a2 : Int32} {a3 : Int32} {v : Int32} {h' : Hp} (hD : 2 ≤ d) (H : f_X9_spoil h a0 a1 a2 a3 = some (v, h')) : PM X mX9_spoil d [.ref a0, .int a1, .int a2, .int a3] h (some (.int v)) h' := by
  unfold f_X9_spoil at H
  refine PM.of (loc := [some (.ref a0), some (.int a1), some (.int a2), some (.int a3), none, none]) (by decide) rfl (Nat.le_of_ble_eq_true rfl) ?_
  refine ev_aload_n dX9_spoil_0 rfl rfl rfl ?_
  refine ev_iload_n dX9_spoil_1 rfl rfl ?_
  replace H := gd_some H
  obtain ⟨g1, H⟩ := H
  replace H := bnd_some H
  obtain ⟨v2, h3, eh3, H⟩ := H
  have ph3 := (t_X9_findSheet (X := X) (d := 1) (by omega) eh3)
  refine ev_callV (as := [.int a1]) dX9_spoil_2 ph3 ok_X9_findSheet (by omega) rfl k3_90 k3_92 ks_4 (ci := 9) (by decide) rfl rfl (okOb.p g1) rfl (Nat.le_of_ble_eq_true rfl) ?_
  refine ev_astore (loc2 := [some (.ref a0), some (.int a1), some (.int a2), some (.int a3), some (rv v2), none]) dX9_spoil_5 (by decide) (isA_rv _) rfl ?_
  refine ev_aload dX9_spoil_7 rfl (isA_rv _) ?_
  replace H := nl_some H
  rcases H with ⟨eb4, H⟩ | ⟨b4, eb4, H⟩
  · subst eb4
    refine ev_ifnull_n (tgt := 28) dX9_spoil_9 (by decide) ?_
    refine ev_iconst (v := (-1 : Int32)) dX9_spoil_28 (by decide) ?_
    exact ev_iretx dX9_spoil_29 rfl rfl H
  · subst eb4
    refine ev_ifnull_s dX9_spoil_9 ?_
    refine ev_aload dX9_spoil_12 rfl rfl ?_
    refine ev_iload_n dX9_spoil_14 rfl rfl ?_
    replace H := gd_some H
    obtain ⟨g5, H⟩ := H
    replace H := bnd_some H
    obtain ⟨v6, h7, eh7, H⟩ := H
    have ph7 := (t_X7_hasCopy (X := X) (d := 1) (by omega) eh7)
    refine ev_callV (as := [.int a2]) dX9_spoil_15 ph7 ok_X7_hasCopy (by omega) rfl k3_94 k3_95 k3_96 (ci := 7) (by decide) rfl rfl (okOb.p g5) rfl (Nat.le_of_ble_eq_true rfl) ?_
    refine ev_if_eq (tgt := 28) dX9_spoil_18 (by decide) (fun c8 => ?_) (fun c8 => ?_)
    · rw [if_pos c8] at H
      refine ev_iconst (v := (-1 : Int32)) dX9_spoil_28 (by decide) ?_
      exact ev_iretx dX9_spoil_29 rfl rfl H
    · rw [if_neg c8] at H
      refine ev_iload_n dX9_spoil_21 rfl rfl ?_
      replace H := bnd_some H
      obtain ⟨v9, h10, eh10, H⟩ := H
      have ph10 := (t_X9_isHand (X := X) (d := 1) (by omega) eh10)
      refine ev_callS (as := [.int a3]) dX9_spoil_22 ph10 ok_X9_isHand (by omega) rfl k2_94 k2_95 rfl (Nat.le_of_ble_eq_true rfl) ?_
      refine ev_if_ne (tgt := 30) dX9_spoil_25 (by decide) (fun c11 => ?_) (fun c11 => ?_)
      · rw [if_neg c11] at H
        refine ev_aload dX9_spoil_30 rfl rfl ?_
        refine ev_iload_n dX9_spoil_32 rfl rfl ?_
        replace H := bnd_some H
        obtain ⟨v12, h13, eh13, H⟩ := H
        have ph13 := (t_X7_placeAmongGood (X := X) (d := 1) (by omega) eh13)
        refine ev_callV (as := [.int a2]) dX9_spoil_33 ph13 ok_X7_placeAmongGood (by omega) rfl k3_114 k3_115 k3_116 (ci := 7) (by decide) rfl rfl (okO_ext ph10.1 (okO_ext ph7.1 (okOb.p g5))) rfl (Nat.le_of_ble_eq_true rfl) ?_
        refine ev_istore (loc2 := [some (.ref a0), some (.int a1), some (.int a2), some (.int a3), some (.ref b4), some (.int v12)]) dX9_spoil_36 (by decide) rfl ?_
        refine ev_iload dX9_spoil_38 rfl ?_
        refine ev_iconst (v := (-1 : Int32)) dX9_spoil_40 (by decide) ?_
        refine ev_icmp_eq (tgt := 53) dX9_spoil_41 (by decide) (fun c14 => ?_) (fun c14 => ?_)
        · rw [if_pos c14] at H
          refine ev_bipush (v := (-3 : Int32)) dX9_spoil_53 (by decide) ?_
          exact ev_iretx dX9_spoil_55 rfl rfl H
        · rw [if_neg c14] at H
          refine ev_aload dX9_spoil_44 rfl rfl ?_
          refine ev_iload_n dX9_spoil_46 rfl rfl ?_
          replace H := bnd_some H
          obtain ⟨v15, h16, eh16, H⟩ := H
          have ph16 := (t_X7_isPrintedAtAll (X := X) (d := 1) (by omega) eh16)
          refine ev_callV (as := [.int a2]) dX9_spoil_47 ph16 ok_X7_isPrintedAtAll (by omega) rfl k3_118 k3_119 k3_120 (ci := 7) (by decide) rfl rfl (okO_ext ph13.1 (okO_ext ph10.1 (okO_ext ph7.1 (okOb.p g5)))) rfl (Nat.le_of_ble_eq_true rfl) ?_
          refine ev_if_ne (tgt := 56) dX9_spoil_50 (by decide) (fun c17 => ?_) (fun c17 => ?_)
          · rw [if_neg c17] at H
            refine ev_aload dX9_spoil_56 rfl rfl ?_
            refine ev_iload dX9_spoil_58 rfl ?_
            replace H := bnd_some H
            obtain ⟨u18, h19, eh19, H⟩ := H
            have ph19 := (t_X7_dropGood (X := X) (d := 1) (by omega) eh19)
            refine ev_callV (as := [.int v12]) dX9_spoil_60 ph19 ok_X7_dropGood (by omega) rfl k3_122 k3_123 k3_124 (ci := 7) (by decide) rfl rfl (okO_ext ph16.1 (okO_ext ph13.1 (okO_ext ph10.1 (okO_ext ph7.1 (okOb.p g5))))) rfl (Nat.le_of_ble_eq_true rfl) ?_
            refine ev_aload_n dX9_spoil_63 rfl rfl rfl ?_
            replace H := vl_some H
            obtain ⟨r20, er20, H⟩ := H
            refine ev_getRx dX9_spoil_64 fgX9_48 rfl (okO_ext ph19.1 (okO_ext ph16.1 (okO_ext ph13.1 (okO_ext ph10.1 (okO_ext ph7.1 (okO_ext ph3.1 (okOb.p g1))))))) er20 ?_
            replace H := un_some H
            obtain ⟨b21, eb21, H⟩ := H
            subst eb21
            replace H := gd_some H
            obtain ⟨g22, H⟩ := H
            replace H := vl_some H
            obtain ⟨r23, er23, H⟩ := H
            refine ev_getRx dX9_spoil_67 fgX9_266 rfl (okOb.p g22) er23 ?_
            refine ev_iload_n dX9_spoil_70 rfl rfl ?_
            refine ev_dup2 dX9_spoil_71 rfl (rv_cat _) ?_
            replace H := un_some H
            obtain ⟨b24, eb24, H⟩ := H
            subst eb24
            replace H := gd_some H
            obtain ⟨g25, H⟩ := H
            replace H := vl_some H
            obtain ⟨x26, ex26, H⟩ := H
            refine ev_ialdx dX9_spoil_72 (okAb.p g25) ex26 ?_
            refine ev_iconst (v := (1 : Int32)) dX9_spoil_73 (by decide) ?_
            refine ev_iadd dX9_spoil_74 ?_
            replace H := gd_some H
            obtain ⟨g27, H⟩ := H
            replace H := vl_some H
            obtain ⟨h28, eh28, H⟩ := H
            refine ev_iast dX9_spoil_75 (okAb.p g27) eh28 ?_
            refine ev_aload dX9_spoil_76 rfl rfl ?_
            replace H := bnd_some H
            obtain ⟨v29, h30, eh30, H⟩ := H
            have ph30 := (t_X7_spoiltCount (X := X) (d := 1) (by omega) eh30)
            refine ev_callV (as := []) dX9_spoil_78 ph30 ok_X7_spoiltCount (by omega) rfl k3_126 k3_127 k3_128 (ci := 7) (by decide) rfl rfl (okO_sI eh28 (okO_ext ph19.1 (okO_ext ph16.1 (okO_ext ph13.1 (okO_ext ph10.1 (okO_ext ph7.1 (okOb.p g5))))))) rfl (Nat.le_of_ble_eq_true rfl) ?_
            exact ev_iretx dX9_spoil_81 rfl rfl H
          · rw [if_pos c17] at H
            refine ev_bipush (v := (-3 : Int32)) dX9_spoil_53 (by decide) ?_
            exact ev_iretx dX9_spoil_55 rfl rfl H
      · rw [if_pos c11] at H
        refine ev_iconst (v := (-1 : Int32)) dX9_spoil_28 (by decide) ?_
        exact ev_iretx dX9_spoil_29 rfl rfl H

theorem dX9_isBook_0 : decode cX9_isBook 0 = .ok (.iload_n 1, 1) := by decide +kernel
theorem dX9_isBook_1 : decode cX9_isBook 1 = .ok (.ifCond .lt 10, 3) := by decide +kernel
theorem dX9_isBook_4 : decode cX9_isBook 4 = .ok (.aload_n 0, 1) := by decide +kernel
theorem dX9_isBook_5 : decode cX9_isBook 5 = .ok (.getfield 165, 3) := by decide +kernel
theorem dX9_isBook_8 : decode cX9_isBook 8 = .ok (.ifCond .ne 5, 3) := by decide +kernel
theorem dX9_isBook_11 : decode cX9_isBook 11 = .ok (.iconst 0, 1) := by decide +kernel
theorem dX9_isBook_12 : decode cX9_isBook 12 = .ok (.ireturn, 1) := by decide +kernel
theorem dX9_isBook_13 : decode cX9_isBook 13 = .ok (.iconst 0, 1) := by decide +kernel
theorem dX9_isBook_14 : decode cX9_isBook 14 = .ok (.istore_n 2, 1) := by decide +kernel
theorem dX9_isBook_15 : decode cX9_isBook 15 = .ok (.iload_n 2, 1) := by decide +kernel
theorem dX9_isBook_16 : decode cX9_isBook 16 = .ok (.aload_n 0, 1) := by decide +kernel
theorem dX9_isBook_17 : decode cX9_isBook 17 = .ok (.getfield 165, 3) := by decide +kernel
theorem dX9_isBook_20 : decode cX9_isBook 20 = .ok (.if_icmp .ge 24, 3) := by decide +kernel
theorem dX9_isBook_23 : decode cX9_isBook 23 = .ok (.aload_n 0, 1) := by decide +kernel
theorem dX9_isBook_24 : decode cX9_isBook 24 = .ok (.getfield 37, 3) := by decide +kernel
theorem dX9_isBook_27 : decode cX9_isBook 27 = .ok (.iload_n 2, 1) := by decide +kernel
theorem dX9_isBook_28 : decode cX9_isBook 28 = .ok (.aaload, 1) := by decide +kernel
theorem dX9_isBook_29 : decode cX9_isBook 29 = .ok (.iload_n 1, 1) := by decide +kernel
theorem dX9_isBook_30 : decode cX9_isBook 30 = .ok (.invokevirtual 352, 3) := by decide +kernel
theorem dX9_isBook_33 : decode cX9_isBook 33 = .ok (.ifCond .ne 5, 3) := by decide +kernel
theorem dX9_isBook_36 : decode cX9_isBook 36 = .ok (.iconst 0, 1) := by decide +kernel
theorem dX9_isBook_37 : decode cX9_isBook 37 = .ok (.ireturn, 1) := by decide +kernel
theorem dX9_isBook_38 : decode cX9_isBook 38 = .ok (.iinc 2 1, 3) := by decide +kernel
theorem dX9_isBook_41 : decode cX9_isBook 41 = .ok (.goto (-26), 3) := by decide +kernel
theorem dX9_isBook_44 : decode cX9_isBook 44 = .ok (.iconst 1, 1) := by decide +kernel
theorem dX9_isBook_45 : decode cX9_isBook 45 = .ok (.ireturn, 1) := by decide +kernel
def f_X9_isBook_L15 : Nat → Nat → Int32 → Int32 → Hp → Option (Int32 × Hp)
  | 0, _, _, _, _ => none
  | n + 1, l0, l1, l2, h =>
    gd (okOb h l0 9) <|
    vl (gI h l0 7) fun x6 =>
    if x6 ≤ l2 then (
    some ((1 : Int32), h)) else (
    vl (gR h l0 6) fun r8 =>
    un r8 fun b9 =>
    gd (okAb h b9 15 l2) <|
    vl (gR h b9 l2.toNatClampNeg) fun r11 =>
    un r11 fun b12 =>
    gd (okOb h b12 7) <|
    bnd (f_X7_hasForBook h b12 l1) fun v14 h15 =>
    if v14 = 0 then (
    some ((0 : Int32), h15)) else (
    vl (l2 + (1 : Int32)) fun x17 =>
    f_X9_isBook_L15 n l0 l1 x17 h15))
set_option maxHeartbeats 4000000 in
set_option maxRecDepth 100000 in
theorem t_X9_isBook_L15 {X : Cx} {d : Nat} {h0 h' : Hp} {v : Int32} (hD : 2 ≤ d) : ∀ (n : Nat) (l0 : Nat) (l1 : Int32) (l2 : Int32) (h : Hp), f_X9_isBook_L15 n l0 l1 l2 h = some (v, h') → EV X mX9_isBook d h0 (some (.int v)) h' 15 [some (.ref l0), some (.int l1), some (.int l2)] [] h := by
  intro n
  induction n with
  | zero => intro l0 l1 l2 h H; simp [f_X9_isBook_L15] at H
  | succ n ih =>
    intro l0 l1 l2 h H
    rw [f_X9_isBook_L15] at H
    refine ev_iload_n dX9_isBook_15 rfl rfl ?_
    refine ev_aload_n dX9_isBook_16 rfl rfl rfl ?_
    replace H := gd_some H
    obtain ⟨g5, H⟩ := H
    replace H := vl_some H
    obtain ⟨x6, ex6, H⟩ := H
    refine ev_getIx dX9_isBook_17 fgX9_165 rfl (okOb.p g5) ex6 ?_
    refine ev_icmp_ge (tgt := 44) dX9_isBook_20 (by decide) (fun c7 => ?_) (fun c7 => ?_)
    · rw [if_pos c7] at H
      refine ev_iconst (v := (1 : Int32)) dX9_isBook_44 (by decide) ?_
      exact ev_iretx dX9_isBook_45 rfl rfl H
    · rw [if_neg c7] at H
      refine ev_aload_n dX9_isBook_23 rfl rfl rfl ?_
      replace H := vl_some H
      obtain ⟨r8, er8, H⟩ := H
      refine ev_getRx dX9_isBook_24 fgX9_37 rfl (okOb.p g5) er8 ?_
      refine ev_iload_n dX9_isBook_27 rfl rfl ?_
      replace H := un_some H
      obtain ⟨b9, eb9, H⟩ := H
      subst eb9
      replace H := gd_some H
      obtain ⟨g10, H⟩ := H
      replace H := vl_some H
      obtain ⟨r11, er11, H⟩ := H
      refine ev_aaldx (kd := 15) (t0 := 4) dX9_isBook_28 (by decide) (fun _ => rfl) (okAb.p g10) er11 ?_
      refine ev_iload_n dX9_isBook_29 rfl rfl ?_
      replace H := un_some H
      obtain ⟨b12, eb12, H⟩ := H
      subst eb12
      replace H := gd_some H
      obtain ⟨g13, H⟩ := H
      replace H := bnd_some H
      obtain ⟨v14, h15, eh15, H⟩ := H
      have ph15 := (t_X7_hasForBook (X := X) (d := 1) (by omega) eh15)
      refine ev_callV (as := [.int l1]) dX9_isBook_30 ph15 ok_X7_hasForBook (by omega) rfl k3_138 k3_139 k3_140 (ci := 7) (by decide) rfl rfl (okOb.p g13) rfl (Nat.le_of_ble_eq_true rfl) ?_
      refine ev_if_ne (tgt := 38) dX9_isBook_33 (by decide) (fun c16 => ?_) (fun c16 => ?_)
      · rw [if_neg c16] at H
        replace H := vl_some H
        obtain ⟨x17, ex17, H⟩ := H
        refine ev_iincx (loc2 := [some (.ref l0), some (.int l1), some (.int x17)]) dX9_isBook_38 rfl (by decide) ex17 (by decide) rfl ?_
        refine ev_goto (tgt := 15) dX9_isBook_41 (by decide) ?_
        exact ih l0 l1 x17 h15 H
      · rw [if_pos c16] at H
        refine ev_iconst (v := (0 : Int32)) dX9_isBook_36 (by decide) ?_
        exact ev_iretx dX9_isBook_37 rfl rfl H
def f_X9_isBook (h : Hp) (a0 : Nat) (a1 : Int32) : Option (Int32 × Hp) :=
if a1 < 0 then (
some ((0 : Int32), h)) else (
gd (okOb h a0 9) <|
vl (gI h a0 7) fun x3 =>
if x3 = 0 then (
some ((0 : Int32), h)) else (
f_X9_isBook_L15 6000 a0 a1 (0 : Int32) h))
set_option maxHeartbeats 4000000 in
set_option maxRecDepth 100000 in
theorem t_X9_isBook {X : Cx} {d : Nat} {h : Hp} {a0 : Nat} {a1 : Int32} {v : Int32} {h' : Hp} (hD : 2 ≤ d) (H : f_X9_isBook h a0 a1 = some (v, h')) : PM X mX9_isBook d [.ref a0, .int a1] h (some (.int v)) h' := by
  unfold f_X9_isBook at H
  refine PM.of (loc := [some (.ref a0), some (.int a1), none]) (by decide) rfl (Nat.le_of_ble_eq_true rfl) ?_
  refine ev_iload_n dX9_isBook_0 rfl rfl ?_
  refine ev_if_lt (tgt := 11) dX9_isBook_1 (by decide) (fun c1 => ?_) (fun c1 => ?_)
  · rw [if_pos c1] at H
    refine ev_iconst (v := (0 : Int32)) dX9_isBook_11 (by decide) ?_
    exact ev_iretx dX9_isBook_12 rfl rfl H
  · rw [if_neg c1] at H
    refine ev_aload_n dX9_isBook_4 rfl rfl rfl ?_
    replace H := gd_some H
    obtain ⟨g2, H⟩ := H
    replace H := vl_some H
    obtain ⟨x3, ex3, H⟩ := H
    refine ev_getIx dX9_isBook_5 fgX9_165 rfl (okOb.p g2) ex3 ?_
    refine ev_if_ne (tgt := 13) dX9_isBook_8 (by decide) (fun c4 => ?_) (fun c4 => ?_)
    · rw [if_neg c4] at H
      refine ev_iconst (v := (0 : Int32)) dX9_isBook_13 (by decide) ?_
      refine ev_istore_n (loc2 := [some (.ref a0), some (.int a1), some (.int (0 : Int32))]) dX9_isBook_14 rfl (by decide) rfl ?_
      refine t_X9_isBook_L15 hD  6000 a0 a1 (0 : Int32) h H
    · rw [if_pos c4] at H
      refine ev_iconst (v := (0 : Int32)) dX9_isBook_11 (by decide) ?_
      exact ev_iretx dX9_isBook_12 rfl rfl H

theorem dX9_books_0 : decode cX9_books 0 = .ok (.iconst 0, 1) := by decide +kernel
theorem dX9_books_1 : decode cX9_books 1 = .ok (.istore_n 1, 1) := by decide +kernel
theorem dX9_books_2 : decode cX9_books 2 = .ok (.iconst 0, 1) := by decide +kernel
theorem dX9_books_3 : decode cX9_books 3 = .ok (.istore_n 2, 1) := by decide +kernel
theorem dX9_books_4 : decode cX9_books 4 = .ok (.iload_n 2, 1) := by decide +kernel
theorem dX9_books_5 : decode cX9_books 5 = .ok (.bipush 60, 2) := by decide +kernel
theorem dX9_books_7 : decode cX9_books 7 = .ok (.if_icmp .ge 20, 3) := by decide +kernel
theorem dX9_books_10 : decode cX9_books 10 = .ok (.aload_n 0, 1) := by decide +kernel
theorem dX9_books_11 : decode cX9_books 11 = .ok (.iload_n 2, 1) := by decide +kernel
theorem dX9_books_12 : decode cX9_books 12 = .ok (.invokevirtual 272, 3) := by decide +kernel
theorem dX9_books_15 : decode cX9_books 15 = .ok (.ifCond .eq 6, 3) := by decide +kernel
theorem dX9_books_18 : decode cX9_books 18 = .ok (.iinc 1 1, 3) := by decide +kernel
theorem dX9_books_21 : decode cX9_books 21 = .ok (.iinc 2 1, 3) := by decide +kernel
theorem dX9_books_24 : decode cX9_books 24 = .ok (.goto (-20), 3) := by decide +kernel
theorem dX9_books_27 : decode cX9_books 27 = .ok (.iload_n 1, 1) := by decide +kernel
theorem dX9_books_28 : decode cX9_books 28 = .ok (.ireturn, 1) := by decide +kernel
def f_X9_books_L4 : Nat → Nat → Int32 → Int32 → Hp → Option (Int32 × Hp)
  | 0, _, _, _, _ => none
  | n + 1, l0, l1, l2, h =>
    if (60 : Int32) ≤ l2 then (
    some (l1, h)) else (
    gd (okOb h l0 9) <|
    bnd (f_X9_isBook h l0 l2) fun v3 h4 =>
    if v3 = 0 then (
    vl (l2 + (1 : Int32)) fun x6 =>
    f_X9_books_L4 n l0 l1 x6 h4) else (
    vl (l1 + (1 : Int32)) fun x7 =>
    vl (l2 + (1 : Int32)) fun x8 =>
    f_X9_books_L4 n l0 x7 x8 h4))
set_option maxHeartbeats 4000000 in
set_option maxRecDepth 100000 in
theorem t_X9_books_L4 {X : Cx} {d : Nat} {h0 h' : Hp} {v : Int32} (hD : 3 ≤ d) : ∀ (n : Nat) (l0 : Nat) (l1 : Int32) (l2 : Int32) (h : Hp), f_X9_books_L4 n l0 l1 l2 h = some (v, h') → EV X mX9_books d h0 (some (.int v)) h' 4 [some (.ref l0), some (.int l1), some (.int l2)] [] h := by
  intro n
  induction n with
  | zero => intro l0 l1 l2 h H; simp [f_X9_books_L4] at H
  | succ n ih =>
    intro l0 l1 l2 h H
    rw [f_X9_books_L4] at H
    refine ev_iload_n dX9_books_4 rfl rfl ?_
    refine ev_bipush (v := (60 : Int32)) dX9_books_5 (by decide) ?_
    refine ev_icmp_ge (tgt := 27) dX9_books_7 (by decide) (fun c1 => ?_) (fun c1 => ?_)
    · rw [if_pos c1] at H
      refine ev_iload_n dX9_books_27 rfl rfl ?_
      exact ev_iretx dX9_books_28 rfl rfl H
    · rw [if_neg c1] at H
      refine ev_aload_n dX9_books_10 rfl rfl rfl ?_
      refine ev_iload_n dX9_books_11 rfl rfl ?_
      replace H := gd_some H
      obtain ⟨g2, H⟩ := H
      replace H := bnd_some H
      obtain ⟨v3, h4, eh4, H⟩ := H
      have ph4 := (t_X9_isBook (X := X) (d := 2) (by omega) eh4)
      refine ev_callV (as := [.int l2]) dX9_books_12 ph4 ok_X9_isBook (by omega) rfl k3_134 k3_136 ks_5 (ci := 9) (by decide) rfl rfl (okOb.p g2) rfl (Nat.le_of_ble_eq_true rfl) ?_
      refine ev_if_eq (tgt := 21) dX9_books_15 (by decide) (fun c5 => ?_) (fun c5 => ?_)
      · rw [if_pos c5] at H
        replace H := vl_some H
        obtain ⟨x6, ex6, H⟩ := H
        refine ev_iincx (loc2 := [some (.ref l0), some (.int l1), some (.int x6)]) dX9_books_21 rfl (by decide) ex6 (by decide) rfl ?_
        refine ev_goto (tgt := 4) dX9_books_24 (by decide) ?_
        exact ih l0 l1 x6 h4 H
      · rw [if_neg c5] at H
        replace H := vl_some H
        obtain ⟨x7, ex7, H⟩ := H
        refine ev_iincx (loc2 := [some (.ref l0), some (.int x7), some (.int l2)]) dX9_books_18 rfl (by decide) ex7 (by decide) rfl ?_
        replace H := vl_some H
        obtain ⟨x8, ex8, H⟩ := H
        refine ev_iincx (loc2 := [some (.ref l0), some (.int x7), some (.int x8)]) dX9_books_21 rfl (by decide) ex8 (by decide) rfl ?_
        refine ev_goto (tgt := 4) dX9_books_24 (by decide) ?_
        exact ih l0 x7 x8 h4 H
def f_X9_books (h : Hp) (a0 : Nat) : Option (Int32 × Hp) :=
f_X9_books_L4 6000 a0 (0 : Int32) (0 : Int32) h
set_option maxHeartbeats 4000000 in
set_option maxRecDepth 100000 in
theorem t_X9_books {X : Cx} {d : Nat} {h : Hp} {a0 : Nat} {v : Int32} {h' : Hp} (hD : 3 ≤ d) (H : f_X9_books h a0 = some (v, h')) : PM X mX9_books d [.ref a0] h (some (.int v)) h' := by
  unfold f_X9_books at H
  refine PM.of (loc := [some (.ref a0), none, none]) (by decide) rfl (Nat.le_of_ble_eq_true rfl) ?_
  refine ev_iconst (v := (0 : Int32)) dX9_books_0 (by decide) ?_
  refine ev_istore_n (loc2 := [some (.ref a0), some (.int (0 : Int32)), none]) dX9_books_1 rfl (by decide) rfl ?_
  refine ev_iconst (v := (0 : Int32)) dX9_books_2 (by decide) ?_
  refine ev_istore_n (loc2 := [some (.ref a0), some (.int (0 : Int32)), some (.int (0 : Int32))]) dX9_books_3 rfl (by decide) rfl ?_
  refine t_X9_books_L4 hD  6000 a0 (0 : Int32) (0 : Int32) h H

theorem dX9_inBook_0 : decode cX9_inBook 0 = .ok (.aload_n 0, 1) := by decide +kernel
theorem dX9_inBook_1 : decode cX9_inBook 1 = .ok (.iload_n 2, 1) := by decide +kernel
theorem dX9_inBook_2 : decode cX9_inBook 2 = .ok (.invokevirtual 237, 3) := by decide +kernel
theorem dX9_inBook_5 : decode cX9_inBook 5 = .ok (.astore_n 3, 1) := by decide +kernel
theorem dX9_inBook_6 : decode cX9_inBook 6 = .ok (.aload_n 3, 1) := by decide +kernel
theorem dX9_inBook_7 : decode cX9_inBook 7 = .ok (.ifnull 11, 3) := by decide +kernel
theorem dX9_inBook_10 : decode cX9_inBook 10 = .ok (.aload_n 0, 1) := by decide +kernel
theorem dX9_inBook_11 : decode cX9_inBook 11 = .ok (.iload_n 1, 1) := by decide +kernel
theorem dX9_inBook_12 : decode cX9_inBook 12 = .ok (.invokevirtual 272, 3) := by decide +kernel
theorem dX9_inBook_15 : decode cX9_inBook 15 = .ok (.ifCond .ne 5, 3) := by decide +kernel
theorem dX9_inBook_18 : decode cX9_inBook 18 = .ok (.iconst (-1), 1) := by decide +kernel
theorem dX9_inBook_19 : decode cX9_inBook 19 = .ok (.ireturn, 1) := by decide +kernel
theorem dX9_inBook_20 : decode cX9_inBook 20 = .ok (.aload_n 3, 1) := by decide +kernel
theorem dX9_inBook_21 : decode cX9_inBook 21 = .ok (.getfield 275, 3) := by decide +kernel
theorem dX9_inBook_24 : decode cX9_inBook 24 = .ok (.iload_n 1, 1) := by decide +kernel
theorem dX9_inBook_25 : decode cX9_inBook 25 = .ok (.iaload, 1) := by decide +kernel
theorem dX9_inBook_26 : decode cX9_inBook 26 = .ok (.ireturn, 1) := by decide +kernel
def f_X9_inBook (h : Hp) (a0 : Nat) (a1 : Int32) (a2 : Int32) : Option (Int32 × Hp) :=
gd (okOb h a0 9) <|
bnd (f_X9_findSheet h a0 a2) fun v2 h3 =>
nl v2 (
some ((-1 : Int32), h3)) fun b4 =>
bnd (f_X9_isBook h3 a0 a1) fun v5 h6 =>
if v5 = 0 then (
some ((-1 : Int32), h6)) else (
gd (okOb h6 b4 7) <|
vl (gR h6 b4 6) fun r9 =>
un r9 fun b10 =>
gd (okAb h6 b10 11 a1) <|
vl (gI h6 b10 a1.toNatClampNeg) fun x12 =>
some (x12, h6))
set_option maxHeartbeats 4000000 in
set_option maxRecDepth 100000 in
theorem t_X9_inBook {X : Cx} {d : Nat} {h : Hp} {a0 : Nat} {a1 : Int32} {a2 : Int32} {v : Int32} {h' : Hp} (hD : 3 ≤ d) (H : f_X9_inBook h a0 a1 a2 = some (v, h')) : PM X mX9_inBook d [.ref a0, .int a1, .int a2] h (some (.int v)) h' := by
  unfold f_X9_inBook at H
  refine PM.of (loc := [some (.ref a0), some (.int a1), some (.int a2), none]) (by decide) rfl (Nat.le_of_ble_eq_true rfl) ?_
  refine ev_aload_n dX9_inBook_0 rfl rfl rfl ?_
  refine ev_iload_n dX9_inBook_1 rfl rfl ?_
  replace H := gd_some H
  obtain ⟨g1, H⟩ := H
  replace H := bnd_some H
  obtain ⟨v2, h3, eh3, H⟩ := H
  have ph3 := (t_X9_findSheet (X := X) (d := 1) (by omega) eh3)
  refine ev_callV (as := [.int a2]) dX9_inBook_2 ph3 ok_X9_findSheet (by omega) rfl k3_90 k3_92 ks_4 (ci := 9) (by decide) rfl rfl (okOb.p g1) rfl (Nat.le_of_ble_eq_true rfl) ?_
  refine ev_astore_n (loc2 := [some (.ref a0), some (.int a1), some (.int a2), some (rv v2)]) dX9_inBook_5 rfl (by decide) (isA_rv _) rfl ?_
  refine ev_aload_n dX9_inBook_6 rfl rfl (isA_rv _) ?_
  replace H := nl_some H
  rcases H with ⟨eb4, H⟩ | ⟨b4, eb4, H⟩
  · subst eb4
    refine ev_ifnull_n (tgt := 18) dX9_inBook_7 (by decide) ?_
    refine ev_iconst (v := (-1 : Int32)) dX9_inBook_18 (by decide) ?_
    exact ev_iretx dX9_inBook_19 rfl rfl H
  · subst eb4
    refine ev_ifnull_s dX9_inBook_7 ?_
    refine ev_aload_n dX9_inBook_10 rfl rfl rfl ?_
    refine ev_iload_n dX9_inBook_11 rfl rfl ?_
    replace H := bnd_some H
    obtain ⟨v5, h6, eh6, H⟩ := H
    have ph6 := (t_X9_isBook (X := X) (d := 2) (by omega) eh6)
    refine ev_callV (as := [.int a1]) dX9_inBook_12 ph6 ok_X9_isBook (by omega) rfl k3_134 k3_136 ks_5 (ci := 9) (by decide) rfl rfl (okO_ext ph3.1 (okOb.p g1)) rfl (Nat.le_of_ble_eq_true rfl) ?_
    refine ev_if_ne (tgt := 20) dX9_inBook_15 (by decide) (fun c7 => ?_) (fun c7 => ?_)
    · rw [if_neg c7] at H
      refine ev_aload_n dX9_inBook_20 rfl rfl rfl ?_
      replace H := gd_some H
      obtain ⟨g8, H⟩ := H
      replace H := vl_some H
      obtain ⟨r9, er9, H⟩ := H
      refine ev_getRx dX9_inBook_21 fgX9_275 rfl (okOb.p g8) er9 ?_
      refine ev_iload_n dX9_inBook_24 rfl rfl ?_
      replace H := un_some H
      obtain ⟨b10, eb10, H⟩ := H
      subst eb10
      replace H := gd_some H
      obtain ⟨g11, H⟩ := H
      replace H := vl_some H
      obtain ⟨x12, ex12, H⟩ := H
      refine ev_ialdx dX9_inBook_25 (okAb.p g11) ex12 ?_
      exact ev_iretx dX9_inBook_26 rfl rfl H
    · rw [if_pos c7] at H
      refine ev_iconst (v := (-1 : Int32)) dX9_inBook_18 (by decide) ?_
      exact ev_iretx dX9_inBook_19 rfl rfl H

theorem dX9_sidesUnlike_0 : decode cX9_sidesUnlike 0 = .ok (.iconst 0, 1) := by decide +kernel
theorem dX9_sidesUnlike_1 : decode cX9_sidesUnlike 1 = .ok (.istore_n 3, 1) := by decide +kernel
theorem dX9_sidesUnlike_2 : decode cX9_sidesUnlike 2 = .ok (.iconst 0, 1) := by decide +kernel
theorem dX9_sidesUnlike_3 : decode cX9_sidesUnlike 3 = .ok (.istore 4, 2) := by decide +kernel
theorem dX9_sidesUnlike_5 : decode cX9_sidesUnlike 5 = .ok (.iload 4, 2) := by decide +kernel
theorem dX9_sidesUnlike_7 : decode cX9_sidesUnlike 7 = .ok (.aload_n 0, 1) := by decide +kernel
theorem dX9_sidesUnlike_8 : decode cX9_sidesUnlike 8 = .ok (.getfield 165, 3) := by decide +kernel
theorem dX9_sidesUnlike_11 : decode cX9_sidesUnlike 11 = .ok (.if_icmp .ge 24, 3) := by decide +kernel
theorem dX9_sidesUnlike_14 : decode cX9_sidesUnlike 14 = .ok (.iload_n 3, 1) := by decide +kernel
theorem dX9_sidesUnlike_15 : decode cX9_sidesUnlike 15 = .ok (.aload_n 0, 1) := by decide +kernel
theorem dX9_sidesUnlike_16 : decode cX9_sidesUnlike 16 = .ok (.getfield 37, 3) := by decide +kernel
theorem dX9_sidesUnlike_19 : decode cX9_sidesUnlike 19 = .ok (.iload 4, 2) := by decide +kernel
theorem dX9_sidesUnlike_21 : decode cX9_sidesUnlike 21 = .ok (.aaload, 1) := by decide +kernel
theorem dX9_sidesUnlike_22 : decode cX9_sidesUnlike 22 = .ok (.iload_n 1, 1) := by decide +kernel
theorem dX9_sidesUnlike_23 : decode cX9_sidesUnlike 23 = .ok (.iload_n 2, 1) := by decide +kernel
theorem dX9_sidesUnlike_24 : decode cX9_sidesUnlike 24 = .ok (.invokevirtual 355, 3) := by decide +kernel
theorem dX9_sidesUnlike_27 : decode cX9_sidesUnlike 27 = .ok (.iadd, 1) := by decide +kernel
theorem dX9_sidesUnlike_28 : decode cX9_sidesUnlike 28 = .ok (.istore_n 3, 1) := by decide +kernel
theorem dX9_sidesUnlike_29 : decode cX9_sidesUnlike 29 = .ok (.iinc 4 1, 3) := by decide +kernel
theorem dX9_sidesUnlike_32 : decode cX9_sidesUnlike 32 = .ok (.goto (-27), 3) := by decide +kernel
theorem dX9_sidesUnlike_35 : decode cX9_sidesUnlike 35 = .ok (.iload_n 3, 1) := by decide +kernel
theorem dX9_sidesUnlike_36 : decode cX9_sidesUnlike 36 = .ok (.ireturn, 1) := by decide +kernel
def f_X9_sidesUnlike_L5 : Nat → Nat → Int32 → Int32 → Int32 → Int32 → Hp → Option (Int32 × Hp)
  | 0, _, _, _, _, _, _ => none
  | n + 1, l0, l1, l2, l3, l4, h =>
    gd (okOb h l0 9) <|
    vl (gI h l0 7) fun x2 =>
    if x2 ≤ l4 then (
    some (l3, h)) else (
    vl (gR h l0 6) fun r4 =>
    un r4 fun b5 =>
    gd (okAb h b5 15 l4) <|
    vl (gR h b5 l4.toNatClampNeg) fun r7 =>
    un r7 fun b8 =>
    gd (okOb h b8 7) <|
    bnd (f_X7_unlikeSides h b8 l1 l2) fun v10 h11 =>
    vl (l3 + v10) fun x12 =>
    vl (l4 + (1 : Int32)) fun x13 =>
    f_X9_sidesUnlike_L5 n l0 l1 l2 x12 x13 h11)
set_option maxHeartbeats 4000000 in
set_option maxRecDepth 100000 in
theorem t_X9_sidesUnlike_L5 {X : Cx} {d : Nat} {h0 h' : Hp} {v : Int32} (hD : 2 ≤ d) : ∀ (n : Nat) (l0 : Nat) (l1 : Int32) (l2 : Int32) (l3 : Int32) (l4 : Int32) (h : Hp), f_X9_sidesUnlike_L5 n l0 l1 l2 l3 l4 h = some (v, h') → EV X mX9_sidesUnlike d h0 (some (.int v)) h' 5 [some (.ref l0), some (.int l1), some (.int l2), some (.int l3), some (.int l4)] [] h := by
  intro n
  induction n with
  | zero => intro l0 l1 l2 l3 l4 h H; simp [f_X9_sidesUnlike_L5] at H
  | succ n ih =>
    intro l0 l1 l2 l3 l4 h H
    rw [f_X9_sidesUnlike_L5] at H
    refine ev_iload dX9_sidesUnlike_5 rfl ?_
    refine ev_aload_n dX9_sidesUnlike_7 rfl rfl rfl ?_
    replace H := gd_some H
    obtain ⟨g1, H⟩ := H
    replace H := vl_some H
    obtain ⟨x2, ex2, H⟩ := H
    refine ev_getIx dX9_sidesUnlike_8 fgX9_165 rfl (okOb.p g1) ex2 ?_
    refine ev_icmp_ge (tgt := 35) dX9_sidesUnlike_11 (by decide) (fun c3 => ?_) (fun c3 => ?_)
    · rw [if_pos c3] at H
      refine ev_iload_n dX9_sidesUnlike_35 rfl rfl ?_
      exact ev_iretx dX9_sidesUnlike_36 rfl rfl H
    · rw [if_neg c3] at H
      refine ev_iload_n dX9_sidesUnlike_14 rfl rfl ?_
      refine ev_aload_n dX9_sidesUnlike_15 rfl rfl rfl ?_
      replace H := vl_some H
      obtain ⟨r4, er4, H⟩ := H
      refine ev_getRx dX9_sidesUnlike_16 fgX9_37 rfl (okOb.p g1) er4 ?_
      refine ev_iload dX9_sidesUnlike_19 rfl ?_
      replace H := un_some H
      obtain ⟨b5, eb5, H⟩ := H
      subst eb5
      replace H := gd_some H
      obtain ⟨g6, H⟩ := H
      replace H := vl_some H
      obtain ⟨r7, er7, H⟩ := H
      refine ev_aaldx (kd := 15) (t0 := 4) dX9_sidesUnlike_21 (by decide) (fun _ => rfl) (okAb.p g6) er7 ?_
      refine ev_iload_n dX9_sidesUnlike_22 rfl rfl ?_
      refine ev_iload_n dX9_sidesUnlike_23 rfl rfl ?_
      replace H := un_some H
      obtain ⟨b8, eb8, H⟩ := H
      subst eb8
      replace H := gd_some H
      obtain ⟨g9, H⟩ := H
      replace H := bnd_some H
      obtain ⟨v10, h11, eh11, H⟩ := H
      have ph11 := (t_X7_unlikeSides (X := X) (d := 1) (by omega) eh11)
      refine ev_callV (as := [.int l1, .int l2]) dX9_sidesUnlike_24 ph11 ok_X7_unlikeSides (by omega) rfl k3_154 k3_155 k3_156 (ci := 7) (by decide) rfl rfl (okOb.p g9) rfl (Nat.le_of_ble_eq_true rfl) ?_
      refine ev_iadd dX9_sidesUnlike_27 ?_
      replace H := vl_some H
      obtain ⟨x12, ex12, H⟩ := H
      refine ev_istore_nx (loc2 := [some (.ref l0), some (.int l1), some (.int l2), some (.int x12), some (.int l4)]) dX9_sidesUnlike_28 rfl (by decide) ex12 rfl ?_
      replace H := vl_some H
      obtain ⟨x13, ex13, H⟩ := H
      refine ev_iincx (loc2 := [some (.ref l0), some (.int l1), some (.int l2), some (.int x12), some (.int x13)]) dX9_sidesUnlike_29 rfl (by decide) ex13 (by decide) rfl ?_
      refine ev_goto (tgt := 5) dX9_sidesUnlike_32 (by decide) ?_
      exact ih l0 l1 l2 x12 x13 h11 H
def f_X9_sidesUnlike (h : Hp) (a0 : Nat) (a1 : Int32) (a2 : Int32) : Option (Int32 × Hp) :=
f_X9_sidesUnlike_L5 6000 a0 a1 a2 (0 : Int32) (0 : Int32) h
set_option maxHeartbeats 4000000 in
set_option maxRecDepth 100000 in
theorem t_X9_sidesUnlike {X : Cx} {d : Nat} {h : Hp} {a0 : Nat} {a1 : Int32} {a2 : Int32} {v : Int32} {h' : Hp} (hD : 2 ≤ d) (H : f_X9_sidesUnlike h a0 a1 a2 = some (v, h')) : PM X mX9_sidesUnlike d [.ref a0, .int a1, .int a2] h (some (.int v)) h' := by
  unfold f_X9_sidesUnlike at H
  refine PM.of (loc := [some (.ref a0), some (.int a1), some (.int a2), none, none]) (by decide) rfl (Nat.le_of_ble_eq_true rfl) ?_
  refine ev_iconst (v := (0 : Int32)) dX9_sidesUnlike_0 (by decide) ?_
  refine ev_istore_n (loc2 := [some (.ref a0), some (.int a1), some (.int a2), some (.int (0 : Int32)), none]) dX9_sidesUnlike_1 rfl (by decide) rfl ?_
  refine ev_iconst (v := (0 : Int32)) dX9_sidesUnlike_2 (by decide) ?_
  refine ev_istore (loc2 := [some (.ref a0), some (.int a1), some (.int a2), some (.int (0 : Int32)), some (.int (0 : Int32))]) dX9_sidesUnlike_3 (by decide) rfl ?_
  refine t_X9_sidesUnlike_L5 hD  6000 a0 a1 a2 (0 : Int32) (0 : Int32) h H

theorem dX9_unlike_0 : decode cX9_unlike 0 = .ok (.aload_n 0, 1) := by decide +kernel
theorem dX9_unlike_1 : decode cX9_unlike 1 = .ok (.iload_n 1, 1) := by decide +kernel
theorem dX9_unlike_2 : decode cX9_unlike 2 = .ok (.invokevirtual 272, 3) := by decide +kernel
theorem dX9_unlike_5 : decode cX9_unlike 5 = .ok (.ifCond .eq 11, 3) := by decide +kernel
theorem dX9_unlike_8 : decode cX9_unlike 8 = .ok (.aload_n 0, 1) := by decide +kernel
theorem dX9_unlike_9 : decode cX9_unlike 9 = .ok (.iload_n 2, 1) := by decide +kernel
theorem dX9_unlike_10 : decode cX9_unlike 10 = .ok (.invokevirtual 272, 3) := by decide +kernel
theorem dX9_unlike_13 : decode cX9_unlike 13 = .ok (.ifCond .ne 5, 3) := by decide +kernel
theorem dX9_unlike_16 : decode cX9_unlike 16 = .ok (.iconst (-1), 1) := by decide +kernel
theorem dX9_unlike_17 : decode cX9_unlike 17 = .ok (.ireturn, 1) := by decide +kernel
theorem dX9_unlike_18 : decode cX9_unlike 18 = .ok (.aload_n 0, 1) := by decide +kernel
theorem dX9_unlike_19 : decode cX9_unlike 19 = .ok (.iload_n 1, 1) := by decide +kernel
theorem dX9_unlike_20 : decode cX9_unlike 20 = .ok (.iload_n 2, 1) := by decide +kernel
theorem dX9_unlike_21 : decode cX9_unlike 21 = .ok (.invokevirtual 278, 3) := by decide +kernel
theorem dX9_unlike_24 : decode cX9_unlike 24 = .ok (.ireturn, 1) := by decide +kernel
def f_X9_unlike (h : Hp) (a0 : Nat) (a1 : Int32) (a2 : Int32) : Option (Int32 × Hp) :=
gd (okOb h a0 9) <|
bnd (f_X9_isBook h a0 a1) fun v2 h3 =>
if v2 = 0 then (
some ((-1 : Int32), h3)) else (
bnd (f_X9_isBook h3 a0 a2) fun v5 h6 =>
if v5 = 0 then (
some ((-1 : Int32), h6)) else (
bnd (f_X9_sidesUnlike h6 a0 a1 a2) fun v8 h9 =>
some (v8, h9)))
set_option maxHeartbeats 4000000 in
set_option maxRecDepth 100000 in
theorem t_X9_unlike {X : Cx} {d : Nat} {h : Hp} {a0 : Nat} {a1 : Int32} {a2 : Int32} {v : Int32} {h' : Hp} (hD : 3 ≤ d) (H : f_X9_unlike h a0 a1 a2 = some (v, h')) : PM X mX9_unlike d [.ref a0, .int a1, .int a2] h (some (.int v)) h' := by
  unfold f_X9_unlike at H
  refine PM.of (loc := [some (.ref a0), some (.int a1), some (.int a2)]) (by decide) rfl (Nat.le_of_ble_eq_true rfl) ?_
  refine ev_aload_n dX9_unlike_0 rfl rfl rfl ?_
  refine ev_iload_n dX9_unlike_1 rfl rfl ?_
  replace H := gd_some H
  obtain ⟨g1, H⟩ := H
  replace H := bnd_some H
  obtain ⟨v2, h3, eh3, H⟩ := H
  have ph3 := (t_X9_isBook (X := X) (d := 2) (by omega) eh3)
  refine ev_callV (as := [.int a1]) dX9_unlike_2 ph3 ok_X9_isBook (by omega) rfl k3_134 k3_136 ks_5 (ci := 9) (by decide) rfl rfl (okOb.p g1) rfl (Nat.le_of_ble_eq_true rfl) ?_
  refine ev_if_eq (tgt := 16) dX9_unlike_5 (by decide) (fun c4 => ?_) (fun c4 => ?_)
  · rw [if_pos c4] at H
    refine ev_iconst (v := (-1 : Int32)) dX9_unlike_16 (by decide) ?_
    exact ev_iretx dX9_unlike_17 rfl rfl H
  · rw [if_neg c4] at H
    refine ev_aload_n dX9_unlike_8 rfl rfl rfl ?_
    refine ev_iload_n dX9_unlike_9 rfl rfl ?_
    replace H := bnd_some H
    obtain ⟨v5, h6, eh6, H⟩ := H
    have ph6 := (t_X9_isBook (X := X) (d := 2) (by omega) eh6)
    refine ev_callV (as := [.int a2]) dX9_unlike_10 ph6 ok_X9_isBook (by omega) rfl k3_134 k3_136 ks_5 (ci := 9) (by decide) rfl rfl (okO_ext ph3.1 (okOb.p g1)) rfl (Nat.le_of_ble_eq_true rfl) ?_
    refine ev_if_ne (tgt := 18) dX9_unlike_13 (by decide) (fun c7 => ?_) (fun c7 => ?_)
    · rw [if_neg c7] at H
      refine ev_aload_n dX9_unlike_18 rfl rfl rfl ?_
      refine ev_iload_n dX9_unlike_19 rfl rfl ?_
      refine ev_iload_n dX9_unlike_20 rfl rfl ?_
      replace H := bnd_some H
      obtain ⟨v8, h9, eh9, H⟩ := H
      have ph9 := (t_X9_sidesUnlike (X := X) (d := 2) (by omega) eh9)
      refine ev_callV (as := [.int a1, .int a2]) dX9_unlike_21 ph9 ok_X9_sidesUnlike (by omega) rfl k3_150 k3_152 ks_6 (ci := 9) (by decide) rfl rfl (okO_ext ph6.1 (okO_ext ph3.1 (okOb.p g1))) rfl (Nat.le_of_ble_eq_true rfl) ?_
      exact ev_iretx dX9_unlike_24 rfl rfl H
    · rw [if_pos c7] at H
      refine ev_iconst (v := (-1 : Int32)) dX9_unlike_16 (by decide) ?_
      exact ev_iretx dX9_unlike_17 rfl rfl H

theorem dX9_hasTwinAhead_0 : decode cX9_hasTwinAhead 0 = .ok (.iconst 0, 1) := by decide +kernel
theorem dX9_hasTwinAhead_1 : decode cX9_hasTwinAhead 1 = .ok (.istore_n 2, 1) := by decide +kernel
theorem dX9_hasTwinAhead_2 : decode cX9_hasTwinAhead 2 = .ok (.iload_n 2, 1) := by decide +kernel
theorem dX9_hasTwinAhead_3 : decode cX9_hasTwinAhead 3 = .ok (.iload_n 1, 1) := by decide +kernel
theorem dX9_hasTwinAhead_4 : decode cX9_hasTwinAhead 4 = .ok (.if_icmp .ge 28, 3) := by decide +kernel
theorem dX9_hasTwinAhead_7 : decode cX9_hasTwinAhead 7 = .ok (.aload_n 0, 1) := by decide +kernel
theorem dX9_hasTwinAhead_8 : decode cX9_hasTwinAhead 8 = .ok (.iload_n 2, 1) := by decide +kernel
theorem dX9_hasTwinAhead_9 : decode cX9_hasTwinAhead 9 = .ok (.invokevirtual 272, 3) := by decide +kernel
theorem dX9_hasTwinAhead_12 : decode cX9_hasTwinAhead 12 = .ok (.ifCond .eq 14, 3) := by decide +kernel
theorem dX9_hasTwinAhead_15 : decode cX9_hasTwinAhead 15 = .ok (.aload_n 0, 1) := by decide +kernel
theorem dX9_hasTwinAhead_16 : decode cX9_hasTwinAhead 16 = .ok (.iload_n 2, 1) := by decide +kernel
theorem dX9_hasTwinAhead_17 : decode cX9_hasTwinAhead 17 = .ok (.iload_n 1, 1) := by decide +kernel
theorem dX9_hasTwinAhead_18 : decode cX9_hasTwinAhead 18 = .ok (.invokevirtual 278, 3) := by decide +kernel
theorem dX9_hasTwinAhead_21 : decode cX9_hasTwinAhead 21 = .ok (.ifCond .ne 5, 3) := by decide +kernel
theorem dX9_hasTwinAhead_24 : decode cX9_hasTwinAhead 24 = .ok (.iconst 1, 1) := by decide +kernel
theorem dX9_hasTwinAhead_25 : decode cX9_hasTwinAhead 25 = .ok (.ireturn, 1) := by decide +kernel
theorem dX9_hasTwinAhead_26 : decode cX9_hasTwinAhead 26 = .ok (.iinc 2 1, 3) := by decide +kernel
theorem dX9_hasTwinAhead_29 : decode cX9_hasTwinAhead 29 = .ok (.goto (-27), 3) := by decide +kernel
theorem dX9_hasTwinAhead_32 : decode cX9_hasTwinAhead 32 = .ok (.iconst 0, 1) := by decide +kernel
theorem dX9_hasTwinAhead_33 : decode cX9_hasTwinAhead 33 = .ok (.ireturn, 1) := by decide +kernel
def f_X9_hasTwinAhead_L2 : Nat → Nat → Int32 → Int32 → Hp → Option (Int32 × Hp)
  | 0, _, _, _, _ => none
  | n + 1, l0, l1, l2, h =>
    if l1 ≤ l2 then (
    some ((0 : Int32), h)) else (
    gd (okOb h l0 9) <|
    bnd (f_X9_isBook h l0 l2) fun v3 h4 =>
    if v3 = 0 then (
    vl (l2 + (1 : Int32)) fun x6 =>
    f_X9_hasTwinAhead_L2 n l0 l1 x6 h4) else (
    bnd (f_X9_sidesUnlike h4 l0 l2 l1) fun v7 h8 =>
    if v7 = 0 then (
    some ((1 : Int32), h8)) else (
    vl (l2 + (1 : Int32)) fun x10 =>
    f_X9_hasTwinAhead_L2 n l0 l1 x10 h8)))
set_option maxHeartbeats 4000000 in
set_option maxRecDepth 100000 in
theorem t_X9_hasTwinAhead_L2 {X : Cx} {d : Nat} {h0 h' : Hp} {v : Int32} (hD : 3 ≤ d) : ∀ (n : Nat) (l0 : Nat) (l1 : Int32) (l2 : Int32) (h : Hp), f_X9_hasTwinAhead_L2 n l0 l1 l2 h = some (v, h') → EV X mX9_hasTwinAhead d h0 (some (.int v)) h' 2 [some (.ref l0), some (.int l1), some (.int l2)] [] h := by
  intro n
  induction n with
  | zero => intro l0 l1 l2 h H; simp [f_X9_hasTwinAhead_L2] at H
  | succ n ih =>
    intro l0 l1 l2 h H
    rw [f_X9_hasTwinAhead_L2] at H
    refine ev_iload_n dX9_hasTwinAhead_2 rfl rfl ?_
    refine ev_iload_n dX9_hasTwinAhead_3 rfl rfl ?_
    refine ev_icmp_ge (tgt := 32) dX9_hasTwinAhead_4 (by decide) (fun c1 => ?_) (fun c1 => ?_)
    · rw [if_pos c1] at H
      refine ev_iconst (v := (0 : Int32)) dX9_hasTwinAhead_32 (by decide) ?_
      exact ev_iretx dX9_hasTwinAhead_33 rfl rfl H
    · rw [if_neg c1] at H
      refine ev_aload_n dX9_hasTwinAhead_7 rfl rfl rfl ?_
      refine ev_iload_n dX9_hasTwinAhead_8 rfl rfl ?_
      replace H := gd_some H
      obtain ⟨g2, H⟩ := H
      replace H := bnd_some H
      obtain ⟨v3, h4, eh4, H⟩ := H
      have ph4 := (t_X9_isBook (X := X) (d := 2) (by omega) eh4)
      refine ev_callV (as := [.int l2]) dX9_hasTwinAhead_9 ph4 ok_X9_isBook (by omega) rfl k3_134 k3_136 ks_5 (ci := 9) (by decide) rfl rfl (okOb.p g2) rfl (Nat.le_of_ble_eq_true rfl) ?_
      refine ev_if_eq (tgt := 26) dX9_hasTwinAhead_12 (by decide) (fun c5 => ?_) (fun c5 => ?_)
      · rw [if_pos c5] at H
        replace H := vl_some H
        obtain ⟨x6, ex6, H⟩ := H
        refine ev_iincx (loc2 := [some (.ref l0), some (.int l1), some (.int x6)]) dX9_hasTwinAhead_26 rfl (by decide) ex6 (by decide) rfl ?_
        refine ev_goto (tgt := 2) dX9_hasTwinAhead_29 (by decide) ?_
        exact ih l0 l1 x6 h4 H
      · rw [if_neg c5] at H
        refine ev_aload_n dX9_hasTwinAhead_15 rfl rfl rfl ?_
        refine ev_iload_n dX9_hasTwinAhead_16 rfl rfl ?_
        refine ev_iload_n dX9_hasTwinAhead_17 rfl rfl ?_
        replace H := bnd_some H
        obtain ⟨v7, h8, eh8, H⟩ := H
        have ph8 := (t_X9_sidesUnlike (X := X) (d := 2) (by omega) eh8)
        refine ev_callV (as := [.int l2, .int l1]) dX9_hasTwinAhead_18 ph8 ok_X9_sidesUnlike (by omega) rfl k3_150 k3_152 ks_6 (ci := 9) (by decide) rfl rfl (okO_ext ph4.1 (okOb.p g2)) rfl (Nat.le_of_ble_eq_true rfl) ?_
        refine ev_if_ne (tgt := 26) dX9_hasTwinAhead_21 (by decide) (fun c9 => ?_) (fun c9 => ?_)
        · rw [if_neg c9] at H
          replace H := vl_some H
          obtain ⟨x10, ex10, H⟩ := H
          refine ev_iincx (loc2 := [some (.ref l0), some (.int l1), some (.int x10)]) dX9_hasTwinAhead_26 rfl (by decide) ex10 (by decide) rfl ?_
          refine ev_goto (tgt := 2) dX9_hasTwinAhead_29 (by decide) ?_
          exact ih l0 l1 x10 h8 H
        · rw [if_pos c9] at H
          refine ev_iconst (v := (1 : Int32)) dX9_hasTwinAhead_24 (by decide) ?_
          exact ev_iretx dX9_hasTwinAhead_25 rfl rfl H
def f_X9_hasTwinAhead (h : Hp) (a0 : Nat) (a1 : Int32) : Option (Int32 × Hp) :=
f_X9_hasTwinAhead_L2 6000 a0 a1 (0 : Int32) h
set_option maxHeartbeats 4000000 in
set_option maxRecDepth 100000 in
theorem t_X9_hasTwinAhead {X : Cx} {d : Nat} {h : Hp} {a0 : Nat} {a1 : Int32} {v : Int32} {h' : Hp} (hD : 3 ≤ d) (H : f_X9_hasTwinAhead h a0 a1 = some (v, h')) : PM X mX9_hasTwinAhead d [.ref a0, .int a1] h (some (.int v)) h' := by
  unfold f_X9_hasTwinAhead at H
  refine PM.of (loc := [some (.ref a0), some (.int a1), none]) (by decide) rfl (Nat.le_of_ble_eq_true rfl) ?_
  refine ev_iconst (v := (0 : Int32)) dX9_hasTwinAhead_0 (by decide) ?_
  refine ev_istore_n (loc2 := [some (.ref a0), some (.int a1), some (.int (0 : Int32))]) dX9_hasTwinAhead_1 rfl (by decide) rfl ?_
  refine t_X9_hasTwinAhead_L2 hD  6000 a0 a1 (0 : Int32) h H

theorem dX9_kinds_0 : decode cX9_kinds 0 = .ok (.iconst 0, 1) := by decide +kernel
theorem dX9_kinds_1 : decode cX9_kinds 1 = .ok (.istore_n 1, 1) := by decide +kernel
theorem dX9_kinds_2 : decode cX9_kinds 2 = .ok (.iconst 0, 1) := by decide +kernel
theorem dX9_kinds_3 : decode cX9_kinds 3 = .ok (.istore_n 2, 1) := by decide +kernel
theorem dX9_kinds_4 : decode cX9_kinds 4 = .ok (.iload_n 2, 1) := by decide +kernel
theorem dX9_kinds_5 : decode cX9_kinds 5 = .ok (.bipush 60, 2) := by decide +kernel
theorem dX9_kinds_7 : decode cX9_kinds 7 = .ok (.if_icmp .ge 28, 3) := by decide +kernel
theorem dX9_kinds_10 : decode cX9_kinds 10 = .ok (.aload_n 0, 1) := by decide +kernel
theorem dX9_kinds_11 : decode cX9_kinds 11 = .ok (.iload_n 2, 1) := by decide +kernel
theorem dX9_kinds_12 : decode cX9_kinds 12 = .ok (.invokevirtual 272, 3) := by decide +kernel
theorem dX9_kinds_15 : decode cX9_kinds 15 = .ok (.ifCond .eq 14, 3) := by decide +kernel
theorem dX9_kinds_18 : decode cX9_kinds 18 = .ok (.aload_n 0, 1) := by decide +kernel
theorem dX9_kinds_19 : decode cX9_kinds 19 = .ok (.iload_n 2, 1) := by decide +kernel
theorem dX9_kinds_20 : decode cX9_kinds 20 = .ok (.invokevirtual 281, 3) := by decide +kernel
theorem dX9_kinds_23 : decode cX9_kinds 23 = .ok (.ifCond .ne 6, 3) := by decide +kernel
theorem dX9_kinds_26 : decode cX9_kinds 26 = .ok (.iinc 1 1, 3) := by decide +kernel
theorem dX9_kinds_29 : decode cX9_kinds 29 = .ok (.iinc 2 1, 3) := by decide +kernel
theorem dX9_kinds_32 : decode cX9_kinds 32 = .ok (.goto (-28), 3) := by decide +kernel
theorem dX9_kinds_35 : decode cX9_kinds 35 = .ok (.iload_n 1, 1) := by decide +kernel
theorem dX9_kinds_36 : decode cX9_kinds 36 = .ok (.ireturn, 1) := by decide +kernel
def f_X9_kinds_L4 : Nat → Nat → Int32 → Int32 → Hp → Option (Int32 × Hp)
  | 0, _, _, _, _ => none
  | n + 1, l0, l1, l2, h =>
    if (60 : Int32) ≤ l2 then (
    some (l1, h)) else (
    gd (okOb h l0 9) <|
    bnd (f_X9_isBook h l0 l2) fun v3 h4 =>
    if v3 = 0 then (
    vl (l2 + (1 : Int32)) fun x6 =>
    f_X9_kinds_L4 n l0 l1 x6 h4) else (
    bnd (f_X9_hasTwinAhead h4 l0 l2) fun v7 h8 =>
    if v7 = 0 then (
    vl (l1 + (1 : Int32)) fun x11 =>
    vl (l2 + (1 : Int32)) fun x12 =>
    f_X9_kinds_L4 n l0 x11 x12 h8) else (
    vl (l2 + (1 : Int32)) fun x10 =>
    f_X9_kinds_L4 n l0 l1 x10 h8)))
set_option maxHeartbeats 4000000 in
set_option maxRecDepth 100000 in
theorem t_X9_kinds_L4 {X : Cx} {d : Nat} {h0 h' : Hp} {v : Int32} (hD : 4 ≤ d) : ∀ (n : Nat) (l0 : Nat) (l1 : Int32) (l2 : Int32) (h : Hp), f_X9_kinds_L4 n l0 l1 l2 h = some (v, h') → EV X mX9_kinds d h0 (some (.int v)) h' 4 [some (.ref l0), some (.int l1), some (.int l2)] [] h := by
  intro n
  induction n with
  | zero => intro l0 l1 l2 h H; simp [f_X9_kinds_L4] at H
  | succ n ih =>
    intro l0 l1 l2 h H
    rw [f_X9_kinds_L4] at H
    refine ev_iload_n dX9_kinds_4 rfl rfl ?_
    refine ev_bipush (v := (60 : Int32)) dX9_kinds_5 (by decide) ?_
    refine ev_icmp_ge (tgt := 35) dX9_kinds_7 (by decide) (fun c1 => ?_) (fun c1 => ?_)
    · rw [if_pos c1] at H
      refine ev_iload_n dX9_kinds_35 rfl rfl ?_
      exact ev_iretx dX9_kinds_36 rfl rfl H
    · rw [if_neg c1] at H
      refine ev_aload_n dX9_kinds_10 rfl rfl rfl ?_
      refine ev_iload_n dX9_kinds_11 rfl rfl ?_
      replace H := gd_some H
      obtain ⟨g2, H⟩ := H
      replace H := bnd_some H
      obtain ⟨v3, h4, eh4, H⟩ := H
      have ph4 := (t_X9_isBook (X := X) (d := 2) (by omega) eh4)
      refine ev_callV (as := [.int l2]) dX9_kinds_12 ph4 ok_X9_isBook (by omega) rfl k3_134 k3_136 ks_5 (ci := 9) (by decide) rfl rfl (okOb.p g2) rfl (Nat.le_of_ble_eq_true rfl) ?_
      refine ev_if_eq (tgt := 29) dX9_kinds_15 (by decide) (fun c5 => ?_) (fun c5 => ?_)
      · rw [if_pos c5] at H
        replace H := vl_some H
        obtain ⟨x6, ex6, H⟩ := H
        refine ev_iincx (loc2 := [some (.ref l0), some (.int l1), some (.int x6)]) dX9_kinds_29 rfl (by decide) ex6 (by decide) rfl ?_
        refine ev_goto (tgt := 4) dX9_kinds_32 (by decide) ?_
        exact ih l0 l1 x6 h4 H
      · rw [if_neg c5] at H
        refine ev_aload_n dX9_kinds_18 rfl rfl rfl ?_
        refine ev_iload_n dX9_kinds_19 rfl rfl ?_
        replace H := bnd_some H
        obtain ⟨v7, h8, eh8, H⟩ := H
        have ph8 := (t_X9_hasTwinAhead (X := X) (d := 3) (by omega) eh8)
        refine ev_callV (as := [.int l2]) dX9_kinds_20 ph8 ok_X9_hasTwinAhead (by omega) rfl k3_162 k3_164 ks_7 (ci := 9) (by decide) rfl rfl (okO_ext ph4.1 (okOb.p g2)) rfl (Nat.le_of_ble_eq_true rfl) ?_
        refine ev_if_ne (tgt := 29) dX9_kinds_23 (by decide) (fun c9 => ?_) (fun c9 => ?_)
        · rw [if_neg c9] at H
          replace H := vl_some H
          obtain ⟨x10, ex10, H⟩ := H
          refine ev_iincx (loc2 := [some (.ref l0), some (.int l1), some (.int x10)]) dX9_kinds_29 rfl (by decide) ex10 (by decide) rfl ?_
          refine ev_goto (tgt := 4) dX9_kinds_32 (by decide) ?_
          exact ih l0 l1 x10 h8 H
        · rw [if_pos c9] at H
          replace H := vl_some H
          obtain ⟨x11, ex11, H⟩ := H
          refine ev_iincx (loc2 := [some (.ref l0), some (.int x11), some (.int l2)]) dX9_kinds_26 rfl (by decide) ex11 (by decide) rfl ?_
          replace H := vl_some H
          obtain ⟨x12, ex12, H⟩ := H
          refine ev_iincx (loc2 := [some (.ref l0), some (.int x11), some (.int x12)]) dX9_kinds_29 rfl (by decide) ex12 (by decide) rfl ?_
          refine ev_goto (tgt := 4) dX9_kinds_32 (by decide) ?_
          exact ih l0 x11 x12 h8 H
def f_X9_kinds (h : Hp) (a0 : Nat) : Option (Int32 × Hp) :=
f_X9_kinds_L4 6000 a0 (0 : Int32) (0 : Int32) h
set_option maxHeartbeats 4000000 in
set_option maxRecDepth 100000 in
theorem t_X9_kinds {X : Cx} {d : Nat} {h : Hp} {a0 : Nat} {v : Int32} {h' : Hp} (hD : 4 ≤ d) (H : f_X9_kinds h a0 = some (v, h')) : PM X mX9_kinds d [.ref a0] h (some (.int v)) h' := by
  unfold f_X9_kinds at H
  refine PM.of (loc := [some (.ref a0), none, none]) (by decide) rfl (Nat.le_of_ble_eq_true rfl) ?_
  refine ev_iconst (v := (0 : Int32)) dX9_kinds_0 (by decide) ?_
  refine ev_istore_n (loc2 := [some (.ref a0), some (.int (0 : Int32)), none]) dX9_kinds_1 rfl (by decide) rfl ?_
  refine ev_iconst (v := (0 : Int32)) dX9_kinds_2 (by decide) ?_
  refine ev_istore_n (loc2 := [some (.ref a0), some (.int (0 : Int32)), some (.int (0 : Int32))]) dX9_kinds_3 rfl (by decide) rfl ?_
  refine t_X9_kinds_L4 hD  6000 a0 (0 : Int32) (0 : Int32) h H

theorem dX9_seen_0 : decode cX9_seen 0 = .ok (.iload_n 1, 1) := by decide +kernel
theorem dX9_seen_1 : decode cX9_seen 1 = .ok (.ifCond .lt 19, 3) := by decide +kernel
theorem dX9_seen_4 : decode cX9_seen 4 = .ok (.iload_n 1, 1) := by decide +kernel
theorem dX9_seen_5 : decode cX9_seen 5 = .ok (.bipush 6, 2) := by decide +kernel
theorem dX9_seen_7 : decode cX9_seen 7 = .ok (.if_icmp .ge 13, 3) := by decide +kernel
theorem dX9_seen_10 : decode cX9_seen 10 = .ok (.iload_n 2, 1) := by decide +kernel
theorem dX9_seen_11 : decode cX9_seen 11 = .ok (.ifCond .lt 9, 3) := by decide +kernel
theorem dX9_seen_14 : decode cX9_seen 14 = .ok (.iload_n 2, 1) := by decide +kernel
theorem dX9_seen_15 : decode cX9_seen 15 = .ok (.bipush 12, 2) := by decide +kernel
theorem dX9_seen_17 : decode cX9_seen 17 = .ok (.if_icmp .lt 6, 3) := by decide +kernel
theorem dX9_seen_20 : decode cX9_seen 20 = .ok (.bipush (-5), 2) := by decide +kernel
theorem dX9_seen_22 : decode cX9_seen 22 = .ok (.ireturn, 1) := by decide +kernel
theorem dX9_seen_23 : decode cX9_seen 23 = .ok (.iload_n 3, 1) := by decide +kernel
theorem dX9_seen_24 : decode cX9_seen 24 = .ok (.iconst (-1), 1) := by decide +kernel
theorem dX9_seen_25 : decode cX9_seen 25 = .ok (.if_icmp .lt 9, 3) := by decide +kernel
theorem dX9_seen_28 : decode cX9_seen 28 = .ok (.iload_n 3, 1) := by decide +kernel
theorem dX9_seen_29 : decode cX9_seen 29 = .ok (.bipush 9, 2) := by decide +kernel
theorem dX9_seen_31 : decode cX9_seen 31 = .ok (.if_icmp .le 6, 3) := by decide +kernel
theorem dX9_seen_34 : decode cX9_seen 34 = .ok (.bipush (-2), 2) := by decide +kernel
theorem dX9_seen_36 : decode cX9_seen 36 = .ok (.ireturn, 1) := by decide +kernel
theorem dX9_seen_37 : decode cX9_seen 37 = .ok (.aload_n 0, 1) := by decide +kernel
theorem dX9_seen_38 : decode cX9_seen 38 = .ok (.getfield 55, 3) := by decide +kernel
theorem dX9_seen_41 : decode cX9_seen 41 = .ok (.iload_n 1, 1) := by decide +kernel
theorem dX9_seen_42 : decode cX9_seen 42 = .ok (.iload_n 2, 1) := by decide +kernel
theorem dX9_seen_43 : decode cX9_seen 43 = .ok (.iload_n 3, 1) := by decide +kernel
theorem dX9_seen_44 : decode cX9_seen 44 = .ok (.invokevirtual 284, 3) := by decide +kernel
theorem dX9_seen_47 : decode cX9_seen 47 = .ok (.ireturn, 1) := by decide +kernel
def f_X9_seen (h : Hp) (a0 : Nat) (a1 : Int32) (a2 : Int32) (a3 : Int32) : Option (Int32 × Hp) :=
if a1 < 0 then (
some ((-5 : Int32), h)) else (
if (6 : Int32) ≤ a1 then (
some ((-5 : Int32), h)) else (
if a2 < 0 then (
some ((-5 : Int32), h)) else (
if a2 < (12 : Int32) then (
if a3 < (-1 : Int32) then (
some ((-2 : Int32), h)) else (
if a3 ≤ (9 : Int32) then (
gd (okOb h a0 9) <|
vl (gR h a0 11) fun r8 =>
un r8 fun b9 =>
gd (okOb h b9 0) <|
bnd (f_X0_replaceWear h b9 a1 a2 a3) fun v11 h12 =>
some (v11, h12)) else (
some ((-2 : Int32), h)))) else (
some ((-5 : Int32), h)))))
set_option maxHeartbeats 4000000 in
set_option maxRecDepth 100000 in
theorem t_X9_seen {X : Cx} {d : Nat} {h : Hp} {a0 : Nat} {a1 : Int32} {a2 : Int32} {a3 : Int32} {v : Int32} {h' : Hp} (hD : 2 ≤ d) (H : f_X9_seen h a0 a1 a2 a3 = some (v, h')) : PM X mX9_seen d [.ref a0, .int a1, .int a2, .int a3] h (some (.int v)) h' := by
  unfold f_X9_seen at H
  refine PM.of (loc := [some (.ref a0), some (.int a1), some (.int a2), some (.int a3)]) (by decide) rfl (Nat.le_of_ble_eq_true rfl) ?_
  refine ev_iload_n dX9_seen_0 rfl rfl ?_
  refine ev_if_lt (tgt := 20) dX9_seen_1 (by decide) (fun c1 => ?_) (fun c1 => ?_)
  · rw [if_pos c1] at H
    refine ev_bipush (v := (-5 : Int32)) dX9_seen_20 (by decide) ?_
    exact ev_iretx dX9_seen_22 rfl rfl H
  · rw [if_neg c1] at H
    refine ev_iload_n dX9_seen_4 rfl rfl ?_
    refine ev_bipush (v := (6 : Int32)) dX9_seen_5 (by decide) ?_
    refine ev_icmp_ge (tgt := 20) dX9_seen_7 (by decide) (fun c2 => ?_) (fun c2 => ?_)
    · rw [if_pos c2] at H
      refine ev_bipush (v := (-5 : Int32)) dX9_seen_20 (by decide) ?_
      exact ev_iretx dX9_seen_22 rfl rfl H
    · rw [if_neg c2] at H
      refine ev_iload_n dX9_seen_10 rfl rfl ?_
      refine ev_if_lt (tgt := 20) dX9_seen_11 (by decide) (fun c3 => ?_) (fun c3 => ?_)
      · rw [if_pos c3] at H
        refine ev_bipush (v := (-5 : Int32)) dX9_seen_20 (by decide) ?_
        exact ev_iretx dX9_seen_22 rfl rfl H
      · rw [if_neg c3] at H
        refine ev_iload_n dX9_seen_14 rfl rfl ?_
        refine ev_bipush (v := (12 : Int32)) dX9_seen_15 (by decide) ?_
        refine ev_icmp_lt (tgt := 23) dX9_seen_17 (by decide) (fun c4 => ?_) (fun c4 => ?_)
        · rw [if_pos c4] at H
          refine ev_iload_n dX9_seen_23 rfl rfl ?_
          refine ev_iconst (v := (-1 : Int32)) dX9_seen_24 (by decide) ?_
          refine ev_icmp_lt (tgt := 34) dX9_seen_25 (by decide) (fun c5 => ?_) (fun c5 => ?_)
          · rw [if_pos c5] at H
            refine ev_bipush (v := (-2 : Int32)) dX9_seen_34 (by decide) ?_
            exact ev_iretx dX9_seen_36 rfl rfl H
          · rw [if_neg c5] at H
            refine ev_iload_n dX9_seen_28 rfl rfl ?_
            refine ev_bipush (v := (9 : Int32)) dX9_seen_29 (by decide) ?_
            refine ev_icmp_le (tgt := 37) dX9_seen_31 (by decide) (fun c6 => ?_) (fun c6 => ?_)
            · rw [if_pos c6] at H
              refine ev_aload_n dX9_seen_37 rfl rfl rfl ?_
              replace H := gd_some H
              obtain ⟨g7, H⟩ := H
              replace H := vl_some H
              obtain ⟨r8, er8, H⟩ := H
              refine ev_getRx dX9_seen_38 fgX9_55 rfl (okOb.p g7) er8 ?_
              refine ev_iload_n dX9_seen_41 rfl rfl ?_
              refine ev_iload_n dX9_seen_42 rfl rfl ?_
              refine ev_iload_n dX9_seen_43 rfl rfl ?_
              replace H := un_some H
              obtain ⟨b9, eb9, H⟩ := H
              subst eb9
              replace H := gd_some H
              obtain ⟨g10, H⟩ := H
              replace H := bnd_some H
              obtain ⟨v11, h12, eh12, H⟩ := H
              have ph12 := (t_X0_replaceWear (X := X) (d := 1) (by omega) eh12)
              refine ev_callV (as := [.int a1, .int a2, .int a3]) dX9_seen_44 ph12 ok_X0_replaceWear (by omega) rfl k3_170 k3_171 k3_172 (ci := 0) (by decide) rfl rfl (okOb.p g10) rfl (Nat.le_of_ble_eq_true rfl) ?_
              exact ev_iretx dX9_seen_47 rfl rfl H
            · rw [if_neg c6] at H
              refine ev_bipush (v := (-2 : Int32)) dX9_seen_34 (by decide) ?_
              exact ev_iretx dX9_seen_36 rfl rfl H
        · rw [if_neg c4] at H
          refine ev_bipush (v := (-5 : Int32)) dX9_seen_20 (by decide) ?_
          exact ev_iretx dX9_seen_22 rfl rfl H

theorem dX9_order_0 : decode cX9_order 0 = .ok (.iload_n 1, 1) := by decide +kernel
theorem dX9_order_1 : decode cX9_order 1 = .ok (.invokestatic 288, 3) := by decide +kernel
theorem dX9_order_4 : decode cX9_order 4 = .ok (.istore_n 2, 1) := by decide +kernel
theorem dX9_order_5 : decode cX9_order 5 = .ok (.iload_n 1, 1) := by decide +kernel
theorem dX9_order_6 : decode cX9_order 6 = .ok (.bipush 12, 2) := by decide +kernel
theorem dX9_order_8 : decode cX9_order 8 = .ok (.ishr, 1) := by decide +kernel
theorem dX9_order_9 : decode cX9_order 9 = .ok (.ifCond .ne 14, 3) := by decide +kernel
theorem dX9_order_12 : decode cX9_order 12 = .ok (.iload_n 2, 1) := by decide +kernel
theorem dX9_order_13 : decode cX9_order 13 = .ok (.iconst 1, 1) := by decide +kernel
theorem dX9_order_14 : decode cX9_order 14 = .ok (.if_icmp .lt 9, 3) := by decide +kernel
theorem dX9_order_17 : decode cX9_order 17 = .ok (.iload_n 2, 1) := by decide +kernel
theorem dX9_order_18 : decode cX9_order 18 = .ok (.bipush 7, 2) := by decide +kernel
theorem dX9_order_20 : decode cX9_order 20 = .ok (.if_icmp .le 6, 3) := by decide +kernel
theorem dX9_order_23 : decode cX9_order 23 = .ok (.bipush (-2), 2) := by decide +kernel
theorem dX9_order_25 : decode cX9_order 25 = .ok (.ireturn, 1) := by decide +kernel
theorem dX9_order_26 : decode cX9_order 26 = .ok (.aload_n 0, 1) := by decide +kernel
theorem dX9_order_27 : decode cX9_order 27 = .ok (.getfield 55, 3) := by decide +kernel
theorem dX9_order_30 : decode cX9_order 30 = .ok (.iload_n 1, 1) := by decide +kernel
theorem dX9_order_31 : decode cX9_order 31 = .ok (.invokevirtual 293, 3) := by decide +kernel
theorem dX9_order_34 : decode cX9_order 34 = .ok (.ireturn, 1) := by decide +kernel
def f_X9_order (h : Hp) (a0 : Nat) (a1 : Int32) : Option (Int32 × Hp) :=
bnd (f_J6_bitCount_0f7a4 h a1) fun v1 h2 =>
if (a1 >>> ((12 : Int32) &&& 31)) = 0 then (
if v1 < (1 : Int32) then (
some ((-2 : Int32), h2)) else (
if v1 ≤ (7 : Int32) then (
gd (okOb h2 a0 9) <|
vl (gR h2 a0 11) fun r7 =>
un r7 fun b8 =>
gd (okOb h2 b8 0) <|
bnd (f_X0_findOrder h2 b8 a1) fun v10 h11 =>
some (v10, h11)) else (
some ((-2 : Int32), h2)))) else (
some ((-2 : Int32), h2))
set_option maxHeartbeats 4000000 in
set_option maxRecDepth 100000 in
theorem t_X9_order {X : Cx} {d : Nat} {h : Hp} {a0 : Nat} {a1 : Int32} {v : Int32} {h' : Hp} (hD : 5 ≤ d) (H : f_X9_order h a0 a1 = some (v, h')) : PM X mX9_order d [.ref a0, .int a1] h (some (.int v)) h' := by
  unfold f_X9_order at H
  refine PM.of (loc := [some (.ref a0), some (.int a1), none]) (by decide) rfl (Nat.le_of_ble_eq_true rfl) ?_
  refine ev_iload_n dX9_order_0 rfl rfl ?_
  replace H := bnd_some H
  obtain ⟨v1, h2, eh2, H⟩ := H
  have ph2 := (t_J6_bitCount_0f7a4 (X := X) (d := 1) (by omega) eh2)
  refine ev_callS (as := [.int a1]) dX9_order_1 ph2 ok_J6_bitCount_0f7a4 (by omega) rfl k3_178 k3_179 rfl (Nat.le_of_ble_eq_true rfl) ?_
  refine ev_istore_n (loc2 := [some (.ref a0), some (.int a1), some (.int v1)]) dX9_order_4 rfl (by decide) rfl ?_
  refine ev_iload_n dX9_order_5 rfl rfl ?_
  refine ev_bipush (v := (12 : Int32)) dX9_order_6 (by decide) ?_
  refine ev_ishr dX9_order_8 ?_
  refine ev_if_ne (tgt := 23) dX9_order_9 (by decide) (fun c3 => ?_) (fun c3 => ?_)
  · rw [if_neg c3] at H
    refine ev_bipush (v := (-2 : Int32)) dX9_order_23 (by decide) ?_
    exact ev_iretx dX9_order_25 rfl rfl H
  · rw [if_pos c3] at H
    refine ev_iload_n dX9_order_12 rfl rfl ?_
    refine ev_iconst (v := (1 : Int32)) dX9_order_13 (by decide) ?_
    refine ev_icmp_lt (tgt := 23) dX9_order_14 (by decide) (fun c4 => ?_) (fun c4 => ?_)
    · rw [if_pos c4] at H
      refine ev_bipush (v := (-2 : Int32)) dX9_order_23 (by decide) ?_
      exact ev_iretx dX9_order_25 rfl rfl H
    · rw [if_neg c4] at H
      refine ev_iload_n dX9_order_17 rfl rfl ?_
      refine ev_bipush (v := (7 : Int32)) dX9_order_18 (by decide) ?_
      refine ev_icmp_le (tgt := 26) dX9_order_20 (by decide) (fun c5 => ?_) (fun c5 => ?_)
      · rw [if_pos c5] at H
        refine ev_aload_n dX9_order_26 rfl rfl rfl ?_
        replace H := gd_some H
        obtain ⟨g6, H⟩ := H
        replace H := vl_some H
        obtain ⟨r7, er7, H⟩ := H
        refine ev_getRx dX9_order_27 fgX9_55 rfl (okOb.p g6) er7 ?_
        refine ev_iload_n dX9_order_30 rfl rfl ?_
        replace H := un_some H
        obtain ⟨b8, eb8, H⟩ := H
        subst eb8
        replace H := gd_some H
        obtain ⟨g9, H⟩ := H
        replace H := bnd_some H
        obtain ⟨v10, h11, eh11, H⟩ := H
        have ph11 := (t_X0_findOrder (X := X) (d := 4) (by omega) eh11)
        refine ev_callV (as := [.int a1]) dX9_order_31 ph11 ok_X0_findOrder (by omega) rfl k3_184 k3_185 k3_186 (ci := 0) (by decide) rfl rfl (okOb.p g9) rfl (Nat.le_of_ble_eq_true rfl) ?_
        exact ev_iretx dX9_order_34 rfl rfl H
      · rw [if_neg c5] at H
        refine ev_bipush (v := (-2 : Int32)) dX9_order_23 (by decide) ?_
        exact ev_iretx dX9_order_25 rfl rfl H
