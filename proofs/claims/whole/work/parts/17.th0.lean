theorem dX9_init_0 : decode cX9_init 0 = .ok (.aload_n 0, 1) := by decide +kernel
theorem dX9_init_1 : decode cX9_init 1 = .ok (.invokespecial 1, 3) := by decide +kernel
theorem dX9_init_4 : decode cX9_init 4 = .ok (.aload_n 0, 1) := by decide +kernel
theorem dX9_init_5 : decode cX9_init 5 = .ok (.new 7, 3) := by decide +kernel
theorem dX9_init_8 : decode cX9_init 8 = .ok (.dup, 1) := by decide +kernel
theorem dX9_init_9 : decode cX9_init 9 = .ok (.invokespecial 9, 3) := by decide +kernel
theorem dX9_init_12 : decode cX9_init 12 = .ok (.putfield 10, 3) := by decide +kernel
theorem dX9_init_15 : decode cX9_init 15 = .ok (.aload_n 0, 1) := by decide +kernel
theorem dX9_init_16 : decode cX9_init 16 = .ok (.bipush 26, 2) := by decide +kernel
theorem dX9_init_18 : decode cX9_init 18 = .ok (.newarray .int, 2) := by decide +kernel
theorem dX9_init_20 : decode cX9_init 20 = .ok (.putfield 16, 3) := by decide +kernel
theorem dX9_init_23 : decode cX9_init 23 = .ok (.aload_n 0, 1) := by decide +kernel
theorem dX9_init_24 : decode cX9_init 24 = .ok (.bipush 26, 2) := by decide +kernel
theorem dX9_init_26 : decode cX9_init 26 = .ok (.newarray .int, 2) := by decide +kernel
theorem dX9_init_28 : decode cX9_init 28 = .ok (.putfield 20, 3) := by decide +kernel
theorem dX9_init_31 : decode cX9_init 31 = .ok (.aload_n 0, 1) := by decide +kernel
theorem dX9_init_32 : decode cX9_init 32 = .ok (.bipush 48, 2) := by decide +kernel
theorem dX9_init_34 : decode cX9_init 34 = .ok (.anewarray 23, 3) := by decide +kernel
theorem dX9_init_37 : decode cX9_init 37 = .ok (.putfield 25, 3) := by decide +kernel
theorem dX9_init_40 : decode cX9_init 40 = .ok (.aload_n 0, 1) := by decide +kernel
theorem dX9_init_41 : decode cX9_init 41 = .ok (.iconst 3, 1) := by decide +kernel
theorem dX9_init_42 : decode cX9_init 42 = .ok (.anewarray 29, 3) := by decide +kernel
theorem dX9_init_45 : decode cX9_init 45 = .ok (.putfield 31, 3) := by decide +kernel
theorem dX9_init_48 : decode cX9_init 48 = .ok (.aload_n 0, 1) := by decide +kernel
theorem dX9_init_49 : decode cX9_init 49 = .ok (.bipush 6, 2) := by decide +kernel
theorem dX9_init_51 : decode cX9_init 51 = .ok (.anewarray 35, 3) := by decide +kernel
theorem dX9_init_54 : decode cX9_init 54 = .ok (.putfield 37, 3) := by decide +kernel
theorem dX9_init_57 : decode cX9_init 57 = .ok (.aload_n 0, 1) := by decide +kernel
theorem dX9_init_58 : decode cX9_init 58 = .ok (.iconst 4, 1) := by decide +kernel
theorem dX9_init_59 : decode cX9_init 59 = .ok (.newarray .boolean, 2) := by decide +kernel
theorem dX9_init_61 : decode cX9_init 61 = .ok (.putfield 41, 3) := by decide +kernel
theorem dX9_init_64 : decode cX9_init 64 = .ok (.aload_n 0, 1) := by decide +kernel
theorem dX9_init_65 : decode cX9_init 65 = .ok (.new 45, 3) := by decide +kernel
theorem dX9_init_68 : decode cX9_init 68 = .ok (.dup, 1) := by decide +kernel
theorem dX9_init_69 : decode cX9_init 69 = .ok (.invokespecial 47, 3) := by decide +kernel
theorem dX9_init_72 : decode cX9_init 72 = .ok (.putfield 48, 3) := by decide +kernel
theorem dX9_init_75 : decode cX9_init 75 = .ok (.aload_n 0, 1) := by decide +kernel
theorem dX9_init_76 : decode cX9_init 76 = .ok (.new 52, 3) := by decide +kernel
theorem dX9_init_79 : decode cX9_init 79 = .ok (.dup, 1) := by decide +kernel
theorem dX9_init_80 : decode cX9_init 80 = .ok (.invokespecial 54, 3) := by decide +kernel
theorem dX9_init_83 : decode cX9_init 83 = .ok (.putfield 55, 3) := by decide +kernel
theorem dX9_init_86 : decode cX9_init 86 = .ok (.aload_n 0, 1) := by decide +kernel
theorem dX9_init_87 : decode cX9_init 87 = .ok (.new 59, 3) := by decide +kernel
theorem dX9_init_90 : decode cX9_init 90 = .ok (.dup, 1) := by decide +kernel
theorem dX9_init_91 : decode cX9_init 91 = .ok (.invokespecial 61, 3) := by decide +kernel
theorem dX9_init_94 : decode cX9_init 94 = .ok (.putfield 62, 3) := by decide +kernel
theorem dX9_init_97 : decode cX9_init 97 = .ok (.aload_n 0, 1) := by decide +kernel
theorem dX9_init_98 : decode cX9_init 98 = .ok (.new 66, 3) := by decide +kernel
theorem dX9_init_101 : decode cX9_init 101 = .ok (.dup, 1) := by decide +kernel
theorem dX9_init_102 : decode cX9_init 102 = .ok (.invokespecial 68, 3) := by decide +kernel
theorem dX9_init_105 : decode cX9_init 105 = .ok (.putfield 69, 3) := by decide +kernel
theorem dX9_init_108 : decode cX9_init 108 = .ok (.aload_n 0, 1) := by decide +kernel
theorem dX9_init_109 : decode cX9_init 109 = .ok (.getfield 31, 3) := by decide +kernel
theorem dX9_init_112 : decode cX9_init 112 = .ok (.iconst 0, 1) := by decide +kernel
theorem dX9_init_113 : decode cX9_init 113 = .ok (.new 29, 3) := by decide +kernel
theorem dX9_init_116 : decode cX9_init 116 = .ok (.dup, 1) := by decide +kernel
theorem dX9_init_117 : decode cX9_init 117 = .ok (.iconst 2, 1) := by decide +kernel
theorem dX9_init_118 : decode cX9_init 118 = .ok (.iconst 1, 1) := by decide +kernel
theorem dX9_init_119 : decode cX9_init 119 = .ok (.invokespecial 73, 3) := by decide +kernel
theorem dX9_init_122 : decode cX9_init 122 = .ok (.aastore, 1) := by decide +kernel
theorem dX9_init_123 : decode cX9_init 123 = .ok (.aload_n 0, 1) := by decide +kernel
theorem dX9_init_124 : decode cX9_init 124 = .ok (.getfield 31, 3) := by decide +kernel
theorem dX9_init_127 : decode cX9_init 127 = .ok (.iconst 1, 1) := by decide +kernel
theorem dX9_init_128 : decode cX9_init 128 = .ok (.new 29, 3) := by decide +kernel
theorem dX9_init_131 : decode cX9_init 131 = .ok (.dup, 1) := by decide +kernel
theorem dX9_init_132 : decode cX9_init 132 = .ok (.iconst 2, 1) := by decide +kernel
theorem dX9_init_133 : decode cX9_init 133 = .ok (.iconst 2, 1) := by decide +kernel
theorem dX9_init_134 : decode cX9_init 134 = .ok (.invokespecial 73, 3) := by decide +kernel
theorem dX9_init_137 : decode cX9_init 137 = .ok (.aastore, 1) := by decide +kernel
theorem dX9_init_138 : decode cX9_init 138 = .ok (.aload_n 0, 1) := by decide +kernel
theorem dX9_init_139 : decode cX9_init 139 = .ok (.getfield 31, 3) := by decide +kernel
theorem dX9_init_142 : decode cX9_init 142 = .ok (.iconst 2, 1) := by decide +kernel
theorem dX9_init_143 : decode cX9_init 143 = .ok (.new 29, 3) := by decide +kernel
theorem dX9_init_146 : decode cX9_init 146 = .ok (.dup, 1) := by decide +kernel
theorem dX9_init_147 : decode cX9_init 147 = .ok (.iconst 4, 1) := by decide +kernel
theorem dX9_init_148 : decode cX9_init 148 = .ok (.iconst 2, 1) := by decide +kernel
theorem dX9_init_149 : decode cX9_init 149 = .ok (.invokespecial 73, 3) := by decide +kernel
theorem dX9_init_152 : decode cX9_init 152 = .ok (.aastore, 1) := by decide +kernel
theorem dX9_init_153 : decode cX9_init 153 = .ok (.return_, 1) := by decide +kernel
def f_X9_init (h : Hp) (a0 : Nat) : Option (Unit × Hp) :=
vl (gN h) fun b1 =>
vl (nw h 8 2 0) fun h2 =>
bnd (f_X8_init h2 b1) fun u3 h4 =>
gd (okOb h4 a0 9) <|
vl (sR h4 a0 0 (some b1)) fun h6 =>
vl (gN h6) fun b7 =>
vl (nw h6 11 (26 : Int32).toNatClampNeg (26 : Int32).toNatClampNeg) fun h8 =>
vl (sR h8 a0 1 (some b7)) fun h9 =>
vl (gN h9) fun b10 =>
vl (nw h9 11 (26 : Int32).toNatClampNeg (26 : Int32).toNatClampNeg) fun h11 =>
vl (sR h11 a0 2 (some b10)) fun h12 =>
vl (gN h12) fun b13 =>
vl (nw h12 14 (48 : Int32).toNatClampNeg (48 : Int32).toNatClampNeg) fun h14 =>
vl (sR h14 a0 3 (some b13)) fun h15 =>
vl (gN h15) fun b16 =>
vl (nw h15 13 (3 : Int32).toNatClampNeg (3 : Int32).toNatClampNeg) fun h17 =>
vl (sR h17 a0 5 (some b16)) fun h18 =>
vl (gN h18) fun b19 =>
vl (nw h18 15 (6 : Int32).toNatClampNeg (6 : Int32).toNatClampNeg) fun h20 =>
vl (sR h20 a0 6 (some b19)) fun h21 =>
vl (gN h21) fun b22 =>
vl (nw h21 12 (4 : Int32).toNatClampNeg (4 : Int32).toNatClampNeg) fun h23 =>
vl (sR h23 a0 8 (some b22)) fun h24 =>
vl (gN h24) fun b25 =>
vl (nw h24 3 3 0) fun h26 =>
bnd (f_X3_init h26 b25) fun u27 h28 =>
vl (sR h28 a0 10 (some b25)) fun h29 =>
vl (gN h29) fun b30 =>
vl (nw h29 0 8 0) fun h31 =>
bnd (f_X0_init h31 b30) fun u32 h33 =>
vl (sR h33 a0 11 (some b30)) fun h34 =>
vl (gN h34) fun b35 =>
vl (nw h34 5 5 0) fun h36 =>
bnd (f_X5_init h36 b35) fun u37 h38 =>
vl (sR h38 a0 12 (some b35)) fun h39 =>
vl (gN h39) fun b40 =>
vl (nw h39 4 11 0) fun h41 =>
bnd (f_X4_init h41 b40) fun u42 h43 =>
vl (sR h43 a0 13 (some b40)) fun h44 =>
vl (gR h44 a0 5) fun r45 =>
vl (gN h44) fun b46 =>
vl (nw h44 1 4 0) fun h47 =>
bnd (f_X1_init h47 b46 (2 : Int32) (1 : Int32)) fun u48 h49 =>
un r45 fun b50 =>
gd (okAb h49 b50 13 (0 : Int32)) <|
vl (sR h49 b50 (0 : Int32).toNatClampNeg (some b46)) fun h52 =>
vl (gR h52 a0 5) fun r53 =>
vl (gN h52) fun b54 =>
vl (nw h52 1 4 0) fun h55 =>
bnd (f_X1_init h55 b54 (2 : Int32) (2 : Int32)) fun u56 h57 =>
un r53 fun b58 =>
gd (okAb h57 b58 13 (1 : Int32)) <|
vl (sR h57 b58 (1 : Int32).toNatClampNeg (some b54)) fun h60 =>
vl (gR h60 a0 5) fun r61 =>
vl (gN h60) fun b62 =>
vl (nw h60 1 4 0) fun h63 =>
bnd (f_X1_init h63 b62 (4 : Int32) (2 : Int32)) fun u64 h65 =>
un r61 fun b66 =>
gd (okAb h65 b66 13 (2 : Int32)) <|
vl (sR h65 b66 (2 : Int32).toNatClampNeg (some b62)) fun h68 =>
some ((), h68)
set_option maxHeartbeats 4000000 in
set_option maxRecDepth 100000 in
theorem t_X9_init {X : Cx} {d : Nat} {h : Hp} {a0 : Nat} {v : Unit} {h' : Hp} (hD : 4 ≤ d) (H : f_X9_init h a0 = some (v, h')) : PM X mX9_init d [.ref a0] h (none) h' := by
  unfold f_X9_init at H
  refine PM.of (loc := [some (.ref a0)]) (by decide) rfl (Nat.le_of_ble_eq_true rfl) ?_
  refine ev_aload_n dX9_init_0 rfl rfl rfl ?_
  refine ev_obj dX9_init_1 ⟨_, rfl⟩ k1_25 k1_26 k1_27 (by omega) (Nat.le_of_ble_eq_true rfl) ?_
  refine ev_aload_n dX9_init_4 rfl rfl rfl ?_
  replace H := vl_some H
  obtain ⟨b1, eb1, H⟩ := H
  replace H := vl_some H
  obtain ⟨h2, eh2, H⟩ := H
  refine ev_newx dX9_init_5 ndX9_7 eb1 eh2 ?_
  refine ev_dup dX9_init_8 rfl ?_
  replace H := bnd_some H
  obtain ⟨u3, h4, eh4, H⟩ := H
  have ph4 := (t_X8_init (X := X) (d := 1) (by omega) eh4)
  refine ev_callIN (host := RX9) (as := []) dX9_init_9 ph4 ok_X8_init (by omega) rfl (by decide) k1_31 rfl rfl rfl (Nat.le_of_ble_eq_true rfl) ?_
  replace H := gd_some H
  obtain ⟨g5, H⟩ := H
  replace H := vl_some H
  obtain ⟨h6, eh6, H⟩ := H
  refine ev_putRF (x := (some b1)) dX9_init_12 fdX9_10 rfl (Or.inl ⟨_, rfl⟩) rfl (okOb.p g5) eh6 ?_
  refine ev_aload_n dX9_init_15 rfl rfl rfl ?_
  refine ev_bipush (v := (26 : Int32)) dX9_init_16 (by decide) ?_
  replace H := vl_some H
  obtain ⟨b7, eb7, H⟩ := H
  replace H := vl_some H
  obtain ⟨h8, eh8, H⟩ := H
  refine ev_newaIx dX9_init_18 k1_44 (okN.p (by decide)) rfl eb7 eh8 ?_
  replace H := vl_some H
  obtain ⟨h9, eh9, H⟩ := H
  refine ev_putRF (x := (some b7)) dX9_init_20 fdX9_16 rfl (Or.inr ⟨_, rfl⟩) rfl (okO_nw eh8 (okO_sR eh6 (okOb.p g5))) eh9 ?_
  refine ev_aload_n dX9_init_23 rfl rfl rfl ?_
  refine ev_bipush (v := (26 : Int32)) dX9_init_24 (by decide) ?_
  replace H := vl_some H
  obtain ⟨b10, eb10, H⟩ := H
  replace H := vl_some H
  obtain ⟨h11, eh11, H⟩ := H
  refine ev_newaIx dX9_init_26 k1_44 (okN.p (by decide)) rfl eb10 eh11 ?_
  replace H := vl_some H
  obtain ⟨h12, eh12, H⟩ := H
  refine ev_putRF (x := (some b10)) dX9_init_28 fdX9_20 rfl (Or.inr ⟨_, rfl⟩) rfl (okO_nw eh11 (okO_sR eh9 (okO_nw eh8 (okO_sR eh6 (okOb.p g5))))) eh12 ?_
  refine ev_aload_n dX9_init_31 rfl rfl rfl ?_
  refine ev_bipush (v := (48 : Int32)) dX9_init_32 (by decide) ?_
  replace H := vl_some H
  obtain ⟨b13, eb13, H⟩ := H
  replace H := vl_some H
  obtain ⟨h14, eh14, H⟩ := H
  refine ev_newaRx (kd := 14) (t0 := 3) dX9_init_34 (by decide) k1_45 (by decide) (fun _ => rfl) (okN.p (by decide)) rfl eb13 eh14 ?_
  replace H := vl_some H
  obtain ⟨h15, eh15, H⟩ := H
  refine ev_putRF (x := (some b13)) dX9_init_37 fdX9_25 rfl (Or.inr ⟨_, rfl⟩) rfl (okO_nw eh14 (okO_sR eh12 (okO_nw eh11 (okO_sR eh9 (okO_nw eh8 (okO_sR eh6 (okOb.p g5))))))) eh15 ?_
  refine ev_aload_n dX9_init_40 rfl rfl rfl ?_
  refine ev_iconst (v := (3 : Int32)) dX9_init_41 (by decide) ?_
  replace H := vl_some H
  obtain ⟨b16, eb16, H⟩ := H
  replace H := vl_some H
  obtain ⟨h17, eh17, H⟩ := H
  refine ev_newaRx (kd := 13) (t0 := 2) dX9_init_42 (by decide) k1_47 (by decide) (fun _ => rfl) (okN.p (by decide)) rfl eb16 eh17 ?_
  replace H := vl_some H
  obtain ⟨h18, eh18, H⟩ := H
  refine ev_putRF (x := (some b16)) dX9_init_45 fdX9_31 rfl (Or.inr ⟨_, rfl⟩) rfl (okO_nw eh17 (okO_sR eh15 (okO_nw eh14 (okO_sR eh12 (okO_nw eh11 (okO_sR eh9 (okO_nw eh8 (okO_sR eh6 (okOb.p g5))))))))) eh18 ?_
  refine ev_aload_n dX9_init_48 rfl rfl rfl ?_
  refine ev_bipush (v := (6 : Int32)) dX9_init_49 (by decide) ?_
  replace H := vl_some H
  obtain ⟨b19, eb19, H⟩ := H
  replace H := vl_some H
  obtain ⟨h20, eh20, H⟩ := H
  refine ev_newaRx (kd := 15) (t0 := 4) dX9_init_51 (by decide) k1_49 (by decide) (fun _ => rfl) (okN.p (by decide)) rfl eb19 eh20 ?_
  replace H := vl_some H
  obtain ⟨h21, eh21, H⟩ := H
  refine ev_putRF (x := (some b19)) dX9_init_54 fdX9_37 rfl (Or.inr ⟨_, rfl⟩) rfl (okO_nw eh20 (okO_sR eh18 (okO_nw eh17 (okO_sR eh15 (okO_nw eh14 (okO_sR eh12 (okO_nw eh11 (okO_sR eh9 (okO_nw eh8 (okO_sR eh6 (okOb.p g5))))))))))) eh21 ?_
  refine ev_aload_n dX9_init_57 rfl rfl rfl ?_
  refine ev_iconst (v := (4 : Int32)) dX9_init_58 (by decide) ?_
  replace H := vl_some H
  obtain ⟨b22, eb22, H⟩ := H
  replace H := vl_some H
  obtain ⟨h23, eh23, H⟩ := H
  refine ev_newaZx dX9_init_59 k1_70 (okN.p (by decide)) rfl eb22 eh23 ?_
  replace H := vl_some H
  obtain ⟨h24, eh24, H⟩ := H
  refine ev_putRF (x := (some b22)) dX9_init_61 fdX9_41 rfl (Or.inr ⟨_, rfl⟩) rfl (okO_nw eh23 (okO_sR eh21 (okO_nw eh20 (okO_sR eh18 (okO_nw eh17 (okO_sR eh15 (okO_nw eh14 (okO_sR eh12 (okO_nw eh11 (okO_sR eh9 (okO_nw eh8 (okO_sR eh6 (okOb.p g5))))))))))))) eh24 ?_
  refine ev_aload_n dX9_init_64 rfl rfl rfl ?_
  replace H := vl_some H
  obtain ⟨b25, eb25, H⟩ := H
  replace H := vl_some H
  obtain ⟨h26, eh26, H⟩ := H
  refine ev_newx dX9_init_65 ndX9_45 eb25 eh26 ?_
  refine ev_dup dX9_init_68 rfl ?_
  replace H := bnd_some H
  obtain ⟨u27, h28, eh28, H⟩ := H
  have ph28 := (t_X3_init (X := X) (d := 1) (by omega) eh28)
  refine ev_callIN (host := RX9) (as := []) dX9_init_69 ph28 ok_X3_init (by omega) rfl (by decide) k1_54 rfl rfl rfl (Nat.le_of_ble_eq_true rfl) ?_
  replace H := vl_some H
  obtain ⟨h29, eh29, H⟩ := H
  refine ev_putRF (x := (some b25)) dX9_init_72 fdX9_48 rfl (Or.inl ⟨_, rfl⟩) rfl (okO_ext ph28.1 (okO_nw eh26 (okO_sR eh24 (okO_nw eh23 (okO_sR eh21 (okO_nw eh20 (okO_sR eh18 (okO_nw eh17 (okO_sR eh15 (okO_nw eh14 (okO_sR eh12 (okO_nw eh11 (okO_sR eh9 (okO_nw eh8 (okO_sR eh6 (okOb.p g5)))))))))))))))) eh29 ?_
  refine ev_aload_n dX9_init_75 rfl rfl rfl ?_
  replace H := vl_some H
  obtain ⟨b30, eb30, H⟩ := H
  replace H := vl_some H
  obtain ⟨h31, eh31, H⟩ := H
  refine ev_newx dX9_init_76 ndX9_52 eb30 eh31 ?_
  refine ev_dup dX9_init_79 rfl ?_
  replace H := bnd_some H
  obtain ⟨u32, h33, eh33, H⟩ := H
  have ph33 := (t_X0_init (X := X) (d := 2) (by omega) eh33)
  refine ev_callI (as := []) dX9_init_80 ph33 ok_X0_init (by omega) rfl k1_73 k1_74 rfl rfl rfl (Nat.le_of_ble_eq_true rfl) ?_
  replace H := vl_some H
  obtain ⟨h34, eh34, H⟩ := H
  refine ev_putRF (x := (some b30)) dX9_init_83 fdX9_55 rfl (Or.inl ⟨_, rfl⟩) rfl (okO_ext ph33.1 (okO_nw eh31 (okO_sR eh29 (okO_ext ph28.1 (okO_nw eh26 (okO_sR eh24 (okO_nw eh23 (okO_sR eh21 (okO_nw eh20 (okO_sR eh18 (okO_nw eh17 (okO_sR eh15 (okO_nw eh14 (okO_sR eh12 (okO_nw eh11 (okO_sR eh9 (okO_nw eh8 (okO_sR eh6 (okOb.p g5))))))))))))))))))) eh34 ?_
  refine ev_aload_n dX9_init_86 rfl rfl rfl ?_
  replace H := vl_some H
  obtain ⟨b35, eb35, H⟩ := H
  replace H := vl_some H
  obtain ⟨h36, eh36, H⟩ := H
  refine ev_newx dX9_init_87 ndX9_59 eb35 eh36 ?_
  refine ev_dup dX9_init_90 rfl ?_
  replace H := bnd_some H
  obtain ⟨u37, h38, eh38, H⟩ := H
  have ph38 := (t_X5_init (X := X) (d := 2) (by omega) eh38)
  refine ev_callI (as := []) dX9_init_91 ph38 ok_X5_init (by omega) rfl k1_110 k1_111 rfl rfl rfl (Nat.le_of_ble_eq_true rfl) ?_
  replace H := vl_some H
  obtain ⟨h39, eh39, H⟩ := H
  refine ev_putRF (x := (some b35)) dX9_init_94 fdX9_62 rfl (Or.inl ⟨_, rfl⟩) rfl (okO_ext ph38.1 (okO_nw eh36 (okO_sR eh34 (okO_ext ph33.1 (okO_nw eh31 (okO_sR eh29 (okO_ext ph28.1 (okO_nw eh26 (okO_sR eh24 (okO_nw eh23 (okO_sR eh21 (okO_nw eh20 (okO_sR eh18 (okO_nw eh17 (okO_sR eh15 (okO_nw eh14 (okO_sR eh12 (okO_nw eh11 (okO_sR eh9 (okO_nw eh8 (okO_sR eh6 (okOb.p g5)))))))))))))))))))))) eh39 ?_
  refine ev_aload_n dX9_init_97 rfl rfl rfl ?_
  replace H := vl_some H
  obtain ⟨b40, eb40, H⟩ := H
  replace H := vl_some H
  obtain ⟨h41, eh41, H⟩ := H
  refine ev_newx dX9_init_98 ndX9_66 eb40 eh41 ?_
  refine ev_dup dX9_init_101 rfl ?_
  replace H := bnd_some H
  obtain ⟨u42, h43, eh43, H⟩ := H
  have ph43 := (t_X4_init (X := X) (d := 1) (by omega) eh43)
  refine ev_callIN (host := RX9) (as := []) dX9_init_102 ph43 ok_X4_init (by omega) rfl (by decide) k1_134 rfl rfl rfl (Nat.le_of_ble_eq_true rfl) ?_
  replace H := vl_some H
  obtain ⟨h44, eh44, H⟩ := H
  refine ev_putRF (x := (some b40)) dX9_init_105 fdX9_69 rfl (Or.inl ⟨_, rfl⟩) rfl (okO_ext ph43.1 (okO_nw eh41 (okO_sR eh39 (okO_ext ph38.1 (okO_nw eh36 (okO_sR eh34 (okO_ext ph33.1 (okO_nw eh31 (okO_sR eh29 (okO_ext ph28.1 (okO_nw eh26 (okO_sR eh24 (okO_nw eh23 (okO_sR eh21 (okO_nw eh20 (okO_sR eh18 (okO_nw eh17 (okO_sR eh15 (okO_nw eh14 (okO_sR eh12 (okO_nw eh11 (okO_sR eh9 (okO_nw eh8 (okO_sR eh6 (okOb.p g5))))))))))))))))))))))))) eh44 ?_
  refine ev_aload_n dX9_init_108 rfl rfl rfl ?_
  replace H := vl_some H
  obtain ⟨r45, er45, H⟩ := H
  refine ev_getRx dX9_init_109 fgX9_31 rfl (okO_sR eh44 (okO_ext ph43.1 (okO_nw eh41 (okO_sR eh39 (okO_ext ph38.1 (okO_nw eh36 (okO_sR eh34 (okO_ext ph33.1 (okO_nw eh31 (okO_sR eh29 (okO_ext ph28.1 (okO_nw eh26 (okO_sR eh24 (okO_nw eh23 (okO_sR eh21 (okO_nw eh20 (okO_sR eh18 (okO_nw eh17 (okO_sR eh15 (okO_nw eh14 (okO_sR eh12 (okO_nw eh11 (okO_sR eh9 (okO_nw eh8 (okO_sR eh6 (okOb.p g5)))))))))))))))))))))))))) er45 ?_
  refine ev_iconst (v := (0 : Int32)) dX9_init_112 (by decide) ?_
  replace H := vl_some H
  obtain ⟨b46, eb46, H⟩ := H
  replace H := vl_some H
  obtain ⟨h47, eh47, H⟩ := H
  refine ev_newx dX9_init_113 ndX9_29 eb46 eh47 ?_
  refine ev_dup dX9_init_116 rfl ?_
  refine ev_iconst (v := (2 : Int32)) dX9_init_117 (by decide) ?_
  refine ev_iconst (v := (1 : Int32)) dX9_init_118 (by decide) ?_
  replace H := bnd_some H
  obtain ⟨u48, h49, eh49, H⟩ := H
  have ph49 := (t_X1_init (X := X) (d := 3) (by omega) eh49)
  refine ev_callI (as := [.int (2 : Int32), .int (1 : Int32)]) dX9_init_119 ph49 ok_X1_init (by omega) rfl k1_176 k1_177 rfl rfl rfl (by simp only [List.map_cons, List.map_nil, rv_cat]; exact Nat.le_of_ble_eq_true rfl) ?_
  replace H := un_some H
  obtain ⟨b50, eb50, H⟩ := H
  subst eb50
  replace H := gd_some H
  obtain ⟨g51, H⟩ := H
  replace H := vl_some H
  obtain ⟨h52, eh52, H⟩ := H
  refine ev_aast (kd := 13) (t0 := 2) (ci := 1) dX9_init_122 (by decide) rfl (by decide) (fun _ => rfl) (okO_ext ph49.1 (okO_newx eb46 eh47)) (okAb.p g51) eh52 ?_
  refine ev_aload_n dX9_init_123 rfl rfl rfl ?_
  replace H := vl_some H
  obtain ⟨r53, er53, H⟩ := H
  refine ev_getRx dX9_init_124 fgX9_31 rfl (okO_sR eh52 (okO_ext ph49.1 (okO_nw eh47 (okO_sR eh44 (okO_ext ph43.1 (okO_nw eh41 (okO_sR eh39 (okO_ext ph38.1 (okO_nw eh36 (okO_sR eh34 (okO_ext ph33.1 (okO_nw eh31 (okO_sR eh29 (okO_ext ph28.1 (okO_nw eh26 (okO_sR eh24 (okO_nw eh23 (okO_sR eh21 (okO_nw eh20 (okO_sR eh18 (okO_nw eh17 (okO_sR eh15 (okO_nw eh14 (okO_sR eh12 (okO_nw eh11 (okO_sR eh9 (okO_nw eh8 (okO_sR eh6 (okOb.p g5))))))))))))))))))))))))))))) er53 ?_
  refine ev_iconst (v := (1 : Int32)) dX9_init_127 (by decide) ?_
  replace H := vl_some H
  obtain ⟨b54, eb54, H⟩ := H
  replace H := vl_some H
  obtain ⟨h55, eh55, H⟩ := H
  refine ev_newx dX9_init_128 ndX9_29 eb54 eh55 ?_
  refine ev_dup dX9_init_131 rfl ?_
  refine ev_iconst (v := (2 : Int32)) dX9_init_132 (by decide) ?_
  refine ev_iconst (v := (2 : Int32)) dX9_init_133 (by decide) ?_
  replace H := bnd_some H
  obtain ⟨u56, h57, eh57, H⟩ := H
  have ph57 := (t_X1_init (X := X) (d := 3) (by omega) eh57)
  refine ev_callI (as := [.int (2 : Int32), .int (2 : Int32)]) dX9_init_134 ph57 ok_X1_init (by omega) rfl k1_176 k1_177 rfl rfl rfl (by simp only [List.map_cons, List.map_nil, rv_cat]; exact Nat.le_of_ble_eq_true rfl) ?_
  replace H := un_some H
  obtain ⟨b58, eb58, H⟩ := H
  subst eb58
  replace H := gd_some H
  obtain ⟨g59, H⟩ := H
  replace H := vl_some H
  obtain ⟨h60, eh60, H⟩ := H
  refine ev_aast (kd := 13) (t0 := 2) (ci := 1) dX9_init_137 (by decide) rfl (by decide) (fun _ => rfl) (okO_ext ph57.1 (okO_newx eb54 eh55)) (okAb.p g59) eh60 ?_
  refine ev_aload_n dX9_init_138 rfl rfl rfl ?_
  replace H := vl_some H
  obtain ⟨r61, er61, H⟩ := H
  refine ev_getRx dX9_init_139 fgX9_31 rfl (okO_sR eh60 (okO_ext ph57.1 (okO_nw eh55 (okO_sR eh52 (okO_ext ph49.1 (okO_nw eh47 (okO_sR eh44 (okO_ext ph43.1 (okO_nw eh41 (okO_sR eh39 (okO_ext ph38.1 (okO_nw eh36 (okO_sR eh34 (okO_ext ph33.1 (okO_nw eh31 (okO_sR eh29 (okO_ext ph28.1 (okO_nw eh26 (okO_sR eh24 (okO_nw eh23 (okO_sR eh21 (okO_nw eh20 (okO_sR eh18 (okO_nw eh17 (okO_sR eh15 (okO_nw eh14 (okO_sR eh12 (okO_nw eh11 (okO_sR eh9 (okO_nw eh8 (okO_sR eh6 (okOb.p g5)))))))))))))))))))))))))))))))) er61 ?_
  refine ev_iconst (v := (2 : Int32)) dX9_init_142 (by decide) ?_
  replace H := vl_some H
  obtain ⟨b62, eb62, H⟩ := H
  replace H := vl_some H
  obtain ⟨h63, eh63, H⟩ := H
  refine ev_newx dX9_init_143 ndX9_29 eb62 eh63 ?_
  refine ev_dup dX9_init_146 rfl ?_
  refine ev_iconst (v := (4 : Int32)) dX9_init_147 (by decide) ?_
  refine ev_iconst (v := (2 : Int32)) dX9_init_148 (by decide) ?_
  replace H := bnd_some H
  obtain ⟨u64, h65, eh65, H⟩ := H
  have ph65 := (t_X1_init (X := X) (d := 3) (by omega) eh65)
  refine ev_callI (as := [.int (4 : Int32), .int (2 : Int32)]) dX9_init_149 ph65 ok_X1_init (by omega) rfl k1_176 k1_177 rfl rfl rfl (by simp only [List.map_cons, List.map_nil, rv_cat]; exact Nat.le_of_ble_eq_true rfl) ?_
  replace H := un_some H
  obtain ⟨b66, eb66, H⟩ := H
  subst eb66
  replace H := gd_some H
  obtain ⟨g67, H⟩ := H
  replace H := vl_some H
  obtain ⟨h68, eh68, H⟩ := H
  refine ev_aast (kd := 13) (t0 := 2) (ci := 1) dX9_init_152 (by decide) rfl (by decide) (fun _ => rfl) (okO_ext ph65.1 (okO_newx eb62 eh63)) (okAb.p g67) eh68 ?_
  exact ev_vretx dX9_init_153 rfl H

theorem dX9_feed_0 : decode cX9_feed 0 = .ok (.iload_n 3, 1) := by decide +kernel
theorem dX9_feed_1 : decode cX9_feed 1 = .ok (.iconst 1, 1) := by decide +kernel
theorem dX9_feed_2 : decode cX9_feed 2 = .ok (.if_icmp .lt 9, 3) := by decide +kernel
theorem dX9_feed_5 : decode cX9_feed 5 = .ok (.iload_n 3, 1) := by decide +kernel
theorem dX9_feed_6 : decode cX9_feed 6 = .ok (.bipush 8, 2) := by decide +kernel
theorem dX9_feed_8 : decode cX9_feed 8 = .ok (.if_icmp .le 6, 3) := by decide +kernel
theorem dX9_feed_11 : decode cX9_feed 11 = .ok (.bipush (-2), 2) := by decide +kernel
theorem dX9_feed_13 : decode cX9_feed 13 = .ok (.ireturn, 1) := by decide +kernel
theorem dX9_feed_14 : decode cX9_feed 14 = .ok (.aload_n 0, 1) := by decide +kernel
theorem dX9_feed_15 : decode cX9_feed 15 = .ok (.getfield 10, 3) := by decide +kernel
theorem dX9_feed_18 : decode cX9_feed 18 = .ok (.getfield 76, 3) := by decide +kernel
theorem dX9_feed_21 : decode cX9_feed 21 = .ok (.iload_n 3, 1) := by decide +kernel
theorem dX9_feed_22 : decode cX9_feed 22 = .ok (.iadd, 1) := by decide +kernel
theorem dX9_feed_23 : decode cX9_feed 23 = .ok (.sipush 300, 3) := by decide +kernel
theorem dX9_feed_26 : decode cX9_feed 26 = .ok (.if_icmp .le 6, 3) := by decide +kernel
theorem dX9_feed_29 : decode cX9_feed 29 = .ok (.bipush (-4), 2) := by decide +kernel
theorem dX9_feed_31 : decode cX9_feed 31 = .ok (.ireturn, 1) := by decide +kernel
theorem dX9_feed_32 : decode cX9_feed 32 = .ok (.aload_n 0, 1) := by decide +kernel
theorem dX9_feed_33 : decode cX9_feed 33 = .ok (.getfield 10, 3) := by decide +kernel
theorem dX9_feed_36 : decode cX9_feed 36 = .ok (.lload_n 1, 1) := by decide +kernel
theorem dX9_feed_37 : decode cX9_feed 37 = .ok (.iload_n 3, 1) := by decide +kernel
theorem dX9_feed_38 : decode cX9_feed 38 = .ok (.invokevirtual 80, 3) := by decide +kernel
theorem dX9_feed_41 : decode cX9_feed 41 = .ok (.aload_n 0, 1) := by decide +kernel
theorem dX9_feed_42 : decode cX9_feed 42 = .ok (.getfield 10, 3) := by decide +kernel
theorem dX9_feed_45 : decode cX9_feed 45 = .ok (.getfield 76, 3) := by decide +kernel
theorem dX9_feed_48 : decode cX9_feed 48 = .ok (.ireturn, 1) := by decide +kernel
def f_X9_feed (h : Hp) (a0 : Nat) (a1 : Int64) (a3 : Int32) : Option (Int32 × Hp) :=
if a3 < (1 : Int32) then (
some ((-2 : Int32), h)) else (
if a3 ≤ (8 : Int32) then (
gd (okOb h a0 9) <|
vl (gR h a0 0) fun r4 =>
un r4 fun b5 =>
gd (okOb h b5 8) <|
vl (gI h b5 1) fun x7 =>
if (x7 + a3) ≤ (300 : Int32) then (
vl (gR h a0 0) fun r9 =>
un r9 fun b10 =>
gd (okOb h b10 8) <|
bnd (f_X8_append h b10 a1 a3) fun u12 h13 =>
vl (gR h13 a0 0) fun r14 =>
un r14 fun b15 =>
gd (okOb h13 b15 8) <|
vl (gI h13 b15 1) fun x17 =>
some (x17, h13)) else (
some ((-4 : Int32), h))) else (
some ((-2 : Int32), h)))
set_option maxHeartbeats 4000000 in
set_option maxRecDepth 100000 in
theorem t_X9_feed {X : Cx} {d : Nat} {h : Hp} {a0 : Nat} {a1 : Int64} {a3 : Int32} {v : Int32} {h' : Hp} (hD : 2 ≤ d) (H : f_X9_feed h a0 a1 a3 = some (v, h')) : PM X mX9_feed d [.ref a0, .long a1, .int a3] h (some (.int v)) h' := by
  unfold f_X9_feed at H
  refine PM.of (loc := [some (.ref a0), some (.long a1), none, some (.int a3)]) (by decide) rfl (Nat.le_of_ble_eq_true rfl) ?_
  refine ev_iload_n dX9_feed_0 rfl rfl ?_
  refine ev_iconst (v := (1 : Int32)) dX9_feed_1 (by decide) ?_
  refine ev_icmp_lt (tgt := 11) dX9_feed_2 (by decide) (fun c1 => ?_) (fun c1 => ?_)
  · rw [if_pos c1] at H
    refine ev_bipush (v := (-2 : Int32)) dX9_feed_11 (by decide) ?_
    exact ev_iretx dX9_feed_13 rfl rfl H
  · rw [if_neg c1] at H
    refine ev_iload_n dX9_feed_5 rfl rfl ?_
    refine ev_bipush (v := (8 : Int32)) dX9_feed_6 (by decide) ?_
    refine ev_icmp_le (tgt := 14) dX9_feed_8 (by decide) (fun c2 => ?_) (fun c2 => ?_)
    · rw [if_pos c2] at H
      refine ev_aload_n dX9_feed_14 rfl rfl rfl ?_
      replace H := gd_some H
      obtain ⟨g3, H⟩ := H
      replace H := vl_some H
      obtain ⟨r4, er4, H⟩ := H
      refine ev_getRx dX9_feed_15 fgX9_10 rfl (okOb.p g3) er4 ?_
      replace H := un_some H
      obtain ⟨b5, eb5, H⟩ := H
      subst eb5
      replace H := gd_some H
      obtain ⟨g6, H⟩ := H
      replace H := vl_some H
      obtain ⟨x7, ex7, H⟩ := H
      refine ev_getIx dX9_feed_18 fgX9_76 rfl (okOb.p g6) ex7 ?_
      refine ev_iload_n dX9_feed_21 rfl rfl ?_
      refine ev_iadd dX9_feed_22 ?_
      refine ev_sipush (v := (300 : Int32)) dX9_feed_23 (by decide) ?_
      refine ev_icmp_le (tgt := 32) dX9_feed_26 (by decide) (fun c8 => ?_) (fun c8 => ?_)
      · rw [if_pos c8] at H
        refine ev_aload_n dX9_feed_32 rfl rfl rfl ?_
        replace H := vl_some H
        obtain ⟨r9, er9, H⟩ := H
        refine ev_getRx dX9_feed_33 fgX9_10 rfl (okOb.p g3) er9 ?_
        refine ev_lload_n dX9_feed_36 rfl rfl ?_
        refine ev_iload_n dX9_feed_37 rfl rfl ?_
        replace H := un_some H
        obtain ⟨b10, eb10, H⟩ := H
        subst eb10
        replace H := gd_some H
        obtain ⟨g11, H⟩ := H
        replace H := bnd_some H
        obtain ⟨u12, h13, eh13, H⟩ := H
        have ph13 := (t_X8_append (X := X) (d := 1) (by omega) eh13)
        refine ev_callV (as := [.long a1, .int a3]) dX9_feed_38 ph13 ok_X8_append (by omega) rfl k2_9 k2_10 k2_11 (ci := 8) (by decide) rfl rfl (okOb.p g11) rfl (Nat.le_of_ble_eq_true rfl) ?_
        refine ev_aload_n dX9_feed_41 rfl rfl rfl ?_
        replace H := vl_some H
        obtain ⟨r14, er14, H⟩ := H
        refine ev_getRx dX9_feed_42 fgX9_10 rfl (okO_ext ph13.1 (okOb.p g3)) er14 ?_
        replace H := un_some H
        obtain ⟨b15, eb15, H⟩ := H
        subst eb15
        replace H := gd_some H
        obtain ⟨g16, H⟩ := H
        replace H := vl_some H
        obtain ⟨x17, ex17, H⟩ := H
        refine ev_getIx dX9_feed_45 fgX9_76 rfl (okOb.p g16) ex17 ?_
        exact ev_iretx dX9_feed_48 rfl rfl H
      · rw [if_neg c8] at H
        refine ev_bipush (v := (-4 : Int32)) dX9_feed_29 (by decide) ?_
        exact ev_iretx dX9_feed_31 rfl rfl H
    · rw [if_neg c2] at H
      refine ev_bipush (v := (-2 : Int32)) dX9_feed_11 (by decide) ?_
      exact ev_iretx dX9_feed_13 rfl rfl H

theorem dX9_cast_0 : decode cX9_cast 0 = .ok (.iload_n 1, 1) := by decide +kernel
theorem dX9_cast_1 : decode cX9_cast 1 = .ok (.invokestatic 84, 3) := by decide +kernel
theorem dX9_cast_4 : decode cX9_cast 4 = .ok (.ifCond .ne 5, 3) := by decide +kernel
theorem dX9_cast_7 : decode cX9_cast 7 = .ok (.iconst (-1), 1) := by decide +kernel
theorem dX9_cast_8 : decode cX9_cast 8 = .ok (.ireturn, 1) := by decide +kernel
theorem dX9_cast_9 : decode cX9_cast 9 = .ok (.iload_n 2, 1) := by decide +kernel
theorem dX9_cast_10 : decode cX9_cast 10 = .ok (.iconst 1, 1) := by decide +kernel
theorem dX9_cast_11 : decode cX9_cast 11 = .ok (.if_icmp .lt 10, 3) := by decide +kernel
theorem dX9_cast_14 : decode cX9_cast 14 = .ok (.iload_n 2, 1) := by decide +kernel
theorem dX9_cast_15 : decode cX9_cast 15 = .ok (.sipush 1000, 3) := by decide +kernel
theorem dX9_cast_18 : decode cX9_cast 18 = .ok (.if_icmp .le 6, 3) := by decide +kernel
theorem dX9_cast_21 : decode cX9_cast 21 = .ok (.bipush (-2), 2) := by decide +kernel
theorem dX9_cast_23 : decode cX9_cast 23 = .ok (.ireturn, 1) := by decide +kernel
theorem dX9_cast_24 : decode cX9_cast 24 = .ok (.aload_n 0, 1) := by decide +kernel
theorem dX9_cast_25 : decode cX9_cast 25 = .ok (.getfield 16, 3) := by decide +kernel
theorem dX9_cast_28 : decode cX9_cast 28 = .ok (.iload_n 1, 1) := by decide +kernel
theorem dX9_cast_29 : decode cX9_cast 29 = .ok (.iaload, 1) := by decide +kernel
theorem dX9_cast_30 : decode cX9_cast 30 = .ok (.iload_n 2, 1) := by decide +kernel
theorem dX9_cast_31 : decode cX9_cast 31 = .ok (.iadd, 1) := by decide +kernel
theorem dX9_cast_32 : decode cX9_cast 32 = .ok (.sipush 5000, 3) := by decide +kernel
theorem dX9_cast_35 : decode cX9_cast 35 = .ok (.if_icmp .le 6, 3) := by decide +kernel
theorem dX9_cast_38 : decode cX9_cast 38 = .ok (.bipush (-4), 2) := by decide +kernel
theorem dX9_cast_40 : decode cX9_cast 40 = .ok (.ireturn, 1) := by decide +kernel
theorem dX9_cast_41 : decode cX9_cast 41 = .ok (.aload_n 0, 1) := by decide +kernel
theorem dX9_cast_42 : decode cX9_cast 42 = .ok (.getfield 16, 3) := by decide +kernel
theorem dX9_cast_45 : decode cX9_cast 45 = .ok (.iload_n 1, 1) := by decide +kernel
theorem dX9_cast_46 : decode cX9_cast 46 = .ok (.dup2, 1) := by decide +kernel
theorem dX9_cast_47 : decode cX9_cast 47 = .ok (.iaload, 1) := by decide +kernel
theorem dX9_cast_48 : decode cX9_cast 48 = .ok (.iload_n 2, 1) := by decide +kernel
theorem dX9_cast_49 : decode cX9_cast 49 = .ok (.iadd, 1) := by decide +kernel
theorem dX9_cast_50 : decode cX9_cast 50 = .ok (.iastore, 1) := by decide +kernel
theorem dX9_cast_51 : decode cX9_cast 51 = .ok (.aload_n 0, 1) := by decide +kernel
theorem dX9_cast_52 : decode cX9_cast 52 = .ok (.getfield 16, 3) := by decide +kernel
theorem dX9_cast_55 : decode cX9_cast 55 = .ok (.iload_n 1, 1) := by decide +kernel
theorem dX9_cast_56 : decode cX9_cast 56 = .ok (.iaload, 1) := by decide +kernel
theorem dX9_cast_57 : decode cX9_cast 57 = .ok (.ireturn, 1) := by decide +kernel
def f_X9_cast (h : Hp) (a0 : Nat) (a1 : Int32) (a2 : Int32) : Option (Int32 × Hp) :=
bnd (f_X9_isLetter h a1) fun v1 h2 =>
if v1 = 0 then (
some ((-1 : Int32), h2)) else (
if a2 < (1 : Int32) then (
some ((-2 : Int32), h2)) else (
if a2 ≤ (1000 : Int32) then (
gd (okOb h2 a0 9) <|
vl (gR h2 a0 1) fun r7 =>
un r7 fun b8 =>
gd (okAb h2 b8 11 a1) <|
vl (gI h2 b8 a1.toNatClampNeg) fun x10 =>
if (x10 + a2) ≤ (5000 : Int32) then (
vl (gR h2 a0 1) fun r12 =>
un r12 fun b13 =>
gd (okAb h2 b13 11 a1) <|
vl (gI h2 b13 a1.toNatClampNeg) fun x15 =>
gd (okAb h2 b13 11 a1) <|
vl (sI h2 b13 a1.toNatClampNeg (x15 + a2)) fun h17 =>
vl (gR h17 a0 1) fun r18 =>
un r18 fun b19 =>
gd (okAb h17 b19 11 a1) <|
vl (gI h17 b19 a1.toNatClampNeg) fun x21 =>
some (x21, h17)) else (
some ((-4 : Int32), h2))) else (
some ((-2 : Int32), h2))))
set_option maxHeartbeats 4000000 in
set_option maxRecDepth 100000 in
theorem t_X9_cast {X : Cx} {d : Nat} {h : Hp} {a0 : Nat} {a1 : Int32} {a2 : Int32} {v : Int32} {h' : Hp} (hD : 2 ≤ d) (H : f_X9_cast h a0 a1 a2 = some (v, h')) : PM X mX9_cast d [.ref a0, .int a1, .int a2] h (some (.int v)) h' := by
  unfold f_X9_cast at H
  refine PM.of (loc := [some (.ref a0), some (.int a1), some (.int a2)]) (by decide) rfl (Nat.le_of_ble_eq_true rfl) ?_
  refine ev_iload_n dX9_cast_0 rfl rfl ?_
  replace H := bnd_some H
  obtain ⟨v1, h2, eh2, H⟩ := H
  have ph2 := (t_X9_isLetter (X := X) (d := 1) (by omega) eh2)
  refine ev_callS (as := [.int a1]) dX9_cast_1 ph2 ok_X9_isLetter (by omega) rfl k2_17 k2_18 rfl (Nat.le_of_ble_eq_true rfl) ?_
  refine ev_if_ne (tgt := 9) dX9_cast_4 (by decide) (fun c3 => ?_) (fun c3 => ?_)
  · rw [if_neg c3] at H
    refine ev_iload_n dX9_cast_9 rfl rfl ?_
    refine ev_iconst (v := (1 : Int32)) dX9_cast_10 (by decide) ?_
    refine ev_icmp_lt (tgt := 21) dX9_cast_11 (by decide) (fun c4 => ?_) (fun c4 => ?_)
    · rw [if_pos c4] at H
      refine ev_bipush (v := (-2 : Int32)) dX9_cast_21 (by decide) ?_
      exact ev_iretx dX9_cast_23 rfl rfl H
    · rw [if_neg c4] at H
      refine ev_iload_n dX9_cast_14 rfl rfl ?_
      refine ev_sipush (v := (1000 : Int32)) dX9_cast_15 (by decide) ?_
      refine ev_icmp_le (tgt := 24) dX9_cast_18 (by decide) (fun c5 => ?_) (fun c5 => ?_)
      · rw [if_pos c5] at H
        refine ev_aload_n dX9_cast_24 rfl rfl rfl ?_
        replace H := gd_some H
        obtain ⟨g6, H⟩ := H
        replace H := vl_some H
        obtain ⟨r7, er7, H⟩ := H
        refine ev_getRx dX9_cast_25 fgX9_16 rfl (okOb.p g6) er7 ?_
        refine ev_iload_n dX9_cast_28 rfl rfl ?_
        replace H := un_some H
        obtain ⟨b8, eb8, H⟩ := H
        subst eb8
        replace H := gd_some H
        obtain ⟨g9, H⟩ := H
        replace H := vl_some H
        obtain ⟨x10, ex10, H⟩ := H
        refine ev_ialdx dX9_cast_29 (okAb.p g9) ex10 ?_
        refine ev_iload_n dX9_cast_30 rfl rfl ?_
        refine ev_iadd dX9_cast_31 ?_
        refine ev_sipush (v := (5000 : Int32)) dX9_cast_32 (by decide) ?_
        refine ev_icmp_le (tgt := 41) dX9_cast_35 (by decide) (fun c11 => ?_) (fun c11 => ?_)
        · rw [if_pos c11] at H
          refine ev_aload_n dX9_cast_41 rfl rfl rfl ?_
          replace H := vl_some H
          obtain ⟨r12, er12, H⟩ := H
          refine ev_getRx dX9_cast_42 fgX9_16 rfl (okOb.p g6) er12 ?_
          refine ev_iload_n dX9_cast_45 rfl rfl ?_
          refine ev_dup2 dX9_cast_46 rfl (rv_cat _) ?_
          replace H := un_some H
          obtain ⟨b13, eb13, H⟩ := H
          subst eb13
          replace H := gd_some H
          obtain ⟨g14, H⟩ := H
          replace H := vl_some H
          obtain ⟨x15, ex15, H⟩ := H
          refine ev_ialdx dX9_cast_47 (okAb.p g14) ex15 ?_
          refine ev_iload_n dX9_cast_48 rfl rfl ?_
          refine ev_iadd dX9_cast_49 ?_
          replace H := gd_some H
          obtain ⟨g16, H⟩ := H
          replace H := vl_some H
          obtain ⟨h17, eh17, H⟩ := H
          refine ev_iast dX9_cast_50 (okAb.p g16) eh17 ?_
          refine ev_aload_n dX9_cast_51 rfl rfl rfl ?_
          replace H := vl_some H
          obtain ⟨r18, er18, H⟩ := H
          refine ev_getRx dX9_cast_52 fgX9_16 rfl (okO_sI eh17 (okOb.p g6)) er18 ?_
          refine ev_iload_n dX9_cast_55 rfl rfl ?_
          replace H := un_some H
          obtain ⟨b19, eb19, H⟩ := H
          subst eb19
          replace H := gd_some H
          obtain ⟨g20, H⟩ := H
          replace H := vl_some H
          obtain ⟨x21, ex21, H⟩ := H
          refine ev_ialdx dX9_cast_56 (okAb.p g20) ex21 ?_
          exact ev_iretx dX9_cast_57 rfl rfl H
        · rw [if_neg c11] at H
          refine ev_bipush (v := (-4 : Int32)) dX9_cast_38 (by decide) ?_
          exact ev_iretx dX9_cast_40 rfl rfl H
      · rw [if_neg c5] at H
        refine ev_bipush (v := (-2 : Int32)) dX9_cast_21 (by decide) ?_
        exact ev_iretx dX9_cast_23 rfl rfl H
  · rw [if_pos c3] at H
    refine ev_iconst (v := (-1 : Int32)) dX9_cast_7 (by decide) ?_
    exact ev_iretx dX9_cast_8 rfl rfl H

theorem dX9_sorts_0 : decode cX9_sorts 0 = .ok (.iload_n 1, 1) := by decide +kernel
theorem dX9_sorts_1 : decode cX9_sorts 1 = .ok (.invokestatic 84, 3) := by decide +kernel
theorem dX9_sorts_4 : decode cX9_sorts 4 = .ok (.ifCond .eq 12, 3) := by decide +kernel
theorem dX9_sorts_7 : decode cX9_sorts 7 = .ok (.aload_n 0, 1) := by decide +kernel
theorem dX9_sorts_8 : decode cX9_sorts 8 = .ok (.getfield 16, 3) := by decide +kernel
theorem dX9_sorts_11 : decode cX9_sorts 11 = .ok (.iload_n 1, 1) := by decide +kernel
theorem dX9_sorts_12 : decode cX9_sorts 12 = .ok (.iaload, 1) := by decide +kernel
theorem dX9_sorts_13 : decode cX9_sorts 13 = .ok (.goto 4, 3) := by decide +kernel
theorem dX9_sorts_16 : decode cX9_sorts 16 = .ok (.iconst (-1), 1) := by decide +kernel
theorem dX9_sorts_17 : decode cX9_sorts 17 = .ok (.ireturn, 1) := by decide +kernel
def f_X9_sorts (h : Hp) (a0 : Nat) (a1 : Int32) : Option (Int32 × Hp) :=
bnd (f_X9_isLetter h a1) fun v1 h2 =>
if v1 = 0 then (
some ((-1 : Int32), h2)) else (
gd (okOb h2 a0 9) <|
vl (gR h2 a0 1) fun r5 =>
un r5 fun b6 =>
gd (okAb h2 b6 11 a1) <|
vl (gI h2 b6 a1.toNatClampNeg) fun x8 =>
some (x8, h2))
set_option maxHeartbeats 4000000 in
set_option maxRecDepth 100000 in
theorem t_X9_sorts {X : Cx} {d : Nat} {h : Hp} {a0 : Nat} {a1 : Int32} {v : Int32} {h' : Hp} (hD : 2 ≤ d) (H : f_X9_sorts h a0 a1 = some (v, h')) : PM X mX9_sorts d [.ref a0, .int a1] h (some (.int v)) h' := by
  unfold f_X9_sorts at H
  refine PM.of (loc := [some (.ref a0), some (.int a1)]) (by decide) rfl (Nat.le_of_ble_eq_true rfl) ?_
  refine ev_iload_n dX9_sorts_0 rfl rfl ?_
  replace H := bnd_some H
  obtain ⟨v1, h2, eh2, H⟩ := H
  have ph2 := (t_X9_isLetter (X := X) (d := 1) (by omega) eh2)
  refine ev_callS (as := [.int a1]) dX9_sorts_1 ph2 ok_X9_isLetter (by omega) rfl k2_17 k2_18 rfl (Nat.le_of_ble_eq_true rfl) ?_
  refine ev_if_eq (tgt := 16) dX9_sorts_4 (by decide) (fun c3 => ?_) (fun c3 => ?_)
  · rw [if_pos c3] at H
    refine ev_iconst (v := (-1 : Int32)) dX9_sorts_16 (by decide) ?_
    exact ev_iretx dX9_sorts_17 rfl rfl H
  · rw [if_neg c3] at H
    refine ev_aload_n dX9_sorts_7 rfl rfl rfl ?_
    replace H := gd_some H
    obtain ⟨g4, H⟩ := H
    replace H := vl_some H
    obtain ⟨r5, er5, H⟩ := H
    refine ev_getRx dX9_sorts_8 fgX9_16 rfl (okOb.p g4) er5 ?_
    refine ev_iload_n dX9_sorts_11 rfl rfl ?_
    replace H := un_some H
    obtain ⟨b6, eb6, H⟩ := H
    subst eb6
    replace H := gd_some H
    obtain ⟨g7, H⟩ := H
    replace H := vl_some H
    obtain ⟨x8, ex8, H⟩ := H
    refine ev_ialdx dX9_sorts_12 (okAb.p g7) ex8 ?_
    refine ev_goto (tgt := 17) dX9_sorts_13 (by decide) ?_
    exact ev_iretx dX9_sorts_17 rfl rfl H

theorem dX9_page_0 : decode cX9_page 0 = .ok (.aload_n 0, 1) := by decide +kernel
theorem dX9_page_1 : decode cX9_page 1 = .ok (.getfield 10, 3) := by decide +kernel
theorem dX9_page_4 : decode cX9_page 4 = .ok (.getfield 76, 3) := by decide +kernel
theorem dX9_page_7 : decode cX9_page 7 = .ok (.ifCond .ne 6, 3) := by decide +kernel
theorem dX9_page_10 : decode cX9_page 10 = .ok (.bipush (-2), 2) := by decide +kernel
theorem dX9_page_12 : decode cX9_page 12 = .ok (.ireturn, 1) := by decide +kernel
theorem dX9_page_13 : decode cX9_page 13 = .ok (.aload_n 0, 1) := by decide +kernel
theorem dX9_page_14 : decode cX9_page 14 = .ok (.getfield 88, 3) := by decide +kernel
theorem dX9_page_17 : decode cX9_page 17 = .ok (.bipush 48, 2) := by decide +kernel
theorem dX9_page_19 : decode cX9_page 19 = .ok (.if_icmp .lt 6, 3) := by decide +kernel
theorem dX9_page_22 : decode cX9_page 22 = .ok (.bipush (-4), 2) := by decide +kernel
theorem dX9_page_24 : decode cX9_page 24 = .ok (.ireturn, 1) := by decide +kernel
theorem dX9_page_25 : decode cX9_page 25 = .ok (.aload_n 0, 1) := by decide +kernel
theorem dX9_page_26 : decode cX9_page 26 = .ok (.getfield 10, 3) := by decide +kernel
theorem dX9_page_29 : decode cX9_page 29 = .ok (.invokevirtual 91, 3) := by decide +kernel
theorem dX9_page_32 : decode cX9_page 32 = .ok (.istore_n 1, 1) := by decide +kernel
theorem dX9_page_33 : decode cX9_page 33 = .ok (.iload_n 1, 1) := by decide +kernel
theorem dX9_page_34 : decode cX9_page 34 = .ok (.iconst (-1), 1) := by decide +kernel
theorem dX9_page_35 : decode cX9_page 35 = .ok (.if_icmp .eq 16, 3) := by decide +kernel
theorem dX9_page_38 : decode cX9_page 38 = .ok (.aload_n 0, 1) := by decide +kernel
theorem dX9_page_39 : decode cX9_page 39 = .ok (.getfield 10, 3) := by decide +kernel
theorem dX9_page_42 : decode cX9_page 42 = .ok (.iconst 0, 1) := by decide +kernel
theorem dX9_page_43 : decode cX9_page 43 = .ok (.putfield 76, 3) := by decide +kernel
theorem dX9_page_46 : decode cX9_page 46 = .ok (.bipush (-10), 2) := by decide +kernel
theorem dX9_page_48 : decode cX9_page 48 = .ok (.iload_n 1, 1) := by decide +kernel
theorem dX9_page_49 : decode cX9_page 49 = .ok (.isub, 1) := by decide +kernel
theorem dX9_page_50 : decode cX9_page 50 = .ok (.ireturn, 1) := by decide +kernel
theorem dX9_page_51 : decode cX9_page 51 = .ok (.aload_n 0, 1) := by decide +kernel
theorem dX9_page_52 : decode cX9_page 52 = .ok (.getfield 25, 3) := by decide +kernel
theorem dX9_page_55 : decode cX9_page 55 = .ok (.aload_n 0, 1) := by decide +kernel
theorem dX9_page_56 : decode cX9_page 56 = .ok (.getfield 88, 3) := by decide +kernel
theorem dX9_page_59 : decode cX9_page 59 = .ok (.new 23, 3) := by decide +kernel
theorem dX9_page_62 : decode cX9_page 62 = .ok (.dup, 1) := by decide +kernel
theorem dX9_page_63 : decode cX9_page 63 = .ok (.aload_n 0, 1) := by decide +kernel
theorem dX9_page_64 : decode cX9_page 64 = .ok (.getfield 88, 3) := by decide +kernel
theorem dX9_page_67 : decode cX9_page 67 = .ok (.aload_n 0, 1) := by decide +kernel
theorem dX9_page_68 : decode cX9_page 68 = .ok (.getfield 10, 3) := by decide +kernel
theorem dX9_page_71 : decode cX9_page 71 = .ok (.invokespecial 95, 3) := by decide +kernel
theorem dX9_page_74 : decode cX9_page 74 = .ok (.aastore, 1) := by decide +kernel
theorem dX9_page_75 : decode cX9_page 75 = .ok (.aload_n 0, 1) := by decide +kernel
theorem dX9_page_76 : decode cX9_page 76 = .ok (.getfield 10, 3) := by decide +kernel
theorem dX9_page_79 : decode cX9_page 79 = .ok (.iconst 0, 1) := by decide +kernel
theorem dX9_page_80 : decode cX9_page 80 = .ok (.putfield 76, 3) := by decide +kernel
theorem dX9_page_83 : decode cX9_page 83 = .ok (.aload_n 0, 1) := by decide +kernel
theorem dX9_page_84 : decode cX9_page 84 = .ok (.dup, 1) := by decide +kernel
theorem dX9_page_85 : decode cX9_page 85 = .ok (.getfield 88, 3) := by decide +kernel
theorem dX9_page_88 : decode cX9_page 88 = .ok (.iconst 1, 1) := by decide +kernel
theorem dX9_page_89 : decode cX9_page 89 = .ok (.iadd, 1) := by decide +kernel
theorem dX9_page_90 : decode cX9_page 90 = .ok (.putfield 88, 3) := by decide +kernel
theorem dX9_page_93 : decode cX9_page 93 = .ok (.aload_n 0, 1) := by decide +kernel
theorem dX9_page_94 : decode cX9_page 94 = .ok (.getfield 88, 3) := by decide +kernel
theorem dX9_page_97 : decode cX9_page 97 = .ok (.iconst 1, 1) := by decide +kernel
theorem dX9_page_98 : decode cX9_page 98 = .ok (.isub, 1) := by decide +kernel
theorem dX9_page_99 : decode cX9_page 99 = .ok (.ireturn, 1) := by decide +kernel
def f_X9_page (h : Hp) (a0 : Nat) : Option (Int32 × Hp) :=
gd (okOb h a0 9) <|
vl (gR h a0 0) fun r2 =>
un r2 fun b3 =>
gd (okOb h b3 8) <|
vl (gI h b3 1) fun x5 =>
if x5 = 0 then (
some ((-2 : Int32), h)) else (
vl (gI h a0 4) fun x7 =>
if x7 < (48 : Int32) then (
vl (gR h a0 0) fun r9 =>
un r9 fun b10 =>
gd (okOb h b10 8) <|
bnd (f_X8_firstNotOfCopy h b10) fun v12 h13 =>
if v12 = (-1 : Int32) then (
vl (gR h13 a0 3) fun r15 =>
vl (gI h13 a0 4) fun x16 =>
vl (gN h13) fun b17 =>
vl (nw h13 6 8 0) fun h18 =>
vl (gI h18 a0 4) fun x19 =>
vl (gR h18 a0 0) fun r20 =>
un r20 fun b21 =>
bnd (f_X6_init h18 b17 x19 b21) fun u22 h23 =>
un r15 fun b24 =>
gd (okAb h23 b24 14 x16) <|
vl (sR h23 b24 x16.toNatClampNeg (some b17)) fun h26 =>
vl (gR h26 a0 0) fun r27 =>
un r27 fun b28 =>
gd (okOb h26 b28 8) <|
vl (sI h26 b28 1 (0 : Int32)) fun h30 =>
vl (gI h30 a0 4) fun x31 =>
vl (sI h30 a0 4 (x31 + (1 : Int32))) fun h32 =>
vl (gI h32 a0 4) fun x33 =>
some (x33 - (1 : Int32), h32)) else (
vl (gR h13 a0 0) fun r34 =>
un r34 fun b35 =>
gd (okOb h13 b35 8) <|
vl (sI h13 b35 1 (0 : Int32)) fun h37 =>
some ((-10 : Int32) - v12, h37))) else (
some ((-4 : Int32), h)))
set_option maxHeartbeats 4000000 in
set_option maxRecDepth 100000 in
theorem t_X9_page {X : Cx} {d : Nat} {h : Hp} {a0 : Nat} {v : Int32} {h' : Hp} (hD : 4 ≤ d) (H : f_X9_page h a0 = some (v, h')) : PM X mX9_page d [.ref a0] h (some (.int v)) h' := by
  unfold f_X9_page at H
  refine PM.of (loc := [some (.ref a0), none]) (by decide) rfl (Nat.le_of_ble_eq_true rfl) ?_
  refine ev_aload_n dX9_page_0 rfl rfl rfl ?_
  replace H := gd_some H
  obtain ⟨g1, H⟩ := H
  replace H := vl_some H
  obtain ⟨r2, er2, H⟩ := H
  refine ev_getRx dX9_page_1 fgX9_10 rfl (okOb.p g1) er2 ?_
  replace H := un_some H
  obtain ⟨b3, eb3, H⟩ := H
  subst eb3
  replace H := gd_some H
  obtain ⟨g4, H⟩ := H
  replace H := vl_some H
  obtain ⟨x5, ex5, H⟩ := H
  refine ev_getIx dX9_page_4 fgX9_76 rfl (okOb.p g4) ex5 ?_
  refine ev_if_ne (tgt := 13) dX9_page_7 (by decide) (fun c6 => ?_) (fun c6 => ?_)
  · rw [if_neg c6] at H
    refine ev_aload_n dX9_page_13 rfl rfl rfl ?_
    replace H := vl_some H
    obtain ⟨x7, ex7, H⟩ := H
    refine ev_getIx dX9_page_14 fgX9_88 rfl (okOb.p g1) ex7 ?_
    refine ev_bipush (v := (48 : Int32)) dX9_page_17 (by decide) ?_
    refine ev_icmp_lt (tgt := 25) dX9_page_19 (by decide) (fun c8 => ?_) (fun c8 => ?_)
    · rw [if_pos c8] at H
      refine ev_aload_n dX9_page_25 rfl rfl rfl ?_
      replace H := vl_some H
      obtain ⟨r9, er9, H⟩ := H
      refine ev_getRx dX9_page_26 fgX9_10 rfl (okOb.p g1) er9 ?_
      replace H := un_some H
      obtain ⟨b10, eb10, H⟩ := H
      subst eb10
      replace H := gd_some H
      obtain ⟨g11, H⟩ := H
      replace H := bnd_some H
      obtain ⟨v12, h13, eh13, H⟩ := H
      have ph13 := (t_X8_firstNotOfCopy (X := X) (d := 3) (by omega) eh13)
      refine ev_callV (as := []) dX9_page_29 ph13 ok_X8_firstNotOfCopy (by omega) rfl k2_28 k2_29 k2_30 (ci := 8) (by decide) rfl rfl (okOb.p g11) rfl (Nat.le_of_ble_eq_true rfl) ?_
      refine ev_istore_n (loc2 := [some (.ref a0), some (.int v12)]) dX9_page_32 rfl (by decide) rfl ?_
      refine ev_iload_n dX9_page_33 rfl rfl ?_
      refine ev_iconst (v := (-1 : Int32)) dX9_page_34 (by decide) ?_
      refine ev_icmp_eq (tgt := 51) dX9_page_35 (by decide) (fun c14 => ?_) (fun c14 => ?_)
      · rw [if_pos c14] at H
        refine ev_aload_n dX9_page_51 rfl rfl rfl ?_
        replace H := vl_some H
        obtain ⟨r15, er15, H⟩ := H
        refine ev_getRx dX9_page_52 fgX9_25 rfl (okO_ext ph13.1 (okOb.p g1)) er15 ?_
        refine ev_aload_n dX9_page_55 rfl rfl rfl ?_
        replace H := vl_some H
        obtain ⟨x16, ex16, H⟩ := H
        refine ev_getIx dX9_page_56 fgX9_88 rfl (okO_ext ph13.1 (okOb.p g1)) ex16 ?_
        replace H := vl_some H
        obtain ⟨b17, eb17, H⟩ := H
        replace H := vl_some H
        obtain ⟨h18, eh18, H⟩ := H
        refine ev_newx dX9_page_59 ndX9_23 eb17 eh18 ?_
        refine ev_dup dX9_page_62 rfl ?_
        refine ev_aload_n dX9_page_63 rfl rfl rfl ?_
        replace H := vl_some H
        obtain ⟨x19, ex19, H⟩ := H
        refine ev_getIx dX9_page_64 fgX9_88 rfl (okO_nw eh18 (okO_ext ph13.1 (okOb.p g1))) ex19 ?_
        refine ev_aload_n dX9_page_67 rfl rfl rfl ?_
        replace H := vl_some H
        obtain ⟨r20, er20, H⟩ := H
        refine ev_getRx dX9_page_68 fgX9_10 rfl (okO_nw eh18 (okO_ext ph13.1 (okOb.p g1))) er20 ?_
        replace H := un_some H
        obtain ⟨b21, eb21, H⟩ := H
        subst eb21
        replace H := bnd_some H
        obtain ⟨u22, h23, eh23, H⟩ := H
        have ph23 := (t_X6_init (X := X) (d := 3) (by omega) eh23)
        refine ev_callI (as := [.int x19, .ref b21]) dX9_page_71 ph23 ok_X6_init (by omega) rfl k2_44 k2_45 rfl rfl rfl (by simp only [List.map_cons, List.map_nil, rv_cat]; exact Nat.le_of_ble_eq_true rfl) ?_
        replace H := un_some H
        obtain ⟨b24, eb24, H⟩ := H
        subst eb24
        replace H := gd_some H
        obtain ⟨g25, H⟩ := H
        replace H := vl_some H
        obtain ⟨h26, eh26, H⟩ := H
        refine ev_aast (kd := 14) (t0 := 3) (ci := 6) dX9_page_74 (by decide) rfl (by decide) (fun _ => rfl) (okO_ext ph23.1 (okO_newx eb17 eh18)) (okAb.p g25) eh26 ?_
        refine ev_aload_n dX9_page_75 rfl rfl rfl ?_
        replace H := vl_some H
        obtain ⟨r27, er27, H⟩ := H
        refine ev_getRx dX9_page_76 fgX9_10 rfl (okO_sR eh26 (okO_ext ph23.1 (okO_nw eh18 (okO_ext ph13.1 (okOb.p g1))))) er27 ?_
        refine ev_iconst (v := (0 : Int32)) dX9_page_79 (by decide) ?_
        replace H := un_some H
        obtain ⟨b28, eb28, H⟩ := H
        subst eb28
        replace H := gd_some H
        obtain ⟨g29, H⟩ := H
        replace H := vl_some H
        obtain ⟨h30, eh30, H⟩ := H
        refine ev_putI dX9_page_80 fdX9_76 rfl rfl rfl (okOb.p g29) eh30 ?_
        refine ev_aload_n dX9_page_83 rfl rfl rfl ?_
        refine ev_dup dX9_page_84 rfl ?_
        replace H := vl_some H
        obtain ⟨x31, ex31, H⟩ := H
        refine ev_getIx dX9_page_85 fgX9_88 rfl (okO_sI eh30 (okO_sR eh26 (okO_ext ph23.1 (okO_nw eh18 (okO_ext ph13.1 (okOb.p g1)))))) ex31 ?_
        refine ev_iconst (v := (1 : Int32)) dX9_page_88 (by decide) ?_
        refine ev_iadd dX9_page_89 ?_
        replace H := vl_some H
        obtain ⟨h32, eh32, H⟩ := H
        refine ev_putI dX9_page_90 fdX9_88 rfl rfl rfl (okO_sI eh30 (okO_sR eh26 (okO_ext ph23.1 (okO_nw eh18 (okO_ext ph13.1 (okOb.p g1)))))) eh32 ?_
        refine ev_aload_n dX9_page_93 rfl rfl rfl ?_
        replace H := vl_some H
        obtain ⟨x33, ex33, H⟩ := H
        refine ev_getIx dX9_page_94 fgX9_88 rfl (okO_sI eh32 (okO_sI eh30 (okO_sR eh26 (okO_ext ph23.1 (okO_nw eh18 (okO_ext ph13.1 (okOb.p g1))))))) ex33 ?_
        refine ev_iconst (v := (1 : Int32)) dX9_page_97 (by decide) ?_
        refine ev_isub dX9_page_98 ?_
        exact ev_iretx dX9_page_99 rfl rfl H
      · rw [if_neg c14] at H
        refine ev_aload_n dX9_page_38 rfl rfl rfl ?_
        replace H := vl_some H
        obtain ⟨r34, er34, H⟩ := H
        refine ev_getRx dX9_page_39 fgX9_10 rfl (okO_ext ph13.1 (okOb.p g1)) er34 ?_
        refine ev_iconst (v := (0 : Int32)) dX9_page_42 (by decide) ?_
        replace H := un_some H
        obtain ⟨b35, eb35, H⟩ := H
        subst eb35
        replace H := gd_some H
        obtain ⟨g36, H⟩ := H
        replace H := vl_some H
        obtain ⟨h37, eh37, H⟩ := H
        refine ev_putI dX9_page_43 fdX9_76 rfl rfl rfl (okOb.p g36) eh37 ?_
        refine ev_bipush (v := (-10 : Int32)) dX9_page_46 (by decide) ?_
        refine ev_iload_n dX9_page_48 rfl rfl ?_
        refine ev_isub dX9_page_49 ?_
        exact ev_iretx dX9_page_50 rfl rfl H
    · rw [if_neg c8] at H
      refine ev_bipush (v := (-4 : Int32)) dX9_page_22 (by decide) ?_
      exact ev_iretx dX9_page_24 rfl rfl H
  · rw [if_pos c6] at H
    refine ev_bipush (v := (-2 : Int32)) dX9_page_10 (by decide) ?_
    exact ev_iretx dX9_page_12 rfl rfl H

theorem dX9_findPage_0 : decode cX9_findPage 0 = .ok (.iload_n 1, 1) := by decide +kernel
theorem dX9_findPage_1 : decode cX9_findPage 1 = .ok (.ifCond .lt 20, 3) := by decide +kernel
theorem dX9_findPage_4 : decode cX9_findPage 4 = .ok (.iload_n 1, 1) := by decide +kernel
theorem dX9_findPage_5 : decode cX9_findPage 5 = .ok (.aload_n 0, 1) := by decide +kernel
theorem dX9_findPage_6 : decode cX9_findPage 6 = .ok (.getfield 88, 3) := by decide +kernel
theorem dX9_findPage_9 : decode cX9_findPage 9 = .ok (.if_icmp .ge 12, 3) := by decide +kernel
theorem dX9_findPage_12 : decode cX9_findPage 12 = .ok (.aload_n 0, 1) := by decide +kernel
theorem dX9_findPage_13 : decode cX9_findPage 13 = .ok (.getfield 25, 3) := by decide +kernel
theorem dX9_findPage_16 : decode cX9_findPage 16 = .ok (.iload_n 1, 1) := by decide +kernel
theorem dX9_findPage_17 : decode cX9_findPage 17 = .ok (.aaload, 1) := by decide +kernel
theorem dX9_findPage_18 : decode cX9_findPage 18 = .ok (.goto 4, 3) := by decide +kernel
theorem dX9_findPage_21 : decode cX9_findPage 21 = .ok (.aconst_null, 1) := by decide +kernel
theorem dX9_findPage_22 : decode cX9_findPage 22 = .ok (.areturn, 1) := by decide +kernel
def f_X9_findPage (h : Hp) (a0 : Nat) (a1 : Int32) : Option (Option Nat × Hp) :=
if a1 < 0 then (
some (none, h)) else (
gd (okOb h a0 9) <|
vl (gI h a0 4) fun x3 =>
if x3 ≤ a1 then (
some (none, h)) else (
vl (gR h a0 3) fun r5 =>
un r5 fun b6 =>
gd (okAb h b6 14 a1) <|
vl (gR h b6 a1.toNatClampNeg) fun r8 =>
some (r8, h)))
set_option maxHeartbeats 4000000 in
set_option maxRecDepth 100000 in
theorem t_X9_findPage {X : Cx} {d : Nat} {h : Hp} {a0 : Nat} {a1 : Int32} {v : Option Nat} {h' : Hp} (hD : 1 ≤ d) (H : f_X9_findPage h a0 a1 = some (v, h')) : PM X mX9_findPage d [.ref a0, .int a1] h (some (rv v)) h' := by
  unfold f_X9_findPage at H
  refine PM.of (loc := [some (.ref a0), some (.int a1)]) (by decide) rfl (Nat.le_of_ble_eq_true rfl) ?_
  refine ev_iload_n dX9_findPage_0 rfl rfl ?_
  refine ev_if_lt (tgt := 21) dX9_findPage_1 (by decide) (fun c1 => ?_) (fun c1 => ?_)
  · rw [if_pos c1] at H
    refine ev_anull dX9_findPage_21 ?_
    exact ev_aretx (t := none) dX9_findPage_22 rfl (Or.inl ⟨_, rfl⟩) H
  · rw [if_neg c1] at H
    refine ev_iload_n dX9_findPage_4 rfl rfl ?_
    refine ev_aload_n dX9_findPage_5 rfl rfl rfl ?_
    replace H := gd_some H
    obtain ⟨g2, H⟩ := H
    replace H := vl_some H
    obtain ⟨x3, ex3, H⟩ := H
    refine ev_getIx dX9_findPage_6 fgX9_88 rfl (okOb.p g2) ex3 ?_
    refine ev_icmp_ge (tgt := 21) dX9_findPage_9 (by decide) (fun c4 => ?_) (fun c4 => ?_)
    · rw [if_pos c4] at H
      refine ev_anull dX9_findPage_21 ?_
      exact ev_aretx (t := none) dX9_findPage_22 rfl (Or.inl ⟨_, rfl⟩) H
    · rw [if_neg c4] at H
      refine ev_aload_n dX9_findPage_12 rfl rfl rfl ?_
      replace H := vl_some H
      obtain ⟨r5, er5, H⟩ := H
      refine ev_getRx dX9_findPage_13 fgX9_25 rfl (okOb.p g2) er5 ?_
      refine ev_iload_n dX9_findPage_16 rfl rfl ?_
      replace H := un_some H
      obtain ⟨b6, eb6, H⟩ := H
      subst eb6
      replace H := gd_some H
      obtain ⟨g7, H⟩ := H
      replace H := vl_some H
      obtain ⟨r8, er8, H⟩ := H
      refine ev_aaldx (kd := 14) (t0 := 3) dX9_findPage_17 (by decide) (fun _ => rfl) (okAb.p g7) er8 ?_
      refine ev_goto (tgt := 22) dX9_findPage_18 (by decide) ?_
      exact ev_aretx (t := r8) dX9_findPage_22 rfl (Or.inl ⟨_, rfl⟩) H

theorem dX9_isHand_0 : decode cX9_isHand 0 = .ok (.iload_n 0, 1) := by decide +kernel
theorem dX9_isHand_1 : decode cX9_isHand 1 = .ok (.ifCond .lt 13, 3) := by decide +kernel
theorem dX9_isHand_4 : decode cX9_isHand 4 = .ok (.iload_n 0, 1) := by decide +kernel
theorem dX9_isHand_5 : decode cX9_isHand 5 = .ok (.bipush 6, 2) := by decide +kernel
theorem dX9_isHand_7 : decode cX9_isHand 7 = .ok (.if_icmp .ge 7, 3) := by decide +kernel
theorem dX9_isHand_10 : decode cX9_isHand 10 = .ok (.iconst 1, 1) := by decide +kernel
theorem dX9_isHand_11 : decode cX9_isHand 11 = .ok (.goto 4, 3) := by decide +kernel
theorem dX9_isHand_14 : decode cX9_isHand 14 = .ok (.iconst 0, 1) := by decide +kernel
theorem dX9_isHand_15 : decode cX9_isHand 15 = .ok (.ireturn, 1) := by decide +kernel
def f_X9_isHand (h : Hp) (a0 : Int32) : Option (Int32 × Hp) :=
if a0 < 0 then (
some ((0 : Int32), h)) else (
if (6 : Int32) ≤ a0 then (
some ((0 : Int32), h)) else (
some ((1 : Int32), h)))
set_option maxHeartbeats 4000000 in
set_option maxRecDepth 100000 in
theorem t_X9_isHand {X : Cx} {d : Nat} {h : Hp} {a0 : Int32} {v : Int32} {h' : Hp} (hD : 1 ≤ d) (H : f_X9_isHand h a0 = some (v, h')) : PM X mX9_isHand d [.int a0] h (some (.int v)) h' := by
  unfold f_X9_isHand at H
  refine PM.of (loc := [some (.int a0)]) (by decide) rfl (Nat.le_of_ble_eq_true rfl) ?_
  refine ev_iload_n dX9_isHand_0 rfl rfl ?_
  refine ev_if_lt (tgt := 14) dX9_isHand_1 (by decide) (fun c1 => ?_) (fun c1 => ?_)
  · rw [if_pos c1] at H
    refine ev_iconst (v := (0 : Int32)) dX9_isHand_14 (by decide) ?_
    exact ev_iretx dX9_isHand_15 rfl rfl H
  · rw [if_neg c1] at H
    refine ev_iload_n dX9_isHand_4 rfl rfl ?_
    refine ev_bipush (v := (6 : Int32)) dX9_isHand_5 (by decide) ?_
    refine ev_icmp_ge (tgt := 14) dX9_isHand_7 (by decide) (fun c2 => ?_) (fun c2 => ?_)
    · rw [if_pos c2] at H
      refine ev_iconst (v := (0 : Int32)) dX9_isHand_14 (by decide) ?_
      exact ev_iretx dX9_isHand_15 rfl rfl H
    · rw [if_neg c2] at H
      refine ev_iconst (v := (1 : Int32)) dX9_isHand_10 (by decide) ?_
      refine ev_goto (tgt := 15) dX9_isHand_11 (by decide) ?_
      exact ev_iretx dX9_isHand_15 rfl rfl H

theorem dX9_firstMissing_0 : decode cX9_firstMissing 0 = .ok (.aload_n 0, 1) := by decide +kernel
theorem dX9_firstMissing_1 : decode cX9_firstMissing 1 = .ok (.getfield 20, 3) := by decide +kernel
theorem dX9_firstMissing_4 : decode cX9_firstMissing 4 = .ok (.iconst 0, 1) := by decide +kernel
theorem dX9_firstMissing_5 : decode cX9_firstMissing 5 = .ok (.invokestatic 346, 3) := by decide +kernel
theorem dX9_firstMissing_8 : decode cX9_firstMissing 8 = .ok (.iconst 0, 1) := by decide +kernel
theorem dX9_firstMissing_9 : decode cX9_firstMissing 9 = .ok (.istore_n 2, 1) := by decide +kernel
theorem dX9_firstMissing_10 : decode cX9_firstMissing 10 = .ok (.iload_n 2, 1) := by decide +kernel
theorem dX9_firstMissing_11 : decode cX9_firstMissing 11 = .ok (.aload_n 1, 1) := by decide +kernel
theorem dX9_firstMissing_12 : decode cX9_firstMissing 12 = .ok (.getfield 149, 3) := by decide +kernel
theorem dX9_firstMissing_15 : decode cX9_firstMissing 15 = .ok (.arraylength, 1) := by decide +kernel
theorem dX9_firstMissing_16 : decode cX9_firstMissing 16 = .ok (.if_icmp .ge 33, 3) := by decide +kernel
theorem dX9_firstMissing_19 : decode cX9_firstMissing 19 = .ok (.aload_n 1, 1) := by decide +kernel
theorem dX9_firstMissing_20 : decode cX9_firstMissing 20 = .ok (.getfield 149, 3) := by decide +kernel
theorem dX9_firstMissing_23 : decode cX9_firstMissing 23 = .ok (.iload_n 2, 1) := by decide +kernel
theorem dX9_firstMissing_24 : decode cX9_firstMissing 24 = .ok (.iaload, 1) := by decide +kernel
theorem dX9_firstMissing_25 : decode cX9_firstMissing 25 = .ok (.istore_n 3, 1) := by decide +kernel
theorem dX9_firstMissing_26 : decode cX9_firstMissing 26 = .ok (.iload_n 3, 1) := by decide +kernel
theorem dX9_firstMissing_27 : decode cX9_firstMissing 27 = .ok (.invokestatic 84, 3) := by decide +kernel
theorem dX9_firstMissing_30 : decode cX9_firstMissing 30 = .ok (.ifCond .eq 13, 3) := by decide +kernel
theorem dX9_firstMissing_33 : decode cX9_firstMissing 33 = .ok (.aload_n 0, 1) := by decide +kernel
theorem dX9_firstMissing_34 : decode cX9_firstMissing 34 = .ok (.getfield 20, 3) := by decide +kernel
theorem dX9_firstMissing_37 : decode cX9_firstMissing 37 = .ok (.iload_n 3, 1) := by decide +kernel
theorem dX9_firstMissing_38 : decode cX9_firstMissing 38 = .ok (.dup2, 1) := by decide +kernel
theorem dX9_firstMissing_39 : decode cX9_firstMissing 39 = .ok (.iaload, 1) := by decide +kernel
theorem dX9_firstMissing_40 : decode cX9_firstMissing 40 = .ok (.iconst 1, 1) := by decide +kernel
theorem dX9_firstMissing_41 : decode cX9_firstMissing 41 = .ok (.iadd, 1) := by decide +kernel
theorem dX9_firstMissing_42 : decode cX9_firstMissing 42 = .ok (.iastore, 1) := by decide +kernel
theorem dX9_firstMissing_43 : decode cX9_firstMissing 43 = .ok (.iinc 2 1, 3) := by decide +kernel
theorem dX9_firstMissing_46 : decode cX9_firstMissing 46 = .ok (.goto (-36), 3) := by decide +kernel
theorem dX9_firstMissing_49 : decode cX9_firstMissing 49 = .ok (.iconst 0, 1) := by decide +kernel
theorem dX9_firstMissing_50 : decode cX9_firstMissing 50 = .ok (.istore_n 2, 1) := by decide +kernel
theorem dX9_firstMissing_51 : decode cX9_firstMissing 51 = .ok (.iload_n 2, 1) := by decide +kernel
theorem dX9_firstMissing_52 : decode cX9_firstMissing 52 = .ok (.bipush 26, 2) := by decide +kernel
theorem dX9_firstMissing_54 : decode cX9_firstMissing 54 = .ok (.if_icmp .ge 26, 3) := by decide +kernel
theorem dX9_firstMissing_57 : decode cX9_firstMissing 57 = .ok (.aload_n 0, 1) := by decide +kernel
theorem dX9_firstMissing_58 : decode cX9_firstMissing 58 = .ok (.getfield 20, 3) := by decide +kernel
theorem dX9_firstMissing_61 : decode cX9_firstMissing 61 = .ok (.iload_n 2, 1) := by decide +kernel
theorem dX9_firstMissing_62 : decode cX9_firstMissing 62 = .ok (.iaload, 1) := by decide +kernel
theorem dX9_firstMissing_63 : decode cX9_firstMissing 63 = .ok (.aload_n 0, 1) := by decide +kernel
theorem dX9_firstMissing_64 : decode cX9_firstMissing 64 = .ok (.getfield 16, 3) := by decide +kernel
theorem dX9_firstMissing_67 : decode cX9_firstMissing 67 = .ok (.iload_n 2, 1) := by decide +kernel
theorem dX9_firstMissing_68 : decode cX9_firstMissing 68 = .ok (.iaload, 1) := by decide +kernel
theorem dX9_firstMissing_69 : decode cX9_firstMissing 69 = .ok (.if_icmp .le 5, 3) := by decide +kernel
theorem dX9_firstMissing_72 : decode cX9_firstMissing 72 = .ok (.iload_n 2, 1) := by decide +kernel
theorem dX9_firstMissing_73 : decode cX9_firstMissing 73 = .ok (.ireturn, 1) := by decide +kernel
theorem dX9_firstMissing_74 : decode cX9_firstMissing 74 = .ok (.iinc 2 1, 3) := by decide +kernel
theorem dX9_firstMissing_77 : decode cX9_firstMissing 77 = .ok (.goto (-26), 3) := by decide +kernel
theorem dX9_firstMissing_80 : decode cX9_firstMissing 80 = .ok (.iconst (-1), 1) := by decide +kernel
theorem dX9_firstMissing_81 : decode cX9_firstMissing 81 = .ok (.ireturn, 1) := by decide +kernel
def f_X9_firstMissing_L10 (k49 : Nat → Nat → Int32 → Hp → Option (Int32 × Hp)) : Nat → Nat → Nat → Int32 → Hp → Option (Int32 × Hp)
  | 0, _, _, _, _ => none
  | n + 1, l0, l1, l2, h =>
    gd (okOb h l1 6) <|
    vl (gR h l1 1) fun r7 =>
    un r7 fun b8 =>
    gd (okOb h b8 11) <|
    if (Int32.ofNat (gL h b8)) ≤ l2 then (
    k49 l0 l1 l2 h) else (
    vl (gR h l1 1) fun r11 =>
    un r11 fun b12 =>
    gd (okAb h b12 11 l2) <|
    vl (gI h b12 l2.toNatClampNeg) fun x14 =>
    bnd (f_X9_isLetter h x14) fun v15 h16 =>
    if v15 = 0 then (
    vl (l2 + (1 : Int32)) fun x18 =>
    f_X9_firstMissing_L10 k49 n l0 l1 x18 h16) else (
    gd (okOb h16 l0 9) <|
    vl (gR h16 l0 2) fun r20 =>
    un r20 fun b21 =>
    gd (okAb h16 b21 11 x14) <|
    vl (gI h16 b21 x14.toNatClampNeg) fun x23 =>
    gd (okAb h16 b21 11 x14) <|
    vl (sI h16 b21 x14.toNatClampNeg (x23 + (1 : Int32))) fun h25 =>
    vl (l2 + (1 : Int32)) fun x26 =>
    f_X9_firstMissing_L10 k49 n l0 l1 x26 h25))
set_option maxHeartbeats 4000000 in
set_option maxRecDepth 100000 in
theorem t_X9_firstMissing_L10 {X : Cx} {d : Nat} {h0 h' : Hp} {v : Int32} {k49 : Nat → Nat → Int32 → Hp → Option (Int32 × Hp)} (hD : 2 ≤ d) (hk49 : ∀ (z0 : Nat) (z1 : Nat) (z2 : Int32) (h : Hp), k49 z0 z1 z2 h = some (v, h') → EV X mX9_firstMissing d h0 (some (.int v)) h' 49 [some (.ref z0), some (.ref z1), some (.int z2), none] [] h) : ∀ (n : Nat) (l0 : Nat) (l1 : Nat) (l2 : Int32) (h : Hp), f_X9_firstMissing_L10 k49 n l0 l1 l2 h = some (v, h') → EV X mX9_firstMissing d h0 (some (.int v)) h' 10 [some (.ref l0), some (.ref l1), some (.int l2), none] [] h := by
  intro n
  induction n with
  | zero => intro l0 l1 l2 h H; simp [f_X9_firstMissing_L10] at H
  | succ n ih =>
    intro l0 l1 l2 h H
    rw [f_X9_firstMissing_L10] at H
    refine ev_iload_n dX9_firstMissing_10 rfl rfl ?_
    refine ev_aload_n dX9_firstMissing_11 rfl rfl rfl ?_
    replace H := gd_some H
    obtain ⟨g6, H⟩ := H
    replace H := vl_some H
    obtain ⟨r7, er7, H⟩ := H
    refine ev_getRx dX9_firstMissing_12 fgX9_149 rfl (okOb.p g6) er7 ?_
    replace H := un_some H
    obtain ⟨b8, eb8, H⟩ := H
    subst eb8
    replace H := gd_some H
    obtain ⟨g9, H⟩ := H
    refine ev_alen (kd := 11) (t0 := 0) dX9_firstMissing_15 (by decide) (fun _ => rfl) (okOb.p g9) ?_
    refine ev_icmp_ge (tgt := 49) dX9_firstMissing_16 (by decide) (fun c10 => ?_) (fun c10 => ?_)
    · rw [if_pos c10] at H
      exact hk49 l0 l1 l2 h H
    · rw [if_neg c10] at H
      refine ev_aload_n dX9_firstMissing_19 rfl rfl rfl ?_
      replace H := vl_some H
      obtain ⟨r11, er11, H⟩ := H
      refine ev_getRx dX9_firstMissing_20 fgX9_149 rfl (okOb.p g6) er11 ?_
      refine ev_iload_n dX9_firstMissing_23 rfl rfl ?_
      replace H := un_some H
      obtain ⟨b12, eb12, H⟩ := H
      subst eb12
      replace H := gd_some H
      obtain ⟨g13, H⟩ := H
      replace H := vl_some H
      obtain ⟨x14, ex14, H⟩ := H
      refine ev_ialdx dX9_firstMissing_24 (okAb.p g13) ex14 ?_
      refine ev_istore_n (loc2 := [some (.ref l0), some (.ref l1), some (.int l2), some (.int x14)]) dX9_firstMissing_25 rfl (by decide) rfl ?_
      refine ev_iload_n dX9_firstMissing_26 rfl rfl ?_
      replace H := bnd_some H
      obtain ⟨v15, h16, eh16, H⟩ := H
      have ph16 := (t_X9_isLetter (X := X) (d := 1) (by omega) eh16)
      refine ev_callS (as := [.int x14]) dX9_firstMissing_27 ph16 ok_X9_isLetter (by omega) rfl k2_17 k2_18 rfl (Nat.le_of_ble_eq_true rfl) ?_
      refine ev_if_eq (tgt := 43) dX9_firstMissing_30 (by decide) (fun c17 => ?_) (fun c17 => ?_)
      · rw [if_pos c17] at H
        replace H := vl_some H
        obtain ⟨x18, ex18, H⟩ := H
        refine ev_iincx (loc2 := [some (.ref l0), some (.ref l1), some (.int x18), some (.int x14)]) dX9_firstMissing_43 rfl (by decide) ex18 (by decide) rfl ?_
        refine ev_goto (tgt := 10) dX9_firstMissing_46 (by decide) ?_
        refine ev_drop (loc2 := [some (.ref l0), some (.ref l1), some (.int x18), none]) [true, true, true, false] rfl ?_
        exact ih l0 l1 x18 h16 H
      · rw [if_neg c17] at H
        refine ev_aload_n dX9_firstMissing_33 rfl rfl rfl ?_
        replace H := gd_some H
        obtain ⟨g19, H⟩ := H
        replace H := vl_some H
        obtain ⟨r20, er20, H⟩ := H
        refine ev_getRx dX9_firstMissing_34 fgX9_20 rfl (okOb.p g19) er20 ?_
        refine ev_iload_n dX9_firstMissing_37 rfl rfl ?_
        refine ev_dup2 dX9_firstMissing_38 rfl (rv_cat _) ?_
        replace H := un_some H
        obtain ⟨b21, eb21, H⟩ := H
        subst eb21
        replace H := gd_some H
        obtain ⟨g22, H⟩ := H
        replace H := vl_some H
        obtain ⟨x23, ex23, H⟩ := H
        refine ev_ialdx dX9_firstMissing_39 (okAb.p g22) ex23 ?_
        refine ev_iconst (v := (1 : Int32)) dX9_firstMissing_40 (by decide) ?_
        refine ev_iadd dX9_firstMissing_41 ?_
        replace H := gd_some H
        obtain ⟨g24, H⟩ := H
        replace H := vl_some H
        obtain ⟨h25, eh25, H⟩ := H
        refine ev_iast dX9_firstMissing_42 (okAb.p g24) eh25 ?_
        replace H := vl_some H
        obtain ⟨x26, ex26, H⟩ := H
        refine ev_iincx (loc2 := [some (.ref l0), some (.ref l1), some (.int x26), some (.int x14)]) dX9_firstMissing_43 rfl (by decide) ex26 (by decide) rfl ?_
        refine ev_goto (tgt := 10) dX9_firstMissing_46 (by decide) ?_
        refine ev_drop (loc2 := [some (.ref l0), some (.ref l1), some (.int x26), none]) [true, true, true, false] rfl ?_
        exact ih l0 l1 x26 h25 H
def f_X9_firstMissing_L51 : Nat → Nat → Nat → Int32 → Hp → Option (Int32 × Hp)
  | 0, _, _, _, _ => none
  | n + 1, l0, l1, l2, h =>
    if (26 : Int32) ≤ l2 then (
    some ((-1 : Int32), h)) else (
    gd (okOb h l0 9) <|
    vl (gR h l0 2) fun r33 =>
    un r33 fun b34 =>
    gd (okAb h b34 11 l2) <|
    vl (gI h b34 l2.toNatClampNeg) fun x36 =>
    vl (gR h l0 1) fun r37 =>
    un r37 fun b38 =>
    gd (okAb h b38 11 l2) <|
    vl (gI h b38 l2.toNatClampNeg) fun x40 =>
    if x36 ≤ x40 then (
    vl (l2 + (1 : Int32)) fun x42 =>
    f_X9_firstMissing_L51 n l0 l1 x42 h) else (
    some (l2, h)))
set_option maxHeartbeats 4000000 in
set_option maxRecDepth 100000 in
theorem t_X9_firstMissing_L51 {X : Cx} {d : Nat} {h0 h' : Hp} {v : Int32} (hD : 2 ≤ d) : ∀ (n : Nat) (l0 : Nat) (l1 : Nat) (l2 : Int32) (h : Hp), f_X9_firstMissing_L51 n l0 l1 l2 h = some (v, h') → EV X mX9_firstMissing d h0 (some (.int v)) h' 51 [some (.ref l0), some (.ref l1), some (.int l2), none] [] h := by
  intro n
  induction n with
  | zero => intro l0 l1 l2 h H; simp [f_X9_firstMissing_L51] at H
  | succ n ih =>
    intro l0 l1 l2 h H
    rw [f_X9_firstMissing_L51] at H
    refine ev_iload_n dX9_firstMissing_51 rfl rfl ?_
    refine ev_bipush (v := (26 : Int32)) dX9_firstMissing_52 (by decide) ?_
    refine ev_icmp_ge (tgt := 80) dX9_firstMissing_54 (by decide) (fun c31 => ?_) (fun c31 => ?_)
    · rw [if_pos c31] at H
      refine ev_iconst (v := (-1 : Int32)) dX9_firstMissing_80 (by decide) ?_
      exact ev_iretx dX9_firstMissing_81 rfl rfl H
    · rw [if_neg c31] at H
      refine ev_aload_n dX9_firstMissing_57 rfl rfl rfl ?_
      replace H := gd_some H
      obtain ⟨g32, H⟩ := H
      replace H := vl_some H
      obtain ⟨r33, er33, H⟩ := H
      refine ev_getRx dX9_firstMissing_58 fgX9_20 rfl (okOb.p g32) er33 ?_
      refine ev_iload_n dX9_firstMissing_61 rfl rfl ?_
      replace H := un_some H
      obtain ⟨b34, eb34, H⟩ := H
      subst eb34
      replace H := gd_some H
      obtain ⟨g35, H⟩ := H
      replace H := vl_some H
      obtain ⟨x36, ex36, H⟩ := H
      refine ev_ialdx dX9_firstMissing_62 (okAb.p g35) ex36 ?_
      refine ev_aload_n dX9_firstMissing_63 rfl rfl rfl ?_
      replace H := vl_some H
      obtain ⟨r37, er37, H⟩ := H
      refine ev_getRx dX9_firstMissing_64 fgX9_16 rfl (okOb.p g32) er37 ?_
      refine ev_iload_n dX9_firstMissing_67 rfl rfl ?_
      replace H := un_some H
      obtain ⟨b38, eb38, H⟩ := H
      subst eb38
      replace H := gd_some H
      obtain ⟨g39, H⟩ := H
      replace H := vl_some H
      obtain ⟨x40, ex40, H⟩ := H
      refine ev_ialdx dX9_firstMissing_68 (okAb.p g39) ex40 ?_
      refine ev_icmp_le (tgt := 74) dX9_firstMissing_69 (by decide) (fun c41 => ?_) (fun c41 => ?_)
      · rw [if_pos c41] at H
        replace H := vl_some H
        obtain ⟨x42, ex42, H⟩ := H
        refine ev_iincx (loc2 := [some (.ref l0), some (.ref l1), some (.int x42), none]) dX9_firstMissing_74 rfl (by decide) ex42 (by decide) rfl ?_
        refine ev_goto (tgt := 51) dX9_firstMissing_77 (by decide) ?_
        exact ih l0 l1 x42 h H
      · rw [if_neg c41] at H
        refine ev_iload_n dX9_firstMissing_72 rfl rfl ?_
        exact ev_iretx dX9_firstMissing_73 rfl rfl H
def f_X9_firstMissing (h : Hp) (a0 : Nat) (a1 : Nat) : Option (Int32 × Hp) :=
gd (okOb h a0 9) <|
vl (gR h a0 2) fun r2 =>
un r2 fun b3 =>
bnd (f_J7_fill_53178 h b3 (0 : Int32)) fun u4 h5 =>
f_X9_firstMissing_L10 (fun y27 y28 y29 h30 =>
f_X9_firstMissing_L51 6000 y27 y28 (0 : Int32) h30) 6000 a0 a1 (0 : Int32) h5
set_option maxHeartbeats 4000000 in
set_option maxRecDepth 100000 in
theorem t_X9_firstMissing {X : Cx} {d : Nat} {h : Hp} {a0 : Nat} {a1 : Nat} {v : Int32} {h' : Hp} (hD : 2 ≤ d) (H : f_X9_firstMissing h a0 a1 = some (v, h')) : PM X mX9_firstMissing d [.ref a0, .ref a1] h (some (.int v)) h' := by
  unfold f_X9_firstMissing at H
  refine PM.of (loc := [some (.ref a0), some (.ref a1), none, none]) (by decide) rfl (Nat.le_of_ble_eq_true rfl) ?_
  refine ev_aload_n dX9_firstMissing_0 rfl rfl rfl ?_
  replace H := gd_some H
  obtain ⟨g1, H⟩ := H
  replace H := vl_some H
  obtain ⟨r2, er2, H⟩ := H
  refine ev_getRx dX9_firstMissing_1 fgX9_20 rfl (okOb.p g1) er2 ?_
  refine ev_iconst (v := (0 : Int32)) dX9_firstMissing_4 (by decide) ?_
  replace H := un_some H
  obtain ⟨b3, eb3, H⟩ := H
  subst eb3
  replace H := bnd_some H
  obtain ⟨u4, h5, eh5, H⟩ := H
  have ph5 := (t_J7_fill_53178 (X := X) (d := 1) (by omega) eh5)
  refine ev_callS (as := [.ref b3, .int (0 : Int32)]) dX9_firstMissing_5 ph5 ok_J7_fill_53178 (by omega) rfl k2_101 k1_78 rfl (Nat.le_of_ble_eq_true rfl) ?_
  refine ev_iconst (v := (0 : Int32)) dX9_firstMissing_8 (by decide) ?_
  refine ev_istore_n (loc2 := [some (.ref a0), some (.ref a1), some (.int (0 : Int32)), none]) dX9_firstMissing_9 rfl (by decide) rfl ?_
  refine t_X9_firstMissing_L10 hD ?_ 6000 a0 a1 (0 : Int32) h5 H
  · intro y27 y28 y29 h30 H
    refine ev_iconst (v := (0 : Int32)) dX9_firstMissing_49 (by decide) ?_
    refine ev_istore_n (loc2 := [some (.ref y27), some (.ref y28), some (.int (0 : Int32)), none]) dX9_firstMissing_50 rfl (by decide) rfl ?_
    refine t_X9_firstMissing_L51 hD  6000 y27 y28 (0 : Int32) h30 H

theorem dX9_set_0 : decode cX9_set 0 = .ok (.aload_n 0, 1) := by decide +kernel
theorem dX9_set_1 : decode cX9_set 1 = .ok (.iload_n 1, 1) := by decide +kernel
theorem dX9_set_2 : decode cX9_set 2 = .ok (.invokevirtual 98, 3) := by decide +kernel
theorem dX9_set_5 : decode cX9_set 5 = .ok (.astore_n 3, 1) := by decide +kernel
theorem dX9_set_6 : decode cX9_set 6 = .ok (.aload_n 3, 1) := by decide +kernel
theorem dX9_set_7 : decode cX9_set 7 = .ok (.ifnull 10, 3) := by decide +kernel
theorem dX9_set_10 : decode cX9_set 10 = .ok (.iload_n 2, 1) := by decide +kernel
theorem dX9_set_11 : decode cX9_set 11 = .ok (.invokestatic 102, 3) := by decide +kernel
theorem dX9_set_14 : decode cX9_set 14 = .ok (.ifCond .ne 5, 3) := by decide +kernel
theorem dX9_set_17 : decode cX9_set 17 = .ok (.iconst (-1), 1) := by decide +kernel
theorem dX9_set_18 : decode cX9_set 18 = .ok (.ireturn, 1) := by decide +kernel
theorem dX9_set_19 : decode cX9_set 19 = .ok (.aload_n 3, 1) := by decide +kernel
theorem dX9_set_20 : decode cX9_set 20 = .ok (.getfield 105, 3) := by decide +kernel
theorem dX9_set_23 : decode cX9_set 23 = .ok (.ifCond .eq 6, 3) := by decide +kernel
theorem dX9_set_26 : decode cX9_set 26 = .ok (.bipush (-3), 2) := by decide +kernel
theorem dX9_set_28 : decode cX9_set 28 = .ok (.ireturn, 1) := by decide +kernel
theorem dX9_set_29 : decode cX9_set 29 = .ok (.aload_n 0, 1) := by decide +kernel
theorem dX9_set_30 : decode cX9_set 30 = .ok (.aload_n 3, 1) := by decide +kernel
theorem dX9_set_31 : decode cX9_set 31 = .ok (.invokevirtual 109, 3) := by decide +kernel
theorem dX9_set_34 : decode cX9_set 34 = .ok (.istore 4, 2) := by decide +kernel
theorem dX9_set_36 : decode cX9_set 36 = .ok (.iload 4, 2) := by decide +kernel
theorem dX9_set_38 : decode cX9_set 38 = .ok (.iconst (-1), 1) := by decide +kernel
theorem dX9_set_39 : decode cX9_set 39 = .ok (.if_icmp .eq 9, 3) := by decide +kernel
theorem dX9_set_42 : decode cX9_set 42 = .ok (.bipush (-10), 2) := by decide +kernel
theorem dX9_set_44 : decode cX9_set 44 = .ok (.iload 4, 2) := by decide +kernel
theorem dX9_set_46 : decode cX9_set 46 = .ok (.isub, 1) := by decide +kernel
theorem dX9_set_47 : decode cX9_set 47 = .ok (.ireturn, 1) := by decide +kernel
theorem dX9_set_48 : decode cX9_set 48 = .ok (.iconst 0, 1) := by decide +kernel
theorem dX9_set_49 : decode cX9_set 49 = .ok (.istore 5, 2) := by decide +kernel
theorem dX9_set_51 : decode cX9_set 51 = .ok (.iload 5, 2) := by decide +kernel
theorem dX9_set_53 : decode cX9_set 53 = .ok (.bipush 26, 2) := by decide +kernel
theorem dX9_set_55 : decode cX9_set 55 = .ok (.if_icmp .ge 26, 3) := by decide +kernel
theorem dX9_set_58 : decode cX9_set 58 = .ok (.aload_n 0, 1) := by decide +kernel
theorem dX9_set_59 : decode cX9_set 59 = .ok (.getfield 16, 3) := by decide +kernel
theorem dX9_set_62 : decode cX9_set 62 = .ok (.iload 5, 2) := by decide +kernel
theorem dX9_set_64 : decode cX9_set 64 = .ok (.dup2, 1) := by decide +kernel
theorem dX9_set_65 : decode cX9_set 65 = .ok (.iaload, 1) := by decide +kernel
theorem dX9_set_66 : decode cX9_set 66 = .ok (.aload_n 0, 1) := by decide +kernel
theorem dX9_set_67 : decode cX9_set 67 = .ok (.getfield 20, 3) := by decide +kernel
theorem dX9_set_70 : decode cX9_set 70 = .ok (.iload 5, 2) := by decide +kernel
theorem dX9_set_72 : decode cX9_set 72 = .ok (.iaload, 1) := by decide +kernel
theorem dX9_set_73 : decode cX9_set 73 = .ok (.isub, 1) := by decide +kernel
theorem dX9_set_74 : decode cX9_set 74 = .ok (.iastore, 1) := by decide +kernel
theorem dX9_set_75 : decode cX9_set 75 = .ok (.iinc 5 1, 3) := by decide +kernel
theorem dX9_set_78 : decode cX9_set 78 = .ok (.goto (-27), 3) := by decide +kernel
theorem dX9_set_81 : decode cX9_set 81 = .ok (.aload_n 3, 1) := by decide +kernel
theorem dX9_set_82 : decode cX9_set 82 = .ok (.iload_n 2, 1) := by decide +kernel
theorem dX9_set_83 : decode cX9_set 83 = .ok (.invokevirtual 113, 3) := by decide +kernel
theorem dX9_set_86 : decode cX9_set 86 = .ok (.aload_n 0, 1) := by decide +kernel
theorem dX9_set_87 : decode cX9_set 87 = .ok (.getfield 48, 3) := by decide +kernel
theorem dX9_set_90 : decode cX9_set 90 = .ok (.getfield 117, 3) := by decide +kernel
theorem dX9_set_93 : decode cX9_set 93 = .ok (.iload_n 2, 1) := by decide +kernel
theorem dX9_set_94 : decode cX9_set 94 = .ok (.dup2, 1) := by decide +kernel
theorem dX9_set_95 : decode cX9_set 95 = .ok (.iaload, 1) := by decide +kernel
theorem dX9_set_96 : decode cX9_set 96 = .ok (.aload_n 3, 1) := by decide +kernel
theorem dX9_set_97 : decode cX9_set 97 = .ok (.getfield 120, 3) := by decide +kernel
theorem dX9_set_100 : decode cX9_set 100 = .ok (.iadd, 1) := by decide +kernel
theorem dX9_set_101 : decode cX9_set 101 = .ok (.iastore, 1) := by decide +kernel
theorem dX9_set_102 : decode cX9_set 102 = .ok (.aload_n 3, 1) := by decide +kernel
theorem dX9_set_103 : decode cX9_set 103 = .ok (.getfield 120, 3) := by decide +kernel
theorem dX9_set_106 : decode cX9_set 106 = .ok (.ireturn, 1) := by decide +kernel
def f_X9_set_L51 (k81 : Nat → Int32 → Int32 → Nat → Int32 → Int32 → Hp → Option (Int32 × Hp)) : Nat → Nat → Int32 → Int32 → Nat → Int32 → Int32 → Hp → Option (Int32 × Hp)
  | 0, _, _, _, _, _, _, _ => none
  | n + 1, l0, l1, l2, l3, l4, l5, h =>
    if (26 : Int32) ≤ l5 then (
    k81 l0 l1 l2 l3 l4 l5 h) else (
    gd (okOb h l0 9) <|
    vl (gR h l0 1) fun r16 =>
    un r16 fun b17 =>
    gd (okAb h b17 11 l5) <|
    vl (gI h b17 l5.toNatClampNeg) fun x19 =>
    vl (gR h l0 2) fun r20 =>
    un r20 fun b21 =>
    gd (okAb h b21 11 l5) <|
    vl (gI h b21 l5.toNatClampNeg) fun x23 =>
    gd (okAb h b17 11 l5) <|
    vl (sI h b17 l5.toNatClampNeg (x19 - x23)) fun h25 =>
    vl (l5 + (1 : Int32)) fun x26 =>
    f_X9_set_L51 k81 n l0 l1 l2 l3 l4 x26 h25)
set_option maxHeartbeats 4000000 in
set_option maxRecDepth 100000 in
theorem t_X9_set_L51 {X : Cx} {d : Nat} {h0 h' : Hp} {v : Int32} {k81 : Nat → Int32 → Int32 → Nat → Int32 → Int32 → Hp → Option (Int32 × Hp)} (hD : 3 ≤ d) (hk81 : ∀ (z0 : Nat) (z1 : Int32) (z2 : Int32) (z3 : Nat) (z4 : Int32) (z5 : Int32) (h : Hp), k81 z0 z1 z2 z3 z4 z5 h = some (v, h') → EV X mX9_set d h0 (some (.int v)) h' 81 [some (.ref z0), some (.int z1), some (.int z2), some (.ref z3), some (.int z4), some (.int z5)] [] h) : ∀ (n : Nat) (l0 : Nat) (l1 : Int32) (l2 : Int32) (l3 : Nat) (l4 : Int32) (l5 : Int32) (h : Hp), f_X9_set_L51 k81 n l0 l1 l2 l3 l4 l5 h = some (v, h') → EV X mX9_set d h0 (some (.int v)) h' 51 [some (.ref l0), some (.int l1), some (.int l2), some (.ref l3), some (.int l4), some (.int l5)] [] h := by
  intro n
  induction n with
  | zero => intro l0 l1 l2 l3 l4 l5 h H; simp [f_X9_set_L51] at H
  | succ n ih =>
    intro l0 l1 l2 l3 l4 l5 h H
    rw [f_X9_set_L51] at H
    refine ev_iload dX9_set_51 rfl ?_
    refine ev_bipush (v := (26 : Int32)) dX9_set_53 (by decide) ?_
    refine ev_icmp_ge (tgt := 81) dX9_set_55 (by decide) (fun c14 => ?_) (fun c14 => ?_)
    · rw [if_pos c14] at H
      exact hk81 l0 l1 l2 l3 l4 l5 h H
    · rw [if_neg c14] at H
      refine ev_aload_n dX9_set_58 rfl rfl rfl ?_
      replace H := gd_some H
      obtain ⟨g15, H⟩ := H
      replace H := vl_some H
      obtain ⟨r16, er16, H⟩ := H
      refine ev_getRx dX9_set_59 fgX9_16 rfl (okOb.p g15) er16 ?_
      refine ev_iload dX9_set_62 rfl ?_
      refine ev_dup2 dX9_set_64 rfl (rv_cat _) ?_
      replace H := un_some H
      obtain ⟨b17, eb17, H⟩ := H
      subst eb17
      replace H := gd_some H
      obtain ⟨g18, H⟩ := H
      replace H := vl_some H
      obtain ⟨x19, ex19, H⟩ := H
      refine ev_ialdx dX9_set_65 (okAb.p g18) ex19 ?_
      refine ev_aload_n dX9_set_66 rfl rfl rfl ?_
      replace H := vl_some H
      obtain ⟨r20, er20, H⟩ := H
      refine ev_getRx dX9_set_67 fgX9_20 rfl (okOb.p g15) er20 ?_
      refine ev_iload dX9_set_70 rfl ?_
      replace H := un_some H
      obtain ⟨b21, eb21, H⟩ := H
      subst eb21
      replace H := gd_some H
      obtain ⟨g22, H⟩ := H
      replace H := vl_some H
      obtain ⟨x23, ex23, H⟩ := H
      refine ev_ialdx dX9_set_72 (okAb.p g22) ex23 ?_
      refine ev_isub dX9_set_73 ?_
      replace H := gd_some H
      obtain ⟨g24, H⟩ := H
      replace H := vl_some H
      obtain ⟨h25, eh25, H⟩ := H
      refine ev_iast dX9_set_74 (okAb.p g24) eh25 ?_
      replace H := vl_some H
      obtain ⟨x26, ex26, H⟩ := H
      refine ev_iincx (loc2 := [some (.ref l0), some (.int l1), some (.int l2), some (.ref l3), some (.int l4), some (.int x26)]) dX9_set_75 rfl (by decide) ex26 (by decide) rfl ?_
      refine ev_goto (tgt := 51) dX9_set_78 (by decide) ?_
      exact ih l0 l1 l2 l3 l4 x26 h25 H
def f_X9_set (h : Hp) (a0 : Nat) (a1 : Int32) (a2 : Int32) : Option (Int32 × Hp) :=
gd (okOb h a0 9) <|
bnd (f_X9_findPage h a0 a1) fun v2 h3 =>
nl v2 (
some ((-1 : Int32), h3)) fun b4 =>
bnd (f_X9_isHand h3 a2) fun v5 h6 =>
if v5 = 0 then (
some ((-1 : Int32), h6)) else (
gd (okOb h6 b4 6) <|
vl (gI h6 b4 5) fun x9 =>
if x9 = 0 then (
bnd (f_X9_firstMissing h6 a0 b4) fun v11 h12 =>
if v11 = (-1 : Int32) then (
f_X9_set_L51 (fun y27 y28 y29 y30 y31 y32 h33 =>
gd (okOb h33 y30 6) <|
bnd (f_X6_compose h33 y30 y29) fun u35 h36 =>
gd (okOb h36 y27 9) <|
vl (gR h36 y27 10) fun r38 =>
un r38 fun b39 =>
gd (okOb h36 b39 3) <|
vl (gR h36 b39 0) fun r41 =>
un r41 fun b42 =>
gd (okAb h36 b42 11 y29) <|
vl (gI h36 b42 y29.toNatClampNeg) fun x44 =>
vl (gI h36 y30 4) fun x45 =>
gd (okAb h36 b42 11 y29) <|
vl (sI h36 b42 y29.toNatClampNeg (x44 + x45)) fun h47 =>
vl (gI h47 y30 4) fun x48 =>
some (x48, h47)) 6000 a0 a1 a2 b4 v11 (0 : Int32) h12) else (
some ((-10 : Int32) - v11, h12))) else (
some ((-3 : Int32), h6)))
set_option maxHeartbeats 4000000 in
set_option maxRecDepth 100000 in
theorem t_X9_set {X : Cx} {d : Nat} {h : Hp} {a0 : Nat} {a1 : Int32} {a2 : Int32} {v : Int32} {h' : Hp} (hD : 3 ≤ d) (H : f_X9_set h a0 a1 a2 = some (v, h')) : PM X mX9_set d [.ref a0, .int a1, .int a2] h (some (.int v)) h' := by
  unfold f_X9_set at H
  refine PM.of (loc := [some (.ref a0), some (.int a1), some (.int a2), none, none, none]) (by decide) rfl (Nat.le_of_ble_eq_true rfl) ?_
  refine ev_aload_n dX9_set_0 rfl rfl rfl ?_
  refine ev_iload_n dX9_set_1 rfl rfl ?_
  replace H := gd_some H
  obtain ⟨g1, H⟩ := H
  replace H := bnd_some H
  obtain ⟨v2, h3, eh3, H⟩ := H
  have ph3 := (t_X9_findPage (X := X) (d := 1) (by omega) eh3)
  refine ev_callV (as := [.int a1]) dX9_set_2 ph3 ok_X9_findPage (by omega) rfl k2_90 k2_92 ks_0 (ci := 9) (by decide) rfl rfl (okOb.p g1) rfl (Nat.le_of_ble_eq_true rfl) ?_
  refine ev_astore_n (loc2 := [some (.ref a0), some (.int a1), some (.int a2), some (rv v2), none, none]) dX9_set_5 rfl (by decide) (isA_rv _) rfl ?_
  refine ev_aload_n dX9_set_6 rfl rfl (isA_rv _) ?_
  replace H := nl_some H
  rcases H with ⟨eb4, H⟩ | ⟨b4, eb4, H⟩
  · subst eb4
    refine ev_ifnull_n (tgt := 17) dX9_set_7 (by decide) ?_
    refine ev_iconst (v := (-1 : Int32)) dX9_set_17 (by decide) ?_
    exact ev_iretx dX9_set_18 rfl rfl H
  · subst eb4
    refine ev_ifnull_s dX9_set_7 ?_
    refine ev_iload_n dX9_set_10 rfl rfl ?_
    replace H := bnd_some H
    obtain ⟨v5, h6, eh6, H⟩ := H
    have ph6 := (t_X9_isHand (X := X) (d := 1) (by omega) eh6)
    refine ev_callS (as := [.int a2]) dX9_set_11 ph6 ok_X9_isHand (by omega) rfl k2_94 k2_95 rfl (Nat.le_of_ble_eq_true rfl) ?_
    refine ev_if_ne (tgt := 19) dX9_set_14 (by decide) (fun c7 => ?_) (fun c7 => ?_)
    · rw [if_neg c7] at H
      refine ev_aload_n dX9_set_19 rfl rfl rfl ?_
      replace H := gd_some H
      obtain ⟨g8, H⟩ := H
      replace H := vl_some H
      obtain ⟨x9, ex9, H⟩ := H
      refine ev_getIx dX9_set_20 fgX9_105 rfl (okOb.p g8) ex9 ?_
      refine ev_if_eq (tgt := 29) dX9_set_23 (by decide) (fun c10 => ?_) (fun c10 => ?_)
      · rw [if_pos c10] at H
        refine ev_aload_n dX9_set_29 rfl rfl rfl ?_
        refine ev_aload_n dX9_set_30 rfl rfl rfl ?_
        replace H := bnd_some H
        obtain ⟨v11, h12, eh12, H⟩ := H
        have ph12 := (t_X9_firstMissing (X := X) (d := 2) (by omega) eh12)
        refine ev_callV (as := [.ref b4]) dX9_set_31 ph12 ok_X9_firstMissing (by omega) rfl k2_97 k2_99 ks_1 (ci := 9) (by decide) rfl rfl (okO_ext ph6.1 (okO_ext ph3.1 (okOb.p g1))) rfl (Nat.le_of_ble_eq_true rfl) ?_
        refine ev_istore (loc2 := [some (.ref a0), some (.int a1), some (.int a2), some (.ref b4), some (.int v11), none]) dX9_set_34 (by decide) rfl ?_
        refine ev_iload dX9_set_36 rfl ?_
        refine ev_iconst (v := (-1 : Int32)) dX9_set_38 (by decide) ?_
        refine ev_icmp_eq (tgt := 48) dX9_set_39 (by decide) (fun c13 => ?_) (fun c13 => ?_)
        · rw [if_pos c13] at H
          refine ev_iconst (v := (0 : Int32)) dX9_set_48 (by decide) ?_
          refine ev_istore (loc2 := [some (.ref a0), some (.int a1), some (.int a2), some (.ref b4), some (.int v11), some (.int (0 : Int32))]) dX9_set_49 (by decide) rfl ?_
          refine t_X9_set_L51 hD ?_ 6000 a0 a1 a2 b4 v11 (0 : Int32) h12 H
          · intro y27 y28 y29 y30 y31 y32 h33 H
            refine ev_aload_n dX9_set_81 rfl rfl rfl ?_
            refine ev_iload_n dX9_set_82 rfl rfl ?_
            replace H := gd_some H
            obtain ⟨g34, H⟩ := H
            replace H := bnd_some H
            obtain ⟨u35, h36, eh36, H⟩ := H
            have ph36 := (t_X6_compose (X := X) (d := 1) (by omega) eh36)
            refine ev_callV (as := [.int y29]) dX9_set_83 ph36 ok_X6_compose (by omega) rfl k2_102 k2_103 k2_104 (ci := 6) (by decide) rfl rfl (okOb.p g34) rfl (Nat.le_of_ble_eq_true rfl) ?_
            refine ev_aload_n dX9_set_86 rfl rfl rfl ?_
            replace H := gd_some H
            obtain ⟨g37, H⟩ := H
            replace H := vl_some H
            obtain ⟨r38, er38, H⟩ := H
            refine ev_getRx dX9_set_87 fgX9_48 rfl (okOb.p g37) er38 ?_
            replace H := un_some H
            obtain ⟨b39, eb39, H⟩ := H
            subst eb39
            replace H := gd_some H
            obtain ⟨g40, H⟩ := H
            replace H := vl_some H
            obtain ⟨r41, er41, H⟩ := H
            refine ev_getRx dX9_set_90 fgX9_117 rfl (okOb.p g40) er41 ?_
            refine ev_iload_n dX9_set_93 rfl rfl ?_
            refine ev_dup2 dX9_set_94 rfl (rv_cat _) ?_
            replace H := un_some H
            obtain ⟨b42, eb42, H⟩ := H
            subst eb42
            replace H := gd_some H
            obtain ⟨g43, H⟩ := H
            replace H := vl_some H
            obtain ⟨x44, ex44, H⟩ := H
            refine ev_ialdx dX9_set_95 (okAb.p g43) ex44 ?_
            refine ev_aload_n dX9_set_96 rfl rfl rfl ?_
            replace H := vl_some H
            obtain ⟨x45, ex45, H⟩ := H
            refine ev_getIx dX9_set_97 fgX9_120 rfl (okO_ext ph36.1 (okOb.p g34)) ex45 ?_
            refine ev_iadd dX9_set_100 ?_
            replace H := gd_some H
            obtain ⟨g46, H⟩ := H
            replace H := vl_some H
            obtain ⟨h47, eh47, H⟩ := H
            refine ev_iast dX9_set_101 (okAb.p g46) eh47 ?_
            refine ev_aload_n dX9_set_102 rfl rfl rfl ?_
            replace H := vl_some H
            obtain ⟨x48, ex48, H⟩ := H
            refine ev_getIx dX9_set_103 fgX9_120 rfl (okO_sI eh47 (okO_ext ph36.1 (okOb.p g34))) ex48 ?_
            exact ev_iretx dX9_set_106 rfl rfl H
        · rw [if_neg c13] at H
          refine ev_bipush (v := (-10 : Int32)) dX9_set_42 (by decide) ?_
          refine ev_iload dX9_set_44 rfl ?_
          refine ev_isub dX9_set_46 ?_
          exact ev_iretx dX9_set_47 rfl rfl H
      · rw [if_neg c10] at H
        refine ev_bipush (v := (-3 : Int32)) dX9_set_26 (by decide) ?_
        exact ev_iretx dX9_set_28 rfl rfl H
    · rw [if_pos c7] at H
      refine ev_iconst (v := (-1 : Int32)) dX9_set_17 (by decide) ?_
      exact ev_iretx dX9_set_18 rfl rfl H

theorem dX9_misset_0 : decode cX9_misset 0 = .ok (.aload_n 0, 1) := by decide +kernel
theorem dX9_misset_1 : decode cX9_misset 1 = .ok (.iload_n 1, 1) := by decide +kernel
theorem dX9_misset_2 : decode cX9_misset 2 = .ok (.invokevirtual 98, 3) := by decide +kernel
theorem dX9_misset_5 : decode cX9_misset 5 = .ok (.astore 4, 2) := by decide +kernel
theorem dX9_misset_7 : decode cX9_misset 7 = .ok (.aload 4, 2) := by decide +kernel
theorem dX9_misset_9 : decode cX9_misset 9 = .ok (.ifnull 19, 3) := by decide +kernel
theorem dX9_misset_12 : decode cX9_misset 12 = .ok (.aload 4, 2) := by decide +kernel
theorem dX9_misset_14 : decode cX9_misset 14 = .ok (.iload_n 2, 1) := by decide +kernel
theorem dX9_misset_15 : decode cX9_misset 15 = .ok (.invokevirtual 123, 3) := by decide +kernel
theorem dX9_misset_18 : decode cX9_misset 18 = .ok (.ifCond .eq 10, 3) := by decide +kernel
theorem dX9_misset_21 : decode cX9_misset 21 = .ok (.iload_n 3, 1) := by decide +kernel
theorem dX9_misset_22 : decode cX9_misset 22 = .ok (.invokestatic 84, 3) := by decide +kernel
theorem dX9_misset_25 : decode cX9_misset 25 = .ok (.ifCond .ne 5, 3) := by decide +kernel
theorem dX9_misset_28 : decode cX9_misset 28 = .ok (.iconst (-1), 1) := by decide +kernel
theorem dX9_misset_29 : decode cX9_misset 29 = .ok (.ireturn, 1) := by decide +kernel
theorem dX9_misset_30 : decode cX9_misset 30 = .ok (.aload 4, 2) := by decide +kernel
theorem dX9_misset_32 : decode cX9_misset 32 = .ok (.getfield 105, 3) := by decide +kernel
theorem dX9_misset_35 : decode cX9_misset 35 = .ok (.ifCond .ne 6, 3) := by decide +kernel
theorem dX9_misset_38 : decode cX9_misset 38 = .ok (.bipush (-3), 2) := by decide +kernel
theorem dX9_misset_40 : decode cX9_misset 40 = .ok (.ireturn, 1) := by decide +kernel
theorem dX9_misset_41 : decode cX9_misset 41 = .ok (.aload 4, 2) := by decide +kernel
theorem dX9_misset_43 : decode cX9_misset 43 = .ok (.getfield 126, 3) := by decide +kernel
theorem dX9_misset_46 : decode cX9_misset 46 = .ok (.iload_n 2, 1) := by decide +kernel
theorem dX9_misset_47 : decode cX9_misset 47 = .ok (.iaload, 1) := by decide +kernel
theorem dX9_misset_48 : decode cX9_misset 48 = .ok (.istore 5, 2) := by decide +kernel
theorem dX9_misset_50 : decode cX9_misset 50 = .ok (.iload 5, 2) := by decide +kernel
theorem dX9_misset_52 : decode cX9_misset 52 = .ok (.iload_n 3, 1) := by decide +kernel
theorem dX9_misset_53 : decode cX9_misset 53 = .ok (.if_icmp .eq 11, 3) := by decide +kernel
theorem dX9_misset_56 : decode cX9_misset 56 = .ok (.iload 5, 2) := by decide +kernel
theorem dX9_misset_58 : decode cX9_misset 58 = .ok (.invokestatic 84, 3) := by decide +kernel
theorem dX9_misset_61 : decode cX9_misset 61 = .ok (.ifCond .ne 6, 3) := by decide +kernel
theorem dX9_misset_64 : decode cX9_misset 64 = .ok (.bipush (-2), 2) := by decide +kernel
theorem dX9_misset_66 : decode cX9_misset 66 = .ok (.ireturn, 1) := by decide +kernel
theorem dX9_misset_67 : decode cX9_misset 67 = .ok (.aload 4, 2) := by decide +kernel
theorem dX9_misset_69 : decode cX9_misset 69 = .ok (.invokevirtual 129, 3) := by decide +kernel
theorem dX9_misset_72 : decode cX9_misset 72 = .ok (.ifCond .eq 18, 3) := by decide +kernel
theorem dX9_misset_75 : decode cX9_misset 75 = .ok (.aload 4, 2) := by decide +kernel
theorem dX9_misset_77 : decode cX9_misset 77 = .ok (.getfield 133, 3) := by decide +kernel
theorem dX9_misset_80 : decode cX9_misset 80 = .ok (.getfield 137, 3) := by decide +kernel
theorem dX9_misset_83 : decode cX9_misset 83 = .ok (.ifCond .le 7, 3) := by decide +kernel
theorem dX9_misset_86 : decode cX9_misset 86 = .ok (.iconst 1, 1) := by decide +kernel
theorem dX9_misset_87 : decode cX9_misset 87 = .ok (.goto 4, 3) := by decide +kernel
theorem dX9_misset_90 : decode cX9_misset 90 = .ok (.iconst 0, 1) := by decide +kernel
theorem dX9_misset_91 : decode cX9_misset 91 = .ok (.istore 6, 2) := by decide +kernel
theorem dX9_misset_93 : decode cX9_misset 93 = .ok (.aload_n 0, 1) := by decide +kernel
theorem dX9_misset_94 : decode cX9_misset 94 = .ok (.getfield 16, 3) := by decide +kernel
theorem dX9_misset_97 : decode cX9_misset 97 = .ok (.iload_n 3, 1) := by decide +kernel
theorem dX9_misset_98 : decode cX9_misset 98 = .ok (.iaload, 1) := by decide +kernel
theorem dX9_misset_99 : decode cX9_misset 99 = .ok (.iconst 1, 1) := by decide +kernel
theorem dX9_misset_100 : decode cX9_misset 100 = .ok (.if_icmp .lt 21, 3) := by decide +kernel
theorem dX9_misset_103 : decode cX9_misset 103 = .ok (.iload 6, 2) := by decide +kernel
theorem dX9_misset_105 : decode cX9_misset 105 = .ok (.ifCond .eq 19, 3) := by decide +kernel
theorem dX9_misset_108 : decode cX9_misset 108 = .ok (.aload 4, 2) := by decide +kernel
theorem dX9_misset_110 : decode cX9_misset 110 = .ok (.getfield 133, 3) := by decide +kernel
theorem dX9_misset_113 : decode cX9_misset 113 = .ok (.getfield 142, 3) := by decide +kernel
theorem dX9_misset_116 : decode cX9_misset 116 = .ok (.bipush 30, 2) := by decide +kernel
theorem dX9_misset_118 : decode cX9_misset 118 = .ok (.if_icmp .lt 6, 3) := by decide +kernel
theorem dX9_misset_121 : decode cX9_misset 121 = .ok (.bipush (-4), 2) := by decide +kernel
theorem dX9_misset_123 : decode cX9_misset 123 = .ok (.ireturn, 1) := by decide +kernel
theorem dX9_misset_124 : decode cX9_misset 124 = .ok (.aload_n 0, 1) := by decide +kernel
theorem dX9_misset_125 : decode cX9_misset 125 = .ok (.getfield 16, 3) := by decide +kernel
theorem dX9_misset_128 : decode cX9_misset 128 = .ok (.iload 5, 2) := by decide +kernel
theorem dX9_misset_130 : decode cX9_misset 130 = .ok (.dup2, 1) := by decide +kernel
theorem dX9_misset_131 : decode cX9_misset 131 = .ok (.iaload, 1) := by decide +kernel
theorem dX9_misset_132 : decode cX9_misset 132 = .ok (.iconst 1, 1) := by decide +kernel
theorem dX9_misset_133 : decode cX9_misset 133 = .ok (.iadd, 1) := by decide +kernel
theorem dX9_misset_134 : decode cX9_misset 134 = .ok (.iastore, 1) := by decide +kernel
theorem dX9_misset_135 : decode cX9_misset 135 = .ok (.aload_n 0, 1) := by decide +kernel
theorem dX9_misset_136 : decode cX9_misset 136 = .ok (.getfield 16, 3) := by decide +kernel
theorem dX9_misset_139 : decode cX9_misset 139 = .ok (.iload_n 3, 1) := by decide +kernel
theorem dX9_misset_140 : decode cX9_misset 140 = .ok (.dup2, 1) := by decide +kernel
theorem dX9_misset_141 : decode cX9_misset 141 = .ok (.iaload, 1) := by decide +kernel
theorem dX9_misset_142 : decode cX9_misset 142 = .ok (.iconst 1, 1) := by decide +kernel
theorem dX9_misset_143 : decode cX9_misset 143 = .ok (.isub, 1) := by decide +kernel
theorem dX9_misset_144 : decode cX9_misset 144 = .ok (.iastore, 1) := by decide +kernel
theorem dX9_misset_145 : decode cX9_misset 145 = .ok (.aload 4, 2) := by decide +kernel
theorem dX9_misset_147 : decode cX9_misset 147 = .ok (.getfield 126, 3) := by decide +kernel
theorem dX9_misset_150 : decode cX9_misset 150 = .ok (.iload_n 2, 1) := by decide +kernel
theorem dX9_misset_151 : decode cX9_misset 151 = .ok (.iload_n 3, 1) := by decide +kernel
theorem dX9_misset_152 : decode cX9_misset 152 = .ok (.iastore, 1) := by decide +kernel
theorem dX9_misset_153 : decode cX9_misset 153 = .ok (.iload 6, 2) := by decide +kernel
theorem dX9_misset_155 : decode cX9_misset 155 = .ok (.ifCond .eq 14, 3) := by decide +kernel
theorem dX9_misset_158 : decode cX9_misset 158 = .ok (.aload 4, 2) := by decide +kernel
theorem dX9_misset_160 : decode cX9_misset 160 = .ok (.getfield 133, 3) := by decide +kernel
theorem dX9_misset_163 : decode cX9_misset 163 = .ok (.iload_n 1, 1) := by decide +kernel
theorem dX9_misset_164 : decode cX9_misset 164 = .ok (.iload_n 2, 1) := by decide +kernel
theorem dX9_misset_165 : decode cX9_misset 165 = .ok (.iload_n 3, 1) := by decide +kernel
theorem dX9_misset_166 : decode cX9_misset 166 = .ok (.invokevirtual 145, 3) := by decide +kernel
theorem dX9_misset_169 : decode cX9_misset 169 = .ok (.iload 5, 2) := by decide +kernel
theorem dX9_misset_171 : decode cX9_misset 171 = .ok (.ireturn, 1) := by decide +kernel
def f_X9_misset_J124 (l0 : Nat) (l1 : Int32) (l2 : Int32) (l3 : Int32) (l4 : Nat) (l5 : Int32) (l6 : Int32) (h : Hp) : Option (Int32 × Hp) :=
gd (okOb h l0 9) <|
vl (gR h l0 1) fun r33 =>
un r33 fun b34 =>
gd (okAb h b34 11 l5) <|
vl (gI h b34 l5.toNatClampNeg) fun x36 =>
gd (okAb h b34 11 l5) <|
vl (sI h b34 l5.toNatClampNeg (x36 + (1 : Int32))) fun h38 =>
vl (gR h38 l0 1) fun r39 =>
un r39 fun b40 =>
gd (okAb h38 b40 11 l3) <|
vl (gI h38 b40 l3.toNatClampNeg) fun x42 =>
gd (okAb h38 b40 11 l3) <|
vl (sI h38 b40 l3.toNatClampNeg (x42 - (1 : Int32))) fun h44 =>
gd (okOb h44 l4 6) <|
vl (gR h44 l4 2) fun r46 =>
un r46 fun b47 =>
gd (okAb h44 b47 11 l2) <|
vl (sI h44 b47 l2.toNatClampNeg l3) fun h49 =>
if l6 = 0 then (
some (l5, h49)) else (
vl (gR h49 l4 7) fun r51 =>
un r51 fun b52 =>
gd (okOb h49 b52 2) <|
bnd (f_X2_noteChange h49 b52 l1 l2 l3) fun u54 h55 =>
some (l5, h55))
set_option maxHeartbeats 4000000 in
set_option maxRecDepth 100000 in
theorem t_X9_misset_J124 {X : Cx} {d : Nat} {h0 h' : Hp} {v : Int32} (hD : 3 ≤ d) : ∀ (l0 : Nat) (l1 : Int32) (l2 : Int32) (l3 : Int32) (l4 : Nat) (l5 : Int32) (l6 : Int32) (h : Hp), f_X9_misset_J124 l0 l1 l2 l3 l4 l5 l6 h = some (v, h') → EV X mX9_misset d h0 (some (.int v)) h' 124 [some (.ref l0), some (.int l1), some (.int l2), some (.int l3), some (.ref l4), some (.int l5), some (.int l6)] [] h := by
  intro l0 l1 l2 l3 l4 l5 l6 h H
  unfold f_X9_misset_J124 at H
  refine ev_aload_n dX9_misset_124 rfl rfl rfl ?_
  replace H := gd_some H
  obtain ⟨g32, H⟩ := H
  replace H := vl_some H
  obtain ⟨r33, er33, H⟩ := H
  refine ev_getRx dX9_misset_125 fgX9_16 rfl (okOb.p g32) er33 ?_
  refine ev_iload dX9_misset_128 rfl ?_
  refine ev_dup2 dX9_misset_130 rfl (rv_cat _) ?_
  replace H := un_some H
  obtain ⟨b34, eb34, H⟩ := H
  subst eb34
  replace H := gd_some H
  obtain ⟨g35, H⟩ := H
  replace H := vl_some H
  obtain ⟨x36, ex36, H⟩ := H
  refine ev_ialdx dX9_misset_131 (okAb.p g35) ex36 ?_
  refine ev_iconst (v := (1 : Int32)) dX9_misset_132 (by decide) ?_
  refine ev_iadd dX9_misset_133 ?_
  replace H := gd_some H
  obtain ⟨g37, H⟩ := H
  replace H := vl_some H
  obtain ⟨h38, eh38, H⟩ := H
  refine ev_iast dX9_misset_134 (okAb.p g37) eh38 ?_
  refine ev_aload_n dX9_misset_135 rfl rfl rfl ?_
  replace H := vl_some H
  obtain ⟨r39, er39, H⟩ := H
  refine ev_getRx dX9_misset_136 fgX9_16 rfl (okO_sI eh38 (okOb.p g32)) er39 ?_
  refine ev_iload_n dX9_misset_139 rfl rfl ?_
  refine ev_dup2 dX9_misset_140 rfl (rv_cat _) ?_
  replace H := un_some H
  obtain ⟨b40, eb40, H⟩ := H
  subst eb40
  replace H := gd_some H
  obtain ⟨g41, H⟩ := H
  replace H := vl_some H
  obtain ⟨x42, ex42, H⟩ := H
  refine ev_ialdx dX9_misset_141 (okAb.p g41) ex42 ?_
  refine ev_iconst (v := (1 : Int32)) dX9_misset_142 (by decide) ?_
  refine ev_isub dX9_misset_143 ?_
  replace H := gd_some H
  obtain ⟨g43, H⟩ := H
  replace H := vl_some H
  obtain ⟨h44, eh44, H⟩ := H
  refine ev_iast dX9_misset_144 (okAb.p g43) eh44 ?_
  refine ev_aload dX9_misset_145 rfl rfl ?_
  replace H := gd_some H
  obtain ⟨g45, H⟩ := H
  replace H := vl_some H
  obtain ⟨r46, er46, H⟩ := H
  refine ev_getRx dX9_misset_147 fgX9_126 rfl (okOb.p g45) er46 ?_
  refine ev_iload_n dX9_misset_150 rfl rfl ?_
  refine ev_iload_n dX9_misset_151 rfl rfl ?_
  replace H := un_some H
  obtain ⟨b47, eb47, H⟩ := H
  subst eb47
  replace H := gd_some H
  obtain ⟨g48, H⟩ := H
  replace H := vl_some H
  obtain ⟨h49, eh49, H⟩ := H
  refine ev_iast dX9_misset_152 (okAb.p g48) eh49 ?_
  refine ev_iload dX9_misset_153 rfl ?_
  refine ev_if_eq (tgt := 169) dX9_misset_155 (by decide) (fun c50 => ?_) (fun c50 => ?_)
  · rw [if_pos c50] at H
    refine ev_iload dX9_misset_169 rfl ?_
    exact ev_iretx dX9_misset_171 rfl rfl H
  · rw [if_neg c50] at H
    refine ev_aload dX9_misset_158 rfl rfl ?_
    replace H := vl_some H
    obtain ⟨r51, er51, H⟩ := H
    refine ev_getRx dX9_misset_160 fgX9_133 rfl (okO_sI eh49 (okOb.p g45)) er51 ?_
    refine ev_iload_n dX9_misset_163 rfl rfl ?_
    refine ev_iload_n dX9_misset_164 rfl rfl ?_
    refine ev_iload_n dX9_misset_165 rfl rfl ?_
    replace H := un_some H
    obtain ⟨b52, eb52, H⟩ := H
    subst eb52
    replace H := gd_some H
    obtain ⟨g53, H⟩ := H
    replace H := bnd_some H
    obtain ⟨u54, h55, eh55, H⟩ := H
    have ph55 := (t_X2_noteChange (X := X) (d := 1) (by omega) eh55)
    refine ev_callV (as := [.int l1, .int l2, .int l3]) dX9_misset_166 ph55 ok_X2_noteChange (by omega) rfl k2_125 k2_126 k2_127 (ci := 2) (by decide) rfl rfl (okOb.p g53) rfl (Nat.le_of_ble_eq_true rfl) ?_
    refine ev_iload dX9_misset_169 rfl ?_
    exact ev_iretx dX9_misset_171 rfl rfl H
def f_X9_misset_J91 (l0 : Nat) (l1 : Int32) (l2 : Int32) (l3 : Int32) (l4 : Nat) (l5 : Int32) (w0 : Int32) (h : Hp) : Option (Int32 × Hp) :=
gd (okOb h l0 9) <|
vl (gR h l0 1) fun r26 =>
un r26 fun b27 =>
gd (okAb h b27 11 l3) <|
vl (gI h b27 l3.toNatClampNeg) fun x29 =>
if x29 < (1 : Int32) then (
some ((-4 : Int32), h)) else (
if w0 = 0 then (
f_X9_misset_J124 l0 l1 l2 l3 l4 l5 w0 h) else (
gd (okOb h l4 6) <|
vl (gR h l4 7) fun r57 =>
un r57 fun b58 =>
gd (okOb h b58 2) <|
vl (gI h b58 4) fun x60 =>
if x60 < (30 : Int32) then (
f_X9_misset_J124 l0 l1 l2 l3 l4 l5 w0 h) else (
some ((-4 : Int32), h))))
set_option maxHeartbeats 4000000 in
set_option maxRecDepth 100000 in
theorem t_X9_misset_J91 {X : Cx} {d : Nat} {h0 h' : Hp} {v : Int32} (hD : 3 ≤ d) : ∀ (l0 : Nat) (l1 : Int32) (l2 : Int32) (l3 : Int32) (l4 : Nat) (l5 : Int32) (w0 : Int32) (h : Hp), f_X9_misset_J91 l0 l1 l2 l3 l4 l5 w0 h = some (v, h') → EV X mX9_misset d h0 (some (.int v)) h' 91 [some (.ref l0), some (.int l1), some (.int l2), some (.int l3), some (.ref l4), some (.int l5), none] [.int w0] h := by
  intro l0 l1 l2 l3 l4 l5 w0 h H
  unfold f_X9_misset_J91 at H
  refine ev_istore (loc2 := [some (.ref l0), some (.int l1), some (.int l2), some (.int l3), some (.ref l4), some (.int l5), some (.int w0)]) dX9_misset_91 (by decide) rfl ?_
  refine ev_aload_n dX9_misset_93 rfl rfl rfl ?_
  replace H := gd_some H
  obtain ⟨g25, H⟩ := H
  replace H := vl_some H
  obtain ⟨r26, er26, H⟩ := H
  refine ev_getRx dX9_misset_94 fgX9_16 rfl (okOb.p g25) er26 ?_
  refine ev_iload_n dX9_misset_97 rfl rfl ?_
  replace H := un_some H
  obtain ⟨b27, eb27, H⟩ := H
  subst eb27
  replace H := gd_some H
  obtain ⟨g28, H⟩ := H
  replace H := vl_some H
  obtain ⟨x29, ex29, H⟩ := H
  refine ev_ialdx dX9_misset_98 (okAb.p g28) ex29 ?_
  refine ev_iconst (v := (1 : Int32)) dX9_misset_99 (by decide) ?_
  refine ev_icmp_lt (tgt := 121) dX9_misset_100 (by decide) (fun c30 => ?_) (fun c30 => ?_)
  · rw [if_pos c30] at H
    refine ev_bipush (v := (-4 : Int32)) dX9_misset_121 (by decide) ?_
    exact ev_iretx dX9_misset_123 rfl rfl H
  · rw [if_neg c30] at H
    refine ev_iload dX9_misset_103 rfl ?_
    refine ev_if_eq (tgt := 124) dX9_misset_105 (by decide) (fun c31 => ?_) (fun c31 => ?_)
    · rw [if_pos c31] at H
      exact t_X9_misset_J124 hD l0 l1 l2 l3 l4 l5 w0 h H
    · rw [if_neg c31] at H
      refine ev_aload dX9_misset_108 rfl rfl ?_
      replace H := gd_some H
      obtain ⟨g56, H⟩ := H
      replace H := vl_some H
      obtain ⟨r57, er57, H⟩ := H
      refine ev_getRx dX9_misset_110 fgX9_133 rfl (okOb.p g56) er57 ?_
      replace H := un_some H
      obtain ⟨b58, eb58, H⟩ := H
      subst eb58
      replace H := gd_some H
      obtain ⟨g59, H⟩ := H
      replace H := vl_some H
      obtain ⟨x60, ex60, H⟩ := H
      refine ev_getIx dX9_misset_113 fgX9_142 rfl (okOb.p g59) ex60 ?_
      refine ev_bipush (v := (30 : Int32)) dX9_misset_116 (by decide) ?_
      refine ev_icmp_lt (tgt := 124) dX9_misset_118 (by decide) (fun c61 => ?_) (fun c61 => ?_)
      · rw [if_pos c61] at H
        exact t_X9_misset_J124 hD l0 l1 l2 l3 l4 l5 w0 h H
      · rw [if_neg c61] at H
        refine ev_bipush (v := (-4 : Int32)) dX9_misset_121 (by decide) ?_
        exact ev_iretx dX9_misset_123 rfl rfl H
def f_X9_misset_J90 (l0 : Nat) (l1 : Int32) (l2 : Int32) (l3 : Int32) (l4 : Nat) (l5 : Int32) (h : Hp) : Option (Int32 × Hp) :=
f_X9_misset_J91 l0 l1 l2 l3 l4 l5 (0 : Int32) h
set_option maxHeartbeats 4000000 in
set_option maxRecDepth 100000 in
theorem t_X9_misset_J90 {X : Cx} {d : Nat} {h0 h' : Hp} {v : Int32} (hD : 3 ≤ d) : ∀ (l0 : Nat) (l1 : Int32) (l2 : Int32) (l3 : Int32) (l4 : Nat) (l5 : Int32) (h : Hp), f_X9_misset_J90 l0 l1 l2 l3 l4 l5 h = some (v, h') → EV X mX9_misset d h0 (some (.int v)) h' 90 [some (.ref l0), some (.int l1), some (.int l2), some (.int l3), some (.ref l4), some (.int l5), none] [] h := by
  intro l0 l1 l2 l3 l4 l5 h H
  unfold f_X9_misset_J90 at H
  refine ev_iconst (v := (0 : Int32)) dX9_misset_90 (by decide) ?_
  exact t_X9_misset_J91 hD l0 l1 l2 l3 l4 l5 (0 : Int32) h H
def f_X9_misset_J124_3 (l0 : Nat) (l1 : Int32) (l2 : Int32) (l3 : Int32) (l4 : Nat) (l5 : Int32) (l6 : Int32) (h : Hp) : Option (Int32 × Hp) :=
gd (okOb h l0 9) <|
vl (gR h l0 1) fun r75 =>
un r75 fun b76 =>
gd (okAb h b76 11 l5) <|
vl (gI h b76 l5.toNatClampNeg) fun x78 =>
gd (okAb h b76 11 l5) <|
vl (sI h b76 l5.toNatClampNeg (x78 + (1 : Int32))) fun h80 =>
vl (gR h80 l0 1) fun r81 =>
un r81 fun b82 =>
gd (okAb h80 b82 11 l3) <|
vl (gI h80 b82 l3.toNatClampNeg) fun x84 =>
gd (okAb h80 b82 11 l3) <|
vl (sI h80 b82 l3.toNatClampNeg (x84 - (1 : Int32))) fun h86 =>
gd (okOb h86 l4 6) <|
vl (gR h86 l4 2) fun r88 =>
un r88 fun b89 =>
gd (okAb h86 b89 11 l2) <|
vl (sI h86 b89 l2.toNatClampNeg l3) fun h91 =>
if l6 = 0 then (
some (l5, h91)) else (
vl (gR h91 l4 7) fun r93 =>
un r93 fun b94 =>
gd (okOb h91 b94 2) <|
bnd (f_X2_noteChange h91 b94 l1 l2 l3) fun u96 h97 =>
some (l5, h97))
set_option maxHeartbeats 4000000 in
set_option maxRecDepth 100000 in
theorem t_X9_misset_J124_3 {X : Cx} {d : Nat} {h0 h' : Hp} {v : Int32} (hD : 3 ≤ d) : ∀ (l0 : Nat) (l1 : Int32) (l2 : Int32) (l3 : Int32) (l4 : Nat) (l5 : Int32) (l6 : Int32) (h : Hp), f_X9_misset_J124_3 l0 l1 l2 l3 l4 l5 l6 h = some (v, h') → EV X mX9_misset d h0 (some (.int v)) h' 124 [some (.ref l0), some (.int l1), some (.int l2), some (.int l3), some (.ref l4), some (.int l5), some (.int l6)] [] h := by
  intro l0 l1 l2 l3 l4 l5 l6 h H
  unfold f_X9_misset_J124_3 at H
  refine ev_aload_n dX9_misset_124 rfl rfl rfl ?_
  replace H := gd_some H
  obtain ⟨g74, H⟩ := H
  replace H := vl_some H
  obtain ⟨r75, er75, H⟩ := H
  refine ev_getRx dX9_misset_125 fgX9_16 rfl (okOb.p g74) er75 ?_
  refine ev_iload dX9_misset_128 rfl ?_
  refine ev_dup2 dX9_misset_130 rfl (rv_cat _) ?_
  replace H := un_some H
  obtain ⟨b76, eb76, H⟩ := H
  subst eb76
  replace H := gd_some H
  obtain ⟨g77, H⟩ := H
  replace H := vl_some H
  obtain ⟨x78, ex78, H⟩ := H
  refine ev_ialdx dX9_misset_131 (okAb.p g77) ex78 ?_
  refine ev_iconst (v := (1 : Int32)) dX9_misset_132 (by decide) ?_
  refine ev_iadd dX9_misset_133 ?_
  replace H := gd_some H
  obtain ⟨g79, H⟩ := H
  replace H := vl_some H
  obtain ⟨h80, eh80, H⟩ := H
  refine ev_iast dX9_misset_134 (okAb.p g79) eh80 ?_
  refine ev_aload_n dX9_misset_135 rfl rfl rfl ?_
  replace H := vl_some H
  obtain ⟨r81, er81, H⟩ := H
  refine ev_getRx dX9_misset_136 fgX9_16 rfl (okO_sI eh80 (okOb.p g74)) er81 ?_
  refine ev_iload_n dX9_misset_139 rfl rfl ?_
  refine ev_dup2 dX9_misset_140 rfl (rv_cat _) ?_
  replace H := un_some H
  obtain ⟨b82, eb82, H⟩ := H
  subst eb82
  replace H := gd_some H
  obtain ⟨g83, H⟩ := H
  replace H := vl_some H
  obtain ⟨x84, ex84, H⟩ := H
  refine ev_ialdx dX9_misset_141 (okAb.p g83) ex84 ?_
  refine ev_iconst (v := (1 : Int32)) dX9_misset_142 (by decide) ?_
  refine ev_isub dX9_misset_143 ?_
  replace H := gd_some H
  obtain ⟨g85, H⟩ := H
  replace H := vl_some H
  obtain ⟨h86, eh86, H⟩ := H
  refine ev_iast dX9_misset_144 (okAb.p g85) eh86 ?_
  refine ev_aload dX9_misset_145 rfl rfl ?_
  replace H := gd_some H
  obtain ⟨g87, H⟩ := H
  replace H := vl_some H
  obtain ⟨r88, er88, H⟩ := H
  refine ev_getRx dX9_misset_147 fgX9_126 rfl (okOb.p g87) er88 ?_
  refine ev_iload_n dX9_misset_150 rfl rfl ?_
  refine ev_iload_n dX9_misset_151 rfl rfl ?_
  replace H := un_some H
  obtain ⟨b89, eb89, H⟩ := H
  subst eb89
  replace H := gd_some H
  obtain ⟨g90, H⟩ := H
  replace H := vl_some H
  obtain ⟨h91, eh91, H⟩ := H
  refine ev_iast dX9_misset_152 (okAb.p g90) eh91 ?_
  refine ev_iload dX9_misset_153 rfl ?_
  refine ev_if_eq (tgt := 169) dX9_misset_155 (by decide) (fun c92 => ?_) (fun c92 => ?_)
  · rw [if_pos c92] at H
    refine ev_iload dX9_misset_169 rfl ?_
    exact ev_iretx dX9_misset_171 rfl rfl H
  · rw [if_neg c92] at H
    refine ev_aload dX9_misset_158 rfl rfl ?_
    replace H := vl_some H
    obtain ⟨r93, er93, H⟩ := H
    refine ev_getRx dX9_misset_160 fgX9_133 rfl (okO_sI eh91 (okOb.p g87)) er93 ?_
    refine ev_iload_n dX9_misset_163 rfl rfl ?_
    refine ev_iload_n dX9_misset_164 rfl rfl ?_
    refine ev_iload_n dX9_misset_165 rfl rfl ?_
    replace H := un_some H
    obtain ⟨b94, eb94, H⟩ := H
    subst eb94
    replace H := gd_some H
    obtain ⟨g95, H⟩ := H
    replace H := bnd_some H
    obtain ⟨u96, h97, eh97, H⟩ := H
    have ph97 := (t_X2_noteChange (X := X) (d := 1) (by omega) eh97)
    refine ev_callV (as := [.int l1, .int l2, .int l3]) dX9_misset_166 ph97 ok_X2_noteChange (by omega) rfl k2_125 k2_126 k2_127 (ci := 2) (by decide) rfl rfl (okOb.p g95) rfl (Nat.le_of_ble_eq_true rfl) ?_
    refine ev_iload dX9_misset_169 rfl ?_
    exact ev_iretx dX9_misset_171 rfl rfl H
def f_X9_misset_J91_3 (l0 : Nat) (l1 : Int32) (l2 : Int32) (l3 : Int32) (l4 : Nat) (l5 : Int32) (w0 : Int32) (h : Hp) : Option (Int32 × Hp) :=
gd (okOb h l0 9) <|
vl (gR h l0 1) fun r68 =>
un r68 fun b69 =>
gd (okAb h b69 11 l3) <|
vl (gI h b69 l3.toNatClampNeg) fun x71 =>
if x71 < (1 : Int32) then (
some ((-4 : Int32), h)) else (
if w0 = 0 then (
f_X9_misset_J124_3 l0 l1 l2 l3 l4 l5 w0 h) else (
gd (okOb h l4 6) <|
vl (gR h l4 7) fun r99 =>
un r99 fun b100 =>
gd (okOb h b100 2) <|
vl (gI h b100 4) fun x102 =>
if x102 < (30 : Int32) then (
f_X9_misset_J124_3 l0 l1 l2 l3 l4 l5 w0 h) else (
some ((-4 : Int32), h))))
set_option maxHeartbeats 4000000 in
set_option maxRecDepth 100000 in
theorem t_X9_misset_J91_3 {X : Cx} {d : Nat} {h0 h' : Hp} {v : Int32} (hD : 3 ≤ d) : ∀ (l0 : Nat) (l1 : Int32) (l2 : Int32) (l3 : Int32) (l4 : Nat) (l5 : Int32) (w0 : Int32) (h : Hp), f_X9_misset_J91_3 l0 l1 l2 l3 l4 l5 w0 h = some (v, h') → EV X mX9_misset d h0 (some (.int v)) h' 91 [some (.ref l0), some (.int l1), some (.int l2), some (.int l3), some (.ref l4), some (.int l5), none] [.int w0] h := by
  intro l0 l1 l2 l3 l4 l5 w0 h H
  unfold f_X9_misset_J91_3 at H
  refine ev_istore (loc2 := [some (.ref l0), some (.int l1), some (.int l2), some (.int l3), some (.ref l4), some (.int l5), some (.int w0)]) dX9_misset_91 (by decide) rfl ?_
  refine ev_aload_n dX9_misset_93 rfl rfl rfl ?_
  replace H := gd_some H
  obtain ⟨g67, H⟩ := H
  replace H := vl_some H
  obtain ⟨r68, er68, H⟩ := H
  refine ev_getRx dX9_misset_94 fgX9_16 rfl (okOb.p g67) er68 ?_
  refine ev_iload_n dX9_misset_97 rfl rfl ?_
  replace H := un_some H
  obtain ⟨b69, eb69, H⟩ := H
  subst eb69
  replace H := gd_some H
  obtain ⟨g70, H⟩ := H
  replace H := vl_some H
  obtain ⟨x71, ex71, H⟩ := H
  refine ev_ialdx dX9_misset_98 (okAb.p g70) ex71 ?_
  refine ev_iconst (v := (1 : Int32)) dX9_misset_99 (by decide) ?_
  refine ev_icmp_lt (tgt := 121) dX9_misset_100 (by decide) (fun c72 => ?_) (fun c72 => ?_)
  · rw [if_pos c72] at H
    refine ev_bipush (v := (-4 : Int32)) dX9_misset_121 (by decide) ?_
    exact ev_iretx dX9_misset_123 rfl rfl H
  · rw [if_neg c72] at H
    refine ev_iload dX9_misset_103 rfl ?_
    refine ev_if_eq (tgt := 124) dX9_misset_105 (by decide) (fun c73 => ?_) (fun c73 => ?_)
    · rw [if_pos c73] at H
      exact t_X9_misset_J124_3 hD l0 l1 l2 l3 l4 l5 w0 h H
    · rw [if_neg c73] at H
      refine ev_aload dX9_misset_108 rfl rfl ?_
      replace H := gd_some H
      obtain ⟨g98, H⟩ := H
      replace H := vl_some H
      obtain ⟨r99, er99, H⟩ := H
      refine ev_getRx dX9_misset_110 fgX9_133 rfl (okOb.p g98) er99 ?_
      replace H := un_some H
      obtain ⟨b100, eb100, H⟩ := H
      subst eb100
      replace H := gd_some H
      obtain ⟨g101, H⟩ := H
      replace H := vl_some H
      obtain ⟨x102, ex102, H⟩ := H
      refine ev_getIx dX9_misset_113 fgX9_142 rfl (okOb.p g101) ex102 ?_
      refine ev_bipush (v := (30 : Int32)) dX9_misset_116 (by decide) ?_
      refine ev_icmp_lt (tgt := 124) dX9_misset_118 (by decide) (fun c103 => ?_) (fun c103 => ?_)
      · rw [if_pos c103] at H
        exact t_X9_misset_J124_3 hD l0 l1 l2 l3 l4 l5 w0 h H
      · rw [if_neg c103] at H
        refine ev_bipush (v := (-4 : Int32)) dX9_misset_121 (by decide) ?_
        exact ev_iretx dX9_misset_123 rfl rfl H
def f_X9_misset (h : Hp) (a0 : Nat) (a1 : Int32) (a2 : Int32) (a3 : Int32) : Option (Int32 × Hp) :=
gd (okOb h a0 9) <|
bnd (f_X9_findPage h a0 a1) fun v2 h3 =>
nl v2 (
some ((-1 : Int32), h3)) fun b4 =>
gd (okOb h3 b4 6) <|
bnd (f_X6_hasPlace h3 b4 a2) fun v6 h7 =>
if v6 = 0 then (
some ((-1 : Int32), h7)) else (
bnd (f_X9_isLetter h7 a3) fun v9 h10 =>
if v9 = 0 then (
some ((-1 : Int32), h10)) else (
vl (gI h10 b4 5) fun x12 =>
if x12 = 0 then (
some ((-3 : Int32), h10)) else (
vl (gR h10 b4 2) fun r14 =>
un r14 fun b15 =>
gd (okAb h10 b15 11 a2) <|
vl (gI h10 b15 a2.toNatClampNeg) fun x17 =>
if x17 = a3 then (
some ((-2 : Int32), h10)) else (
bnd (f_X9_isLetter h10 x17) fun v19 h20 =>
if v19 = 0 then (
some ((-2 : Int32), h20)) else (
bnd (f_X6_isInForme h20 b4) fun v22 h23 =>
if v22 = 0 then (
f_X9_misset_J90 a0 a1 a2 a3 b4 x17 h23) else (
vl (gR h23 b4 7) fun r62 =>
un r62 fun b63 =>
gd (okOb h23 b63 2) <|
vl (gI h23 b63 3) fun x65 =>
if x65 ≤ 0 then (
f_X9_misset_J90 a0 a1 a2 a3 b4 x17 h23) else (
f_X9_misset_J91_3 a0 a1 a2 a3 b4 x17 (1 : Int32) h23)))))))
set_option maxHeartbeats 4000000 in
set_option maxRecDepth 100000 in
theorem t_X9_misset {X : Cx} {d : Nat} {h : Hp} {a0 : Nat} {a1 : Int32} {a2 : Int32} {a3 : Int32} {v : Int32} {h' : Hp} (hD : 3 ≤ d) (H : f_X9_misset h a0 a1 a2 a3 = some (v, h')) : PM X mX9_misset d [.ref a0, .int a1, .int a2, .int a3] h (some (.int v)) h' := by
  unfold f_X9_misset at H
  refine PM.of (loc := [some (.ref a0), some (.int a1), some (.int a2), some (.int a3), none, none, none]) (by decide) rfl (Nat.le_of_ble_eq_true rfl) ?_
  refine ev_aload_n dX9_misset_0 rfl rfl rfl ?_
  refine ev_iload_n dX9_misset_1 rfl rfl ?_
  replace H := gd_some H
  obtain ⟨g1, H⟩ := H
  replace H := bnd_some H
  obtain ⟨v2, h3, eh3, H⟩ := H
  have ph3 := (t_X9_findPage (X := X) (d := 1) (by omega) eh3)
  refine ev_callV (as := [.int a1]) dX9_misset_2 ph3 ok_X9_findPage (by omega) rfl k2_90 k2_92 ks_0 (ci := 9) (by decide) rfl rfl (okOb.p g1) rfl (Nat.le_of_ble_eq_true rfl) ?_
  refine ev_astore (loc2 := [some (.ref a0), some (.int a1), some (.int a2), some (.int a3), some (rv v2), none, none]) dX9_misset_5 (by decide) (isA_rv _) rfl ?_
  refine ev_aload dX9_misset_7 rfl (isA_rv _) ?_
  replace H := nl_some H
  rcases H with ⟨eb4, H⟩ | ⟨b4, eb4, H⟩
  · subst eb4
    refine ev_ifnull_n (tgt := 28) dX9_misset_9 (by decide) ?_
    refine ev_iconst (v := (-1 : Int32)) dX9_misset_28 (by decide) ?_
    exact ev_iretx dX9_misset_29 rfl rfl H
  · subst eb4
    refine ev_ifnull_s dX9_misset_9 ?_
    refine ev_aload dX9_misset_12 rfl rfl ?_
    refine ev_iload_n dX9_misset_14 rfl rfl ?_
    replace H := gd_some H
    obtain ⟨g5, H⟩ := H
    replace H := bnd_some H
    obtain ⟨v6, h7, eh7, H⟩ := H
    have ph7 := (t_X6_hasPlace (X := X) (d := 1) (by omega) eh7)
    refine ev_callV (as := [.int a2]) dX9_misset_15 ph7 ok_X6_hasPlace (by omega) rfl k2_113 k2_114 k2_115 (ci := 6) (by decide) rfl rfl (okOb.p g5) rfl (Nat.le_of_ble_eq_true rfl) ?_
    refine ev_if_eq (tgt := 28) dX9_misset_18 (by decide) (fun c8 => ?_) (fun c8 => ?_)
    · rw [if_pos c8] at H
      refine ev_iconst (v := (-1 : Int32)) dX9_misset_28 (by decide) ?_
      exact ev_iretx dX9_misset_29 rfl rfl H
    · rw [if_neg c8] at H
      refine ev_iload_n dX9_misset_21 rfl rfl ?_
      replace H := bnd_some H
      obtain ⟨v9, h10, eh10, H⟩ := H
      have ph10 := (t_X9_isLetter (X := X) (d := 1) (by omega) eh10)
      refine ev_callS (as := [.int a3]) dX9_misset_22 ph10 ok_X9_isLetter (by omega) rfl k2_17 k2_18 rfl (Nat.le_of_ble_eq_true rfl) ?_
      refine ev_if_ne (tgt := 30) dX9_misset_25 (by decide) (fun c11 => ?_) (fun c11 => ?_)
      · rw [if_neg c11] at H
        refine ev_aload dX9_misset_30 rfl rfl ?_
        replace H := vl_some H
        obtain ⟨x12, ex12, H⟩ := H
        refine ev_getIx dX9_misset_32 fgX9_105 rfl (okO_ext ph10.1 (okO_ext ph7.1 (okOb.p g5))) ex12 ?_
        refine ev_if_ne (tgt := 41) dX9_misset_35 (by decide) (fun c13 => ?_) (fun c13 => ?_)
        · rw [if_neg c13] at H
          refine ev_aload dX9_misset_41 rfl rfl ?_
          replace H := vl_some H
          obtain ⟨r14, er14, H⟩ := H
          refine ev_getRx dX9_misset_43 fgX9_126 rfl (okO_ext ph10.1 (okO_ext ph7.1 (okOb.p g5))) er14 ?_
          refine ev_iload_n dX9_misset_46 rfl rfl ?_
          replace H := un_some H
          obtain ⟨b15, eb15, H⟩ := H
          subst eb15
          replace H := gd_some H
          obtain ⟨g16, H⟩ := H
          replace H := vl_some H
          obtain ⟨x17, ex17, H⟩ := H
          refine ev_ialdx dX9_misset_47 (okAb.p g16) ex17 ?_
          refine ev_istore (loc2 := [some (.ref a0), some (.int a1), some (.int a2), some (.int a3), some (.ref b4), some (.int x17), none]) dX9_misset_48 (by decide) rfl ?_
          refine ev_iload dX9_misset_50 rfl ?_
          refine ev_iload_n dX9_misset_52 rfl rfl ?_
          refine ev_icmp_eq (tgt := 64) dX9_misset_53 (by decide) (fun c18 => ?_) (fun c18 => ?_)
          · rw [if_pos c18] at H
            refine ev_bipush (v := (-2 : Int32)) dX9_misset_64 (by decide) ?_
            exact ev_iretx dX9_misset_66 rfl rfl H
          · rw [if_neg c18] at H
            refine ev_iload dX9_misset_56 rfl ?_
            replace H := bnd_some H
            obtain ⟨v19, h20, eh20, H⟩ := H
            have ph20 := (t_X9_isLetter (X := X) (d := 1) (by omega) eh20)
            refine ev_callS (as := [.int x17]) dX9_misset_58 ph20 ok_X9_isLetter (by omega) rfl k2_17 k2_18 rfl (Nat.le_of_ble_eq_true rfl) ?_
            refine ev_if_ne (tgt := 67) dX9_misset_61 (by decide) (fun c21 => ?_) (fun c21 => ?_)
            · rw [if_neg c21] at H
              refine ev_aload dX9_misset_67 rfl rfl ?_
              replace H := bnd_some H
              obtain ⟨v22, h23, eh23, H⟩ := H
              have ph23 := (t_X6_isInForme (X := X) (d := 2) (by omega) eh23)
              refine ev_callV (as := []) dX9_misset_69 ph23 ok_X6_isInForme (by omega) rfl k2_117 k2_118 k2_119 (ci := 6) (by decide) rfl rfl (okO_ext ph20.1 (okO_ext ph10.1 (okO_ext ph7.1 (okOb.p g5)))) rfl (Nat.le_of_ble_eq_true rfl) ?_
              refine ev_if_eq (tgt := 90) dX9_misset_72 (by decide) (fun c24 => ?_) (fun c24 => ?_)
              · rw [if_pos c24] at H
                exact t_X9_misset_J90 hD a0 a1 a2 a3 b4 x17 h23 H
              · rw [if_neg c24] at H
                refine ev_aload dX9_misset_75 rfl rfl ?_
                replace H := vl_some H
                obtain ⟨r62, er62, H⟩ := H
                refine ev_getRx dX9_misset_77 fgX9_133 rfl (okO_ext ph23.1 (okO_ext ph20.1 (okO_ext ph10.1 (okO_ext ph7.1 (okOb.p g5))))) er62 ?_
                replace H := un_some H
                obtain ⟨b63, eb63, H⟩ := H
                subst eb63
                replace H := gd_some H
                obtain ⟨g64, H⟩ := H
                replace H := vl_some H
                obtain ⟨x65, ex65, H⟩ := H
                refine ev_getIx dX9_misset_80 fgX9_137 rfl (okOb.p g64) ex65 ?_
                refine ev_if_le (tgt := 90) dX9_misset_83 (by decide) (fun c66 => ?_) (fun c66 => ?_)
                · rw [if_pos c66] at H
                  exact t_X9_misset_J90 hD a0 a1 a2 a3 b4 x17 h23 H
                · rw [if_neg c66] at H
                  refine ev_iconst (v := (1 : Int32)) dX9_misset_86 (by decide) ?_
                  refine ev_goto (tgt := 91) dX9_misset_87 (by decide) ?_
                  exact t_X9_misset_J91_3 hD a0 a1 a2 a3 b4 x17 (1 : Int32) h23 H
            · rw [if_pos c21] at H
              refine ev_bipush (v := (-2 : Int32)) dX9_misset_64 (by decide) ?_
              exact ev_iretx dX9_misset_66 rfl rfl H
        · rw [if_pos c13] at H
          refine ev_bipush (v := (-3 : Int32)) dX9_misset_38 (by decide) ?_
          exact ev_iretx dX9_misset_40 rfl rfl H
      · rw [if_pos c11] at H
        refine ev_iconst (v := (-1 : Int32)) dX9_misset_28 (by decide) ?_
        exact ev_iretx dX9_misset_29 rfl rfl H

theorem dX9_distribute_0 : decode cX9_distribute 0 = .ok (.aload_n 0, 1) := by decide +kernel
theorem dX9_distribute_1 : decode cX9_distribute 1 = .ok (.iload_n 1, 1) := by decide +kernel
theorem dX9_distribute_2 : decode cX9_distribute 2 = .ok (.invokevirtual 98, 3) := by decide +kernel
theorem dX9_distribute_5 : decode cX9_distribute 5 = .ok (.astore_n 2, 1) := by decide +kernel
theorem dX9_distribute_6 : decode cX9_distribute 6 = .ok (.aload_n 2, 1) := by decide +kernel
theorem dX9_distribute_7 : decode cX9_distribute 7 = .ok (.ifnonnull 5, 3) := by decide +kernel
theorem dX9_distribute_10 : decode cX9_distribute 10 = .ok (.iconst (-1), 1) := by decide +kernel
theorem dX9_distribute_11 : decode cX9_distribute 11 = .ok (.ireturn, 1) := by decide +kernel
theorem dX9_distribute_12 : decode cX9_distribute 12 = .ok (.aload_n 2, 1) := by decide +kernel
theorem dX9_distribute_13 : decode cX9_distribute 13 = .ok (.getfield 105, 3) := by decide +kernel
theorem dX9_distribute_16 : decode cX9_distribute 16 = .ok (.ifCond .eq 10, 3) := by decide +kernel
theorem dX9_distribute_19 : decode cX9_distribute 19 = .ok (.aload_n 2, 1) := by decide +kernel
theorem dX9_distribute_20 : decode cX9_distribute 20 = .ok (.invokevirtual 129, 3) := by decide +kernel
theorem dX9_distribute_23 : decode cX9_distribute 23 = .ok (.ifCond .eq 6, 3) := by decide +kernel
theorem dX9_distribute_26 : decode cX9_distribute 26 = .ok (.bipush (-3), 2) := by decide +kernel
theorem dX9_distribute_28 : decode cX9_distribute 28 = .ok (.ireturn, 1) := by decide +kernel
theorem dX9_distribute_29 : decode cX9_distribute 29 = .ok (.iconst 0, 1) := by decide +kernel
theorem dX9_distribute_30 : decode cX9_distribute 30 = .ok (.istore_n 3, 1) := by decide +kernel
theorem dX9_distribute_31 : decode cX9_distribute 31 = .ok (.iload_n 3, 1) := by decide +kernel
theorem dX9_distribute_32 : decode cX9_distribute 32 = .ok (.aload_n 2, 1) := by decide +kernel
theorem dX9_distribute_33 : decode cX9_distribute 33 = .ok (.getfield 126, 3) := by decide +kernel
theorem dX9_distribute_36 : decode cX9_distribute 36 = .ok (.arraylength, 1) := by decide +kernel
theorem dX9_distribute_37 : decode cX9_distribute 37 = .ok (.if_icmp .ge 36, 3) := by decide +kernel
theorem dX9_distribute_40 : decode cX9_distribute 40 = .ok (.aload_n 2, 1) := by decide +kernel
theorem dX9_distribute_41 : decode cX9_distribute 41 = .ok (.getfield 126, 3) := by decide +kernel
theorem dX9_distribute_44 : decode cX9_distribute 44 = .ok (.iload_n 3, 1) := by decide +kernel
theorem dX9_distribute_45 : decode cX9_distribute 45 = .ok (.iaload, 1) := by decide +kernel
theorem dX9_distribute_46 : decode cX9_distribute 46 = .ok (.istore 4, 2) := by decide +kernel
theorem dX9_distribute_48 : decode cX9_distribute 48 = .ok (.iload 4, 2) := by decide +kernel
theorem dX9_distribute_50 : decode cX9_distribute 50 = .ok (.invokestatic 84, 3) := by decide +kernel
theorem dX9_distribute_53 : decode cX9_distribute 53 = .ok (.ifCond .eq 14, 3) := by decide +kernel
theorem dX9_distribute_56 : decode cX9_distribute 56 = .ok (.aload_n 0, 1) := by decide +kernel
theorem dX9_distribute_57 : decode cX9_distribute 57 = .ok (.getfield 16, 3) := by decide +kernel
theorem dX9_distribute_60 : decode cX9_distribute 60 = .ok (.iload 4, 2) := by decide +kernel
theorem dX9_distribute_62 : decode cX9_distribute 62 = .ok (.dup2, 1) := by decide +kernel
theorem dX9_distribute_63 : decode cX9_distribute 63 = .ok (.iaload, 1) := by decide +kernel
theorem dX9_distribute_64 : decode cX9_distribute 64 = .ok (.iconst 1, 1) := by decide +kernel
theorem dX9_distribute_65 : decode cX9_distribute 65 = .ok (.iadd, 1) := by decide +kernel
theorem dX9_distribute_66 : decode cX9_distribute 66 = .ok (.iastore, 1) := by decide +kernel
theorem dX9_distribute_67 : decode cX9_distribute 67 = .ok (.iinc 3 1, 3) := by decide +kernel
theorem dX9_distribute_70 : decode cX9_distribute 70 = .ok (.goto (-39), 3) := by decide +kernel
theorem dX9_distribute_73 : decode cX9_distribute 73 = .ok (.aload_n 2, 1) := by decide +kernel
theorem dX9_distribute_74 : decode cX9_distribute 74 = .ok (.iconst 0, 1) := by decide +kernel
theorem dX9_distribute_75 : decode cX9_distribute 75 = .ok (.putfield 105, 3) := by decide +kernel
theorem dX9_distribute_78 : decode cX9_distribute 78 = .ok (.aload_n 2, 1) := by decide +kernel
theorem dX9_distribute_79 : decode cX9_distribute 79 = .ok (.getfield 120, 3) := by decide +kernel
theorem dX9_distribute_82 : decode cX9_distribute 82 = .ok (.ireturn, 1) := by decide +kernel
def f_X9_distribute_L31 : Nat → Nat → Int32 → Nat → Int32 → Hp → Option (Int32 × Hp)
  | 0, _, _, _, _, _ => none
  | n + 1, l0, l1, l2, l3, h =>
    gd (okOb h l2 6) <|
    vl (gR h l2 2) fun r12 =>
    un r12 fun b13 =>
    gd (okOb h b13 11) <|
    if (Int32.ofNat (gL h b13)) ≤ l3 then (
    vl (sI h l2 5 (0 : Int32)) fun h16 =>
    vl (gI h16 l2 4) fun x17 =>
    some (x17, h16)) else (
    vl (gR h l2 2) fun r18 =>
    un r18 fun b19 =>
    gd (okAb h b19 11 l3) <|
    vl (gI h b19 l3.toNatClampNeg) fun x21 =>
    bnd (f_X9_isLetter h x21) fun v22 h23 =>
    if v22 = 0 then (
    vl (l3 + (1 : Int32)) fun x25 =>
    f_X9_distribute_L31 n l0 l1 l2 x25 h23) else (
    gd (okOb h23 l0 9) <|
    vl (gR h23 l0 1) fun r27 =>
    un r27 fun b28 =>
    gd (okAb h23 b28 11 x21) <|
    vl (gI h23 b28 x21.toNatClampNeg) fun x30 =>
    gd (okAb h23 b28 11 x21) <|
    vl (sI h23 b28 x21.toNatClampNeg (x30 + (1 : Int32))) fun h32 =>
    vl (l3 + (1 : Int32)) fun x33 =>
    f_X9_distribute_L31 n l0 l1 l2 x33 h32))
set_option maxHeartbeats 4000000 in
set_option maxRecDepth 100000 in
theorem t_X9_distribute_L31 {X : Cx} {d : Nat} {h0 h' : Hp} {v : Int32} (hD : 3 ≤ d) : ∀ (n : Nat) (l0 : Nat) (l1 : Int32) (l2 : Nat) (l3 : Int32) (h : Hp), f_X9_distribute_L31 n l0 l1 l2 l3 h = some (v, h') → EV X mX9_distribute d h0 (some (.int v)) h' 31 [some (.ref l0), some (.int l1), some (.ref l2), some (.int l3), none] [] h := by
  intro n
  induction n with
  | zero => intro l0 l1 l2 l3 h H; simp [f_X9_distribute_L31] at H
  | succ n ih =>
    intro l0 l1 l2 l3 h H
    rw [f_X9_distribute_L31] at H
    refine ev_iload_n dX9_distribute_31 rfl rfl ?_
    refine ev_aload_n dX9_distribute_32 rfl rfl rfl ?_
    replace H := gd_some H
    obtain ⟨g11, H⟩ := H
    replace H := vl_some H
    obtain ⟨r12, er12, H⟩ := H
    refine ev_getRx dX9_distribute_33 fgX9_126 rfl (okOb.p g11) er12 ?_
    replace H := un_some H
    obtain ⟨b13, eb13, H⟩ := H
    subst eb13
    replace H := gd_some H
    obtain ⟨g14, H⟩ := H
    refine ev_alen (kd := 11) (t0 := 0) dX9_distribute_36 (by decide) (fun _ => rfl) (okOb.p g14) ?_
    refine ev_icmp_ge (tgt := 73) dX9_distribute_37 (by decide) (fun c15 => ?_) (fun c15 => ?_)
    · rw [if_pos c15] at H
      refine ev_aload_n dX9_distribute_73 rfl rfl rfl ?_
      refine ev_iconst (v := (0 : Int32)) dX9_distribute_74 (by decide) ?_
      replace H := vl_some H
      obtain ⟨h16, eh16, H⟩ := H
      refine ev_putI dX9_distribute_75 fdX9_105 rfl rfl rfl (okOb.p g11) eh16 ?_
      refine ev_aload_n dX9_distribute_78 rfl rfl rfl ?_
      replace H := vl_some H
      obtain ⟨x17, ex17, H⟩ := H
      refine ev_getIx dX9_distribute_79 fgX9_120 rfl (okO_sI eh16 (okOb.p g11)) ex17 ?_
      exact ev_iretx dX9_distribute_82 rfl rfl H
    · rw [if_neg c15] at H
      refine ev_aload_n dX9_distribute_40 rfl rfl rfl ?_
      replace H := vl_some H
      obtain ⟨r18, er18, H⟩ := H
      refine ev_getRx dX9_distribute_41 fgX9_126 rfl (okOb.p g11) er18 ?_
      refine ev_iload_n dX9_distribute_44 rfl rfl ?_
      replace H := un_some H
      obtain ⟨b19, eb19, H⟩ := H
      subst eb19
      replace H := gd_some H
      obtain ⟨g20, H⟩ := H
      replace H := vl_some H
      obtain ⟨x21, ex21, H⟩ := H
      refine ev_ialdx dX9_distribute_45 (okAb.p g20) ex21 ?_
      refine ev_istore (loc2 := [some (.ref l0), some (.int l1), some (.ref l2), some (.int l3), some (.int x21)]) dX9_distribute_46 (by decide) rfl ?_
      refine ev_iload dX9_distribute_48 rfl ?_
      replace H := bnd_some H
      obtain ⟨v22, h23, eh23, H⟩ := H
      have ph23 := (t_X9_isLetter (X := X) (d := 1) (by omega) eh23)
      refine ev_callS (as := [.int x21]) dX9_distribute_50 ph23 ok_X9_isLetter (by omega) rfl k2_17 k2_18 rfl (Nat.le_of_ble_eq_true rfl) ?_
      refine ev_if_eq (tgt := 67) dX9_distribute_53 (by decide) (fun c24 => ?_) (fun c24 => ?_)
      · rw [if_pos c24] at H
        replace H := vl_some H
        obtain ⟨x25, ex25, H⟩ := H
        refine ev_iincx (loc2 := [some (.ref l0), some (.int l1), some (.ref l2), some (.int x25), some (.int x21)]) dX9_distribute_67 rfl (by decide) ex25 (by decide) rfl ?_
        refine ev_goto (tgt := 31) dX9_distribute_70 (by decide) ?_
        refine ev_drop (loc2 := [some (.ref l0), some (.int l1), some (.ref l2), some (.int x25), none]) [true, true, true, true, false] rfl ?_
        exact ih l0 l1 l2 x25 h23 H
      · rw [if_neg c24] at H
        refine ev_aload_n dX9_distribute_56 rfl rfl rfl ?_
        replace H := gd_some H
        obtain ⟨g26, H⟩ := H
        replace H := vl_some H
        obtain ⟨r27, er27, H⟩ := H
        refine ev_getRx dX9_distribute_57 fgX9_16 rfl (okOb.p g26) er27 ?_
        refine ev_iload dX9_distribute_60 rfl ?_
        refine ev_dup2 dX9_distribute_62 rfl (rv_cat _) ?_
        replace H := un_some H
        obtain ⟨b28, eb28, H⟩ := H
        subst eb28
        replace H := gd_some H
        obtain ⟨g29, H⟩ := H
        replace H := vl_some H
        obtain ⟨x30, ex30, H⟩ := H
        refine ev_ialdx dX9_distribute_63 (okAb.p g29) ex30 ?_
        refine ev_iconst (v := (1 : Int32)) dX9_distribute_64 (by decide) ?_
        refine ev_iadd dX9_distribute_65 ?_
        replace H := gd_some H
        obtain ⟨g31, H⟩ := H
        replace H := vl_some H
        obtain ⟨h32, eh32, H⟩ := H
        refine ev_iast dX9_distribute_66 (okAb.p g31) eh32 ?_
        replace H := vl_some H
        obtain ⟨x33, ex33, H⟩ := H
        refine ev_iincx (loc2 := [some (.ref l0), some (.int l1), some (.ref l2), some (.int x33), some (.int x21)]) dX9_distribute_67 rfl (by decide) ex33 (by decide) rfl ?_
        refine ev_goto (tgt := 31) dX9_distribute_70 (by decide) ?_
        refine ev_drop (loc2 := [some (.ref l0), some (.int l1), some (.ref l2), some (.int x33), none]) [true, true, true, true, false] rfl ?_
        exact ih l0 l1 l2 x33 h32 H
def f_X9_distribute (h : Hp) (a0 : Nat) (a1 : Int32) : Option (Int32 × Hp) :=
gd (okOb h a0 9) <|
bnd (f_X9_findPage h a0 a1) fun v2 h3 =>
nl v2 (
some ((-1 : Int32), h3)) fun b4 =>
gd (okOb h3 b4 6) <|
vl (gI h3 b4 5) fun x6 =>
if x6 = 0 then (
some ((-3 : Int32), h3)) else (
bnd (f_X6_isInForme h3 b4) fun v8 h9 =>
if v8 = 0 then (
f_X9_distribute_L31 6000 a0 a1 b4 (0 : Int32) h9) else (
some ((-3 : Int32), h9)))
set_option maxHeartbeats 4000000 in
set_option maxRecDepth 100000 in
theorem t_X9_distribute {X : Cx} {d : Nat} {h : Hp} {a0 : Nat} {a1 : Int32} {v : Int32} {h' : Hp} (hD : 3 ≤ d) (H : f_X9_distribute h a0 a1 = some (v, h')) : PM X mX9_distribute d [.ref a0, .int a1] h (some (.int v)) h' := by
  unfold f_X9_distribute at H
  refine PM.of (loc := [some (.ref a0), some (.int a1), none, none, none]) (by decide) rfl (Nat.le_of_ble_eq_true rfl) ?_
  refine ev_aload_n dX9_distribute_0 rfl rfl rfl ?_
  refine ev_iload_n dX9_distribute_1 rfl rfl ?_
  replace H := gd_some H
  obtain ⟨g1, H⟩ := H
  replace H := bnd_some H
  obtain ⟨v2, h3, eh3, H⟩ := H
  have ph3 := (t_X9_findPage (X := X) (d := 1) (by omega) eh3)
  refine ev_callV (as := [.int a1]) dX9_distribute_2 ph3 ok_X9_findPage (by omega) rfl k2_90 k2_92 ks_0 (ci := 9) (by decide) rfl rfl (okOb.p g1) rfl (Nat.le_of_ble_eq_true rfl) ?_
  refine ev_astore_n (loc2 := [some (.ref a0), some (.int a1), some (rv v2), none, none]) dX9_distribute_5 rfl (by decide) (isA_rv _) rfl ?_
  refine ev_aload_n dX9_distribute_6 rfl rfl (isA_rv _) ?_
  replace H := nl_some H
  rcases H with ⟨eb4, H⟩ | ⟨b4, eb4, H⟩
  · subst eb4
    refine ev_ifnonnull_n dX9_distribute_7 ?_
    refine ev_iconst (v := (-1 : Int32)) dX9_distribute_10 (by decide) ?_
    exact ev_iretx dX9_distribute_11 rfl rfl H
  · subst eb4
    refine ev_ifnonnull_s (tgt := 12) dX9_distribute_7 (by decide) ?_
    refine ev_aload_n dX9_distribute_12 rfl rfl rfl ?_
    replace H := gd_some H
    obtain ⟨g5, H⟩ := H
    replace H := vl_some H
    obtain ⟨x6, ex6, H⟩ := H
    refine ev_getIx dX9_distribute_13 fgX9_105 rfl (okOb.p g5) ex6 ?_
    refine ev_if_eq (tgt := 26) dX9_distribute_16 (by decide) (fun c7 => ?_) (fun c7 => ?_)
    · rw [if_pos c7] at H
      refine ev_bipush (v := (-3 : Int32)) dX9_distribute_26 (by decide) ?_
      exact ev_iretx dX9_distribute_28 rfl rfl H
    · rw [if_neg c7] at H
      refine ev_aload_n dX9_distribute_19 rfl rfl rfl ?_
      replace H := bnd_some H
      obtain ⟨v8, h9, eh9, H⟩ := H
      have ph9 := (t_X6_isInForme (X := X) (d := 2) (by omega) eh9)
      refine ev_callV (as := []) dX9_distribute_20 ph9 ok_X6_isInForme (by omega) rfl k2_117 k2_118 k2_119 (ci := 6) (by decide) rfl rfl (okOb.p g5) rfl (Nat.le_of_ble_eq_true rfl) ?_
      refine ev_if_eq (tgt := 29) dX9_distribute_23 (by decide) (fun c10 => ?_) (fun c10 => ?_)
      · rw [if_pos c10] at H
        refine ev_iconst (v := (0 : Int32)) dX9_distribute_29 (by decide) ?_
        refine ev_istore_n (loc2 := [some (.ref a0), some (.int a1), some (.ref b4), some (.int (0 : Int32)), none]) dX9_distribute_30 rfl (by decide) rfl ?_
        refine t_X9_distribute_L31 hD  6000 a0 a1 b4 (0 : Int32) h9 H
      · rw [if_neg c10] at H
        refine ev_bipush (v := (-3 : Int32)) dX9_distribute_26 (by decide) ?_
        exact ev_iretx dX9_distribute_28 rfl rfl H

theorem dX9_at_0 : decode cX9_at 0 = .ok (.aload_n 0, 1) := by decide +kernel
theorem dX9_at_1 : decode cX9_at 1 = .ok (.iload_n 1, 1) := by decide +kernel
theorem dX9_at_2 : decode cX9_at 2 = .ok (.invokevirtual 98, 3) := by decide +kernel
theorem dX9_at_5 : decode cX9_at 5 = .ok (.astore 4, 2) := by decide +kernel
theorem dX9_at_7 : decode cX9_at 7 = .ok (.aload 4, 2) := by decide +kernel
theorem dX9_at_9 : decode cX9_at 9 = .ok (.ifnull 21, 3) := by decide +kernel
theorem dX9_at_12 : decode cX9_at 12 = .ok (.aload 4, 2) := by decide +kernel
theorem dX9_at_14 : decode cX9_at 14 = .ok (.iload_n 2, 1) := by decide +kernel
theorem dX9_at_15 : decode cX9_at 15 = .ok (.invokevirtual 123, 3) := by decide +kernel
theorem dX9_at_18 : decode cX9_at 18 = .ok (.ifCond .eq 12, 3) := by decide +kernel
theorem dX9_at_21 : decode cX9_at 21 = .ok (.iload_n 3, 1) := by decide +kernel
theorem dX9_at_22 : decode cX9_at 22 = .ok (.ifCond .lt 8, 3) := by decide +kernel
theorem dX9_at_25 : decode cX9_at 25 = .ok (.iload_n 3, 1) := by decide +kernel
theorem dX9_at_26 : decode cX9_at 26 = .ok (.iconst 1, 1) := by decide +kernel
theorem dX9_at_27 : decode cX9_at 27 = .ok (.if_icmp .le 5, 3) := by decide +kernel
theorem dX9_at_30 : decode cX9_at 30 = .ok (.iconst (-1), 1) := by decide +kernel
theorem dX9_at_31 : decode cX9_at 31 = .ok (.ireturn, 1) := by decide +kernel
theorem dX9_at_32 : decode cX9_at 32 = .ok (.iload_n 3, 1) := by decide +kernel
theorem dX9_at_33 : decode cX9_at 33 = .ok (.ifCond .ne 11, 3) := by decide +kernel
theorem dX9_at_36 : decode cX9_at 36 = .ok (.aload 4, 2) := by decide +kernel
theorem dX9_at_38 : decode cX9_at 38 = .ok (.getfield 149, 3) := by decide +kernel
theorem dX9_at_41 : decode cX9_at 41 = .ok (.iload_n 2, 1) := by decide +kernel
theorem dX9_at_42 : decode cX9_at 42 = .ok (.iaload, 1) := by decide +kernel
theorem dX9_at_43 : decode cX9_at 43 = .ok (.ireturn, 1) := by decide +kernel
theorem dX9_at_44 : decode cX9_at 44 = .ok (.aload 4, 2) := by decide +kernel
theorem dX9_at_46 : decode cX9_at 46 = .ok (.getfield 105, 3) := by decide +kernel
theorem dX9_at_49 : decode cX9_at 49 = .ok (.ifCond .eq 13, 3) := by decide +kernel
theorem dX9_at_52 : decode cX9_at 52 = .ok (.aload 4, 2) := by decide +kernel
theorem dX9_at_54 : decode cX9_at 54 = .ok (.getfield 126, 3) := by decide +kernel
theorem dX9_at_57 : decode cX9_at 57 = .ok (.iload_n 2, 1) := by decide +kernel
theorem dX9_at_58 : decode cX9_at 58 = .ok (.iaload, 1) := by decide +kernel
theorem dX9_at_59 : decode cX9_at 59 = .ok (.goto 5, 3) := by decide +kernel
theorem dX9_at_62 : decode cX9_at 62 = .ok (.bipush (-3), 2) := by decide +kernel
theorem dX9_at_64 : decode cX9_at 64 = .ok (.ireturn, 1) := by decide +kernel
def f_X9_at (h : Hp) (a0 : Nat) (a1 : Int32) (a2 : Int32) (a3 : Int32) : Option (Int32 × Hp) :=
gd (okOb h a0 9) <|
bnd (f_X9_findPage h a0 a1) fun v2 h3 =>
nl v2 (
some ((-1 : Int32), h3)) fun b4 =>
gd (okOb h3 b4 6) <|
bnd (f_X6_hasPlace h3 b4 a2) fun v6 h7 =>
if v6 = 0 then (
some ((-1 : Int32), h7)) else (
if a3 < 0 then (
some ((-1 : Int32), h7)) else (
if a3 ≤ (1 : Int32) then (
if a3 = 0 then (
vl (gR h7 b4 1) fun r18 =>
un r18 fun b19 =>
gd (okAb h7 b19 11 a2) <|
vl (gI h7 b19 a2.toNatClampNeg) fun x21 =>
some (x21, h7)) else (
vl (gI h7 b4 5) fun x12 =>
if x12 = 0 then (
some ((-3 : Int32), h7)) else (
vl (gR h7 b4 2) fun r14 =>
un r14 fun b15 =>
gd (okAb h7 b15 11 a2) <|
vl (gI h7 b15 a2.toNatClampNeg) fun x17 =>
some (x17, h7)))) else (
some ((-1 : Int32), h7))))
set_option maxHeartbeats 4000000 in
set_option maxRecDepth 100000 in
theorem t_X9_at {X : Cx} {d : Nat} {h : Hp} {a0 : Nat} {a1 : Int32} {a2 : Int32} {a3 : Int32} {v : Int32} {h' : Hp} (hD : 2 ≤ d) (H : f_X9_at h a0 a1 a2 a3 = some (v, h')) : PM X mX9_at d [.ref a0, .int a1, .int a2, .int a3] h (some (.int v)) h' := by
  unfold f_X9_at at H
  refine PM.of (loc := [some (.ref a0), some (.int a1), some (.int a2), some (.int a3), none]) (by decide) rfl (Nat.le_of_ble_eq_true rfl) ?_
  refine ev_aload_n dX9_at_0 rfl rfl rfl ?_
  refine ev_iload_n dX9_at_1 rfl rfl ?_
  replace H := gd_some H
  obtain ⟨g1, H⟩ := H
  replace H := bnd_some H
  obtain ⟨v2, h3, eh3, H⟩ := H
  have ph3 := (t_X9_findPage (X := X) (d := 1) (by omega) eh3)
  refine ev_callV (as := [.int a1]) dX9_at_2 ph3 ok_X9_findPage (by omega) rfl k2_90 k2_92 ks_0 (ci := 9) (by decide) rfl rfl (okOb.p g1) rfl (Nat.le_of_ble_eq_true rfl) ?_
  refine ev_astore (loc2 := [some (.ref a0), some (.int a1), some (.int a2), some (.int a3), some (rv v2)]) dX9_at_5 (by decide) (isA_rv _) rfl ?_
  refine ev_aload dX9_at_7 rfl (isA_rv _) ?_
  replace H := nl_some H
  rcases H with ⟨eb4, H⟩ | ⟨b4, eb4, H⟩
  · subst eb4
    refine ev_ifnull_n (tgt := 30) dX9_at_9 (by decide) ?_
    refine ev_iconst (v := (-1 : Int32)) dX9_at_30 (by decide) ?_
    exact ev_iretx dX9_at_31 rfl rfl H
  · subst eb4
    refine ev_ifnull_s dX9_at_9 ?_
    refine ev_aload dX9_at_12 rfl rfl ?_
    refine ev_iload_n dX9_at_14 rfl rfl ?_
    replace H := gd_some H
    obtain ⟨g5, H⟩ := H
    replace H := bnd_some H
    obtain ⟨v6, h7, eh7, H⟩ := H
    have ph7 := (t_X6_hasPlace (X := X) (d := 1) (by omega) eh7)
    refine ev_callV (as := [.int a2]) dX9_at_15 ph7 ok_X6_hasPlace (by omega) rfl k2_113 k2_114 k2_115 (ci := 6) (by decide) rfl rfl (okOb.p g5) rfl (Nat.le_of_ble_eq_true rfl) ?_
    refine ev_if_eq (tgt := 30) dX9_at_18 (by decide) (fun c8 => ?_) (fun c8 => ?_)
    · rw [if_pos c8] at H
      refine ev_iconst (v := (-1 : Int32)) dX9_at_30 (by decide) ?_
      exact ev_iretx dX9_at_31 rfl rfl H
    · rw [if_neg c8] at H
      refine ev_iload_n dX9_at_21 rfl rfl ?_
      refine ev_if_lt (tgt := 30) dX9_at_22 (by decide) (fun c9 => ?_) (fun c9 => ?_)
      · rw [if_pos c9] at H
        refine ev_iconst (v := (-1 : Int32)) dX9_at_30 (by decide) ?_
        exact ev_iretx dX9_at_31 rfl rfl H
      · rw [if_neg c9] at H
        refine ev_iload_n dX9_at_25 rfl rfl ?_
        refine ev_iconst (v := (1 : Int32)) dX9_at_26 (by decide) ?_
        refine ev_icmp_le (tgt := 32) dX9_at_27 (by decide) (fun c10 => ?_) (fun c10 => ?_)
        · rw [if_pos c10] at H
          refine ev_iload_n dX9_at_32 rfl rfl ?_
          refine ev_if_ne (tgt := 44) dX9_at_33 (by decide) (fun c11 => ?_) (fun c11 => ?_)
          · rw [if_neg c11] at H
            refine ev_aload dX9_at_44 rfl rfl ?_
            replace H := vl_some H
            obtain ⟨x12, ex12, H⟩ := H
            refine ev_getIx dX9_at_46 fgX9_105 rfl (okO_ext ph7.1 (okOb.p g5)) ex12 ?_
            refine ev_if_eq (tgt := 62) dX9_at_49 (by decide) (fun c13 => ?_) (fun c13 => ?_)
            · rw [if_pos c13] at H
              refine ev_bipush (v := (-3 : Int32)) dX9_at_62 (by decide) ?_
              exact ev_iretx dX9_at_64 rfl rfl H
            · rw [if_neg c13] at H
              refine ev_aload dX9_at_52 rfl rfl ?_
              replace H := vl_some H
              obtain ⟨r14, er14, H⟩ := H
              refine ev_getRx dX9_at_54 fgX9_126 rfl (okO_ext ph7.1 (okOb.p g5)) er14 ?_
              refine ev_iload_n dX9_at_57 rfl rfl ?_
              replace H := un_some H
              obtain ⟨b15, eb15, H⟩ := H
              subst eb15
              replace H := gd_some H
              obtain ⟨g16, H⟩ := H
              replace H := vl_some H
              obtain ⟨x17, ex17, H⟩ := H
              refine ev_ialdx dX9_at_58 (okAb.p g16) ex17 ?_
              refine ev_goto (tgt := 64) dX9_at_59 (by decide) ?_
              exact ev_iretx dX9_at_64 rfl rfl H
          · rw [if_pos c11] at H
            refine ev_aload dX9_at_36 rfl rfl ?_
            replace H := vl_some H
            obtain ⟨r18, er18, H⟩ := H
            refine ev_getRx dX9_at_38 fgX9_149 rfl (okO_ext ph7.1 (okOb.p g5)) er18 ?_
            refine ev_iload_n dX9_at_41 rfl rfl ?_
            replace H := un_some H
            obtain ⟨b19, eb19, H⟩ := H
            subst eb19
            replace H := gd_some H
            obtain ⟨g20, H⟩ := H
            replace H := vl_some H
            obtain ⟨x21, ex21, H⟩ := H
            refine ev_ialdx dX9_at_42 (okAb.p g20) ex21 ?_
            exact ev_iretx dX9_at_43 rfl rfl H
        · rw [if_neg c10] at H
          refine ev_iconst (v := (-1 : Int32)) dX9_at_30 (by decide) ?_
          exact ev_iretx dX9_at_31 rfl rfl H

theorem dX9_faults_0 : decode cX9_faults 0 = .ok (.aload_n 0, 1) := by decide +kernel
theorem dX9_faults_1 : decode cX9_faults 1 = .ok (.iload_n 1, 1) := by decide +kernel
theorem dX9_faults_2 : decode cX9_faults 2 = .ok (.invokevirtual 98, 3) := by decide +kernel
theorem dX9_faults_5 : decode cX9_faults 5 = .ok (.astore_n 2, 1) := by decide +kernel
theorem dX9_faults_6 : decode cX9_faults 6 = .ok (.aload_n 2, 1) := by decide +kernel
theorem dX9_faults_7 : decode cX9_faults 7 = .ok (.ifnonnull 5, 3) := by decide +kernel
theorem dX9_faults_10 : decode cX9_faults 10 = .ok (.iconst (-1), 1) := by decide +kernel
theorem dX9_faults_11 : decode cX9_faults 11 = .ok (.ireturn, 1) := by decide +kernel
theorem dX9_faults_12 : decode cX9_faults 12 = .ok (.aload_n 2, 1) := by decide +kernel
theorem dX9_faults_13 : decode cX9_faults 13 = .ok (.getfield 105, 3) := by decide +kernel
theorem dX9_faults_16 : decode cX9_faults 16 = .ok (.ifCond .eq 10, 3) := by decide +kernel
theorem dX9_faults_19 : decode cX9_faults 19 = .ok (.aload_n 2, 1) := by decide +kernel
theorem dX9_faults_20 : decode cX9_faults 20 = .ok (.invokevirtual 152, 3) := by decide +kernel
theorem dX9_faults_23 : decode cX9_faults 23 = .ok (.goto 5, 3) := by decide +kernel
theorem dX9_faults_26 : decode cX9_faults 26 = .ok (.bipush (-3), 2) := by decide +kernel
theorem dX9_faults_28 : decode cX9_faults 28 = .ok (.ireturn, 1) := by decide +kernel
def f_X9_faults (h : Hp) (a0 : Nat) (a1 : Int32) : Option (Int32 × Hp) :=
gd (okOb h a0 9) <|
bnd (f_X9_findPage h a0 a1) fun v2 h3 =>
nl v2 (
some ((-1 : Int32), h3)) fun b4 =>
gd (okOb h3 b4 6) <|
vl (gI h3 b4 5) fun x6 =>
if x6 = 0 then (
some ((-3 : Int32), h3)) else (
bnd (f_X6_countFaults h3 b4) fun v8 h9 =>
some (v8, h9))
set_option maxHeartbeats 4000000 in
set_option maxRecDepth 100000 in
theorem t_X9_faults {X : Cx} {d : Nat} {h : Hp} {a0 : Nat} {a1 : Int32} {v : Int32} {h' : Hp} (hD : 2 ≤ d) (H : f_X9_faults h a0 a1 = some (v, h')) : PM X mX9_faults d [.ref a0, .int a1] h (some (.int v)) h' := by
  unfold f_X9_faults at H
  refine PM.of (loc := [some (.ref a0), some (.int a1), none]) (by decide) rfl (Nat.le_of_ble_eq_true rfl) ?_
  refine ev_aload_n dX9_faults_0 rfl rfl rfl ?_
  refine ev_iload_n dX9_faults_1 rfl rfl ?_
  replace H := gd_some H
  obtain ⟨g1, H⟩ := H
  replace H := bnd_some H
  obtain ⟨v2, h3, eh3, H⟩ := H
  have ph3 := (t_X9_findPage (X := X) (d := 1) (by omega) eh3)
  refine ev_callV (as := [.int a1]) dX9_faults_2 ph3 ok_X9_findPage (by omega) rfl k2_90 k2_92 ks_0 (ci := 9) (by decide) rfl rfl (okOb.p g1) rfl (Nat.le_of_ble_eq_true rfl) ?_
  refine ev_astore_n (loc2 := [some (.ref a0), some (.int a1), some (rv v2)]) dX9_faults_5 rfl (by decide) (isA_rv _) rfl ?_
  refine ev_aload_n dX9_faults_6 rfl rfl (isA_rv _) ?_
  replace H := nl_some H
  rcases H with ⟨eb4, H⟩ | ⟨b4, eb4, H⟩
  · subst eb4
    refine ev_ifnonnull_n dX9_faults_7 ?_
    refine ev_iconst (v := (-1 : Int32)) dX9_faults_10 (by decide) ?_
    exact ev_iretx dX9_faults_11 rfl rfl H
  · subst eb4
    refine ev_ifnonnull_s (tgt := 12) dX9_faults_7 (by decide) ?_
    refine ev_aload_n dX9_faults_12 rfl rfl rfl ?_
    replace H := gd_some H
    obtain ⟨g5, H⟩ := H
    replace H := vl_some H
    obtain ⟨x6, ex6, H⟩ := H
    refine ev_getIx dX9_faults_13 fgX9_105 rfl (okOb.p g5) ex6 ?_
    refine ev_if_eq (tgt := 26) dX9_faults_16 (by decide) (fun c7 => ?_) (fun c7 => ?_)
    · rw [if_pos c7] at H
      refine ev_bipush (v := (-3 : Int32)) dX9_faults_26 (by decide) ?_
      exact ev_iretx dX9_faults_28 rfl rfl H
    · rw [if_neg c7] at H
      refine ev_aload_n dX9_faults_19 rfl rfl rfl ?_
      replace H := bnd_some H
      obtain ⟨v8, h9, eh9, H⟩ := H
      have ph9 := (t_X6_countFaults (X := X) (d := 1) (by omega) eh9)
      refine ev_callV (as := []) dX9_faults_20 ph9 ok_X6_countFaults (by omega) rfl k2_141 k2_142 k2_143 (ci := 6) (by decide) rfl rfl (okOb.p g5) rfl (Nat.le_of_ble_eq_true rfl) ?_
      refine ev_goto (tgt := 28) dX9_faults_23 (by decide) ?_
      exact ev_iretx dX9_faults_28 rfl rfl H

theorem dX9_fault_0 : decode cX9_fault 0 = .ok (.aload_n 0, 1) := by decide +kernel
theorem dX9_fault_1 : decode cX9_fault 1 = .ok (.iload_n 1, 1) := by decide +kernel
theorem dX9_fault_2 : decode cX9_fault 2 = .ok (.invokevirtual 98, 3) := by decide +kernel
theorem dX9_fault_5 : decode cX9_fault 5 = .ok (.astore_n 3, 1) := by decide +kernel
theorem dX9_fault_6 : decode cX9_fault 6 = .ok (.aload_n 3, 1) := by decide +kernel
theorem dX9_fault_7 : decode cX9_fault 7 = .ok (.ifnonnull 5, 3) := by decide +kernel
theorem dX9_fault_10 : decode cX9_fault 10 = .ok (.iconst (-1), 1) := by decide +kernel
theorem dX9_fault_11 : decode cX9_fault 11 = .ok (.ireturn, 1) := by decide +kernel
theorem dX9_fault_12 : decode cX9_fault 12 = .ok (.aload_n 3, 1) := by decide +kernel
theorem dX9_fault_13 : decode cX9_fault 13 = .ok (.getfield 105, 3) := by decide +kernel
theorem dX9_fault_16 : decode cX9_fault 16 = .ok (.ifCond .eq 11, 3) := by decide +kernel
theorem dX9_fault_19 : decode cX9_fault 19 = .ok (.aload_n 3, 1) := by decide +kernel
theorem dX9_fault_20 : decode cX9_fault 20 = .ok (.iload_n 2, 1) := by decide +kernel
theorem dX9_fault_21 : decode cX9_fault 21 = .ok (.invokevirtual 155, 3) := by decide +kernel
theorem dX9_fault_24 : decode cX9_fault 24 = .ok (.goto 5, 3) := by decide +kernel
theorem dX9_fault_27 : decode cX9_fault 27 = .ok (.bipush (-3), 2) := by decide +kernel
theorem dX9_fault_29 : decode cX9_fault 29 = .ok (.ireturn, 1) := by decide +kernel
def f_X9_fault (h : Hp) (a0 : Nat) (a1 : Int32) (a2 : Int32) : Option (Int32 × Hp) :=
gd (okOb h a0 9) <|
bnd (f_X9_findPage h a0 a1) fun v2 h3 =>
nl v2 (
some ((-1 : Int32), h3)) fun b4 =>
gd (okOb h3 b4 6) <|
vl (gI h3 b4 5) fun x6 =>
if x6 = 0 then (
some ((-3 : Int32), h3)) else (
bnd (f_X6_placeOfFault h3 b4 a2) fun v8 h9 =>
some (v8, h9))
set_option maxHeartbeats 4000000 in
set_option maxRecDepth 100000 in
theorem t_X9_fault {X : Cx} {d : Nat} {h : Hp} {a0 : Nat} {a1 : Int32} {a2 : Int32} {v : Int32} {h' : Hp} (hD : 2 ≤ d) (H : f_X9_fault h a0 a1 a2 = some (v, h')) : PM X mX9_fault d [.ref a0, .int a1, .int a2] h (some (.int v)) h' := by
  unfold f_X9_fault at H
  refine PM.of (loc := [some (.ref a0), some (.int a1), some (.int a2), none]) (by decide) rfl (Nat.le_of_ble_eq_true rfl) ?_
  refine ev_aload_n dX9_fault_0 rfl rfl rfl ?_
  refine ev_iload_n dX9_fault_1 rfl rfl ?_
  replace H := gd_some H
  obtain ⟨g1, H⟩ := H
  replace H := bnd_some H
  obtain ⟨v2, h3, eh3, H⟩ := H
  have ph3 := (t_X9_findPage (X := X) (d := 1) (by omega) eh3)
  refine ev_callV (as := [.int a1]) dX9_fault_2 ph3 ok_X9_findPage (by omega) rfl k2_90 k2_92 ks_0 (ci := 9) (by decide) rfl rfl (okOb.p g1) rfl (Nat.le_of_ble_eq_true rfl) ?_
  refine ev_astore_n (loc2 := [some (.ref a0), some (.int a1), some (.int a2), some (rv v2)]) dX9_fault_5 rfl (by decide) (isA_rv _) rfl ?_
  refine ev_aload_n dX9_fault_6 rfl rfl (isA_rv _) ?_
  replace H := nl_some H
  rcases H with ⟨eb4, H⟩ | ⟨b4, eb4, H⟩
  · subst eb4
    refine ev_ifnonnull_n dX9_fault_7 ?_
    refine ev_iconst (v := (-1 : Int32)) dX9_fault_10 (by decide) ?_
    exact ev_iretx dX9_fault_11 rfl rfl H
  · subst eb4
    refine ev_ifnonnull_s (tgt := 12) dX9_fault_7 (by decide) ?_
    refine ev_aload_n dX9_fault_12 rfl rfl rfl ?_
    replace H := gd_some H
    obtain ⟨g5, H⟩ := H
    replace H := vl_some H
    obtain ⟨x6, ex6, H⟩ := H
    refine ev_getIx dX9_fault_13 fgX9_105 rfl (okOb.p g5) ex6 ?_
    refine ev_if_eq (tgt := 27) dX9_fault_16 (by decide) (fun c7 => ?_) (fun c7 => ?_)
    · rw [if_pos c7] at H
      refine ev_bipush (v := (-3 : Int32)) dX9_fault_27 (by decide) ?_
      exact ev_iretx dX9_fault_29 rfl rfl H
    · rw [if_neg c7] at H
      refine ev_aload_n dX9_fault_19 rfl rfl rfl ?_
      refine ev_iload_n dX9_fault_20 rfl rfl ?_
      replace H := bnd_some H
      obtain ⟨v8, h9, eh9, H⟩ := H
      have ph9 := (t_X6_placeOfFault (X := X) (d := 1) (by omega) eh9)
      refine ev_callV (as := [.int a2]) dX9_fault_21 ph9 ok_X6_placeOfFault (by omega) rfl k2_149 k2_150 k2_151 (ci := 6) (by decide) rfl rfl (okOb.p g5) rfl (Nat.le_of_ble_eq_true rfl) ?_
      refine ev_goto (tgt := 29) dX9_fault_24 (by decide) ?_
      exact ev_iretx dX9_fault_29 rfl rfl H

theorem dX9_isFormat_0 : decode cX9_isFormat 0 = .ok (.iload_n 0, 1) := by decide +kernel
theorem dX9_isFormat_1 : decode cX9_isFormat 1 = .ok (.iconst 1, 1) := by decide +kernel
theorem dX9_isFormat_2 : decode cX9_isFormat 2 = .ok (.if_icmp .lt 12, 3) := by decide +kernel
theorem dX9_isFormat_5 : decode cX9_isFormat 5 = .ok (.iload_n 0, 1) := by decide +kernel
theorem dX9_isFormat_6 : decode cX9_isFormat 6 = .ok (.iconst 3, 1) := by decide +kernel
theorem dX9_isFormat_7 : decode cX9_isFormat 7 = .ok (.if_icmp .gt 7, 3) := by decide +kernel
theorem dX9_isFormat_10 : decode cX9_isFormat 10 = .ok (.iconst 1, 1) := by decide +kernel
theorem dX9_isFormat_11 : decode cX9_isFormat 11 = .ok (.goto 4, 3) := by decide +kernel
theorem dX9_isFormat_14 : decode cX9_isFormat 14 = .ok (.iconst 0, 1) := by decide +kernel
theorem dX9_isFormat_15 : decode cX9_isFormat 15 = .ok (.ireturn, 1) := by decide +kernel
def f_X9_isFormat (h : Hp) (a0 : Int32) : Option (Int32 × Hp) :=
if a0 < (1 : Int32) then (
some ((0 : Int32), h)) else (
if (3 : Int32) < a0 then (
some ((0 : Int32), h)) else (
some ((1 : Int32), h)))
set_option maxHeartbeats 4000000 in
set_option maxRecDepth 100000 in
theorem t_X9_isFormat {X : Cx} {d : Nat} {h : Hp} {a0 : Int32} {v : Int32} {h' : Hp} (hD : 1 ≤ d) (H : f_X9_isFormat h a0 = some (v, h')) : PM X mX9_isFormat d [.int a0] h (some (.int v)) h' := by
  unfold f_X9_isFormat at H
  refine PM.of (loc := [some (.int a0)]) (by decide) rfl (Nat.le_of_ble_eq_true rfl) ?_
  refine ev_iload_n dX9_isFormat_0 rfl rfl ?_
  refine ev_iconst (v := (1 : Int32)) dX9_isFormat_1 (by decide) ?_
  refine ev_icmp_lt (tgt := 14) dX9_isFormat_2 (by decide) (fun c1 => ?_) (fun c1 => ?_)
  · rw [if_pos c1] at H
    refine ev_iconst (v := (0 : Int32)) dX9_isFormat_14 (by decide) ?_
    exact ev_iretx dX9_isFormat_15 rfl rfl H
  · rw [if_neg c1] at H
    refine ev_iload_n dX9_isFormat_5 rfl rfl ?_
    refine ev_iconst (v := (3 : Int32)) dX9_isFormat_6 (by decide) ?_
    refine ev_icmp_gt (tgt := 14) dX9_isFormat_7 (by decide) (fun c2 => ?_) (fun c2 => ?_)
    · rw [if_pos c2] at H
      refine ev_iconst (v := (0 : Int32)) dX9_isFormat_14 (by decide) ?_
      exact ev_iretx dX9_isFormat_15 rfl rfl H
    · rw [if_neg c2] at H
      refine ev_iconst (v := (1 : Int32)) dX9_isFormat_10 (by decide) ?_
      refine ev_goto (tgt := 15) dX9_isFormat_11 (by decide) ?_
      exact ev_iretx dX9_isFormat_15 rfl rfl H

theorem dX9_sheet_0 : decode cX9_sheet 0 = .ok (.iload_n 1, 1) := by decide +kernel
theorem dX9_sheet_1 : decode cX9_sheet 1 = .ok (.invokestatic 159, 3) := by decide +kernel
theorem dX9_sheet_4 : decode cX9_sheet 4 = .ok (.ifCond .eq 14, 3) := by decide +kernel
theorem dX9_sheet_7 : decode cX9_sheet 7 = .ok (.iload_n 3, 1) := by decide +kernel
theorem dX9_sheet_8 : decode cX9_sheet 8 = .ok (.iconst 1, 1) := by decide +kernel
theorem dX9_sheet_9 : decode cX9_sheet 9 = .ok (.if_icmp .lt 9, 3) := by decide +kernel
theorem dX9_sheet_12 : decode cX9_sheet 12 = .ok (.iload_n 3, 1) := by decide +kernel
theorem dX9_sheet_13 : decode cX9_sheet 13 = .ok (.bipush 60, 2) := by decide +kernel
theorem dX9_sheet_15 : decode cX9_sheet 15 = .ok (.if_icmp .le 6, 3) := by decide +kernel
theorem dX9_sheet_18 : decode cX9_sheet 18 = .ok (.bipush (-2), 2) := by decide +kernel
theorem dX9_sheet_20 : decode cX9_sheet 20 = .ok (.ireturn, 1) := by decide +kernel
theorem dX9_sheet_21 : decode cX9_sheet 21 = .ok (.aload_n 0, 1) := by decide +kernel
theorem dX9_sheet_22 : decode cX9_sheet 22 = .ok (.getfield 31, 3) := by decide +kernel
theorem dX9_sheet_25 : decode cX9_sheet 25 = .ok (.iload_n 1, 1) := by decide +kernel
theorem dX9_sheet_26 : decode cX9_sheet 26 = .ok (.iconst 1, 1) := by decide +kernel
theorem dX9_sheet_27 : decode cX9_sheet 27 = .ok (.isub, 1) := by decide +kernel
theorem dX9_sheet_28 : decode cX9_sheet 28 = .ok (.aaload, 1) := by decide +kernel
theorem dX9_sheet_29 : decode cX9_sheet 29 = .ok (.astore 4, 2) := by decide +kernel
theorem dX9_sheet_31 : decode cX9_sheet 31 = .ok (.iload_n 2, 1) := by decide +kernel
theorem dX9_sheet_32 : decode cX9_sheet 32 = .ok (.ifCond .lt 17, 3) := by decide +kernel
theorem dX9_sheet_35 : decode cX9_sheet 35 = .ok (.iload_n 2, 1) := by decide +kernel
theorem dX9_sheet_36 : decode cX9_sheet 36 = .ok (.aload_n 0, 1) := by decide +kernel
theorem dX9_sheet_37 : decode cX9_sheet 37 = .ok (.getfield 88, 3) := by decide +kernel
theorem dX9_sheet_40 : decode cX9_sheet 40 = .ok (.aload 4, 2) := by decide +kernel
theorem dX9_sheet_42 : decode cX9_sheet 42 = .ok (.invokevirtual 162, 3) := by decide +kernel
theorem dX9_sheet_45 : decode cX9_sheet 45 = .ok (.isub, 1) := by decide +kernel
theorem dX9_sheet_46 : decode cX9_sheet 46 = .ok (.if_icmp .le 5, 3) := by decide +kernel
theorem dX9_sheet_49 : decode cX9_sheet 49 = .ok (.iconst (-1), 1) := by decide +kernel
theorem dX9_sheet_50 : decode cX9_sheet 50 = .ok (.ireturn, 1) := by decide +kernel
theorem dX9_sheet_51 : decode cX9_sheet 51 = .ok (.iconst 0, 1) := by decide +kernel
theorem dX9_sheet_52 : decode cX9_sheet 52 = .ok (.istore 5, 2) := by decide +kernel
theorem dX9_sheet_54 : decode cX9_sheet 54 = .ok (.iload 5, 2) := by decide +kernel
theorem dX9_sheet_56 : decode cX9_sheet 56 = .ok (.aload 4, 2) := by decide +kernel
theorem dX9_sheet_58 : decode cX9_sheet 58 = .ok (.invokevirtual 162, 3) := by decide +kernel
theorem dX9_sheet_61 : decode cX9_sheet 61 = .ok (.if_icmp .ge 27, 3) := by decide +kernel
theorem dX9_sheet_64 : decode cX9_sheet 64 = .ok (.aload_n 0, 1) := by decide +kernel
theorem dX9_sheet_65 : decode cX9_sheet 65 = .ok (.getfield 25, 3) := by decide +kernel
theorem dX9_sheet_68 : decode cX9_sheet 68 = .ok (.iload_n 2, 1) := by decide +kernel
theorem dX9_sheet_69 : decode cX9_sheet 69 = .ok (.iload 5, 2) := by decide +kernel
theorem dX9_sheet_71 : decode cX9_sheet 71 = .ok (.iadd, 1) := by decide +kernel
theorem dX9_sheet_72 : decode cX9_sheet 72 = .ok (.aaload, 1) := by decide +kernel
theorem dX9_sheet_73 : decode cX9_sheet 73 = .ok (.getfield 133, 3) := by decide +kernel
theorem dX9_sheet_76 : decode cX9_sheet 76 = .ok (.ifnull 6, 3) := by decide +kernel
theorem dX9_sheet_79 : decode cX9_sheet 79 = .ok (.bipush (-3), 2) := by decide +kernel
theorem dX9_sheet_81 : decode cX9_sheet 81 = .ok (.ireturn, 1) := by decide +kernel
theorem dX9_sheet_82 : decode cX9_sheet 82 = .ok (.iinc 5 1, 3) := by decide +kernel
theorem dX9_sheet_85 : decode cX9_sheet 85 = .ok (.goto (-31), 3) := by decide +kernel
theorem dX9_sheet_88 : decode cX9_sheet 88 = .ok (.aload_n 0, 1) := by decide +kernel
theorem dX9_sheet_89 : decode cX9_sheet 89 = .ok (.getfield 165, 3) := by decide +kernel
theorem dX9_sheet_92 : decode cX9_sheet 92 = .ok (.bipush 6, 2) := by decide +kernel
theorem dX9_sheet_94 : decode cX9_sheet 94 = .ok (.if_icmp .lt 6, 3) := by decide +kernel
theorem dX9_sheet_97 : decode cX9_sheet 97 = .ok (.bipush (-4), 2) := by decide +kernel
theorem dX9_sheet_99 : decode cX9_sheet 99 = .ok (.ireturn, 1) := by decide +kernel
theorem dX9_sheet_100 : decode cX9_sheet 100 = .ok (.aload_n 0, 1) := by decide +kernel
theorem dX9_sheet_101 : decode cX9_sheet 101 = .ok (.getfield 37, 3) := by decide +kernel
theorem dX9_sheet_104 : decode cX9_sheet 104 = .ok (.aload_n 0, 1) := by decide +kernel
theorem dX9_sheet_105 : decode cX9_sheet 105 = .ok (.getfield 165, 3) := by decide +kernel
theorem dX9_sheet_108 : decode cX9_sheet 108 = .ok (.new 35, 3) := by decide +kernel
theorem dX9_sheet_111 : decode cX9_sheet 111 = .ok (.dup, 1) := by decide +kernel
theorem dX9_sheet_112 : decode cX9_sheet 112 = .ok (.iload_n 2, 1) := by decide +kernel
theorem dX9_sheet_113 : decode cX9_sheet 113 = .ok (.iload_n 3, 1) := by decide +kernel
theorem dX9_sheet_114 : decode cX9_sheet 114 = .ok (.aload 4, 2) := by decide +kernel
theorem dX9_sheet_116 : decode cX9_sheet 116 = .ok (.invokevirtual 162, 3) := by decide +kernel
theorem dX9_sheet_119 : decode cX9_sheet 119 = .ok (.invokespecial 168, 3) := by decide +kernel
theorem dX9_sheet_122 : decode cX9_sheet 122 = .ok (.aastore, 1) := by decide +kernel
theorem dX9_sheet_123 : decode cX9_sheet 123 = .ok (.aload_n 0, 1) := by decide +kernel
theorem dX9_sheet_124 : decode cX9_sheet 124 = .ok (.getfield 37, 3) := by decide +kernel
theorem dX9_sheet_127 : decode cX9_sheet 127 = .ok (.aload_n 0, 1) := by decide +kernel
theorem dX9_sheet_128 : decode cX9_sheet 128 = .ok (.getfield 165, 3) := by decide +kernel
theorem dX9_sheet_131 : decode cX9_sheet 131 = .ok (.aaload, 1) := by decide +kernel
theorem dX9_sheet_132 : decode cX9_sheet 132 = .ok (.aload 4, 2) := by decide +kernel
theorem dX9_sheet_134 : decode cX9_sheet 134 = .ok (.aload_n 0, 1) := by decide +kernel
theorem dX9_sheet_135 : decode cX9_sheet 135 = .ok (.getfield 25, 3) := by decide +kernel
theorem dX9_sheet_138 : decode cX9_sheet 138 = .ok (.invokevirtual 170, 3) := by decide +kernel
theorem dX9_sheet_141 : decode cX9_sheet 141 = .ok (.aload_n 0, 1) := by decide +kernel
theorem dX9_sheet_142 : decode cX9_sheet 142 = .ok (.dup, 1) := by decide +kernel
theorem dX9_sheet_143 : decode cX9_sheet 143 = .ok (.getfield 165, 3) := by decide +kernel
theorem dX9_sheet_146 : decode cX9_sheet 146 = .ok (.iconst 1, 1) := by decide +kernel
theorem dX9_sheet_147 : decode cX9_sheet 147 = .ok (.iadd, 1) := by decide +kernel
theorem dX9_sheet_148 : decode cX9_sheet 148 = .ok (.putfield 165, 3) := by decide +kernel
theorem dX9_sheet_151 : decode cX9_sheet 151 = .ok (.aload_n 0, 1) := by decide +kernel
theorem dX9_sheet_152 : decode cX9_sheet 152 = .ok (.getfield 165, 3) := by decide +kernel
theorem dX9_sheet_155 : decode cX9_sheet 155 = .ok (.iconst 1, 1) := by decide +kernel
theorem dX9_sheet_156 : decode cX9_sheet 156 = .ok (.isub, 1) := by decide +kernel
theorem dX9_sheet_157 : decode cX9_sheet 157 = .ok (.ireturn, 1) := by decide +kernel
def f_X9_sheet_L54 (k88 : Nat → Int32 → Int32 → Int32 → Nat → Int32 → Hp → Option (Int32 × Hp)) : Nat → Nat → Int32 → Int32 → Int32 → Nat → Int32 → Hp → Option (Int32 × Hp)
  | 0, _, _, _, _, _, _, _ => none
  | n + 1, l0, l1, l2, l3, l4, l5, h =>
    gd (okOb h l4 1) <|
    bnd (f_X1_faces h l4) fun v19 h20 =>
    if v19 ≤ l5 then (
    k88 l0 l1 l2 l3 l4 l5 h20) else (
    gd (okOb h20 l0 9) <|
    vl (gR h20 l0 3) fun r23 =>
    un r23 fun b24 =>
    gd (okAb h20 b24 14 (l2 + l5)) <|
    vl (gR h20 b24 (l2 + l5).toNatClampNeg) fun r26 =>
    un r26 fun b27 =>
    gd (okOb h20 b27 6) <|
    vl (gR h20 b27 7) fun r29 =>
    nl r29 (
    vl (l5 + (1 : Int32)) fun x31 =>
    f_X9_sheet_L54 k88 n l0 l1 l2 l3 l4 x31 h20) fun b30 =>
    some ((-3 : Int32), h20))
set_option maxHeartbeats 4000000 in
set_option maxRecDepth 100000 in
theorem t_X9_sheet_L54 {X : Cx} {d : Nat} {h0 h' : Hp} {v : Int32} {k88 : Nat → Int32 → Int32 → Int32 → Nat → Int32 → Hp → Option (Int32 × Hp)} (hD : 4 ≤ d) (hk88 : ∀ (z0 : Nat) (z1 : Int32) (z2 : Int32) (z3 : Int32) (z4 : Nat) (z5 : Int32) (h : Hp), k88 z0 z1 z2 z3 z4 z5 h = some (v, h') → EV X mX9_sheet d h0 (some (.int v)) h' 88 [some (.ref z0), some (.int z1), some (.int z2), some (.int z3), some (.ref z4), some (.int z5)] [] h) : ∀ (n : Nat) (l0 : Nat) (l1 : Int32) (l2 : Int32) (l3 : Int32) (l4 : Nat) (l5 : Int32) (h : Hp), f_X9_sheet_L54 k88 n l0 l1 l2 l3 l4 l5 h = some (v, h') → EV X mX9_sheet d h0 (some (.int v)) h' 54 [some (.ref l0), some (.int l1), some (.int l2), some (.int l3), some (.ref l4), some (.int l5)] [] h := by
  intro n
  induction n with
  | zero => intro l0 l1 l2 l3 l4 l5 h H; simp [f_X9_sheet_L54] at H
  | succ n ih =>
    intro l0 l1 l2 l3 l4 l5 h H
    rw [f_X9_sheet_L54] at H
    refine ev_iload dX9_sheet_54 rfl ?_
    refine ev_aload dX9_sheet_56 rfl rfl ?_
    replace H := gd_some H
    obtain ⟨g18, H⟩ := H
    replace H := bnd_some H
    obtain ⟨v19, h20, eh20, H⟩ := H
    have ph20 := (t_X1_faces (X := X) (d := 1) (by omega) eh20)
    refine ev_callV (as := []) dX9_sheet_58 ph20 ok_X1_faces (by omega) rfl k2_160 k2_161 k2_162 (ci := 1) (by decide) rfl rfl (okOb.p g18) rfl (Nat.le_of_ble_eq_true rfl) ?_
    refine ev_icmp_ge (tgt := 88) dX9_sheet_61 (by decide) (fun c21 => ?_) (fun c21 => ?_)
    · rw [if_pos c21] at H
      exact hk88 l0 l1 l2 l3 l4 l5 h20 H
    · rw [if_neg c21] at H
      refine ev_aload_n dX9_sheet_64 rfl rfl rfl ?_
      replace H := gd_some H
      obtain ⟨g22, H⟩ := H
      replace H := vl_some H
      obtain ⟨r23, er23, H⟩ := H
      refine ev_getRx dX9_sheet_65 fgX9_25 rfl (okOb.p g22) er23 ?_
      refine ev_iload_n dX9_sheet_68 rfl rfl ?_
      refine ev_iload dX9_sheet_69 rfl ?_
      refine ev_iadd dX9_sheet_71 ?_
      replace H := un_some H
      obtain ⟨b24, eb24, H⟩ := H
      subst eb24
      replace H := gd_some H
      obtain ⟨g25, H⟩ := H
      replace H := vl_some H
      obtain ⟨r26, er26, H⟩ := H
      refine ev_aaldx (kd := 14) (t0 := 3) dX9_sheet_72 (by decide) (fun _ => rfl) (okAb.p g25) er26 ?_
      replace H := un_some H
      obtain ⟨b27, eb27, H⟩ := H
      subst eb27
      replace H := gd_some H
      obtain ⟨g28, H⟩ := H
      replace H := vl_some H
      obtain ⟨r29, er29, H⟩ := H
      refine ev_getRx dX9_sheet_73 fgX9_133 rfl (okOb.p g28) er29 ?_
      replace H := nl_some H
      rcases H with ⟨eb30, H⟩ | ⟨b30, eb30, H⟩
      · subst eb30
        refine ev_ifnull_n (tgt := 82) dX9_sheet_76 (by decide) ?_
        replace H := vl_some H
        obtain ⟨x31, ex31, H⟩ := H
        refine ev_iincx (loc2 := [some (.ref l0), some (.int l1), some (.int l2), some (.int l3), some (.ref l4), some (.int x31)]) dX9_sheet_82 rfl (by decide) ex31 (by decide) rfl ?_
        refine ev_goto (tgt := 54) dX9_sheet_85 (by decide) ?_
        exact ih l0 l1 l2 l3 l4 x31 h20 H
      · subst eb30
        refine ev_ifnull_s dX9_sheet_76 ?_
        refine ev_bipush (v := (-3 : Int32)) dX9_sheet_79 (by decide) ?_
        exact ev_iretx dX9_sheet_81 rfl rfl H
def f_X9_sheet (h : Hp) (a0 : Nat) (a1 : Int32) (a2 : Int32) (a3 : Int32) : Option (Int32 × Hp) :=
bnd (f_X9_isFormat h a1) fun v1 h2 =>
if v1 = 0 then (
some ((-2 : Int32), h2)) else (
if a3 < (1 : Int32) then (
some ((-2 : Int32), h2)) else (
if a3 ≤ (60 : Int32) then (
gd (okOb h2 a0 9) <|
vl (gR h2 a0 5) fun r7 =>
un r7 fun b8 =>
gd (okAb h2 b8 13 (a1 - (1 : Int32))) <|
vl (gR h2 b8 (a1 - (1 : Int32)).toNatClampNeg) fun r10 =>
if a2 < 0 then (
some ((-1 : Int32), h2)) else (
vl (gI h2 a0 4) fun x12 =>
un r10 fun b13 =>
gd (okOb h2 b13 1) <|
bnd (f_X1_faces h2 b13) fun v15 h16 =>
if a2 ≤ (x12 - v15) then (
f_X9_sheet_L54 (fun y32 y33 y34 y35 y36 y37 h38 =>
gd (okOb h38 y32 9) <|
vl (gI h38 y32 7) fun x40 =>
if x40 < (6 : Int32) then (
vl (gR h38 y32 6) fun r42 =>
vl (gI h38 y32 7) fun x43 =>
vl (gN h38) fun b44 =>
vl (nw h38 7 8 0) fun h45 =>
gd (okOb h45 y36 1) <|
bnd (f_X1_faces h45 y36) fun v47 h48 =>
bnd (f_X7_init h48 b44 y34 y35 v47) fun u49 h50 =>
un r42 fun b51 =>
gd (okAb h50 b51 15 x43) <|
vl (sR h50 b51 x43.toNatClampNeg (some b44)) fun h53 =>
vl (gR h53 y32 6) fun r54 =>
vl (gI h53 y32 7) fun x55 =>
un r54 fun b56 =>
gd (okAb h53 b56 15 x55) <|
vl (gR h53 b56 x55.toNatClampNeg) fun r58 =>
vl (gR h53 y32 3) fun r59 =>
un r59 fun b60 =>
un r58 fun b61 =>
gd (okOb h53 b61 7) <|
bnd (f_X7_takePages h53 b61 y36 b60) fun u63 h64 =>
vl (gI h64 y32 7) fun x65 =>
vl (sI h64 y32 7 (x65 + (1 : Int32))) fun h66 =>
vl (gI h66 y32 7) fun x67 =>
some (x67 - (1 : Int32), h66)) else (
some ((-4 : Int32), h38))) 6000 a0 a1 a2 a3 b13 (0 : Int32) h16) else (
some ((-1 : Int32), h16)))) else (
some ((-2 : Int32), h2))))
set_option maxHeartbeats 4000000 in
set_option maxRecDepth 100000 in
theorem t_X9_sheet {X : Cx} {d : Nat} {h : Hp} {a0 : Nat} {a1 : Int32} {a2 : Int32} {a3 : Int32} {v : Int32} {h' : Hp} (hD : 4 ≤ d) (H : f_X9_sheet h a0 a1 a2 a3 = some (v, h')) : PM X mX9_sheet d [.ref a0, .int a1, .int a2, .int a3] h (some (.int v)) h' := by
  unfold f_X9_sheet at H
  refine PM.of (loc := [some (.ref a0), some (.int a1), some (.int a2), some (.int a3), none, none]) (by decide) rfl (Nat.le_of_ble_eq_true rfl) ?_
  refine ev_iload_n dX9_sheet_0 rfl rfl ?_
  replace H := bnd_some H
  obtain ⟨v1, h2, eh2, H⟩ := H
  have ph2 := (t_X9_isFormat (X := X) (d := 1) (by omega) eh2)
  refine ev_callS (as := [.int a1]) dX9_sheet_1 ph2 ok_X9_isFormat (by omega) rfl k2_157 k2_158 rfl (Nat.le_of_ble_eq_true rfl) ?_
  refine ev_if_eq (tgt := 18) dX9_sheet_4 (by decide) (fun c3 => ?_) (fun c3 => ?_)
  · rw [if_pos c3] at H
    refine ev_bipush (v := (-2 : Int32)) dX9_sheet_18 (by decide) ?_
    exact ev_iretx dX9_sheet_20 rfl rfl H
  · rw [if_neg c3] at H
    refine ev_iload_n dX9_sheet_7 rfl rfl ?_
    refine ev_iconst (v := (1 : Int32)) dX9_sheet_8 (by decide) ?_
    refine ev_icmp_lt (tgt := 18) dX9_sheet_9 (by decide) (fun c4 => ?_) (fun c4 => ?_)
    · rw [if_pos c4] at H
      refine ev_bipush (v := (-2 : Int32)) dX9_sheet_18 (by decide) ?_
      exact ev_iretx dX9_sheet_20 rfl rfl H
    · rw [if_neg c4] at H
      refine ev_iload_n dX9_sheet_12 rfl rfl ?_
      refine ev_bipush (v := (60 : Int32)) dX9_sheet_13 (by decide) ?_
      refine ev_icmp_le (tgt := 21) dX9_sheet_15 (by decide) (fun c5 => ?_) (fun c5 => ?_)
      · rw [if_pos c5] at H
        refine ev_aload_n dX9_sheet_21 rfl rfl rfl ?_
        replace H := gd_some H
        obtain ⟨g6, H⟩ := H
        replace H := vl_some H
        obtain ⟨r7, er7, H⟩ := H
        refine ev_getRx dX9_sheet_22 fgX9_31 rfl (okOb.p g6) er7 ?_
        refine ev_iload_n dX9_sheet_25 rfl rfl ?_
        refine ev_iconst (v := (1 : Int32)) dX9_sheet_26 (by decide) ?_
        refine ev_isub dX9_sheet_27 ?_
        replace H := un_some H
        obtain ⟨b8, eb8, H⟩ := H
        subst eb8
        replace H := gd_some H
        obtain ⟨g9, H⟩ := H
        replace H := vl_some H
        obtain ⟨r10, er10, H⟩ := H
        refine ev_aaldx (kd := 13) (t0 := 2) dX9_sheet_28 (by decide) (fun _ => rfl) (okAb.p g9) er10 ?_
        refine ev_astore (loc2 := [some (.ref a0), some (.int a1), some (.int a2), some (.int a3), some (rv r10), none]) dX9_sheet_29 (by decide) (isA_rv _) rfl ?_
        refine ev_iload_n dX9_sheet_31 rfl rfl ?_
        refine ev_if_lt (tgt := 49) dX9_sheet_32 (by decide) (fun c11 => ?_) (fun c11 => ?_)
        · rw [if_pos c11] at H
          refine ev_iconst (v := (-1 : Int32)) dX9_sheet_49 (by decide) ?_
          exact ev_iretx dX9_sheet_50 rfl rfl H
        · rw [if_neg c11] at H
          refine ev_iload_n dX9_sheet_35 rfl rfl ?_
          refine ev_aload_n dX9_sheet_36 rfl rfl rfl ?_
          replace H := vl_some H
          obtain ⟨x12, ex12, H⟩ := H
          refine ev_getIx dX9_sheet_37 fgX9_88 rfl (okOb.p g6) ex12 ?_
          refine ev_aload dX9_sheet_40 rfl (isA_rv _) ?_
          replace H := un_some H
          obtain ⟨b13, eb13, H⟩ := H
          subst eb13
          replace H := gd_some H
          obtain ⟨g14, H⟩ := H
          replace H := bnd_some H
          obtain ⟨v15, h16, eh16, H⟩ := H
          have ph16 := (t_X1_faces (X := X) (d := 1) (by omega) eh16)
          refine ev_callV (as := []) dX9_sheet_42 ph16 ok_X1_faces (by omega) rfl k2_160 k2_161 k2_162 (ci := 1) (by decide) rfl rfl (okOb.p g14) rfl (Nat.le_of_ble_eq_true rfl) ?_
          refine ev_isub dX9_sheet_45 ?_
          refine ev_icmp_le (tgt := 51) dX9_sheet_46 (by decide) (fun c17 => ?_) (fun c17 => ?_)
          · rw [if_pos c17] at H
            refine ev_iconst (v := (0 : Int32)) dX9_sheet_51 (by decide) ?_
            refine ev_istore (loc2 := [some (.ref a0), some (.int a1), some (.int a2), some (.int a3), some (.ref b13), some (.int (0 : Int32))]) dX9_sheet_52 (by decide) rfl ?_
            refine t_X9_sheet_L54 hD ?_ 6000 a0 a1 a2 a3 b13 (0 : Int32) h16 H
            · intro y32 y33 y34 y35 y36 y37 h38 H
              refine ev_aload_n dX9_sheet_88 rfl rfl rfl ?_
              replace H := gd_some H
              obtain ⟨g39, H⟩ := H
              replace H := vl_some H
              obtain ⟨x40, ex40, H⟩ := H
              refine ev_getIx dX9_sheet_89 fgX9_165 rfl (okOb.p g39) ex40 ?_
              refine ev_bipush (v := (6 : Int32)) dX9_sheet_92 (by decide) ?_
              refine ev_icmp_lt (tgt := 100) dX9_sheet_94 (by decide) (fun c41 => ?_) (fun c41 => ?_)
              · rw [if_pos c41] at H
                refine ev_aload_n dX9_sheet_100 rfl rfl rfl ?_
                replace H := vl_some H
                obtain ⟨r42, er42, H⟩ := H
                refine ev_getRx dX9_sheet_101 fgX9_37 rfl (okOb.p g39) er42 ?_
                refine ev_aload_n dX9_sheet_104 rfl rfl rfl ?_
                replace H := vl_some H
                obtain ⟨x43, ex43, H⟩ := H
                refine ev_getIx dX9_sheet_105 fgX9_165 rfl (okOb.p g39) ex43 ?_
                replace H := vl_some H
                obtain ⟨b44, eb44, H⟩ := H
                replace H := vl_some H
                obtain ⟨h45, eh45, H⟩ := H
                refine ev_newx dX9_sheet_108 ndX9_35 eb44 eh45 ?_
                refine ev_dup dX9_sheet_111 rfl ?_
                refine ev_iload_n dX9_sheet_112 rfl rfl ?_
                refine ev_iload_n dX9_sheet_113 rfl rfl ?_
                refine ev_aload dX9_sheet_114 rfl rfl ?_
                replace H := gd_some H
                obtain ⟨g46, H⟩ := H
                replace H := bnd_some H
                obtain ⟨v47, h48, eh48, H⟩ := H
                have ph48 := (t_X1_faces (X := X) (d := 1) (by omega) eh48)
                refine ev_callV (as := []) dX9_sheet_116 ph48 ok_X1_faces (by omega) rfl k2_160 k2_161 k2_162 (ci := 1) (by decide) rfl rfl (okOb.p g46) rfl (by simp only [List.map_cons, List.map_nil, rv_cat]; exact Nat.le_of_ble_eq_true rfl) ?_
                replace H := bnd_some H
                obtain ⟨u49, h50, eh50, H⟩ := H
                have ph50 := (t_X7_init (X := X) (d := 3) (by omega) eh50)
                refine ev_callI (as := [.int y34, .int y35, .int v47]) dX9_sheet_119 ph50 ok_X7_init (by omega) rfl k2_165 k2_166 rfl rfl rfl (by simp only [List.map_cons, List.map_nil, rv_cat]; exact Nat.le_of_ble_eq_true rfl) ?_
                replace H := un_some H
                obtain ⟨b51, eb51, H⟩ := H
                subst eb51
                replace H := gd_some H
                obtain ⟨g52, H⟩ := H
                replace H := vl_some H
                obtain ⟨h53, eh53, H⟩ := H
                refine ev_aast (kd := 15) (t0 := 4) (ci := 7) dX9_sheet_122 (by decide) rfl (by decide) (fun _ => rfl) (okO_ext ph50.1 (okO_ext ph48.1 (okO_newx eb44 eh45))) (okAb.p g52) eh53 ?_
                refine ev_aload_n dX9_sheet_123 rfl rfl rfl ?_
                replace H := vl_some H
                obtain ⟨r54, er54, H⟩ := H
                refine ev_getRx dX9_sheet_124 fgX9_37 rfl (okO_sR eh53 (okO_ext ph50.1 (okO_ext ph48.1 (okO_nw eh45 (okOb.p g39))))) er54 ?_
                refine ev_aload_n dX9_sheet_127 rfl rfl rfl ?_
                replace H := vl_some H
                obtain ⟨x55, ex55, H⟩ := H
                refine ev_getIx dX9_sheet_128 fgX9_165 rfl (okO_sR eh53 (okO_ext ph50.1 (okO_ext ph48.1 (okO_nw eh45 (okOb.p g39))))) ex55 ?_
                replace H := un_some H
                obtain ⟨b56, eb56, H⟩ := H
                subst eb56
                replace H := gd_some H
                obtain ⟨g57, H⟩ := H
                replace H := vl_some H
                obtain ⟨r58, er58, H⟩ := H
                refine ev_aaldx (kd := 15) (t0 := 4) dX9_sheet_131 (by decide) (fun _ => rfl) (okAb.p g57) er58 ?_
                refine ev_aload dX9_sheet_132 rfl rfl ?_
                refine ev_aload_n dX9_sheet_134 rfl rfl rfl ?_
                replace H := vl_some H
                obtain ⟨r59, er59, H⟩ := H
                refine ev_getRx dX9_sheet_135 fgX9_25 rfl (okO_sR eh53 (okO_ext ph50.1 (okO_ext ph48.1 (okO_nw eh45 (okOb.p g39))))) er59 ?_
                replace H := un_some H
                obtain ⟨b60, eb60, H⟩ := H
                subst eb60
                replace H := un_some H
                obtain ⟨b61, eb61, H⟩ := H
                subst eb61
                replace H := gd_some H
                obtain ⟨g62, H⟩ := H
                replace H := bnd_some H
                obtain ⟨u63, h64, eh64, H⟩ := H
                have ph64 := (t_X7_takePages (X := X) (d := 2) (by omega) eh64)
                refine ev_callV (as := [.ref y36, .ref b60]) dX9_sheet_138 ph64 ok_X7_takePages (by omega) rfl k3_5 k3_6 k3_7 (ci := 7) (by decide) rfl rfl (okOb.p g62) rfl (Nat.le_of_ble_eq_true rfl) ?_
                refine ev_aload_n dX9_sheet_141 rfl rfl rfl ?_
                refine ev_dup dX9_sheet_142 rfl ?_
                replace H := vl_some H
                obtain ⟨x65, ex65, H⟩ := H
                refine ev_getIx dX9_sheet_143 fgX9_165 rfl (okO_ext ph64.1 (okO_sR eh53 (okO_ext ph50.1 (okO_ext ph48.1 (okO_nw eh45 (okOb.p g39)))))) ex65 ?_
                refine ev_iconst (v := (1 : Int32)) dX9_sheet_146 (by decide) ?_
                refine ev_iadd dX9_sheet_147 ?_
                replace H := vl_some H
                obtain ⟨h66, eh66, H⟩ := H
                refine ev_putI dX9_sheet_148 fdX9_165 rfl rfl rfl (okO_ext ph64.1 (okO_sR eh53 (okO_ext ph50.1 (okO_ext ph48.1 (okO_nw eh45 (okOb.p g39)))))) eh66 ?_
                refine ev_aload_n dX9_sheet_151 rfl rfl rfl ?_
                replace H := vl_some H
                obtain ⟨x67, ex67, H⟩ := H
                refine ev_getIx dX9_sheet_152 fgX9_165 rfl (okO_sI eh66 (okO_ext ph64.1 (okO_sR eh53 (okO_ext ph50.1 (okO_ext ph48.1 (okO_nw eh45 (okOb.p g39))))))) ex67 ?_
                refine ev_iconst (v := (1 : Int32)) dX9_sheet_155 (by decide) ?_
                refine ev_isub dX9_sheet_156 ?_
                exact ev_iretx dX9_sheet_157 rfl rfl H
              · rw [if_neg c41] at H
                refine ev_bipush (v := (-4 : Int32)) dX9_sheet_97 (by decide) ?_
                exact ev_iretx dX9_sheet_99 rfl rfl H
          · rw [if_neg c17] at H
            refine ev_iconst (v := (-1 : Int32)) dX9_sheet_49 (by decide) ?_
            exact ev_iretx dX9_sheet_50 rfl rfl H
      · rw [if_neg c5] at H
        refine ev_bipush (v := (-2 : Int32)) dX9_sheet_18 (by decide) ?_
        exact ev_iretx dX9_sheet_20 rfl rfl H
