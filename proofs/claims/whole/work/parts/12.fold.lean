theorem dX1_turnOver_0 : decode cX1_turnOver 0 = .ok (.iconst 0, 1) := by decide +kernel
theorem dX1_turnOver_1 : decode cX1_turnOver 1 = .ok (.istore 5, 2) := by decide +kernel
theorem dX1_turnOver_3 : decode cX1_turnOver 3 = .ok (.iload 5, 2) := by decide +kernel
theorem dX1_turnOver_5 : decode cX1_turnOver 5 = .ok (.iload_n 3, 1) := by decide +kernel
theorem dX1_turnOver_6 : decode cX1_turnOver 6 = .ok (.if_icmp .ge 40, 3) := by decide +kernel
theorem dX1_turnOver_9 : decode cX1_turnOver 9 = .ok (.aload_n 0, 1) := by decide +kernel
theorem dX1_turnOver_10 : decode cX1_turnOver 10 = .ok (.iload_n 1, 1) := by decide +kernel
theorem dX1_turnOver_11 : decode cX1_turnOver 11 = .ok (.bipush 8, 2) := by decide +kernel
theorem dX1_turnOver_13 : decode cX1_turnOver 13 = .ok (.imul, 1) := by decide +kernel
theorem dX1_turnOver_14 : decode cX1_turnOver 14 = .ok (.iload_n 3, 1) := by decide +kernel
theorem dX1_turnOver_15 : decode cX1_turnOver 15 = .ok (.iadd, 1) := by decide +kernel
theorem dX1_turnOver_16 : decode cX1_turnOver 16 = .ok (.iconst 1, 1) := by decide +kernel
theorem dX1_turnOver_17 : decode cX1_turnOver 17 = .ok (.isub, 1) := by decide +kernel
theorem dX1_turnOver_18 : decode cX1_turnOver 18 = .ok (.iload 5, 2) := by decide +kernel
theorem dX1_turnOver_20 : decode cX1_turnOver 20 = .ok (.isub, 1) := by decide +kernel
theorem dX1_turnOver_21 : decode cX1_turnOver 21 = .ok (.iaload, 1) := by decide +kernel
theorem dX1_turnOver_22 : decode cX1_turnOver 22 = .ok (.istore 6, 2) := by decide +kernel
theorem dX1_turnOver_24 : decode cX1_turnOver 24 = .ok (.aload_n 0, 1) := by decide +kernel
theorem dX1_turnOver_25 : decode cX1_turnOver 25 = .ok (.iload_n 2, 1) := by decide +kernel
theorem dX1_turnOver_26 : decode cX1_turnOver 26 = .ok (.bipush 8, 2) := by decide +kernel
theorem dX1_turnOver_28 : decode cX1_turnOver 28 = .ok (.imul, 1) := by decide +kernel
theorem dX1_turnOver_29 : decode cX1_turnOver 29 = .ok (.iload_n 3, 1) := by decide +kernel
theorem dX1_turnOver_30 : decode cX1_turnOver 30 = .ok (.iadd, 1) := by decide +kernel
theorem dX1_turnOver_31 : decode cX1_turnOver 31 = .ok (.iload 5, 2) := by decide +kernel
theorem dX1_turnOver_33 : decode cX1_turnOver 33 = .ok (.iadd, 1) := by decide +kernel
theorem dX1_turnOver_34 : decode cX1_turnOver 34 = .ok (.iload 6, 2) := by decide +kernel
theorem dX1_turnOver_36 : decode cX1_turnOver 36 = .ok (.iload 4, 2) := by decide +kernel
theorem dX1_turnOver_38 : decode cX1_turnOver 38 = .ok (.ixor, 1) := by decide +kernel
theorem dX1_turnOver_39 : decode cX1_turnOver 39 = .ok (.iastore, 1) := by decide +kernel
theorem dX1_turnOver_40 : decode cX1_turnOver 40 = .ok (.iinc 5 1, 3) := by decide +kernel
theorem dX1_turnOver_43 : decode cX1_turnOver 43 = .ok (.goto (-40), 3) := by decide +kernel
theorem dX1_turnOver_46 : decode cX1_turnOver 46 = .ok (.return_, 1) := by decide +kernel
def f_X1_turnOver_L3 : Nat → Nat → Int32 → Int32 → Int32 → Int32 → Int32 → Hp → Option (Unit × Hp)
  | 0, _, _, _, _, _, _, _ => none
  | n + 1, l0, l1, l2, l3, l4, l5, h =>
    if l3 ≤ l5 then (
    some ((), h)) else (
    gd (okAb h l0 11 ((((l1 * (8 : Int32)) + l3) - (1 : Int32)) - l5)) <|
    vl (gI h l0 ((((l1 * (8 : Int32)) + l3) - (1 : Int32)) - l5).toNatClampNeg) fun x3 =>
    gd (okAb h l0 11 (((l2 * (8 : Int32)) + l3) + l5)) <|
    vl (sI h l0 (((l2 * (8 : Int32)) + l3) + l5).toNatClampNeg (x3 ^^^ l4)) fun h5 =>
    vl (l5 + (1 : Int32)) fun x6 =>
    f_X1_turnOver_L3 n l0 l1 l2 l3 l4 x6 h5)
set_option maxHeartbeats 4000000 in
set_option maxRecDepth 100000 in
theorem t_X1_turnOver_L3 {X : Cx} {d : Nat} {h0 h' : Hp} {v : Unit} (hD : 1 ≤ d) : ∀ (n : Nat) (l0 : Nat) (l1 : Int32) (l2 : Int32) (l3 : Int32) (l4 : Int32) (l5 : Int32) (h : Hp), f_X1_turnOver_L3 n l0 l1 l2 l3 l4 l5 h = some (v, h') → EV X mX1_turnOver d h0 (none) h' 3 [some (.ref l0), some (.int l1), some (.int l2), some (.int l3), some (.int l4), some (.int l5), none] [] h := by
  intro n
  induction n with
  | zero => intro l0 l1 l2 l3 l4 l5 h H; simp [f_X1_turnOver_L3] at H
  | succ n ih =>
    intro l0 l1 l2 l3 l4 l5 h H
    rw [f_X1_turnOver_L3] at H
    refine ev_iload dX1_turnOver_3 rfl ?_
    refine ev_iload_n dX1_turnOver_5 rfl rfl ?_
    refine ev_icmp_ge (tgt := 46) dX1_turnOver_6 (by decide) (fun c1 => ?_) (fun c1 => ?_)
    · rw [if_pos c1] at H
      exact ev_vretx dX1_turnOver_46 rfl H
    · rw [if_neg c1] at H
      refine ev_aload_n dX1_turnOver_9 rfl rfl rfl ?_
      refine ev_iload_n dX1_turnOver_10 rfl rfl ?_
      refine ev_bipush (v := (8 : Int32)) dX1_turnOver_11 (by decide) ?_
      refine ev_imul dX1_turnOver_13 ?_
      refine ev_iload_n dX1_turnOver_14 rfl rfl ?_
      refine ev_iadd dX1_turnOver_15 ?_
      refine ev_iconst (v := (1 : Int32)) dX1_turnOver_16 (by decide) ?_
      refine ev_isub dX1_turnOver_17 ?_
      refine ev_iload dX1_turnOver_18 rfl ?_
      refine ev_isub dX1_turnOver_20 ?_
      replace H := gd_some H
      obtain ⟨g2, H⟩ := H
      replace H := vl_some H
      obtain ⟨x3, ex3, H⟩ := H
      refine ev_ialdx dX1_turnOver_21 (okAb.p g2) ex3 ?_
      refine ev_istore (loc2 := [some (.ref l0), some (.int l1), some (.int l2), some (.int l3), some (.int l4), some (.int l5), some (.int x3)]) dX1_turnOver_22 (by decide) rfl ?_
      refine ev_aload_n dX1_turnOver_24 rfl rfl rfl ?_
      refine ev_iload_n dX1_turnOver_25 rfl rfl ?_
      refine ev_bipush (v := (8 : Int32)) dX1_turnOver_26 (by decide) ?_
      refine ev_imul dX1_turnOver_28 ?_
      refine ev_iload_n dX1_turnOver_29 rfl rfl ?_
      refine ev_iadd dX1_turnOver_30 ?_
      refine ev_iload dX1_turnOver_31 rfl ?_
      refine ev_iadd dX1_turnOver_33 ?_
      refine ev_iload dX1_turnOver_34 rfl ?_
      refine ev_iload dX1_turnOver_36 rfl ?_
      refine ev_ixor dX1_turnOver_38 ?_
      replace H := gd_some H
      obtain ⟨g4, H⟩ := H
      replace H := vl_some H
      obtain ⟨h5, eh5, H⟩ := H
      refine ev_iast dX1_turnOver_39 (okAb.p g4) eh5 ?_
      replace H := vl_some H
      obtain ⟨x6, ex6, H⟩ := H
      refine ev_iincx (loc2 := [some (.ref l0), some (.int l1), some (.int l2), some (.int l3), some (.int l4), some (.int x6), some (.int x3)]) dX1_turnOver_40 rfl (by decide) ex6 (by decide) rfl ?_
      refine ev_goto (tgt := 3) dX1_turnOver_43 (by decide) ?_
      refine ev_drop (loc2 := [some (.ref l0), some (.int l1), some (.int l2), some (.int l3), some (.int l4), some (.int x6), none]) [true, true, true, true, true, true, false] rfl ?_
      exact ih l0 l1 l2 l3 l4 x6 h5 H
def f_X1_turnOver (h : Hp) (a0 : Nat) (a1 : Int32) (a2 : Int32) (a3 : Int32) (a4 : Int32) : Option (Unit × Hp) :=
f_X1_turnOver_L3 6000 a0 a1 a2 a3 a4 (0 : Int32) h
set_option maxHeartbeats 4000000 in
set_option maxRecDepth 100000 in
theorem t_X1_turnOver {X : Cx} {d : Nat} {h : Hp} {a0 : Nat} {a1 : Int32} {a2 : Int32} {a3 : Int32} {a4 : Int32} {v : Unit} {h' : Hp} (hD : 1 ≤ d) (H : f_X1_turnOver h a0 a1 a2 a3 a4 = some (v, h')) : PM X mX1_turnOver d [.ref a0, .int a1, .int a2, .int a3, .int a4] h (none) h' := by
  unfold f_X1_turnOver at H
  refine PM.of (loc := [some (.ref a0), some (.int a1), some (.int a2), some (.int a3), some (.int a4), none, none]) (by decide) rfl (Nat.le_of_ble_eq_true rfl) ?_
  refine ev_iconst (v := (0 : Int32)) dX1_turnOver_0 (by decide) ?_
  refine ev_istore (loc2 := [some (.ref a0), some (.int a1), some (.int a2), some (.int a3), some (.int a4), some (.int (0 : Int32)), none]) dX1_turnOver_1 (by decide) rfl ?_
  refine t_X1_turnOver_L3 hD  6000 a0 a1 a2 a3 a4 (0 : Int32) h H

theorem dX1_foldedPile_0 : decode cX1_foldedPile 0 = .ok (.iload_n 0, 1) := by decide +kernel
theorem dX1_foldedPile_1 : decode cX1_foldedPile 1 = .ok (.iload_n 1, 1) := by decide +kernel
theorem dX1_foldedPile_2 : decode cX1_foldedPile 2 = .ok (.imul, 1) := by decide +kernel
theorem dX1_foldedPile_3 : decode cX1_foldedPile 3 = .ok (.istore_n 2, 1) := by decide +kernel
theorem dX1_foldedPile_4 : decode cX1_foldedPile 4 = .ok (.iload_n 2, 1) := by decide +kernel
theorem dX1_foldedPile_5 : decode cX1_foldedPile 5 = .ok (.bipush 8, 2) := by decide +kernel
theorem dX1_foldedPile_7 : decode cX1_foldedPile 7 = .ok (.imul, 1) := by decide +kernel
theorem dX1_foldedPile_8 : decode cX1_foldedPile 8 = .ok (.newarray .int, 2) := by decide +kernel
theorem dX1_foldedPile_10 : decode cX1_foldedPile 10 = .ok (.astore_n 3, 1) := by decide +kernel
theorem dX1_foldedPile_11 : decode cX1_foldedPile 11 = .ok (.iconst 0, 1) := by decide +kernel
theorem dX1_foldedPile_12 : decode cX1_foldedPile 12 = .ok (.istore 4, 2) := by decide +kernel
theorem dX1_foldedPile_14 : decode cX1_foldedPile 14 = .ok (.iload 4, 2) := by decide +kernel
theorem dX1_foldedPile_16 : decode cX1_foldedPile 16 = .ok (.iload_n 2, 1) := by decide +kernel
theorem dX1_foldedPile_17 : decode cX1_foldedPile 17 = .ok (.if_icmp .ge 20, 3) := by decide +kernel
theorem dX1_foldedPile_20 : decode cX1_foldedPile 20 = .ok (.aload_n 3, 1) := by decide +kernel
theorem dX1_foldedPile_21 : decode cX1_foldedPile 21 = .ok (.iload 4, 2) := by decide +kernel
theorem dX1_foldedPile_23 : decode cX1_foldedPile 23 = .ok (.bipush 8, 2) := by decide +kernel
theorem dX1_foldedPile_25 : decode cX1_foldedPile 25 = .ok (.imul, 1) := by decide +kernel
theorem dX1_foldedPile_26 : decode cX1_foldedPile 26 = .ok (.iload 4, 2) := by decide +kernel
theorem dX1_foldedPile_28 : decode cX1_foldedPile 28 = .ok (.iconst 4, 1) := by decide +kernel
theorem dX1_foldedPile_29 : decode cX1_foldedPile 29 = .ok (.imul, 1) := by decide +kernel
theorem dX1_foldedPile_30 : decode cX1_foldedPile 30 = .ok (.iastore, 1) := by decide +kernel
theorem dX1_foldedPile_31 : decode cX1_foldedPile 31 = .ok (.iinc 4 1, 3) := by decide +kernel
theorem dX1_foldedPile_34 : decode cX1_foldedPile 34 = .ok (.goto (-20), 3) := by decide +kernel
theorem dX1_foldedPile_37 : decode cX1_foldedPile 37 = .ok (.iload_n 0, 1) := by decide +kernel
theorem dX1_foldedPile_38 : decode cX1_foldedPile 38 = .ok (.istore 4, 2) := by decide +kernel
theorem dX1_foldedPile_40 : decode cX1_foldedPile 40 = .ok (.iload_n 1, 1) := by decide +kernel
theorem dX1_foldedPile_41 : decode cX1_foldedPile 41 = .ok (.istore 5, 2) := by decide +kernel
theorem dX1_foldedPile_43 : decode cX1_foldedPile 43 = .ok (.iconst 1, 1) := by decide +kernel
theorem dX1_foldedPile_44 : decode cX1_foldedPile 44 = .ok (.istore 6, 2) := by decide +kernel
theorem dX1_foldedPile_46 : decode cX1_foldedPile 46 = .ok (.iload 6, 2) := by decide +kernel
theorem dX1_foldedPile_48 : decode cX1_foldedPile 48 = .ok (.iload_n 2, 1) := by decide +kernel
theorem dX1_foldedPile_49 : decode cX1_foldedPile 49 = .ok (.if_icmp .ge 161, 3) := by decide +kernel
theorem dX1_foldedPile_52 : decode cX1_foldedPile 52 = .ok (.iload 4, 2) := by decide +kernel
theorem dX1_foldedPile_54 : decode cX1_foldedPile 54 = .ok (.iload 5, 2) := by decide +kernel
theorem dX1_foldedPile_56 : decode cX1_foldedPile 56 = .ok (.if_icmp .gt 7, 3) := by decide +kernel
theorem dX1_foldedPile_59 : decode cX1_foldedPile 59 = .ok (.iconst 1, 1) := by decide +kernel
theorem dX1_foldedPile_60 : decode cX1_foldedPile 60 = .ok (.goto 4, 3) := by decide +kernel
theorem dX1_foldedPile_63 : decode cX1_foldedPile 63 = .ok (.iconst 0, 1) := by decide +kernel
theorem dX1_foldedPile_64 : decode cX1_foldedPile 64 = .ok (.istore 7, 2) := by decide +kernel
theorem dX1_foldedPile_66 : decode cX1_foldedPile 66 = .ok (.iload 7, 2) := by decide +kernel
theorem dX1_foldedPile_68 : decode cX1_foldedPile 68 = .ok (.ifCond .eq 8, 3) := by decide +kernel
theorem dX1_foldedPile_71 : decode cX1_foldedPile 71 = .ok (.iload 4, 2) := by decide +kernel
theorem dX1_foldedPile_73 : decode cX1_foldedPile 73 = .ok (.goto 7, 3) := by decide +kernel
theorem dX1_foldedPile_76 : decode cX1_foldedPile 76 = .ok (.iload 4, 2) := by decide +kernel
theorem dX1_foldedPile_78 : decode cX1_foldedPile 78 = .ok (.iconst 2, 1) := by decide +kernel
theorem dX1_foldedPile_79 : decode cX1_foldedPile 79 = .ok (.idiv, 1) := by decide +kernel
theorem dX1_foldedPile_80 : decode cX1_foldedPile 80 = .ok (.istore 8, 2) := by decide +kernel
theorem dX1_foldedPile_82 : decode cX1_foldedPile 82 = .ok (.iload 7, 2) := by decide +kernel
theorem dX1_foldedPile_84 : decode cX1_foldedPile 84 = .ok (.ifCond .eq 10, 3) := by decide +kernel
theorem dX1_foldedPile_87 : decode cX1_foldedPile 87 = .ok (.iload 5, 2) := by decide +kernel
theorem dX1_foldedPile_89 : decode cX1_foldedPile 89 = .ok (.iconst 2, 1) := by decide +kernel
theorem dX1_foldedPile_90 : decode cX1_foldedPile 90 = .ok (.idiv, 1) := by decide +kernel
theorem dX1_foldedPile_91 : decode cX1_foldedPile 91 = .ok (.goto 5, 3) := by decide +kernel
theorem dX1_foldedPile_94 : decode cX1_foldedPile 94 = .ok (.iload 5, 2) := by decide +kernel
theorem dX1_foldedPile_96 : decode cX1_foldedPile 96 = .ok (.istore 9, 2) := by decide +kernel
theorem dX1_foldedPile_98 : decode cX1_foldedPile 98 = .ok (.iconst 0, 1) := by decide +kernel
theorem dX1_foldedPile_99 : decode cX1_foldedPile 99 = .ok (.istore 10, 2) := by decide +kernel
theorem dX1_foldedPile_101 : decode cX1_foldedPile 101 = .ok (.iload 10, 2) := by decide +kernel
theorem dX1_foldedPile_103 : decode cX1_foldedPile 103 = .ok (.iload 9, 2) := by decide +kernel
theorem dX1_foldedPile_105 : decode cX1_foldedPile 105 = .ok (.if_icmp .ge 88, 3) := by decide +kernel
theorem dX1_foldedPile_108 : decode cX1_foldedPile 108 = .ok (.iconst 0, 1) := by decide +kernel
theorem dX1_foldedPile_109 : decode cX1_foldedPile 109 = .ok (.istore 11, 2) := by decide +kernel
theorem dX1_foldedPile_111 : decode cX1_foldedPile 111 = .ok (.iload 11, 2) := by decide +kernel
theorem dX1_foldedPile_113 : decode cX1_foldedPile 113 = .ok (.iload 8, 2) := by decide +kernel
theorem dX1_foldedPile_115 : decode cX1_foldedPile 115 = .ok (.if_icmp .ge 72, 3) := by decide +kernel
theorem dX1_foldedPile_118 : decode cX1_foldedPile 118 = .ok (.iload 10, 2) := by decide +kernel
theorem dX1_foldedPile_120 : decode cX1_foldedPile 120 = .ok (.iload_n 0, 1) := by decide +kernel
theorem dX1_foldedPile_121 : decode cX1_foldedPile 121 = .ok (.imul, 1) := by decide +kernel
theorem dX1_foldedPile_122 : decode cX1_foldedPile 122 = .ok (.iload 11, 2) := by decide +kernel
theorem dX1_foldedPile_124 : decode cX1_foldedPile 124 = .ok (.iadd, 1) := by decide +kernel
theorem dX1_foldedPile_125 : decode cX1_foldedPile 125 = .ok (.istore 12, 2) := by decide +kernel
theorem dX1_foldedPile_127 : decode cX1_foldedPile 127 = .ok (.iload 7, 2) := by decide +kernel
theorem dX1_foldedPile_129 : decode cX1_foldedPile 129 = .ok (.ifCond .eq 18, 3) := by decide +kernel
theorem dX1_foldedPile_132 : decode cX1_foldedPile 132 = .ok (.iload 5, 2) := by decide +kernel
theorem dX1_foldedPile_134 : decode cX1_foldedPile 134 = .ok (.iconst 1, 1) := by decide +kernel
theorem dX1_foldedPile_135 : decode cX1_foldedPile 135 = .ok (.isub, 1) := by decide +kernel
theorem dX1_foldedPile_136 : decode cX1_foldedPile 136 = .ok (.iload 10, 2) := by decide +kernel
theorem dX1_foldedPile_138 : decode cX1_foldedPile 138 = .ok (.isub, 1) := by decide +kernel
theorem dX1_foldedPile_139 : decode cX1_foldedPile 139 = .ok (.iload_n 0, 1) := by decide +kernel
theorem dX1_foldedPile_140 : decode cX1_foldedPile 140 = .ok (.imul, 1) := by decide +kernel
theorem dX1_foldedPile_141 : decode cX1_foldedPile 141 = .ok (.iload 11, 2) := by decide +kernel
theorem dX1_foldedPile_143 : decode cX1_foldedPile 143 = .ok (.iadd, 1) := by decide +kernel
theorem dX1_foldedPile_144 : decode cX1_foldedPile 144 = .ok (.goto 15, 3) := by decide +kernel
theorem dX1_foldedPile_147 : decode cX1_foldedPile 147 = .ok (.iload 10, 2) := by decide +kernel
theorem dX1_foldedPile_149 : decode cX1_foldedPile 149 = .ok (.iload_n 0, 1) := by decide +kernel
theorem dX1_foldedPile_150 : decode cX1_foldedPile 150 = .ok (.imul, 1) := by decide +kernel
theorem dX1_foldedPile_151 : decode cX1_foldedPile 151 = .ok (.iload 4, 2) := by decide +kernel
theorem dX1_foldedPile_153 : decode cX1_foldedPile 153 = .ok (.iadd, 1) := by decide +kernel
theorem dX1_foldedPile_154 : decode cX1_foldedPile 154 = .ok (.iconst 1, 1) := by decide +kernel
theorem dX1_foldedPile_155 : decode cX1_foldedPile 155 = .ok (.isub, 1) := by decide +kernel
theorem dX1_foldedPile_156 : decode cX1_foldedPile 156 = .ok (.iload 11, 2) := by decide +kernel
theorem dX1_foldedPile_158 : decode cX1_foldedPile 158 = .ok (.isub, 1) := by decide +kernel
theorem dX1_foldedPile_159 : decode cX1_foldedPile 159 = .ok (.istore 13, 2) := by decide +kernel
theorem dX1_foldedPile_161 : decode cX1_foldedPile 161 = .ok (.aload_n 3, 1) := by decide +kernel
theorem dX1_foldedPile_162 : decode cX1_foldedPile 162 = .ok (.iload 13, 2) := by decide +kernel
theorem dX1_foldedPile_164 : decode cX1_foldedPile 164 = .ok (.iload 12, 2) := by decide +kernel
theorem dX1_foldedPile_166 : decode cX1_foldedPile 166 = .ok (.iload 6, 2) := by decide +kernel
theorem dX1_foldedPile_168 : decode cX1_foldedPile 168 = .ok (.iload 7, 2) := by decide +kernel
theorem dX1_foldedPile_170 : decode cX1_foldedPile 170 = .ok (.ifCond .eq 7, 3) := by decide +kernel
theorem dX1_foldedPile_173 : decode cX1_foldedPile 173 = .ok (.iconst 3, 1) := by decide +kernel
theorem dX1_foldedPile_174 : decode cX1_foldedPile 174 = .ok (.goto 4, 3) := by decide +kernel
theorem dX1_foldedPile_177 : decode cX1_foldedPile 177 = .ok (.iconst 1, 1) := by decide +kernel
theorem dX1_foldedPile_178 : decode cX1_foldedPile 178 = .ok (.invokestatic 29, 3) := by decide +kernel
theorem dX1_foldedPile_181 : decode cX1_foldedPile 181 = .ok (.iinc 11 1, 3) := by decide +kernel
theorem dX1_foldedPile_184 : decode cX1_foldedPile 184 = .ok (.goto (-73), 3) := by decide +kernel
theorem dX1_foldedPile_187 : decode cX1_foldedPile 187 = .ok (.iinc 10 1, 3) := by decide +kernel
theorem dX1_foldedPile_190 : decode cX1_foldedPile 190 = .ok (.goto (-89), 3) := by decide +kernel
theorem dX1_foldedPile_193 : decode cX1_foldedPile 193 = .ok (.iload 8, 2) := by decide +kernel
theorem dX1_foldedPile_195 : decode cX1_foldedPile 195 = .ok (.istore 4, 2) := by decide +kernel
theorem dX1_foldedPile_197 : decode cX1_foldedPile 197 = .ok (.iload 9, 2) := by decide +kernel
theorem dX1_foldedPile_199 : decode cX1_foldedPile 199 = .ok (.istore 5, 2) := by decide +kernel
theorem dX1_foldedPile_201 : decode cX1_foldedPile 201 = .ok (.iload 6, 2) := by decide +kernel
theorem dX1_foldedPile_203 : decode cX1_foldedPile 203 = .ok (.iconst 2, 1) := by decide +kernel
theorem dX1_foldedPile_204 : decode cX1_foldedPile 204 = .ok (.imul, 1) := by decide +kernel
theorem dX1_foldedPile_205 : decode cX1_foldedPile 205 = .ok (.istore 6, 2) := by decide +kernel
theorem dX1_foldedPile_207 : decode cX1_foldedPile 207 = .ok (.goto (-161), 3) := by decide +kernel
theorem dX1_foldedPile_210 : decode cX1_foldedPile 210 = .ok (.aload_n 3, 1) := by decide +kernel
theorem dX1_foldedPile_211 : decode cX1_foldedPile 211 = .ok (.areturn, 1) := by decide +kernel
def f_X1_foldedPile_L14 (k37 : Int32 → Int32 → Int32 → Nat → Int32 → Hp → Option (Option Nat × Hp)) : Nat → Int32 → Int32 → Int32 → Nat → Int32 → Hp → Option (Option Nat × Hp)
  | 0, _, _, _, _, _, _ => none
  | n + 1, l0, l1, l2, l3, l4, h =>
    if l2 ≤ l4 then (
    k37 l0 l1 l2 l3 l4 h) else (
    gd (okAb h l3 11 (l4 * (8 : Int32))) <|
    vl (sI h l3 (l4 * (8 : Int32)).toNatClampNeg (l4 * (4 : Int32))) fun h7 =>
    vl (l4 + (1 : Int32)) fun x8 =>
    f_X1_foldedPile_L14 k37 n l0 l1 l2 l3 x8 h7)
set_option maxHeartbeats 4000000 in
set_option maxRecDepth 100000 in
theorem t_X1_foldedPile_L14 {X : Cx} {d : Nat} {h0 h' : Hp} {v : Option Nat} {k37 : Int32 → Int32 → Int32 → Nat → Int32 → Hp → Option (Option Nat × Hp)} (hD : 2 ≤ d) (hk37 : ∀ (z0 : Int32) (z1 : Int32) (z2 : Int32) (z3 : Nat) (z4 : Int32) (h : Hp), k37 z0 z1 z2 z3 z4 h = some (v, h') → EV X mX1_foldedPile d h0 (some (rv v)) h' 37 [some (.int z0), some (.int z1), some (.int z2), some (.ref z3), some (.int z4), none, none, none, none, none, none, none, none, none] [] h) : ∀ (n : Nat) (l0 : Int32) (l1 : Int32) (l2 : Int32) (l3 : Nat) (l4 : Int32) (h : Hp), f_X1_foldedPile_L14 k37 n l0 l1 l2 l3 l4 h = some (v, h') → EV X mX1_foldedPile d h0 (some (rv v)) h' 14 [some (.int l0), some (.int l1), some (.int l2), some (.ref l3), some (.int l4), none, none, none, none, none, none, none, none, none] [] h := by
  intro n
  induction n with
  | zero => intro l0 l1 l2 l3 l4 h H; simp [f_X1_foldedPile_L14] at H
  | succ n ih =>
    intro l0 l1 l2 l3 l4 h H
    rw [f_X1_foldedPile_L14] at H
    refine ev_iload dX1_foldedPile_14 rfl ?_
    refine ev_iload_n dX1_foldedPile_16 rfl rfl ?_
    refine ev_icmp_ge (tgt := 37) dX1_foldedPile_17 (by decide) (fun c5 => ?_) (fun c5 => ?_)
    · rw [if_pos c5] at H
      exact hk37 l0 l1 l2 l3 l4 h H
    · rw [if_neg c5] at H
      refine ev_aload_n dX1_foldedPile_20 rfl rfl rfl ?_
      refine ev_iload dX1_foldedPile_21 rfl ?_
      refine ev_bipush (v := (8 : Int32)) dX1_foldedPile_23 (by decide) ?_
      refine ev_imul dX1_foldedPile_25 ?_
      refine ev_iload dX1_foldedPile_26 rfl ?_
      refine ev_iconst (v := (4 : Int32)) dX1_foldedPile_28 (by decide) ?_
      refine ev_imul dX1_foldedPile_29 ?_
      replace H := gd_some H
      obtain ⟨g6, H⟩ := H
      replace H := vl_some H
      obtain ⟨h7, eh7, H⟩ := H
      refine ev_iast dX1_foldedPile_30 (okAb.p g6) eh7 ?_
      replace H := vl_some H
      obtain ⟨x8, ex8, H⟩ := H
      refine ev_iincx (loc2 := [some (.int l0), some (.int l1), some (.int l2), some (.ref l3), some (.int x8), none, none, none, none, none, none, none, none, none]) dX1_foldedPile_31 rfl (by decide) ex8 (by decide) rfl ?_
      refine ev_goto (tgt := 14) dX1_foldedPile_34 (by decide) ?_
      exact ih l0 l1 l2 l3 x8 h7 H
def f_X1_foldedPile_J159 (k111 : Int32 → Int32 → Int32 → Nat → Int32 → Int32 → Int32 → Int32 → Int32 → Int32 → Int32 → Int32 → Hp → Option (Option Nat × Hp)) (l0 : Int32) (l1 : Int32) (l2 : Int32) (l3 : Nat) (l4 : Int32) (l5 : Int32) (l6 : Int32) (l7 : Int32) (l8 : Int32) (l9 : Int32) (l10 : Int32) (l11 : Int32) (l12 : Int32) (w0 : Int32) (h : Hp) : Option (Option Nat × Hp) :=
if l7 = 0 then (
bnd (f_X1_turnOver h l3 w0 l12 l6 (1 : Int32)) fun u24 h25 =>
vl (l11 + (1 : Int32)) fun x26 =>
k111 l0 l1 l2 l3 l4 l5 l6 l7 l8 l9 l10 x26 h25) else (
bnd (f_X1_turnOver h l3 w0 l12 l6 (3 : Int32)) fun u27 h28 =>
vl (l11 + (1 : Int32)) fun x29 =>
k111 l0 l1 l2 l3 l4 l5 l6 l7 l8 l9 l10 x29 h28)
set_option maxHeartbeats 4000000 in
set_option maxRecDepth 100000 in
theorem t_X1_foldedPile_J159 {X : Cx} {d : Nat} {h0 h' : Hp} {v : Option Nat} {k111 : Int32 → Int32 → Int32 → Nat → Int32 → Int32 → Int32 → Int32 → Int32 → Int32 → Int32 → Int32 → Hp → Option (Option Nat × Hp)} (hD : 2 ≤ d) (hk111 : ∀ (z0 : Int32) (z1 : Int32) (z2 : Int32) (z3 : Nat) (z4 : Int32) (z5 : Int32) (z6 : Int32) (z7 : Int32) (z8 : Int32) (z9 : Int32) (z10 : Int32) (z11 : Int32) (h : Hp), k111 z0 z1 z2 z3 z4 z5 z6 z7 z8 z9 z10 z11 h = some (v, h') → EV X mX1_foldedPile d h0 (some (rv v)) h' 111 [some (.int z0), some (.int z1), some (.int z2), some (.ref z3), some (.int z4), some (.int z5), some (.int z6), some (.int z7), some (.int z8), some (.int z9), some (.int z10), some (.int z11), none, none] [] h) : ∀ (l0 : Int32) (l1 : Int32) (l2 : Int32) (l3 : Nat) (l4 : Int32) (l5 : Int32) (l6 : Int32) (l7 : Int32) (l8 : Int32) (l9 : Int32) (l10 : Int32) (l11 : Int32) (l12 : Int32) (w0 : Int32) (h : Hp), f_X1_foldedPile_J159 k111 l0 l1 l2 l3 l4 l5 l6 l7 l8 l9 l10 l11 l12 w0 h = some (v, h') → EV X mX1_foldedPile d h0 (some (rv v)) h' 159 [some (.int l0), some (.int l1), some (.int l2), some (.ref l3), some (.int l4), some (.int l5), some (.int l6), some (.int l7), some (.int l8), some (.int l9), some (.int l10), some (.int l11), some (.int l12), none] [.int w0] h := by
  intro l0 l1 l2 l3 l4 l5 l6 l7 l8 l9 l10 l11 l12 w0 h H
  unfold f_X1_foldedPile_J159 at H
  refine ev_istore (loc2 := [some (.int l0), some (.int l1), some (.int l2), some (.ref l3), some (.int l4), some (.int l5), some (.int l6), some (.int l7), some (.int l8), some (.int l9), some (.int l10), some (.int l11), some (.int l12), some (.int w0)]) dX1_foldedPile_159 (by decide) rfl ?_
  refine ev_aload_n dX1_foldedPile_161 rfl rfl rfl ?_
  refine ev_iload dX1_foldedPile_162 rfl ?_
  refine ev_iload dX1_foldedPile_164 rfl ?_
  refine ev_iload dX1_foldedPile_166 rfl ?_
  refine ev_iload dX1_foldedPile_168 rfl ?_
  refine ev_if_eq (tgt := 177) dX1_foldedPile_170 (by decide) (fun c23 => ?_) (fun c23 => ?_)
  · rw [if_pos c23] at H
    refine ev_iconst (v := (1 : Int32)) dX1_foldedPile_177 (by decide) ?_
    replace H := bnd_some H
    obtain ⟨u24, h25, eh25, H⟩ := H
    have ph25 := (t_X1_turnOver (X := X) (d := 1) (by omega) eh25)
    refine ev_callS (as := [.ref l3, .int w0, .int l12, .int l6, .int (1 : Int32)]) dX1_foldedPile_178 ph25 ok_X1_turnOver (by omega) rfl k1_183 k1_184 rfl (Nat.le_of_ble_eq_true rfl) ?_
    replace H := vl_some H
    obtain ⟨x26, ex26, H⟩ := H
    refine ev_iincx (loc2 := [some (.int l0), some (.int l1), some (.int l2), some (.ref l3), some (.int l4), some (.int l5), some (.int l6), some (.int l7), some (.int l8), some (.int l9), some (.int l10), some (.int x26), some (.int l12), some (.int w0)]) dX1_foldedPile_181 rfl (by decide) ex26 (by decide) rfl ?_
    refine ev_goto (tgt := 111) dX1_foldedPile_184 (by decide) ?_
    refine ev_drop (loc2 := [some (.int l0), some (.int l1), some (.int l2), some (.ref l3), some (.int l4), some (.int l5), some (.int l6), some (.int l7), some (.int l8), some (.int l9), some (.int l10), some (.int x26), none, none]) [true, true, true, true, true, true, true, true, true, true, true, true, false, false] rfl ?_
    exact hk111 l0 l1 l2 l3 l4 l5 l6 l7 l8 l9 l10 x26 h25 H
  · rw [if_neg c23] at H
    refine ev_iconst (v := (3 : Int32)) dX1_foldedPile_173 (by decide) ?_
    refine ev_goto (tgt := 178) dX1_foldedPile_174 (by decide) ?_
    replace H := bnd_some H
    obtain ⟨u27, h28, eh28, H⟩ := H
    have ph28 := (t_X1_turnOver (X := X) (d := 1) (by omega) eh28)
    refine ev_callS (as := [.ref l3, .int w0, .int l12, .int l6, .int (3 : Int32)]) dX1_foldedPile_178 ph28 ok_X1_turnOver (by omega) rfl k1_183 k1_184 rfl (Nat.le_of_ble_eq_true rfl) ?_
    replace H := vl_some H
    obtain ⟨x29, ex29, H⟩ := H
    refine ev_iincx (loc2 := [some (.int l0), some (.int l1), some (.int l2), some (.ref l3), some (.int l4), some (.int l5), some (.int l6), some (.int l7), some (.int l8), some (.int l9), some (.int l10), some (.int x29), some (.int l12), some (.int w0)]) dX1_foldedPile_181 rfl (by decide) ex29 (by decide) rfl ?_
    refine ev_goto (tgt := 111) dX1_foldedPile_184 (by decide) ?_
    refine ev_drop (loc2 := [some (.int l0), some (.int l1), some (.int l2), some (.ref l3), some (.int l4), some (.int l5), some (.int l6), some (.int l7), some (.int l8), some (.int l9), some (.int l10), some (.int x29), none, none]) [true, true, true, true, true, true, true, true, true, true, true, true, false, false] rfl ?_
    exact hk111 l0 l1 l2 l3 l4 l5 l6 l7 l8 l9 l10 x29 h28 H
def f_X1_foldedPile_L111 (k187 : Int32 → Int32 → Int32 → Nat → Int32 → Int32 → Int32 → Int32 → Int32 → Int32 → Int32 → Int32 → Hp → Option (Option Nat × Hp)) : Nat → Int32 → Int32 → Int32 → Nat → Int32 → Int32 → Int32 → Int32 → Int32 → Int32 → Int32 → Int32 → Hp → Option (Option Nat × Hp)
  | 0, _, _, _, _, _, _, _, _, _, _, _, _, _ => none
  | n + 1, l0, l1, l2, l3, l4, l5, l6, l7, l8, l9, l10, l11, h =>
    if l8 ≤ l11 then (
    k187 l0 l1 l2 l3 l4 l5 l6 l7 l8 l9 l10 l11 h) else (
    vl ((l10 * l0) + l11) fun x21 =>
    if l7 = 0 then (
    f_X1_foldedPile_J159 (f_X1_foldedPile_L111 k187 n) l0 l1 l2 l3 l4 l5 l6 l7 l8 l9 l10 l11 x21 ((((l10 * l0) + l4) - (1 : Int32)) - l11) h) else (
    f_X1_foldedPile_J159 (f_X1_foldedPile_L111 k187 n) l0 l1 l2 l3 l4 l5 l6 l7 l8 l9 l10 l11 x21 ((((l5 - (1 : Int32)) - l10) * l0) + l11) h))
set_option maxHeartbeats 4000000 in
set_option maxRecDepth 100000 in
theorem t_X1_foldedPile_L111 {X : Cx} {d : Nat} {h0 h' : Hp} {v : Option Nat} {k187 : Int32 → Int32 → Int32 → Nat → Int32 → Int32 → Int32 → Int32 → Int32 → Int32 → Int32 → Int32 → Hp → Option (Option Nat × Hp)} (hD : 2 ≤ d) (hk187 : ∀ (z0 : Int32) (z1 : Int32) (z2 : Int32) (z3 : Nat) (z4 : Int32) (z5 : Int32) (z6 : Int32) (z7 : Int32) (z8 : Int32) (z9 : Int32) (z10 : Int32) (z11 : Int32) (h : Hp), k187 z0 z1 z2 z3 z4 z5 z6 z7 z8 z9 z10 z11 h = some (v, h') → EV X mX1_foldedPile d h0 (some (rv v)) h' 187 [some (.int z0), some (.int z1), some (.int z2), some (.ref z3), some (.int z4), some (.int z5), some (.int z6), some (.int z7), some (.int z8), some (.int z9), some (.int z10), some (.int z11), none, none] [] h) : ∀ (n : Nat) (l0 : Int32) (l1 : Int32) (l2 : Int32) (l3 : Nat) (l4 : Int32) (l5 : Int32) (l6 : Int32) (l7 : Int32) (l8 : Int32) (l9 : Int32) (l10 : Int32) (l11 : Int32) (h : Hp), f_X1_foldedPile_L111 k187 n l0 l1 l2 l3 l4 l5 l6 l7 l8 l9 l10 l11 h = some (v, h') → EV X mX1_foldedPile d h0 (some (rv v)) h' 111 [some (.int l0), some (.int l1), some (.int l2), some (.ref l3), some (.int l4), some (.int l5), some (.int l6), some (.int l7), some (.int l8), some (.int l9), some (.int l10), some (.int l11), none, none] [] h := by
  intro n
  induction n with
  | zero => intro l0 l1 l2 l3 l4 l5 l6 l7 l8 l9 l10 l11 h H; simp [f_X1_foldedPile_L111] at H
  | succ n ih =>
    intro l0 l1 l2 l3 l4 l5 l6 l7 l8 l9 l10 l11 h H
    rw [f_X1_foldedPile_L111] at H
    refine ev_iload dX1_foldedPile_111 rfl ?_
    refine ev_iload dX1_foldedPile_113 rfl ?_
    refine ev_icmp_ge (tgt := 187) dX1_foldedPile_115 (by decide) (fun c20 => ?_) (fun c20 => ?_)
    · rw [if_pos c20] at H
      exact hk187 l0 l1 l2 l3 l4 l5 l6 l7 l8 l9 l10 l11 h H
    · rw [if_neg c20] at H
      refine ev_iload dX1_foldedPile_118 rfl ?_
      refine ev_iload_n dX1_foldedPile_120 rfl rfl ?_
      refine ev_imul dX1_foldedPile_121 ?_
      refine ev_iload dX1_foldedPile_122 rfl ?_
      refine ev_iadd dX1_foldedPile_124 ?_
      replace H := vl_some H
      obtain ⟨x21, ex21, H⟩ := H
      refine ev_istorex (loc2 := [some (.int l0), some (.int l1), some (.int l2), some (.ref l3), some (.int l4), some (.int l5), some (.int l6), some (.int l7), some (.int l8), some (.int l9), some (.int l10), some (.int l11), some (.int x21), none]) dX1_foldedPile_125 (by decide) ex21 rfl ?_
      refine ev_iload dX1_foldedPile_127 rfl ?_
      refine ev_if_eq (tgt := 147) dX1_foldedPile_129 (by decide) (fun c22 => ?_) (fun c22 => ?_)
      · rw [if_pos c22] at H
        refine ev_iload dX1_foldedPile_147 rfl ?_
        refine ev_iload_n dX1_foldedPile_149 rfl rfl ?_
        refine ev_imul dX1_foldedPile_150 ?_
        refine ev_iload dX1_foldedPile_151 rfl ?_
        refine ev_iadd dX1_foldedPile_153 ?_
        refine ev_iconst (v := (1 : Int32)) dX1_foldedPile_154 (by decide) ?_
        refine ev_isub dX1_foldedPile_155 ?_
        refine ev_iload dX1_foldedPile_156 rfl ?_
        refine ev_isub dX1_foldedPile_158 ?_
        exact t_X1_foldedPile_J159 hD ih l0 l1 l2 l3 l4 l5 l6 l7 l8 l9 l10 l11 x21 ((((l10 * l0) + l4) - (1 : Int32)) - l11) h H
      · rw [if_neg c22] at H
        refine ev_iload dX1_foldedPile_132 rfl ?_
        refine ev_iconst (v := (1 : Int32)) dX1_foldedPile_134 (by decide) ?_
        refine ev_isub dX1_foldedPile_135 ?_
        refine ev_iload dX1_foldedPile_136 rfl ?_
        refine ev_isub dX1_foldedPile_138 ?_
        refine ev_iload_n dX1_foldedPile_139 rfl rfl ?_
        refine ev_imul dX1_foldedPile_140 ?_
        refine ev_iload dX1_foldedPile_141 rfl ?_
        refine ev_iadd dX1_foldedPile_143 ?_
        refine ev_goto (tgt := 159) dX1_foldedPile_144 (by decide) ?_
        exact t_X1_foldedPile_J159 hD ih l0 l1 l2 l3 l4 l5 l6 l7 l8 l9 l10 l11 x21 ((((l5 - (1 : Int32)) - l10) * l0) + l11) h H
def f_X1_foldedPile_L101 (k193 : Int32 → Int32 → Int32 → Nat → Int32 → Int32 → Int32 → Int32 → Int32 → Int32 → Int32 → Hp → Option (Option Nat × Hp)) : Nat → Int32 → Int32 → Int32 → Nat → Int32 → Int32 → Int32 → Int32 → Int32 → Int32 → Int32 → Hp → Option (Option Nat × Hp)
  | 0, _, _, _, _, _, _, _, _, _, _, _, _ => none
  | n + 1, l0, l1, l2, l3, l4, l5, l6, l7, l8, l9, l10, h =>
    if l9 ≤ l10 then (
    k193 l0 l1 l2 l3 l4 l5 l6 l7 l8 l9 l10 h) else (
    f_X1_foldedPile_L111 (fun y30 y31 y32 y33 y34 y35 y36 y37 y38 y39 y40 y41 h42 =>
    vl (y40 + (1 : Int32)) fun x43 =>
    f_X1_foldedPile_L101 k193 n y30 y31 y32 y33 y34 y35 y36 y37 y38 y39 x43 h42) 6000 l0 l1 l2 l3 l4 l5 l6 l7 l8 l9 l10 (0 : Int32) h)
set_option maxHeartbeats 4000000 in
set_option maxRecDepth 100000 in
theorem t_X1_foldedPile_L101 {X : Cx} {d : Nat} {h0 h' : Hp} {v : Option Nat} {k193 : Int32 → Int32 → Int32 → Nat → Int32 → Int32 → Int32 → Int32 → Int32 → Int32 → Int32 → Hp → Option (Option Nat × Hp)} (hD : 2 ≤ d) (hk193 : ∀ (z0 : Int32) (z1 : Int32) (z2 : Int32) (z3 : Nat) (z4 : Int32) (z5 : Int32) (z6 : Int32) (z7 : Int32) (z8 : Int32) (z9 : Int32) (z10 : Int32) (h : Hp), k193 z0 z1 z2 z3 z4 z5 z6 z7 z8 z9 z10 h = some (v, h') → EV X mX1_foldedPile d h0 (some (rv v)) h' 193 [some (.int z0), some (.int z1), some (.int z2), some (.ref z3), some (.int z4), some (.int z5), some (.int z6), some (.int z7), some (.int z8), some (.int z9), some (.int z10), none, none, none] [] h) : ∀ (n : Nat) (l0 : Int32) (l1 : Int32) (l2 : Int32) (l3 : Nat) (l4 : Int32) (l5 : Int32) (l6 : Int32) (l7 : Int32) (l8 : Int32) (l9 : Int32) (l10 : Int32) (h : Hp), f_X1_foldedPile_L101 k193 n l0 l1 l2 l3 l4 l5 l6 l7 l8 l9 l10 h = some (v, h') → EV X mX1_foldedPile d h0 (some (rv v)) h' 101 [some (.int l0), some (.int l1), some (.int l2), some (.ref l3), some (.int l4), some (.int l5), some (.int l6), some (.int l7), some (.int l8), some (.int l9), some (.int l10), none, none, none] [] h := by
  intro n
  induction n with
  | zero => intro l0 l1 l2 l3 l4 l5 l6 l7 l8 l9 l10 h H; simp [f_X1_foldedPile_L101] at H
  | succ n ih =>
    intro l0 l1 l2 l3 l4 l5 l6 l7 l8 l9 l10 h H
    rw [f_X1_foldedPile_L101] at H
    refine ev_iload dX1_foldedPile_101 rfl ?_
    refine ev_iload dX1_foldedPile_103 rfl ?_
    refine ev_icmp_ge (tgt := 193) dX1_foldedPile_105 (by decide) (fun c19 => ?_) (fun c19 => ?_)
    · rw [if_pos c19] at H
      exact hk193 l0 l1 l2 l3 l4 l5 l6 l7 l8 l9 l10 h H
    · rw [if_neg c19] at H
      refine ev_iconst (v := (0 : Int32)) dX1_foldedPile_108 (by decide) ?_
      refine ev_istore (loc2 := [some (.int l0), some (.int l1), some (.int l2), some (.ref l3), some (.int l4), some (.int l5), some (.int l6), some (.int l7), some (.int l8), some (.int l9), some (.int l10), some (.int (0 : Int32)), none, none]) dX1_foldedPile_109 (by decide) rfl ?_
      refine t_X1_foldedPile_L111 hD ?_ 6000 l0 l1 l2 l3 l4 l5 l6 l7 l8 l9 l10 (0 : Int32) h H
      · intro y30 y31 y32 y33 y34 y35 y36 y37 y38 y39 y40 y41 h42 H
        replace H := vl_some H
        obtain ⟨x43, ex43, H⟩ := H
        refine ev_iincx (loc2 := [some (.int y30), some (.int y31), some (.int y32), some (.ref y33), some (.int y34), some (.int y35), some (.int y36), some (.int y37), some (.int y38), some (.int y39), some (.int x43), some (.int y41), none, none]) dX1_foldedPile_187 rfl (by decide) ex43 (by decide) rfl ?_
        refine ev_goto (tgt := 101) dX1_foldedPile_190 (by decide) ?_
        refine ev_drop (loc2 := [some (.int y30), some (.int y31), some (.int y32), some (.ref y33), some (.int y34), some (.int y35), some (.int y36), some (.int y37), some (.int y38), some (.int y39), some (.int x43), none, none, none]) [true, true, true, true, true, true, true, true, true, true, true, false, true, true] rfl ?_
        exact ih y30 y31 y32 y33 y34 y35 y36 y37 y38 y39 x43 h42 H
def f_X1_foldedPile_J96 (k46 : Int32 → Int32 → Int32 → Nat → Int32 → Int32 → Int32 → Hp → Option (Option Nat × Hp)) (l0 : Int32) (l1 : Int32) (l2 : Int32) (l3 : Nat) (l4 : Int32) (l5 : Int32) (l6 : Int32) (l7 : Int32) (l8 : Int32) (w0 : Int32) (h : Hp) : Option (Option Nat × Hp) :=
f_X1_foldedPile_L101 (fun y44 y45 y46 y47 y48 y49 y50 y51 y52 y53 y54 h55 =>
vl (y50 * (2 : Int32)) fun x56 =>
k46 y44 y45 y46 y47 y52 y53 x56 h55) 6000 l0 l1 l2 l3 l4 l5 l6 l7 l8 w0 (0 : Int32) h
set_option maxHeartbeats 4000000 in
set_option maxRecDepth 100000 in
theorem t_X1_foldedPile_J96 {X : Cx} {d : Nat} {h0 h' : Hp} {v : Option Nat} {k46 : Int32 → Int32 → Int32 → Nat → Int32 → Int32 → Int32 → Hp → Option (Option Nat × Hp)} (hD : 2 ≤ d) (hk46 : ∀ (z0 : Int32) (z1 : Int32) (z2 : Int32) (z3 : Nat) (z4 : Int32) (z5 : Int32) (z6 : Int32) (h : Hp), k46 z0 z1 z2 z3 z4 z5 z6 h = some (v, h') → EV X mX1_foldedPile d h0 (some (rv v)) h' 46 [some (.int z0), some (.int z1), some (.int z2), some (.ref z3), some (.int z4), some (.int z5), some (.int z6), none, none, none, none, none, none, none] [] h) : ∀ (l0 : Int32) (l1 : Int32) (l2 : Int32) (l3 : Nat) (l4 : Int32) (l5 : Int32) (l6 : Int32) (l7 : Int32) (l8 : Int32) (w0 : Int32) (h : Hp), f_X1_foldedPile_J96 k46 l0 l1 l2 l3 l4 l5 l6 l7 l8 w0 h = some (v, h') → EV X mX1_foldedPile d h0 (some (rv v)) h' 96 [some (.int l0), some (.int l1), some (.int l2), some (.ref l3), some (.int l4), some (.int l5), some (.int l6), some (.int l7), some (.int l8), none, none, none, none, none] [.int w0] h := by
  intro l0 l1 l2 l3 l4 l5 l6 l7 l8 w0 h H
  unfold f_X1_foldedPile_J96 at H
  refine ev_istore (loc2 := [some (.int l0), some (.int l1), some (.int l2), some (.ref l3), some (.int l4), some (.int l5), some (.int l6), some (.int l7), some (.int l8), some (.int w0), none, none, none, none]) dX1_foldedPile_96 (by decide) rfl ?_
  refine ev_iconst (v := (0 : Int32)) dX1_foldedPile_98 (by decide) ?_
  refine ev_istore (loc2 := [some (.int l0), some (.int l1), some (.int l2), some (.ref l3), some (.int l4), some (.int l5), some (.int l6), some (.int l7), some (.int l8), some (.int w0), some (.int (0 : Int32)), none, none, none]) dX1_foldedPile_99 (by decide) rfl ?_
  refine t_X1_foldedPile_L101 hD ?_ 6000 l0 l1 l2 l3 l4 l5 l6 l7 l8 w0 (0 : Int32) h H
  · intro y44 y45 y46 y47 y48 y49 y50 y51 y52 y53 y54 h55 H
    refine ev_iload dX1_foldedPile_193 rfl ?_
    refine ev_istore (loc2 := [some (.int y44), some (.int y45), some (.int y46), some (.ref y47), some (.int y52), some (.int y49), some (.int y50), some (.int y51), some (.int y52), some (.int y53), some (.int y54), none, none, none]) dX1_foldedPile_195 (by decide) rfl ?_
    refine ev_iload dX1_foldedPile_197 rfl ?_
    refine ev_istore (loc2 := [some (.int y44), some (.int y45), some (.int y46), some (.ref y47), some (.int y52), some (.int y53), some (.int y50), some (.int y51), some (.int y52), some (.int y53), some (.int y54), none, none, none]) dX1_foldedPile_199 (by decide) rfl ?_
    refine ev_iload dX1_foldedPile_201 rfl ?_
    refine ev_iconst (v := (2 : Int32)) dX1_foldedPile_203 (by decide) ?_
    refine ev_imul dX1_foldedPile_204 ?_
    replace H := vl_some H
    obtain ⟨x56, ex56, H⟩ := H
    refine ev_istorex (loc2 := [some (.int y44), some (.int y45), some (.int y46), some (.ref y47), some (.int y52), some (.int y53), some (.int x56), some (.int y51), some (.int y52), some (.int y53), some (.int y54), none, none, none]) dX1_foldedPile_205 (by decide) ex56 rfl ?_
    refine ev_goto (tgt := 46) dX1_foldedPile_207 (by decide) ?_
    refine ev_drop (loc2 := [some (.int y44), some (.int y45), some (.int y46), some (.ref y47), some (.int y52), some (.int y53), some (.int x56), none, none, none, none, none, none, none]) [true, true, true, true, true, true, true, false, false, false, false, true, true, true] rfl ?_
    exact hk46 y44 y45 y46 y47 y52 y53 x56 h55 H
def f_X1_foldedPile_J80 (k46 : Int32 → Int32 → Int32 → Nat → Int32 → Int32 → Int32 → Hp → Option (Option Nat × Hp)) (l0 : Int32) (l1 : Int32) (l2 : Int32) (l3 : Nat) (l4 : Int32) (l5 : Int32) (l6 : Int32) (l7 : Int32) (w0 : Int32) (h : Hp) : Option (Option Nat × Hp) :=
if l7 = 0 then (
f_X1_foldedPile_J96 k46 l0 l1 l2 l3 l4 l5 l6 l7 w0 l5 h) else (
f_X1_foldedPile_J96 k46 l0 l1 l2 l3 l4 l5 l6 l7 w0 (l5 / (2 : Int32)) h)
set_option maxHeartbeats 4000000 in
set_option maxRecDepth 100000 in
theorem t_X1_foldedPile_J80 {X : Cx} {d : Nat} {h0 h' : Hp} {v : Option Nat} {k46 : Int32 → Int32 → Int32 → Nat → Int32 → Int32 → Int32 → Hp → Option (Option Nat × Hp)} (hD : 2 ≤ d) (hk46 : ∀ (z0 : Int32) (z1 : Int32) (z2 : Int32) (z3 : Nat) (z4 : Int32) (z5 : Int32) (z6 : Int32) (h : Hp), k46 z0 z1 z2 z3 z4 z5 z6 h = some (v, h') → EV X mX1_foldedPile d h0 (some (rv v)) h' 46 [some (.int z0), some (.int z1), some (.int z2), some (.ref z3), some (.int z4), some (.int z5), some (.int z6), none, none, none, none, none, none, none] [] h) : ∀ (l0 : Int32) (l1 : Int32) (l2 : Int32) (l3 : Nat) (l4 : Int32) (l5 : Int32) (l6 : Int32) (l7 : Int32) (w0 : Int32) (h : Hp), f_X1_foldedPile_J80 k46 l0 l1 l2 l3 l4 l5 l6 l7 w0 h = some (v, h') → EV X mX1_foldedPile d h0 (some (rv v)) h' 80 [some (.int l0), some (.int l1), some (.int l2), some (.ref l3), some (.int l4), some (.int l5), some (.int l6), some (.int l7), none, none, none, none, none, none] [.int w0] h := by
  intro l0 l1 l2 l3 l4 l5 l6 l7 w0 h H
  unfold f_X1_foldedPile_J80 at H
  refine ev_istore (loc2 := [some (.int l0), some (.int l1), some (.int l2), some (.ref l3), some (.int l4), some (.int l5), some (.int l6), some (.int l7), some (.int w0), none, none, none, none, none]) dX1_foldedPile_80 (by decide) rfl ?_
  refine ev_iload dX1_foldedPile_82 rfl ?_
  refine ev_if_eq (tgt := 94) dX1_foldedPile_84 (by decide) (fun c18 => ?_) (fun c18 => ?_)
  · rw [if_pos c18] at H
    refine ev_iload dX1_foldedPile_94 rfl ?_
    exact t_X1_foldedPile_J96 hD hk46 l0 l1 l2 l3 l4 l5 l6 l7 w0 l5 h H
  · rw [if_neg c18] at H
    refine ev_iload dX1_foldedPile_87 rfl ?_
    refine ev_iconst (v := (2 : Int32)) dX1_foldedPile_89 (by decide) ?_
    refine ev_idiv dX1_foldedPile_90 (by decide) ?_
    refine ev_goto (tgt := 96) dX1_foldedPile_91 (by decide) ?_
    exact t_X1_foldedPile_J96 hD hk46 l0 l1 l2 l3 l4 l5 l6 l7 w0 (l5 / (2 : Int32)) h H
def f_X1_foldedPile_J64 (k46 : Int32 → Int32 → Int32 → Nat → Int32 → Int32 → Int32 → Hp → Option (Option Nat × Hp)) (l0 : Int32) (l1 : Int32) (l2 : Int32) (l3 : Nat) (l4 : Int32) (l5 : Int32) (l6 : Int32) (w0 : Int32) (h : Hp) : Option (Option Nat × Hp) :=
if w0 = 0 then (
f_X1_foldedPile_J80 k46 l0 l1 l2 l3 l4 l5 l6 w0 (l4 / (2 : Int32)) h) else (
f_X1_foldedPile_J80 k46 l0 l1 l2 l3 l4 l5 l6 w0 l4 h)
set_option maxHeartbeats 4000000 in
set_option maxRecDepth 100000 in
theorem t_X1_foldedPile_J64 {X : Cx} {d : Nat} {h0 h' : Hp} {v : Option Nat} {k46 : Int32 → Int32 → Int32 → Nat → Int32 → Int32 → Int32 → Hp → Option (Option Nat × Hp)} (hD : 2 ≤ d) (hk46 : ∀ (z0 : Int32) (z1 : Int32) (z2 : Int32) (z3 : Nat) (z4 : Int32) (z5 : Int32) (z6 : Int32) (h : Hp), k46 z0 z1 z2 z3 z4 z5 z6 h = some (v, h') → EV X mX1_foldedPile d h0 (some (rv v)) h' 46 [some (.int z0), some (.int z1), some (.int z2), some (.ref z3), some (.int z4), some (.int z5), some (.int z6), none, none, none, none, none, none, none] [] h) : ∀ (l0 : Int32) (l1 : Int32) (l2 : Int32) (l3 : Nat) (l4 : Int32) (l5 : Int32) (l6 : Int32) (w0 : Int32) (h : Hp), f_X1_foldedPile_J64 k46 l0 l1 l2 l3 l4 l5 l6 w0 h = some (v, h') → EV X mX1_foldedPile d h0 (some (rv v)) h' 64 [some (.int l0), some (.int l1), some (.int l2), some (.ref l3), some (.int l4), some (.int l5), some (.int l6), none, none, none, none, none, none, none] [.int w0] h := by
  intro l0 l1 l2 l3 l4 l5 l6 w0 h H
  unfold f_X1_foldedPile_J64 at H
  refine ev_istore (loc2 := [some (.int l0), some (.int l1), some (.int l2), some (.ref l3), some (.int l4), some (.int l5), some (.int l6), some (.int w0), none, none, none, none, none, none]) dX1_foldedPile_64 (by decide) rfl ?_
  refine ev_iload dX1_foldedPile_66 rfl ?_
  refine ev_if_eq (tgt := 76) dX1_foldedPile_68 (by decide) (fun c17 => ?_) (fun c17 => ?_)
  · rw [if_pos c17] at H
    refine ev_iload dX1_foldedPile_76 rfl ?_
    refine ev_iconst (v := (2 : Int32)) dX1_foldedPile_78 (by decide) ?_
    refine ev_idiv dX1_foldedPile_79 (by decide) ?_
    exact t_X1_foldedPile_J80 hD hk46 l0 l1 l2 l3 l4 l5 l6 w0 (l4 / (2 : Int32)) h H
  · rw [if_neg c17] at H
    refine ev_iload dX1_foldedPile_71 rfl ?_
    refine ev_goto (tgt := 80) dX1_foldedPile_73 (by decide) ?_
    exact t_X1_foldedPile_J80 hD hk46 l0 l1 l2 l3 l4 l5 l6 w0 l4 h H
def f_X1_foldedPile_L46 : Nat → Int32 → Int32 → Int32 → Nat → Int32 → Int32 → Int32 → Hp → Option (Option Nat × Hp)
  | 0, _, _, _, _, _, _, _, _ => none
  | n + 1, l0, l1, l2, l3, l4, l5, l6, h =>
    if l2 ≤ l6 then (
    some (some l3, h)) else (
    if l5 < l4 then (
    f_X1_foldedPile_J64 (f_X1_foldedPile_L46 n) l0 l1 l2 l3 l4 l5 l6 (0 : Int32) h) else (
    f_X1_foldedPile_J64 (f_X1_foldedPile_L46 n) l0 l1 l2 l3 l4 l5 l6 (1 : Int32) h))
set_option maxHeartbeats 4000000 in
set_option maxRecDepth 100000 in
theorem t_X1_foldedPile_L46 {X : Cx} {d : Nat} {h0 h' : Hp} {v : Option Nat} (hD : 2 ≤ d) : ∀ (n : Nat) (l0 : Int32) (l1 : Int32) (l2 : Int32) (l3 : Nat) (l4 : Int32) (l5 : Int32) (l6 : Int32) (h : Hp), f_X1_foldedPile_L46 n l0 l1 l2 l3 l4 l5 l6 h = some (v, h') → EV X mX1_foldedPile d h0 (some (rv v)) h' 46 [some (.int l0), some (.int l1), some (.int l2), some (.ref l3), some (.int l4), some (.int l5), some (.int l6), none, none, none, none, none, none, none] [] h := by
  intro n
  induction n with
  | zero => intro l0 l1 l2 l3 l4 l5 l6 h H; simp [f_X1_foldedPile_L46] at H
  | succ n ih =>
    intro l0 l1 l2 l3 l4 l5 l6 h H
    rw [f_X1_foldedPile_L46] at H
    refine ev_iload dX1_foldedPile_46 rfl ?_
    refine ev_iload_n dX1_foldedPile_48 rfl rfl ?_
    refine ev_icmp_ge (tgt := 210) dX1_foldedPile_49 (by decide) (fun c15 => ?_) (fun c15 => ?_)
    · rw [if_pos c15] at H
      refine ev_aload_n dX1_foldedPile_210 rfl rfl rfl ?_
      exact ev_aretx (t := some l3) dX1_foldedPile_211 rfl (Or.inr ⟨_, rfl⟩) H
    · rw [if_neg c15] at H
      refine ev_iload dX1_foldedPile_52 rfl ?_
      refine ev_iload dX1_foldedPile_54 rfl ?_
      refine ev_icmp_gt (tgt := 63) dX1_foldedPile_56 (by decide) (fun c16 => ?_) (fun c16 => ?_)
      · rw [if_pos c16] at H
        refine ev_iconst (v := (0 : Int32)) dX1_foldedPile_63 (by decide) ?_
        exact t_X1_foldedPile_J64 hD ih l0 l1 l2 l3 l4 l5 l6 (0 : Int32) h H
      · rw [if_neg c16] at H
        refine ev_iconst (v := (1 : Int32)) dX1_foldedPile_59 (by decide) ?_
        refine ev_goto (tgt := 64) dX1_foldedPile_60 (by decide) ?_
        exact t_X1_foldedPile_J64 hD ih l0 l1 l2 l3 l4 l5 l6 (1 : Int32) h H
def f_X1_foldedPile (h : Hp) (a0 : Int32) (a1 : Int32) : Option (Option Nat × Hp) :=
vl (a0 * a1) fun x1 =>
gd (okN (x1 * (8 : Int32))) <|
vl (gN h) fun b3 =>
vl (nw h 11 (x1 * (8 : Int32)).toNatClampNeg (x1 * (8 : Int32)).toNatClampNeg) fun h4 =>
f_X1_foldedPile_L14 (fun y9 y10 y11 y12 y13 h14 =>
f_X1_foldedPile_L46 6000 y9 y10 y11 y12 y9 y10 (1 : Int32) h14) 6000 a0 a1 x1 b3 (0 : Int32) h4
set_option maxHeartbeats 4000000 in
set_option maxRecDepth 100000 in
theorem t_X1_foldedPile {X : Cx} {d : Nat} {h : Hp} {a0 : Int32} {a1 : Int32} {v : Option Nat} {h' : Hp} (hD : 2 ≤ d) (H : f_X1_foldedPile h a0 a1 = some (v, h')) : PM X mX1_foldedPile d [.int a0, .int a1] h (some (rv v)) h' := by
  unfold f_X1_foldedPile at H
  refine PM.of (loc := [some (.int a0), some (.int a1), none, none, none, none, none, none, none, none, none, none, none, none]) (by decide) rfl (Nat.le_of_ble_eq_true rfl) ?_
  refine ev_iload_n dX1_foldedPile_0 rfl rfl ?_
  refine ev_iload_n dX1_foldedPile_1 rfl rfl ?_
  refine ev_imul dX1_foldedPile_2 ?_
  replace H := vl_some H
  obtain ⟨x1, ex1, H⟩ := H
  refine ev_istore_nx (loc2 := [some (.int a0), some (.int a1), some (.int x1), none, none, none, none, none, none, none, none, none, none, none]) dX1_foldedPile_3 rfl (by decide) ex1 rfl ?_
  refine ev_iload_n dX1_foldedPile_4 rfl rfl ?_
  refine ev_bipush (v := (8 : Int32)) dX1_foldedPile_5 (by decide) ?_
  refine ev_imul dX1_foldedPile_7 ?_
  replace H := gd_some H
  obtain ⟨g2, H⟩ := H
  replace H := vl_some H
  obtain ⟨b3, eb3, H⟩ := H
  replace H := vl_some H
  obtain ⟨h4, eh4, H⟩ := H
  refine ev_newaIx dX1_foldedPile_8 k1_44 (okN.p g2) rfl eb3 eh4 ?_
  refine ev_astore_n (loc2 := [some (.int a0), some (.int a1), some (.int x1), some (.ref b3), none, none, none, none, none, none, none, none, none, none]) dX1_foldedPile_10 rfl (by decide) rfl rfl ?_
  refine ev_iconst (v := (0 : Int32)) dX1_foldedPile_11 (by decide) ?_
  refine ev_istore (loc2 := [some (.int a0), some (.int a1), some (.int x1), some (.ref b3), some (.int (0 : Int32)), none, none, none, none, none, none, none, none, none]) dX1_foldedPile_12 (by decide) rfl ?_
  refine t_X1_foldedPile_L14 hD ?_ 6000 a0 a1 x1 b3 (0 : Int32) h4 H
  · intro y9 y10 y11 y12 y13 h14 H
    refine ev_iload_n dX1_foldedPile_37 rfl rfl ?_
    refine ev_istore (loc2 := [some (.int y9), some (.int y10), some (.int y11), some (.ref y12), some (.int y9), none, none, none, none, none, none, none, none, none]) dX1_foldedPile_38 (by decide) rfl ?_
    refine ev_iload_n dX1_foldedPile_40 rfl rfl ?_
    refine ev_istore (loc2 := [some (.int y9), some (.int y10), some (.int y11), some (.ref y12), some (.int y9), some (.int y10), none, none, none, none, none, none, none, none]) dX1_foldedPile_41 (by decide) rfl ?_
    refine ev_iconst (v := (1 : Int32)) dX1_foldedPile_43 (by decide) ?_
    refine ev_istore (loc2 := [some (.int y9), some (.int y10), some (.int y11), some (.ref y12), some (.int y9), some (.int y10), some (.int (1 : Int32)), none, none, none, none, none, none, none]) dX1_foldedPile_44 (by decide) rfl ?_
    refine t_X1_foldedPile_L46 hD  6000 y9 y10 y11 y12 y9 y10 (1 : Int32) h14 H

theorem dX1_init_0 : decode cX1_init 0 = .ok (.aload_n 0, 1) := by decide +kernel
theorem dX1_init_1 : decode cX1_init 1 = .ok (.invokespecial 3, 3) := by decide +kernel
theorem dX1_init_4 : decode cX1_init 4 = .ok (.aload_n 0, 1) := by decide +kernel
theorem dX1_init_5 : decode cX1_init 5 = .ok (.iload_n 1, 1) := by decide +kernel
theorem dX1_init_6 : decode cX1_init 6 = .ok (.putfield 9, 3) := by decide +kernel
theorem dX1_init_9 : decode cX1_init 9 = .ok (.aload_n 0, 1) := by decide +kernel
theorem dX1_init_10 : decode cX1_init 10 = .ok (.iload_n 2, 1) := by decide +kernel
theorem dX1_init_11 : decode cX1_init 11 = .ok (.putfield 15, 3) := by decide +kernel
theorem dX1_init_14 : decode cX1_init 14 = .ok (.iload_n 1, 1) := by decide +kernel
theorem dX1_init_15 : decode cX1_init 15 = .ok (.iload_n 2, 1) := by decide +kernel
theorem dX1_init_16 : decode cX1_init 16 = .ok (.imul, 1) := by decide +kernel
theorem dX1_init_17 : decode cX1_init 17 = .ok (.istore_n 3, 1) := by decide +kernel
theorem dX1_init_18 : decode cX1_init 18 = .ok (.aload_n 0, 1) := by decide +kernel
theorem dX1_init_19 : decode cX1_init 19 = .ok (.iconst 2, 1) := by decide +kernel
theorem dX1_init_20 : decode cX1_init 20 = .ok (.iload_n 3, 1) := by decide +kernel
theorem dX1_init_21 : decode cX1_init 21 = .ok (.imul, 1) := by decide +kernel
theorem dX1_init_22 : decode cX1_init 22 = .ok (.newarray .int, 2) := by decide +kernel
theorem dX1_init_24 : decode cX1_init 24 = .ok (.putfield 18, 3) := by decide +kernel
theorem dX1_init_27 : decode cX1_init 27 = .ok (.aload_n 0, 1) := by decide +kernel
theorem dX1_init_28 : decode cX1_init 28 = .ok (.iload_n 3, 1) := by decide +kernel
theorem dX1_init_29 : decode cX1_init 29 = .ok (.newarray .int, 2) := by decide +kernel
theorem dX1_init_31 : decode cX1_init 31 = .ok (.putfield 22, 3) := by decide +kernel
theorem dX1_init_34 : decode cX1_init 34 = .ok (.iload_n 1, 1) := by decide +kernel
theorem dX1_init_35 : decode cX1_init 35 = .ok (.iload_n 2, 1) := by decide +kernel
theorem dX1_init_36 : decode cX1_init 36 = .ok (.invokestatic 25, 3) := by decide +kernel
theorem dX1_init_39 : decode cX1_init 39 = .ok (.astore 4, 2) := by decide +kernel
theorem dX1_init_41 : decode cX1_init 41 = .ok (.iconst 0, 1) := by decide +kernel
theorem dX1_init_42 : decode cX1_init 42 = .ok (.istore 5, 2) := by decide +kernel
theorem dX1_init_44 : decode cX1_init 44 = .ok (.iload 5, 2) := by decide +kernel
theorem dX1_init_46 : decode cX1_init 46 = .ok (.iload_n 3, 1) := by decide +kernel
theorem dX1_init_47 : decode cX1_init 47 = .ok (.if_icmp .ge 101, 3) := by decide +kernel
theorem dX1_init_50 : decode cX1_init 50 = .ok (.aload 4, 2) := by decide +kernel
theorem dX1_init_52 : decode cX1_init 52 = .ok (.iload 5, 2) := by decide +kernel
theorem dX1_init_54 : decode cX1_init 54 = .ok (.iaload, 1) := by decide +kernel
theorem dX1_init_55 : decode cX1_init 55 = .ok (.iconst 4, 1) := by decide +kernel
theorem dX1_init_56 : decode cX1_init 56 = .ok (.idiv, 1) := by decide +kernel
theorem dX1_init_57 : decode cX1_init 57 = .ok (.istore 6, 2) := by decide +kernel
theorem dX1_init_59 : decode cX1_init 59 = .ok (.aload 4, 2) := by decide +kernel
theorem dX1_init_61 : decode cX1_init 61 = .ok (.iload 5, 2) := by decide +kernel
theorem dX1_init_63 : decode cX1_init 63 = .ok (.iaload, 1) := by decide +kernel
theorem dX1_init_64 : decode cX1_init 64 = .ok (.iconst 1, 1) := by decide +kernel
theorem dX1_init_65 : decode cX1_init 65 = .ok (.iand, 1) := by decide +kernel
theorem dX1_init_66 : decode cX1_init 66 = .ok (.ifCond .eq 7, 3) := by decide +kernel
theorem dX1_init_69 : decode cX1_init 69 = .ok (.iconst 0, 1) := by decide +kernel
theorem dX1_init_70 : decode cX1_init 70 = .ok (.goto 4, 3) := by decide +kernel
theorem dX1_init_73 : decode cX1_init 73 = .ok (.iconst 1, 1) := by decide +kernel
theorem dX1_init_74 : decode cX1_init 74 = .ok (.istore 7, 2) := by decide +kernel
theorem dX1_init_76 : decode cX1_init 76 = .ok (.iload_n 3, 1) := by decide +kernel
theorem dX1_init_77 : decode cX1_init 77 = .ok (.iconst 1, 1) := by decide +kernel
theorem dX1_init_78 : decode cX1_init 78 = .ok (.isub, 1) := by decide +kernel
theorem dX1_init_79 : decode cX1_init 79 = .ok (.iload 5, 2) := by decide +kernel
theorem dX1_init_81 : decode cX1_init 81 = .ok (.isub, 1) := by decide +kernel
theorem dX1_init_82 : decode cX1_init 82 = .ok (.istore 8, 2) := by decide +kernel
theorem dX1_init_84 : decode cX1_init 84 = .ok (.aload_n 0, 1) := by decide +kernel
theorem dX1_init_85 : decode cX1_init 85 = .ok (.getfield 18, 3) := by decide +kernel
theorem dX1_init_88 : decode cX1_init 88 = .ok (.iconst 2, 1) := by decide +kernel
theorem dX1_init_89 : decode cX1_init 89 = .ok (.iload 6, 2) := by decide +kernel
theorem dX1_init_91 : decode cX1_init 91 = .ok (.imul, 1) := by decide +kernel
theorem dX1_init_92 : decode cX1_init 92 = .ok (.iload 7, 2) := by decide +kernel
theorem dX1_init_94 : decode cX1_init 94 = .ok (.iadd, 1) := by decide +kernel
theorem dX1_init_95 : decode cX1_init 95 = .ok (.iconst 2, 1) := by decide +kernel
theorem dX1_init_96 : decode cX1_init 96 = .ok (.iload 8, 2) := by decide +kernel
theorem dX1_init_98 : decode cX1_init 98 = .ok (.imul, 1) := by decide +kernel
theorem dX1_init_99 : decode cX1_init 99 = .ok (.iastore, 1) := by decide +kernel
theorem dX1_init_100 : decode cX1_init 100 = .ok (.aload_n 0, 1) := by decide +kernel
theorem dX1_init_101 : decode cX1_init 101 = .ok (.getfield 18, 3) := by decide +kernel
theorem dX1_init_104 : decode cX1_init 104 = .ok (.iconst 2, 1) := by decide +kernel
theorem dX1_init_105 : decode cX1_init 105 = .ok (.iload 6, 2) := by decide +kernel
theorem dX1_init_107 : decode cX1_init 107 = .ok (.imul, 1) := by decide +kernel
theorem dX1_init_108 : decode cX1_init 108 = .ok (.iconst 1, 1) := by decide +kernel
theorem dX1_init_109 : decode cX1_init 109 = .ok (.iadd, 1) := by decide +kernel
theorem dX1_init_110 : decode cX1_init 110 = .ok (.iload 7, 2) := by decide +kernel
theorem dX1_init_112 : decode cX1_init 112 = .ok (.isub, 1) := by decide +kernel
theorem dX1_init_113 : decode cX1_init 113 = .ok (.iconst 2, 1) := by decide +kernel
theorem dX1_init_114 : decode cX1_init 114 = .ok (.iload 8, 2) := by decide +kernel
theorem dX1_init_116 : decode cX1_init 116 = .ok (.imul, 1) := by decide +kernel
theorem dX1_init_117 : decode cX1_init 117 = .ok (.iconst 1, 1) := by decide +kernel
theorem dX1_init_118 : decode cX1_init 118 = .ok (.iadd, 1) := by decide +kernel
theorem dX1_init_119 : decode cX1_init 119 = .ok (.iastore, 1) := by decide +kernel
theorem dX1_init_120 : decode cX1_init 120 = .ok (.aload_n 0, 1) := by decide +kernel
theorem dX1_init_121 : decode cX1_init 121 = .ok (.getfield 22, 3) := by decide +kernel
theorem dX1_init_124 : decode cX1_init 124 = .ok (.iload 6, 2) := by decide +kernel
theorem dX1_init_126 : decode cX1_init 126 = .ok (.aload 4, 2) := by decide +kernel
theorem dX1_init_128 : decode cX1_init 128 = .ok (.iload 5, 2) := by decide +kernel
theorem dX1_init_130 : decode cX1_init 130 = .ok (.iaload, 1) := by decide +kernel
theorem dX1_init_131 : decode cX1_init 131 = .ok (.iconst 2, 1) := by decide +kernel
theorem dX1_init_132 : decode cX1_init 132 = .ok (.iand, 1) := by decide +kernel
theorem dX1_init_133 : decode cX1_init 133 = .ok (.ifCond .eq 7, 3) := by decide +kernel
theorem dX1_init_136 : decode cX1_init 136 = .ok (.iconst 1, 1) := by decide +kernel
theorem dX1_init_137 : decode cX1_init 137 = .ok (.goto 4, 3) := by decide +kernel
theorem dX1_init_140 : decode cX1_init 140 = .ok (.iconst 0, 1) := by decide +kernel
theorem dX1_init_141 : decode cX1_init 141 = .ok (.iastore, 1) := by decide +kernel
theorem dX1_init_142 : decode cX1_init 142 = .ok (.iinc 5 1, 3) := by decide +kernel
theorem dX1_init_145 : decode cX1_init 145 = .ok (.goto (-101), 3) := by decide +kernel
theorem dX1_init_148 : decode cX1_init 148 = .ok (.return_, 1) := by decide +kernel
def f_X1_init_J74 (k44 : Nat → Int32 → Int32 → Int32 → Option Nat → Int32 → Hp → Option (Unit × Hp)) (l0 : Nat) (l1 : Int32) (l2 : Int32) (l3 : Int32) (l4 : Nat) (l5 : Int32) (l6 : Int32) (w0 : Int32) (h : Hp) : Option (Unit × Hp) :=
vl ((l3 - (1 : Int32)) - l5) fun x23 =>
gd (okOb h l0 1) <|
vl (gR h l0 2) fun r25 =>
un r25 fun b26 =>
gd (okAb h b26 11 (((2 : Int32) * l6) + w0)) <|
vl (sI h b26 (((2 : Int32) * l6) + w0).toNatClampNeg ((2 : Int32) * x23)) fun h28 =>
vl (gR h28 l0 2) fun r29 =>
un r29 fun b30 =>
gd (okAb h28 b30 11 ((((2 : Int32) * l6) + (1 : Int32)) - w0)) <|
vl (sI h28 b30 ((((2 : Int32) * l6) + (1 : Int32)) - w0).toNatClampNeg (((2 : Int32) * x23) + (1 : Int32))) fun h32 =>
vl (gR h32 l0 3) fun r33 =>
gd (okAb h32 l4 11 l5) <|
vl (gI h32 l4 l5.toNatClampNeg) fun x35 =>
if (x35 &&& (2 : Int32)) = 0 then (
un r33 fun b37 =>
gd (okAb h32 b37 11 l6) <|
vl (sI h32 b37 l6.toNatClampNeg (0 : Int32)) fun h39 =>
vl (l5 + (1 : Int32)) fun x40 =>
k44 l0 l1 l2 l3 (some l4) x40 h39) else (
un r33 fun b41 =>
gd (okAb h32 b41 11 l6) <|
vl (sI h32 b41 l6.toNatClampNeg (1 : Int32)) fun h43 =>
vl (l5 + (1 : Int32)) fun x44 =>
k44 l0 l1 l2 l3 (some l4) x44 h43)
set_option maxHeartbeats 4000000 in
set_option maxRecDepth 100000 in
theorem t_X1_init_J74 {X : Cx} {d : Nat} {h0 h' : Hp} {v : Unit} {k44 : Nat → Int32 → Int32 → Int32 → Option Nat → Int32 → Hp → Option (Unit × Hp)} (hD : 3 ≤ d) (hk44 : ∀ (z0 : Nat) (z1 : Int32) (z2 : Int32) (z3 : Int32) (z4 : Option Nat) (z5 : Int32) (h : Hp), k44 z0 z1 z2 z3 z4 z5 h = some (v, h') → EV X mX1_init d h0 (none) h' 44 [some (.ref z0), some (.int z1), some (.int z2), some (.int z3), some (rv z4), some (.int z5), none, none, none] [] h) : ∀ (l0 : Nat) (l1 : Int32) (l2 : Int32) (l3 : Int32) (l4 : Nat) (l5 : Int32) (l6 : Int32) (w0 : Int32) (h : Hp), f_X1_init_J74 k44 l0 l1 l2 l3 l4 l5 l6 w0 h = some (v, h') → EV X mX1_init d h0 (none) h' 74 [some (.ref l0), some (.int l1), some (.int l2), some (.int l3), some (.ref l4), some (.int l5), some (.int l6), none, none] [.int w0] h := by
  intro l0 l1 l2 l3 l4 l5 l6 w0 h H
  unfold f_X1_init_J74 at H
  refine ev_istore (loc2 := [some (.ref l0), some (.int l1), some (.int l2), some (.int l3), some (.ref l4), some (.int l5), some (.int l6), some (.int w0), none]) dX1_init_74 (by decide) rfl ?_
  refine ev_iload_n dX1_init_76 rfl rfl ?_
  refine ev_iconst (v := (1 : Int32)) dX1_init_77 (by decide) ?_
  refine ev_isub dX1_init_78 ?_
  refine ev_iload dX1_init_79 rfl ?_
  refine ev_isub dX1_init_81 ?_
  replace H := vl_some H
  obtain ⟨x23, ex23, H⟩ := H
  refine ev_istorex (loc2 := [some (.ref l0), some (.int l1), some (.int l2), some (.int l3), some (.ref l4), some (.int l5), some (.int l6), some (.int w0), some (.int x23)]) dX1_init_82 (by decide) ex23 rfl ?_
  refine ev_aload_n dX1_init_84 rfl rfl rfl ?_
  replace H := gd_some H
  obtain ⟨g24, H⟩ := H
  replace H := vl_some H
  obtain ⟨r25, er25, H⟩ := H
  refine ev_getRx dX1_init_85 fgX1_18 rfl (okOb.p g24) er25 ?_
  refine ev_iconst (v := (2 : Int32)) dX1_init_88 (by decide) ?_
  refine ev_iload dX1_init_89 rfl ?_
  refine ev_imul dX1_init_91 ?_
  refine ev_iload dX1_init_92 rfl ?_
  refine ev_iadd dX1_init_94 ?_
  refine ev_iconst (v := (2 : Int32)) dX1_init_95 (by decide) ?_
  refine ev_iload dX1_init_96 rfl ?_
  refine ev_imul dX1_init_98 ?_
  replace H := un_some H
  obtain ⟨b26, eb26, H⟩ := H
  subst eb26
  replace H := gd_some H
  obtain ⟨g27, H⟩ := H
  replace H := vl_some H
  obtain ⟨h28, eh28, H⟩ := H
  refine ev_iast dX1_init_99 (okAb.p g27) eh28 ?_
  refine ev_aload_n dX1_init_100 rfl rfl rfl ?_
  replace H := vl_some H
  obtain ⟨r29, er29, H⟩ := H
  refine ev_getRx dX1_init_101 fgX1_18 rfl (okO_sI eh28 (okOb.p g24)) er29 ?_
  refine ev_iconst (v := (2 : Int32)) dX1_init_104 (by decide) ?_
  refine ev_iload dX1_init_105 rfl ?_
  refine ev_imul dX1_init_107 ?_
  refine ev_iconst (v := (1 : Int32)) dX1_init_108 (by decide) ?_
  refine ev_iadd dX1_init_109 ?_
  refine ev_iload dX1_init_110 rfl ?_
  refine ev_isub dX1_init_112 ?_
  refine ev_iconst (v := (2 : Int32)) dX1_init_113 (by decide) ?_
  refine ev_iload dX1_init_114 rfl ?_
  refine ev_imul dX1_init_116 ?_
  refine ev_iconst (v := (1 : Int32)) dX1_init_117 (by decide) ?_
  refine ev_iadd dX1_init_118 ?_
  replace H := un_some H
  obtain ⟨b30, eb30, H⟩ := H
  subst eb30
  replace H := gd_some H
  obtain ⟨g31, H⟩ := H
  replace H := vl_some H
  obtain ⟨h32, eh32, H⟩ := H
  refine ev_iast dX1_init_119 (okAb.p g31) eh32 ?_
  refine ev_aload_n dX1_init_120 rfl rfl rfl ?_
  replace H := vl_some H
  obtain ⟨r33, er33, H⟩ := H
  refine ev_getRx dX1_init_121 fgX1_22 rfl (okO_sI eh32 (okO_sI eh28 (okOb.p g24))) er33 ?_
  refine ev_iload dX1_init_124 rfl ?_
  refine ev_aload dX1_init_126 rfl rfl ?_
  refine ev_iload dX1_init_128 rfl ?_
  replace H := gd_some H
  obtain ⟨g34, H⟩ := H
  replace H := vl_some H
  obtain ⟨x35, ex35, H⟩ := H
  refine ev_ialdx dX1_init_130 (okAb.p g34) ex35 ?_
  refine ev_iconst (v := (2 : Int32)) dX1_init_131 (by decide) ?_
  refine ev_iand dX1_init_132 ?_
  refine ev_if_eq (tgt := 140) dX1_init_133 (by decide) (fun c36 => ?_) (fun c36 => ?_)
  · rw [if_pos c36] at H
    refine ev_iconst (v := (0 : Int32)) dX1_init_140 (by decide) ?_
    replace H := un_some H
    obtain ⟨b37, eb37, H⟩ := H
    subst eb37
    replace H := gd_some H
    obtain ⟨g38, H⟩ := H
    replace H := vl_some H
    obtain ⟨h39, eh39, H⟩ := H
    refine ev_iast dX1_init_141 (okAb.p g38) eh39 ?_
    replace H := vl_some H
    obtain ⟨x40, ex40, H⟩ := H
    refine ev_iincx (loc2 := [some (.ref l0), some (.int l1), some (.int l2), some (.int l3), some (.ref l4), some (.int x40), some (.int l6), some (.int w0), some (.int x23)]) dX1_init_142 rfl (by decide) ex40 (by decide) rfl ?_
    refine ev_goto (tgt := 44) dX1_init_145 (by decide) ?_
    refine ev_drop (loc2 := [some (.ref l0), some (.int l1), some (.int l2), some (.int l3), some (.ref l4), some (.int x40), none, none, none]) [true, true, true, true, true, true, false, false, false] rfl ?_
    exact hk44 l0 l1 l2 l3 (some l4) x40 h39 H
  · rw [if_neg c36] at H
    refine ev_iconst (v := (1 : Int32)) dX1_init_136 (by decide) ?_
    refine ev_goto (tgt := 141) dX1_init_137 (by decide) ?_
    replace H := un_some H
    obtain ⟨b41, eb41, H⟩ := H
    subst eb41
    replace H := gd_some H
    obtain ⟨g42, H⟩ := H
    replace H := vl_some H
    obtain ⟨h43, eh43, H⟩ := H
    refine ev_iast dX1_init_141 (okAb.p g42) eh43 ?_
    replace H := vl_some H
    obtain ⟨x44, ex44, H⟩ := H
    refine ev_iincx (loc2 := [some (.ref l0), some (.int l1), some (.int l2), some (.int l3), some (.ref l4), some (.int x44), some (.int l6), some (.int w0), some (.int x23)]) dX1_init_142 rfl (by decide) ex44 (by decide) rfl ?_
    refine ev_goto (tgt := 44) dX1_init_145 (by decide) ?_
    refine ev_drop (loc2 := [some (.ref l0), some (.int l1), some (.int l2), some (.int l3), some (.ref l4), some (.int x44), none, none, none]) [true, true, true, true, true, true, false, false, false] rfl ?_
    exact hk44 l0 l1 l2 l3 (some l4) x44 h43 H
def f_X1_init_L44 : Nat → Nat → Int32 → Int32 → Int32 → Option Nat → Int32 → Hp → Option (Unit × Hp)
  | 0, _, _, _, _, _, _, _ => none
  | n + 1, l0, l1, l2, l3, l4, l5, h =>
    if l3 ≤ l5 then (
    some ((), h)) else (
    un l4 fun b16 =>
    gd (okAb h b16 11 l5) <|
    vl (gI h b16 l5.toNatClampNeg) fun x18 =>
    vl (x18 / (4 : Int32)) fun x19 =>
    gd (okAb h b16 11 l5) <|
    vl (gI h b16 l5.toNatClampNeg) fun x21 =>
    if (x21 &&& (1 : Int32)) = 0 then (
    f_X1_init_J74 (f_X1_init_L44 n) l0 l1 l2 l3 b16 l5 x19 (1 : Int32) h) else (
    f_X1_init_J74 (f_X1_init_L44 n) l0 l1 l2 l3 b16 l5 x19 (0 : Int32) h))
set_option maxHeartbeats 4000000 in
set_option maxRecDepth 100000 in
theorem t_X1_init_L44 {X : Cx} {d : Nat} {h0 h' : Hp} {v : Unit} (hD : 3 ≤ d) : ∀ (n : Nat) (l0 : Nat) (l1 : Int32) (l2 : Int32) (l3 : Int32) (l4 : Option Nat) (l5 : Int32) (h : Hp), f_X1_init_L44 n l0 l1 l2 l3 l4 l5 h = some (v, h') → EV X mX1_init d h0 (none) h' 44 [some (.ref l0), some (.int l1), some (.int l2), some (.int l3), some (rv l4), some (.int l5), none, none, none] [] h := by
  intro n
  induction n with
  | zero => intro l0 l1 l2 l3 l4 l5 h H; simp [f_X1_init_L44] at H
  | succ n ih =>
    intro l0 l1 l2 l3 l4 l5 h H
    rw [f_X1_init_L44] at H
    refine ev_iload dX1_init_44 rfl ?_
    refine ev_iload_n dX1_init_46 rfl rfl ?_
    refine ev_icmp_ge (tgt := 148) dX1_init_47 (by decide) (fun c15 => ?_) (fun c15 => ?_)
    · rw [if_pos c15] at H
      exact ev_vretx dX1_init_148 rfl H
    · rw [if_neg c15] at H
      refine ev_aload dX1_init_50 rfl (isA_rv _) ?_
      refine ev_iload dX1_init_52 rfl ?_
      replace H := un_some H
      obtain ⟨b16, eb16, H⟩ := H
      subst eb16
      replace H := gd_some H
      obtain ⟨g17, H⟩ := H
      replace H := vl_some H
      obtain ⟨x18, ex18, H⟩ := H
      refine ev_ialdx dX1_init_54 (okAb.p g17) ex18 ?_
      refine ev_iconst (v := (4 : Int32)) dX1_init_55 (by decide) ?_
      refine ev_idiv dX1_init_56 (by decide) ?_
      replace H := vl_some H
      obtain ⟨x19, ex19, H⟩ := H
      refine ev_istorex (loc2 := [some (.ref l0), some (.int l1), some (.int l2), some (.int l3), some (.ref b16), some (.int l5), some (.int x19), none, none]) dX1_init_57 (by decide) ex19 rfl ?_
      refine ev_aload dX1_init_59 rfl rfl ?_
      refine ev_iload dX1_init_61 rfl ?_
      replace H := gd_some H
      obtain ⟨g20, H⟩ := H
      replace H := vl_some H
      obtain ⟨x21, ex21, H⟩ := H
      refine ev_ialdx dX1_init_63 (okAb.p g20) ex21 ?_
      refine ev_iconst (v := (1 : Int32)) dX1_init_64 (by decide) ?_
      refine ev_iand dX1_init_65 ?_
      refine ev_if_eq (tgt := 73) dX1_init_66 (by decide) (fun c22 => ?_) (fun c22 => ?_)
      · rw [if_pos c22] at H
        refine ev_iconst (v := (1 : Int32)) dX1_init_73 (by decide) ?_
        exact t_X1_init_J74 hD ih l0 l1 l2 l3 b16 l5 x19 (1 : Int32) h H
      · rw [if_neg c22] at H
        refine ev_iconst (v := (0 : Int32)) dX1_init_69 (by decide) ?_
        refine ev_goto (tgt := 74) dX1_init_70 (by decide) ?_
        exact t_X1_init_J74 hD ih l0 l1 l2 l3 b16 l5 x19 (0 : Int32) h H
def f_X1_init (h : Hp) (a0 : Nat) (a1 : Int32) (a2 : Int32) : Option (Unit × Hp) :=
gd (okOb h a0 1) <|
vl (sI h a0 0 a1) fun h2 =>
vl (sI h2 a0 1 a2) fun h3 =>
vl (a1 * a2) fun x4 =>
gd (okN ((2 : Int32) * x4)) <|
vl (gN h3) fun b6 =>
vl (nw h3 11 ((2 : Int32) * x4).toNatClampNeg ((2 : Int32) * x4).toNatClampNeg) fun h7 =>
vl (sR h7 a0 2 (some b6)) fun h8 =>
gd (okN x4) <|
vl (gN h8) fun b10 =>
vl (nw h8 11 x4.toNatClampNeg x4.toNatClampNeg) fun h11 =>
vl (sR h11 a0 3 (some b10)) fun h12 =>
bnd (f_X1_foldedPile h12 a1 a2) fun v13 h14 =>
f_X1_init_L44 6000 a0 a1 a2 x4 v13 (0 : Int32) h14
set_option maxHeartbeats 4000000 in
set_option maxRecDepth 100000 in
theorem t_X1_init {X : Cx} {d : Nat} {h : Hp} {a0 : Nat} {a1 : Int32} {a2 : Int32} {v : Unit} {h' : Hp} (hD : 3 ≤ d) (H : f_X1_init h a0 a1 a2 = some (v, h')) : PM X mX1_init d [.ref a0, .int a1, .int a2] h (none) h' := by
  unfold f_X1_init at H
  refine PM.of (loc := [some (.ref a0), some (.int a1), some (.int a2), none, none, none, none, none, none]) (by decide) rfl (Nat.le_of_ble_eq_true rfl) ?_
  refine ev_aload_n dX1_init_0 rfl rfl rfl ?_
  refine ev_obj dX1_init_1 ⟨_, rfl⟩ k1_179 k1_26 k1_27 (by omega) (Nat.le_of_ble_eq_true rfl) ?_
  refine ev_aload_n dX1_init_4 rfl rfl rfl ?_
  refine ev_iload_n dX1_init_5 rfl rfl ?_
  replace H := gd_some H
  obtain ⟨g1, H⟩ := H
  replace H := vl_some H
  obtain ⟨h2, eh2, H⟩ := H
  refine ev_putIF dX1_init_6 fdX1_9 rfl rfl rfl rfl (okOb.p g1) eh2 ?_
  refine ev_aload_n dX1_init_9 rfl rfl rfl ?_
  refine ev_iload_n dX1_init_10 rfl rfl ?_
  replace H := vl_some H
  obtain ⟨h3, eh3, H⟩ := H
  refine ev_putIF dX1_init_11 fdX1_15 rfl rfl rfl rfl (okO_sI eh2 (okOb.p g1)) eh3 ?_
  refine ev_iload_n dX1_init_14 rfl rfl ?_
  refine ev_iload_n dX1_init_15 rfl rfl ?_
  refine ev_imul dX1_init_16 ?_
  replace H := vl_some H
  obtain ⟨x4, ex4, H⟩ := H
  refine ev_istore_nx (loc2 := [some (.ref a0), some (.int a1), some (.int a2), some (.int x4), none, none, none, none, none]) dX1_init_17 rfl (by decide) ex4 rfl ?_
  refine ev_aload_n dX1_init_18 rfl rfl rfl ?_
  refine ev_iconst (v := (2 : Int32)) dX1_init_19 (by decide) ?_
  refine ev_iload_n dX1_init_20 rfl rfl ?_
  refine ev_imul dX1_init_21 ?_
  replace H := gd_some H
  obtain ⟨g5, H⟩ := H
  replace H := vl_some H
  obtain ⟨b6, eb6, H⟩ := H
  replace H := vl_some H
  obtain ⟨h7, eh7, H⟩ := H
  refine ev_newaIx dX1_init_22 k1_44 (okN.p g5) rfl eb6 eh7 ?_
  replace H := vl_some H
  obtain ⟨h8, eh8, H⟩ := H
  refine ev_putRF (x := (some b6)) dX1_init_24 fdX1_18 rfl (Or.inr ⟨_, rfl⟩) rfl (okO_nw eh7 (okO_sI eh3 (okO_sI eh2 (okOb.p g1)))) eh8 ?_
  refine ev_aload_n dX1_init_27 rfl rfl rfl ?_
  refine ev_iload_n dX1_init_28 rfl rfl ?_
  replace H := gd_some H
  obtain ⟨g9, H⟩ := H
  replace H := vl_some H
  obtain ⟨b10, eb10, H⟩ := H
  replace H := vl_some H
  obtain ⟨h11, eh11, H⟩ := H
  refine ev_newaIx dX1_init_29 k1_44 (okN.p g9) rfl eb10 eh11 ?_
  replace H := vl_some H
  obtain ⟨h12, eh12, H⟩ := H
  refine ev_putRF (x := (some b10)) dX1_init_31 fdX1_22 rfl (Or.inr ⟨_, rfl⟩) rfl (okO_nw eh11 (okO_sR eh8 (okO_nw eh7 (okO_sI eh3 (okO_sI eh2 (okOb.p g1)))))) eh12 ?_
  refine ev_iload_n dX1_init_34 rfl rfl ?_
  refine ev_iload_n dX1_init_35 rfl rfl ?_
  replace H := bnd_some H
  obtain ⟨v13, h14, eh14, H⟩ := H
  have ph14 := (t_X1_foldedPile (X := X) (d := 2) (by omega) eh14)
  refine ev_callS (as := [.int a1, .int a2]) dX1_init_36 ph14 ok_X1_foldedPile (by omega) rfl k1_180 k1_181 rfl (Nat.le_of_ble_eq_true rfl) ?_
  refine ev_astore (loc2 := [some (.ref a0), some (.int a1), some (.int a2), some (.int x4), some (rv v13), none, none, none, none]) dX1_init_39 (by decide) (isA_rv _) rfl ?_
  refine ev_iconst (v := (0 : Int32)) dX1_init_41 (by decide) ?_
  refine ev_istore (loc2 := [some (.ref a0), some (.int a1), some (.int a2), some (.int x4), some (rv v13), some (.int (0 : Int32)), none, none, none]) dX1_init_42 (by decide) (by cases v13 <;> rfl) ?_
  refine t_X1_init_L44 hD  6000 a0 a1 a2 x4 v13 (0 : Int32) h14 H

theorem dX1_faces_0 : decode cX1_faces 0 = .ok (.aload_n 0, 1) := by decide +kernel
theorem dX1_faces_1 : decode cX1_faces 1 = .ok (.getfield 18, 3) := by decide +kernel
theorem dX1_faces_4 : decode cX1_faces 4 = .ok (.arraylength, 1) := by decide +kernel
theorem dX1_faces_5 : decode cX1_faces 5 = .ok (.ireturn, 1) := by decide +kernel
def f_X1_faces (h : Hp) (a0 : Nat) : Option (Int32 × Hp) :=
gd (okOb h a0 1) <|
vl (gR h a0 2) fun r2 =>
un r2 fun b3 =>
gd (okOb h b3 11) <|
some (Int32.ofNat (gL h b3), h)
set_option maxHeartbeats 4000000 in
set_option maxRecDepth 100000 in
theorem t_X1_faces {X : Cx} {d : Nat} {h : Hp} {a0 : Nat} {v : Int32} {h' : Hp} (hD : 1 ≤ d) (H : f_X1_faces h a0 = some (v, h')) : PM X mX1_faces d [.ref a0] h (some (.int v)) h' := by
  unfold f_X1_faces at H
  refine PM.of (loc := [some (.ref a0)]) (by decide) rfl (Nat.le_of_ble_eq_true rfl) ?_
  refine ev_aload_n dX1_faces_0 rfl rfl rfl ?_
  replace H := gd_some H
  obtain ⟨g1, H⟩ := H
  replace H := vl_some H
  obtain ⟨r2, er2, H⟩ := H
  refine ev_getRx dX1_faces_1 fgX1_18 rfl (okOb.p g1) er2 ?_
  replace H := un_some H
  obtain ⟨b3, eb3, H⟩ := H
  subst eb3
  replace H := gd_some H
  obtain ⟨g4, H⟩ := H
  refine ev_alen (kd := 11) (t0 := 0) dX1_faces_4 (by decide) (fun _ => rfl) (okOb.p g4) ?_
  exact ev_iretx dX1_faces_5 rfl rfl H

theorem dX1_hasLeaf_0 : decode cX1_hasLeaf 0 = .ok (.iload_n 1, 1) := by decide +kernel
theorem dX1_hasLeaf_1 : decode cX1_hasLeaf 1 = .ok (.ifCond .lt 27, 3) := by decide +kernel
theorem dX1_hasLeaf_4 : decode cX1_hasLeaf 4 = .ok (.iload_n 1, 1) := by decide +kernel
theorem dX1_hasLeaf_5 : decode cX1_hasLeaf 5 = .ok (.aload_n 0, 1) := by decide +kernel
theorem dX1_hasLeaf_6 : decode cX1_hasLeaf 6 = .ok (.getfield 9, 3) := by decide +kernel
theorem dX1_hasLeaf_9 : decode cX1_hasLeaf 9 = .ok (.if_icmp .ge 19, 3) := by decide +kernel
theorem dX1_hasLeaf_12 : decode cX1_hasLeaf 12 = .ok (.iload_n 2, 1) := by decide +kernel
theorem dX1_hasLeaf_13 : decode cX1_hasLeaf 13 = .ok (.ifCond .lt 15, 3) := by decide +kernel
theorem dX1_hasLeaf_16 : decode cX1_hasLeaf 16 = .ok (.iload_n 2, 1) := by decide +kernel
theorem dX1_hasLeaf_17 : decode cX1_hasLeaf 17 = .ok (.aload_n 0, 1) := by decide +kernel
theorem dX1_hasLeaf_18 : decode cX1_hasLeaf 18 = .ok (.getfield 15, 3) := by decide +kernel
theorem dX1_hasLeaf_21 : decode cX1_hasLeaf 21 = .ok (.if_icmp .ge 7, 3) := by decide +kernel
theorem dX1_hasLeaf_24 : decode cX1_hasLeaf 24 = .ok (.iconst 1, 1) := by decide +kernel
theorem dX1_hasLeaf_25 : decode cX1_hasLeaf 25 = .ok (.goto 4, 3) := by decide +kernel
theorem dX1_hasLeaf_28 : decode cX1_hasLeaf 28 = .ok (.iconst 0, 1) := by decide +kernel
theorem dX1_hasLeaf_29 : decode cX1_hasLeaf 29 = .ok (.ireturn, 1) := by decide +kernel
def f_X1_hasLeaf (h : Hp) (a0 : Nat) (a1 : Int32) (a2 : Int32) : Option (Int32 × Hp) :=
if a1 < 0 then (
some ((0 : Int32), h)) else (
gd (okOb h a0 1) <|
vl (gI h a0 0) fun x3 =>
if x3 ≤ a1 then (
some ((0 : Int32), h)) else (
if a2 < 0 then (
some ((0 : Int32), h)) else (
vl (gI h a0 1) fun x6 =>
if x6 ≤ a2 then (
some ((0 : Int32), h)) else (
some ((1 : Int32), h)))))
set_option maxHeartbeats 4000000 in
set_option maxRecDepth 100000 in
theorem t_X1_hasLeaf {X : Cx} {d : Nat} {h : Hp} {a0 : Nat} {a1 : Int32} {a2 : Int32} {v : Int32} {h' : Hp} (hD : 1 ≤ d) (H : f_X1_hasLeaf h a0 a1 a2 = some (v, h')) : PM X mX1_hasLeaf d [.ref a0, .int a1, .int a2] h (some (.int v)) h' := by
  unfold f_X1_hasLeaf at H
  refine PM.of (loc := [some (.ref a0), some (.int a1), some (.int a2)]) (by decide) rfl (Nat.le_of_ble_eq_true rfl) ?_
  refine ev_iload_n dX1_hasLeaf_0 rfl rfl ?_
  refine ev_if_lt (tgt := 28) dX1_hasLeaf_1 (by decide) (fun c1 => ?_) (fun c1 => ?_)
  · rw [if_pos c1] at H
    refine ev_iconst (v := (0 : Int32)) dX1_hasLeaf_28 (by decide) ?_
    exact ev_iretx dX1_hasLeaf_29 rfl rfl H
  · rw [if_neg c1] at H
    refine ev_iload_n dX1_hasLeaf_4 rfl rfl ?_
    refine ev_aload_n dX1_hasLeaf_5 rfl rfl rfl ?_
    replace H := gd_some H
    obtain ⟨g2, H⟩ := H
    replace H := vl_some H
    obtain ⟨x3, ex3, H⟩ := H
    refine ev_getIx dX1_hasLeaf_6 fgX1_9 rfl (okOb.p g2) ex3 ?_
    refine ev_icmp_ge (tgt := 28) dX1_hasLeaf_9 (by decide) (fun c4 => ?_) (fun c4 => ?_)
    · rw [if_pos c4] at H
      refine ev_iconst (v := (0 : Int32)) dX1_hasLeaf_28 (by decide) ?_
      exact ev_iretx dX1_hasLeaf_29 rfl rfl H
    · rw [if_neg c4] at H
      refine ev_iload_n dX1_hasLeaf_12 rfl rfl ?_
      refine ev_if_lt (tgt := 28) dX1_hasLeaf_13 (by decide) (fun c5 => ?_) (fun c5 => ?_)
      · rw [if_pos c5] at H
        refine ev_iconst (v := (0 : Int32)) dX1_hasLeaf_28 (by decide) ?_
        exact ev_iretx dX1_hasLeaf_29 rfl rfl H
      · rw [if_neg c5] at H
        refine ev_iload_n dX1_hasLeaf_16 rfl rfl ?_
        refine ev_aload_n dX1_hasLeaf_17 rfl rfl rfl ?_
        replace H := vl_some H
        obtain ⟨x6, ex6, H⟩ := H
        refine ev_getIx dX1_hasLeaf_18 fgX1_15 rfl (okOb.p g2) ex6 ?_
        refine ev_icmp_ge (tgt := 28) dX1_hasLeaf_21 (by decide) (fun c7 => ?_) (fun c7 => ?_)
        · rw [if_pos c7] at H
          refine ev_iconst (v := (0 : Int32)) dX1_hasLeaf_28 (by decide) ?_
          exact ev_iretx dX1_hasLeaf_29 rfl rfl H
        · rw [if_neg c7] at H
          refine ev_iconst (v := (1 : Int32)) dX1_hasLeaf_24 (by decide) ?_
          refine ev_goto (tgt := 29) dX1_hasLeaf_25 (by decide) ?_
          exact ev_iretx dX1_hasLeaf_29 rfl rfl H

theorem dX1_leafAt_0 : decode cX1_leafAt 0 = .ok (.iload_n 2, 1) := by decide +kernel
theorem dX1_leafAt_1 : decode cX1_leafAt 1 = .ok (.aload_n 0, 1) := by decide +kernel
theorem dX1_leafAt_2 : decode cX1_leafAt 2 = .ok (.getfield 9, 3) := by decide +kernel
theorem dX1_leafAt_5 : decode cX1_leafAt 5 = .ok (.imul, 1) := by decide +kernel
theorem dX1_leafAt_6 : decode cX1_leafAt 6 = .ok (.iload_n 1, 1) := by decide +kernel
theorem dX1_leafAt_7 : decode cX1_leafAt 7 = .ok (.iadd, 1) := by decide +kernel
theorem dX1_leafAt_8 : decode cX1_leafAt 8 = .ok (.ireturn, 1) := by decide +kernel
def f_X1_leafAt (h : Hp) (a0 : Nat) (a1 : Int32) (a2 : Int32) : Option (Int32 × Hp) :=
gd (okOb h a0 1) <|
vl (gI h a0 0) fun x2 =>
some ((a2 * x2) + a1, h)
set_option maxHeartbeats 4000000 in
set_option maxRecDepth 100000 in
theorem t_X1_leafAt {X : Cx} {d : Nat} {h : Hp} {a0 : Nat} {a1 : Int32} {a2 : Int32} {v : Int32} {h' : Hp} (hD : 1 ≤ d) (H : f_X1_leafAt h a0 a1 a2 = some (v, h')) : PM X mX1_leafAt d [.ref a0, .int a1, .int a2] h (some (.int v)) h' := by
  unfold f_X1_leafAt at H
  refine PM.of (loc := [some (.ref a0), some (.int a1), some (.int a2)]) (by decide) rfl (Nat.le_of_ble_eq_true rfl) ?_
  refine ev_iload_n dX1_leafAt_0 rfl rfl ?_
  refine ev_aload_n dX1_leafAt_1 rfl rfl rfl ?_
  replace H := gd_some H
  obtain ⟨g1, H⟩ := H
  replace H := vl_some H
  obtain ⟨x2, ex2, H⟩ := H
  refine ev_getIx dX1_leafAt_2 fgX1_9 rfl (okOb.p g1) ex2 ?_
  refine ev_imul dX1_leafAt_5 ?_
  refine ev_iload_n dX1_leafAt_6 rfl rfl ?_
  refine ev_iadd dX1_leafAt_7 ?_
  exact ev_iretx dX1_leafAt_8 rfl rfl H
