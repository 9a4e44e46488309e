set_option maxRecDepth 100000 in
theorem leastHead_e {h : Hp} (hs : SH h) {Q : Nat → Nat → Nat} (hQ : ∀ a k, Q a k ≤ 6) {n U : Nat} (hn : n ≤ 7) (hU : U < 2 ^ n) (h0 : 1 ≤ U) (t : TB h Q n (2 ^ n)) : ∃ j0, j0 < n ∧ U.testBit j0 = true ∧ (oS Q n U).2.2 = j0 :: (oS Q n (rst U j0)).2.2 ∧ f_X0_leastHead h 13 (nI U) = some (nI j0, h) := by
  have hU7 : U < 128 := Nat.lt_of_lt_of_le hU (Nat.pow_le_pow_right (n := 2) (by decide) hn)
  have hc : crd n U ≠ 0 := fun w => by
    have e : Nat.beq U 0 = false := by
      cases e : Nat.beq U 0 with
      | false => rfl
      | true => have := Nat.eq_of_beq_eq_true e; omega
    have := crd_p n (by omega) U hU7 (by simp [hU, e])
    rw [w] at this; exact absurd this (by decide)
  have x1 : (nI U).toNatClampNeg = U := nI_clamp (by omega)
  have x2 : inB (nI U) 128 = true := inB_nI hU7 (by decide)
  have ho := oS_lt hQ (n := n) (U := U) hn hU7
  have e17 := (t.2.2 U hU).1
  rcases chn_sp hQ hn hU7 (n := n) n with ⟨i1, -⟩ | ⟨j0, i1, i2, i3, i4, i5, i6⟩
  · rw [← oS_chn hQ hn hU7 hc] at i1
    rw [i1] at ho
    exact absurd ho (by decide)
  · rw [← oS_chn hQ hn hU7 hc] at i3 i4 i5 i6
    refine ⟨j0, i1, i2, i4, ?_⟩
    unfold f_X0_leastHead
    refine forL j0 (fun m j (_ : Unit) => f_X0_leastHead_L2 m 13 (nI U) (nI j) h) (fun _ _ => True) (fun r => r = some (nI j0, h)) ?_ ?_ j0 6000 0 () (by omega) (by omega) trivial
    · intro m j _ hj _
      have x0 : ¬ nI n ≤ nI j := nI_ge (by omega) (by omega)
      rw [f_X0_leastHead_L2]
      cases cb : U.testBit j with
      | false =>
        have y1 : ((nI U >>> (nI j &&& 31)) &&& (1 : Int32)) = 0 := (bit_t _ hU7 j (by omega)).mpr cb
        refine Or.inr ⟨(), ?_, trivial⟩
        simp only [t.1, x0, y1, nI_1, hs, and_self, if_true, if_false, n_1_0, n_0_0, okOb_sI, okAb_sI, okOb_sW, okAb_sW, vl_e, un_e, nl_s, nl_n, bnd_e, gd_e, SH_sI, SH_sW, xI_sI, xR_sI, xL_sI, xK_sI, xN_sI, gI_sW, xR_sW, xL_sW, xK_sW, xN_sW, sO0, sO1, sO2, sA2, sL2, sO3, sA3, sL3, sO4, sA4, sL4, sO5, sA5, sL5, sO6, sA6, sL6, sO7, sA7, sL7, sO8, sA8, sL8, sO9, sO10, sA10, sL10, sO11, sA11, sL11, sO12, sA12, sL12, sO13, sO14, sA14, sL14, sO15, sA15, sL15, sO16, sA16, sL16, sO17, sA17, sL17, sO18, sA18, sL18, sO19, sA19, sL19, sO20, sO21, sA21, sL21, sO22, sA22, sL22, sO23, sA23, sL23, sO24, sA24, sL24, sO25, sO26, sA26, sL26, sO27, sA27, sL27, sO28, sA28, sL28, sO29, sA29, sL29, sO30, sA30, sL30, sO31, sA31, sL31, sO32, sA32, sL32, sO33, sO34, sA34, sL34, sO35, sA35, sL35, sO36, sA36, sL36, sO37, sO38, sA38, sL38, sO39, sA39, sL39, sO40, sA40, sL40, sO41, sO42, sA42, sL42, sO43, sA43, sL43, sO44, sA44, sL44, sO45, sO46, sA46, sL46, sO47, sA47, sL47, sO48, sA48, sL48, sO49, sA49, sL49, sO50, sA50, sL50, sO51, sA51, sL51, sO52, sA52, sL52, sO53, sA53, sL53, sO54, sA54, sL54, sO55, sA55, sL55, sO56, sA56, sL56, sO57, sA57, sL57, sO58, sA58, sL58, sO59, sA59, sL59, sO60, sA60, sL60, sO61, sA61, sL61, sO62, sA62, sL62, sO63, sA63, sL63, sO64, sA64, sL64, sO65, sA65, sL65, sO66, sA66, sL66, sO67, sA67, sL67, sO68, sA68, sL68, sO69, sA69, sL69, sO70, sA70, sL70, sO71, sA71, sL71, sO72, sA72, sL72, sO73, sA73, sL73, sO74, sA74, sL74, sO75, sA75, sL75, sO76, sA76, sL76, sO77, sA77, sL77, sO78, sA78, sL78, sO79, sA79, sL79, sO80, sA80, sL80, sO81, sA81, sL81, sO82, sA82, sL82, sO83, sA83, sL83, sO84, sA84, sL84, sO85, sA85, sL85, sO86, sA86, sL86, sO87, sA87, sL87, sR0_0, sR0_1, sR0_2, sR0_3, sR0_5, sR0_6, sR0_8, sR0_10, sR0_11, sR0_12, sR0_13, sR1_0, sR6_0, sR6_1, sR6_2, sR9_0, sR9_1, sR9_2, sR13_0, sR13_1, sR13_2, sR13_3, sR13_4, sR13_5, sR20_0, sR20_1, sR20_2, sR20_3, sR25_0, sR25_1, sR25_2, sR25_4, sR25_5, sR25_6, sR25_7, sR33_2, sR33_3, sR37_2, sR37_3, sR41_2, sR41_3, sR45_0, sR45_1, sR45_3, sR45_4, sR45_5, sR45_6, sR45_7, sR45_8, sR45_9, sR45_10, sR45_12, sR45_13, sR45_14, sR45_15, sR45_16, sR45_17, sR45_18, sR45_19, sR45_20, sR45_21, sR45_22, sR45_25, sR45_26, sR45_27, sR45_28, sR45_29, sR45_30, sR45_31, sR45_32, sR45_33, sR45_34, sR45_35, sR45_36, sR45_40, sR45_41, sR45_42, sR45_43, sR45_45, sR45_46, sR45_47, sR45_48, sR45_49]
      | true =>
        have y1 : ¬ ((nI U >>> (nI j &&& 31)) &&& (1 : Int32)) = 0 := fun w => by
          have := (bit_t _ hU7 j (by omega)).mp w
          rw [cb] at this; exact absurd this (by decide)
        have hr := rst_l U hU7 j (by omega) cb
        have WH := withHead_e hs hn hU7 (show j < n by omega) (b := 2 ^ n) (by omega) t
        have hy := yO_lt hQ (n := n) (U := U) (j := j) hn hU7
        have hne := i5 j hj cb
        have y2 : ¬ nI (yO Q n U j).1 = nI (oS Q n U).1 := fun w => absurd ((nI_eq (by omega) (by omega)).mp w) (by omega)
        refine Or.inr ⟨(), ?_, trivial⟩
        simp only [t.1, x0, y1, WH, x1, x2, e17, y2, nI_1, hs, and_self, if_true, if_false, n_1_0, n_0_0, okOb_sI, okAb_sI, okOb_sW, okAb_sW, vl_e, un_e, nl_s, nl_n, bnd_e, gd_e, SH_sI, SH_sW, xI_sI, xR_sI, xL_sI, xK_sI, xN_sI, gI_sW, xR_sW, xL_sW, xK_sW, xN_sW, sO0, sO1, sO2, sA2, sL2, sO3, sA3, sL3, sO4, sA4, sL4, sO5, sA5, sL5, sO6, sA6, sL6, sO7, sA7, sL7, sO8, sA8, sL8, sO9, sO10, sA10, sL10, sO11, sA11, sL11, sO12, sA12, sL12, sO13, sO14, sA14, sL14, sO15, sA15, sL15, sO16, sA16, sL16, sO17, sA17, sL17, sO18, sA18, sL18, sO19, sA19, sL19, sO20, sO21, sA21, sL21, sO22, sA22, sL22, sO23, sA23, sL23, sO24, sA24, sL24, sO25, sO26, sA26, sL26, sO27, sA27, sL27, sO28, sA28, sL28, sO29, sA29, sL29, sO30, sA30, sL30, sO31, sA31, sL31, sO32, sA32, sL32, sO33, sO34, sA34, sL34, sO35, sA35, sL35, sO36, sA36, sL36, sO37, sO38, sA38, sL38, sO39, sA39, sL39, sO40, sA40, sL40, sO41, sO42, sA42, sL42, sO43, sA43, sL43, sO44, sA44, sL44, sO45, sO46, sA46, sL46, sO47, sA47, sL47, sO48, sA48, sL48, sO49, sA49, sL49, sO50, sA50, sL50, sO51, sA51, sL51, sO52, sA52, sL52, sO53, sA53, sL53, sO54, sA54, sL54, sO55, sA55, sL55, sO56, sA56, sL56, sO57, sA57, sL57, sO58, sA58, sL58, sO59, sA59, sL59, sO60, sA60, sL60, sO61, sA61, sL61, sO62, sA62, sL62, sO63, sA63, sL63, sO64, sA64, sL64, sO65, sA65, sL65, sO66, sA66, sL66, sO67, sA67, sL67, sO68, sA68, sL68, sO69, sA69, sL69, sO70, sA70, sL70, sO71, sA71, sL71, sO72, sA72, sL72, sO73, sA73, sL73, sO74, sA74, sL74, sO75, sA75, sL75, sO76, sA76, sL76, sO77, sA77, sL77, sO78, sA78, sL78, sO79, sA79, sL79, sO80, sA80, sL80, sO81, sA81, sL81, sO82, sA82, sL82, sO83, sA83, sL83, sO84, sA84, sL84, sO85, sA85, sL85, sO86, sA86, sL86, sO87, sA87, sL87, sR0_0, sR0_1, sR0_2, sR0_3, sR0_5, sR0_6, sR0_8, sR0_10, sR0_11, sR0_12, sR0_13, sR1_0, sR6_0, sR6_1, sR6_2, sR9_0, sR9_1, sR9_2, sR13_0, sR13_1, sR13_2, sR13_3, sR13_4, sR13_5, sR20_0, sR20_1, sR20_2, sR20_3, sR25_0, sR25_1, sR25_2, sR25_4, sR25_5, sR25_6, sR25_7, sR33_2, sR33_3, sR37_2, sR37_3, sR41_2, sR41_3, sR45_0, sR45_1, sR45_3, sR45_4, sR45_5, sR45_6, sR45_7, sR45_8, sR45_9, sR45_10, sR45_12, sR45_13, sR45_14, sR45_15, sR45_16, sR45_17, sR45_18, sR45_19, sR45_20, sR45_21, sR45_22, sR45_25, sR45_26, sR45_27, sR45_28, sR45_29, sR45_30, sR45_31, sR45_32, sR45_33, sR45_34, sR45_35, sR45_36, sR45_40, sR45_41, sR45_42, sR45_43, sR45_45, sR45_46, sR45_47, sR45_48, sR45_49]
    · intro m _ _
      have x0 : ¬ nI n ≤ nI j0 := nI_ge (by omega) (by omega)
      have y1 : ¬ ((nI U >>> (nI j0 &&& 31)) &&& (1 : Int32)) = 0 := fun w => by
        have := (bit_t _ hU7 j0 (by omega)).mp w
        rw [i2] at this; exact absurd this (by decide)
      have hr := rst_l U hU7 j0 (by omega) i2
      have WH := withHead_e hs hn hU7 i1 (b := 2 ^ n) (by omega) t
      rw [f_X0_leastHead_L2]
      simp only [t.1, x0, y1, WH, x1, x2, e17, i3, hs, and_self, if_true, if_false, n_1_0, n_0_0, okOb_sI, okAb_sI, okOb_sW, okAb_sW, vl_e, un_e, nl_s, nl_n, bnd_e, gd_e, SH_sI, SH_sW, xI_sI, xR_sI, xL_sI, xK_sI, xN_sI, gI_sW, xR_sW, xL_sW, xK_sW, xN_sW, sO0, sO1, sO2, sA2, sL2, sO3, sA3, sL3, sO4, sA4, sL4, sO5, sA5, sL5, sO6, sA6, sL6, sO7, sA7, sL7, sO8, sA8, sL8, sO9, sO10, sA10, sL10, sO11, sA11, sL11, sO12, sA12, sL12, sO13, sO14, sA14, sL14, sO15, sA15, sL15, sO16, sA16, sL16, sO17, sA17, sL17, sO18, sA18, sL18, sO19, sA19, sL19, sO20, sO21, sA21, sL21, sO22, sA22, sL22, sO23, sA23, sL23, sO24, sA24, sL24, sO25, sO26, sA26, sL26, sO27, sA27, sL27, sO28, sA28, sL28, sO29, sA29, sL29, sO30, sA30, sL30, sO31, sA31, sL31, sO32, sA32, sL32, sO33, sO34, sA34, sL34, sO35, sA35, sL35, sO36, sA36, sL36, sO37, sO38, sA38, sL38, sO39, sA39, sL39, sO40, sA40, sL40, sO41, sO42, sA42, sL42, sO43, sA43, sL43, sO44, sA44, sL44, sO45, sO46, sA46, sL46, sO47, sA47, sL47, sO48, sA48, sL48, sO49, sA49, sL49, sO50, sA50, sL50, sO51, sA51, sL51, sO52, sA52, sL52, sO53, sA53, sL53, sO54, sA54, sL54, sO55, sA55, sL55, sO56, sA56, sL56, sO57, sA57, sL57, sO58, sA58, sL58, sO59, sA59, sL59, sO60, sA60, sL60, sO61, sA61, sL61, sO62, sA62, sL62, sO63, sA63, sL63, sO64, sA64, sL64, sO65, sA65, sL65, sO66, sA66, sL66, sO67, sA67, sL67, sO68, sA68, sL68, sO69, sA69, sL69, sO70, sA70, sL70, sO71, sA71, sL71, sO72, sA72, sL72, sO73, sA73, sL73, sO74, sA74, sL74, sO75, sA75, sL75, sO76, sA76, sL76, sO77, sA77, sL77, sO78, sA78, sL78, sO79, sA79, sL79, sO80, sA80, sL80, sO81, sA81, sL81, sO82, sA82, sL82, sO83, sA83, sL83, sO84, sA84, sL84, sO85, sA85, sL85, sO86, sA86, sL86, sO87, sA87, sL87, sR0_0, sR0_1, sR0_2, sR0_3, sR0_5, sR0_6, sR0_8, sR0_10, sR0_11, sR0_12, sR0_13, sR1_0, sR6_0, sR6_1, sR6_2, sR9_0, sR9_1, sR9_2, sR13_0, sR13_1, sR13_2, sR13_3, sR13_4, sR13_5, sR20_0, sR20_1, sR20_2, sR20_3, sR25_0, sR25_1, sR25_2, sR25_4, sR25_5, sR25_6, sR25_7, sR33_2, sR33_3, sR37_2, sR37_3, sR41_2, sR41_3, sR45_0, sR45_1, sR45_3, sR45_4, sR45_5, sR45_6, sR45_7, sR45_8, sR45_9, sR45_10, sR45_12, sR45_13, sR45_14, sR45_15, sR45_16, sR45_17, sR45_18, sR45_19, sR45_20, sR45_21, sR45_22, sR45_25, sR45_26, sR45_27, sR45_28, sR45_29, sR45_30, sR45_31, sR45_32, sR45_33, sR45_34, sR45_35, sR45_36, sR45_40, sR45_41, sR45_42, sR45_43, sR45_45, sR45_46, sR45_47, sR45_48, sR45_49]
theorem TB.fr {h h2 : Hp} {Q : Nat → Nat → Nat} {n b : Nat} {P : Nat → Nat → Prop} (u : Upd h h2 P) (hQ : ¬ P 13 6) (hP : ∀ a k, (a = 16 ∨ a = 17 ∨ a = 18) → ¬ P a k) (t : TB h Q n b) : TB h2 Q n b := by
  obtain ⟨t1, t2, t3⟩ := t
  refine ⟨by rw [u.2 _ _ hQ]; exact t1, fun a k h1 h2 => by rw [u.2 _ _ (hP _ _ (by omega))]; exact t2 a k h1 h2, fun S hS => ?_⟩
  rw [u.2 17 _ (hP _ _ (by omega)), u.2 18 _ (hP _ _ (by omega))]; exact t3 S hS
set_option maxRecDepth 100000 in
theorem takeLeast_e {h : Hp} (hs : SH h) {Q : Nat → Nat → Nat} (hQ : ∀ a k, Q a k ≤ 6) {n : Nat} (hn : n ≤ 7) (F : Nat → Nat) (e15 : ∀ k, k < n → gI h 15 k = nI (F k)) (t : TB h Q n (2 ^ n)) (x : Int32) : ∀ (m q fuel : Nat) (U : Nat) (hh : Hp) (l : List Nat), q + m = n → m < fuel → U < 2 ^ n → crd n U = m → Upd h hh (fun a _ => a = 19) → l.length = q → (∀ k, k < q → gI hh 19 k = nI (F (l.getD k 0))) → ∃ h2, f_X0_takeLeast_L4 fuel 13 x (nI U) (nI q) hh = some ((), h2) ∧ Upd h h2 (fun a _ => a = 19) ∧ ∀ k, k < n → gI h2 19 k = nI (F ((l ++ (oS Q n U).2.2).getD k 0)) := by
  intro m
  induction m with
  | zero =>
    intro q fuel U hh l hq hf hU hc u hl e
    match fuel, hf with
    | fuel + 1, _ =>
      have eq : q = n := by omega
      have x0 : nI n ≤ nI q := by rw [eq]; exact nI_le (Nat.le_refl _) (by omega)
      have hsh := u.sh hs
      have tt := t.fr u (by omega) (fun a k w => by omega)
      refine ⟨hh, ?_, u, fun k hk => ?_⟩
      · rw [f_X0_takeLeast_L4]
        simp only [tt.1, x0, hsh, and_self, if_true, if_false, n_1_0, n_0_0, okOb_sI, okAb_sI, okOb_sW, okAb_sW, vl_e, un_e, nl_s, nl_n, bnd_e, gd_e, SH_sI, SH_sW, xI_sI, xR_sI, xL_sI, xK_sI, xN_sI, gI_sW, xR_sW, xL_sW, xK_sW, xN_sW, sO0, sO1, sO2, sA2, sL2, sO3, sA3, sL3, sO4, sA4, sL4, sO5, sA5, sL5, sO6, sA6, sL6, sO7, sA7, sL7, sO8, sA8, sL8, sO9, sO10, sA10, sL10, sO11, sA11, sL11, sO12, sA12, sL12, sO13, sO14, sA14, sL14, sO15, sA15, sL15, sO16, sA16, sL16, sO17, sA17, sL17, sO18, sA18, sL18, sO19, sA19, sL19, sO20, sO21, sA21, sL21, sO22, sA22, sL22, sO23, sA23, sL23, sO24, sA24, sL24, sO25, sO26, sA26, sL26, sO27, sA27, sL27, sO28, sA28, sL28, sO29, sA29, sL29, sO30, sA30, sL30, sO31, sA31, sL31, sO32, sA32, sL32, sO33, sO34, sA34, sL34, sO35, sA35, sL35, sO36, sA36, sL36, sO37, sO38, sA38, sL38, sO39, sA39, sL39, sO40, sA40, sL40, sO41, sO42, sA42, sL42, sO43, sA43, sL43, sO44, sA44, sL44, sO45, sO46, sA46, sL46, sO47, sA47, sL47, sO48, sA48, sL48, sO49, sA49, sL49, sO50, sA50, sL50, sO51, sA51, sL51, sO52, sA52, sL52, sO53, sA53, sL53, sO54, sA54, sL54, sO55, sA55, sL55, sO56, sA56, sL56, sO57, sA57, sL57, sO58, sA58, sL58, sO59, sA59, sL59, sO60, sA60, sL60, sO61, sA61, sL61, sO62, sA62, sL62, sO63, sA63, sL63, sO64, sA64, sL64, sO65, sA65, sL65, sO66, sA66, sL66, sO67, sA67, sL67, sO68, sA68, sL68, sO69, sA69, sL69, sO70, sA70, sL70, sO71, sA71, sL71, sO72, sA72, sL72, sO73, sA73, sL73, sO74, sA74, sL74, sO75, sA75, sL75, sO76, sA76, sL76, sO77, sA77, sL77, sO78, sA78, sL78, sO79, sA79, sL79, sO80, sA80, sL80, sO81, sA81, sL81, sO82, sA82, sL82, sO83, sA83, sL83, sO84, sA84, sL84, sO85, sA85, sL85, sO86, sA86, sL86, sO87, sA87, sL87, sR0_0, sR0_1, sR0_2, sR0_3, sR0_5, sR0_6, sR0_8, sR0_10, sR0_11, sR0_12, sR0_13, sR1_0, sR6_0, sR6_1, sR6_2, sR9_0, sR9_1, sR9_2, sR13_0, sR13_1, sR13_2, sR13_3, sR13_4, sR13_5, sR20_0, sR20_1, sR20_2, sR20_3, sR25_0, sR25_1, sR25_2, sR25_4, sR25_5, sR25_6, sR25_7, sR33_2, sR33_3, sR37_2, sR37_3, sR41_2, sR41_3, sR45_0, sR45_1, sR45_3, sR45_4, sR45_5, sR45_6, sR45_7, sR45_8, sR45_9, sR45_10, sR45_12, sR45_13, sR45_14, sR45_15, sR45_16, sR45_17, sR45_18, sR45_19, sR45_20, sR45_21, sR45_22, sR45_25, sR45_26, sR45_27, sR45_28, sR45_29, sR45_30, sR45_31, sR45_32, sR45_33, sR45_34, sR45_35, sR45_36, sR45_40, sR45_41, sR45_42, sR45_43, sR45_45, sR45_46, sR45_47, sR45_48, sR45_49]
      · rw [e k (by omega)]
        rw [List.getD_eq_getElem?_getD, List.getD_eq_getElem?_getD, List.getElem?_append_left (by omega)]
  | succ m ih =>
    intro q fuel U hh l hq hf hU hc u hl e
    match fuel, hf with
    | fuel + 1, hf =>
      have hU7 : U < 128 := Nat.lt_of_lt_of_le hU (Nat.pow_le_pow_right (n := 2) (by decide) hn)
      have hU0 : 1 ≤ U := by
        rcases Nat.eq_zero_or_pos U with w | w
        · subst w
          have : crd n 0 = 0 := by unfold crd SS; simp
          omega
        · exact w
      have x0 : ¬ nI n ≤ nI q := nI_ge (by omega) (by omega)
      have hsh := u.sh hs
      have tt := t.fr u (by omega) (fun a k w => by omega)
      obtain ⟨j, j1, j2, j3, j4⟩ := leastHead_e hsh hQ hn hU hU0 tt
      have hr := rst_l U hU7 j (by omega) j2
      have c1 := Nat.eq_of_beq_eq_true (crd_s n (by omega) U hU7 j (by omega) (by simp [j1, j2]))
      have z1 : (nI j).toNatClampNeg = j := nI_clamp (by omega)
      have z2 : inB (nI j) 7 = true := inB_nI (by omega) (by decide)
      have z3 : (nI q).toNatClampNeg = q := nI_clamp (by omega)
      have z4 : inB (nI q) 7 = true := inB_nI (by omega) (by decide)
      have f15 : gI hh 15 j = nI (F j) := by rw [u.2 _ _ (by omega)]; exact e15 j j1
      have hl2 : (l ++ [j]).length = q + 1 := by simp [hl]
      obtain ⟨h2, q1, q2, q3⟩ := ih (q + 1) fuel (rst U j) (sI hh 19 q (nI (F j))) (l ++ [j]) (by omega) (by omega) (by omega) (by omega) (u.tr (Upd_sI rfl)) hl2 (fun k hk => by
        rw [xI_sI]
        by_cases ck : k = q
        · rw [if_pos ⟨rfl, ck⟩, ck, ← hl, getD_last]
        · rw [if_neg (fun w => ck w.2), getD_lt (by omega)]; exact e k (by omega))
      refine ⟨h2, ?_, q2, fun k hk => ?_⟩
      · rw [f_X0_takeLeast_L4]
        simp only [tt.1, x0, j4, z1, z2, z3, z4, f15, rst_i U hU7 j (by omega), nI_1, q1, hsh, and_self, if_true, if_false, n_1_0, n_0_0, okOb_sI, okAb_sI, okOb_sW, okAb_sW, vl_e, un_e, nl_s, nl_n, bnd_e, gd_e, SH_sI, SH_sW, xI_sI, xR_sI, xL_sI, xK_sI, xN_sI, gI_sW, xR_sW, xL_sW, xK_sW, xN_sW, sO0, sO1, sO2, sA2, sL2, sO3, sA3, sL3, sO4, sA4, sL4, sO5, sA5, sL5, sO6, sA6, sL6, sO7, sA7, sL7, sO8, sA8, sL8, sO9, sO10, sA10, sL10, sO11, sA11, sL11, sO12, sA12, sL12, sO13, sO14, sA14, sL14, sO15, sA15, sL15, sO16, sA16, sL16, sO17, sA17, sL17, sO18, sA18, sL18, sO19, sA19, sL19, sO20, sO21, sA21, sL21, sO22, sA22, sL22, sO23, sA23, sL23, sO24, sA24, sL24, sO25, sO26, sA26, sL26, sO27, sA27, sL27, sO28, sA28, sL28, sO29, sA29, sL29, sO30, sA30, sL30, sO31, sA31, sL31, sO32, sA32, sL32, sO33, sO34, sA34, sL34, sO35, sA35, sL35, sO36, sA36, sL36, sO37, sO38, sA38, sL38, sO39, sA39, sL39, sO40, sA40, sL40, sO41, sO42, sA42, sL42, sO43, sA43, sL43, sO44, sA44, sL44, sO45, sO46, sA46, sL46, sO47, sA47, sL47, sO48, sA48, sL48, sO49, sA49, sL49, sO50, sA50, sL50, sO51, sA51, sL51, sO52, sA52, sL52, sO53, sA53, sL53, sO54, sA54, sL54, sO55, sA55, sL55, sO56, sA56, sL56, sO57, sA57, sL57, sO58, sA58, sL58, sO59, sA59, sL59, sO60, sA60, sL60, sO61, sA61, sL61, sO62, sA62, sL62, sO63, sA63, sL63, sO64, sA64, sL64, sO65, sA65, sL65, sO66, sA66, sL66, sO67, sA67, sL67, sO68, sA68, sL68, sO69, sA69, sL69, sO70, sA70, sL70, sO71, sA71, sL71, sO72, sA72, sL72, sO73, sA73, sL73, sO74, sA74, sL74, sO75, sA75, sL75, sO76, sA76, sL76, sO77, sA77, sL77, sO78, sA78, sL78, sO79, sA79, sL79, sO80, sA80, sL80, sO81, sA81, sL81, sO82, sA82, sL82, sO83, sA83, sL83, sO84, sA84, sL84, sO85, sA85, sL85, sO86, sA86, sL86, sO87, sA87, sL87, sR0_0, sR0_1, sR0_2, sR0_3, sR0_5, sR0_6, sR0_8, sR0_10, sR0_11, sR0_12, sR0_13, sR1_0, sR6_0, sR6_1, sR6_2, sR9_0, sR9_1, sR9_2, sR13_0, sR13_1, sR13_2, sR13_3, sR13_4, sR13_5, sR20_0, sR20_1, sR20_2, sR20_3, sR25_0, sR25_1, sR25_2, sR25_4, sR25_5, sR25_6, sR25_7, sR33_2, sR33_3, sR37_2, sR37_3, sR41_2, sR41_3, sR45_0, sR45_1, sR45_3, sR45_4, sR45_5, sR45_6, sR45_7, sR45_8, sR45_9, sR45_10, sR45_12, sR45_13, sR45_14, sR45_15, sR45_16, sR45_17, sR45_18, sR45_19, sR45_20, sR45_21, sR45_22, sR45_25, sR45_26, sR45_27, sR45_28, sR45_29, sR45_30, sR45_31, sR45_32, sR45_33, sR45_34, sR45_35, sR45_36, sR45_40, sR45_41, sR45_42, sR45_43, sR45_45, sR45_46, sR45_47, sR45_48, sR45_49]
      · rw [q3 k hk, j3]
        simp
