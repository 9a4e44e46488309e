theorem o_m12 (n : Nat) : nI n * (12 : Int32) = nI (n * 12) := by rw [show (12 : Int32) = nI 12 from rfl, pk_mul]
theorem o_12m (n : Nat) : (12 : Int32) * nI n = nI (12 * n) := by rw [show (12 : Int32) = nI 12 from rfl, pk_mul]
theorem o_p12 (n : Nat) : nI (n * 12) + (12 : Int32) = nI ((n + 1) * 12) := by rw [show (12 : Int32) = nI 12 from rfl, nI_add, Nat.succ_mul]
def qF (h : Hp) (x y l : Nat) : Bool := (!decide (gI h 14 (l * 12 + y) = -1)) && !decide (gI h 14 (l * 12 + x) ≤ gI h 14 (l * 12 + y))
def qN (h : Hp) (x y : Nat) : Nat := cnt (qF h x y) 6
theorem qN_le (h : Hp) (x y : Nat) : qN h x y ≤ 6 := cnt_le _ 6
theorem qN_fr {h h2 : Hp} {P : Nat → Nat → Prop} (u : Upd h h2 P) (hP : ∀ k, ¬ P 14 k) : qN h2 = qN h := by
  funext x y
  unfold qN
  exact cnt_congr (fun k _ => by unfold qF; rw [u.2 _ _ (hP _), u.2 _ _ (hP _)])
set_option maxRecDepth 100000 in
theorem quarrelsOf_e {h : Hp} (hs : SH h) {x y : Nat} (hx : x < 12) (hy : y < 12) : f_X0_quarrelsOf h 13 (nI x) (nI y) = some (nI (qN h x y), h) := by
  unfold f_X0_quarrelsOf
  refine forU 6 (fun m k => f_X0_quarrelsOf_L5 m 13 (nI x) (nI y) (nI (cnt (qF h x y) k)) (nI k) h) _ ?_ ?_ 6 6000 0 (by omega) (by omega)
  · intro m k hk
    have x0 : ¬ (6 : Int32) ≤ nI k := nI_ge (b := 6) hk (by decide)
    have z1 : (nI (k * 12 + y)).toNatClampNeg = k * 12 + y := nI_clamp (by omega)
    have z2 : inB (nI (k * 12 + y)) 72 = true := inB_nI (by omega) (by decide)
    have z3 : (nI (k * 12 + x)).toNatClampNeg = k * 12 + x := nI_clamp (by omega)
    have z4 : inB (nI (k * 12 + x)) 72 = true := inB_nI (by omega) (by decide)
    have e : cnt (qF h x y) (k + 1) = cnt (qF h x y) k + (if qF h x y k = true then 1 else 0) := rfl
    rw [f_X0_quarrelsOf_L5, e]
    by_cases c1 : gI h 14 (k * 12 + y) = -1
    · have q : qF h x y k = false := by unfold qF; simp [c1]
      simp only [x0, o_m12, nI_add, z1, z2, c1, nI_1, q, Bool.false_eq_true, Nat.add_zero, hs, and_self, if_true, if_false, n_1_0, n_0_0, okOb_sI, okAb_sI, okOb_sW, okAb_sW, vl_e, un_e, nl_s, nl_n, bnd_e, gd_e, SH_sI, SH_sW, xI_sI, xR_sI, xL_sI, xK_sI, xN_sI, gI_sW, xR_sW, xL_sW, xK_sW, xN_sW, sO0, sO1, sO2, sA2, sL2, sO3, sA3, sL3, sO4, sA4, sL4, sO5, sA5, sL5, sO6, sA6, sL6, sO7, sA7, sL7, sO8, sA8, sL8, sO9, sO10, sA10, sL10, sO11, sA11, sL11, sO12, sA12, sL12, sO13, sO14, sA14, sL14, sO15, sA15, sL15, sO16, sA16, sL16, sO17, sA17, sL17, sO18, sA18, sL18, sO19, sA19, sL19, sO20, sO21, sA21, sL21, sO22, sA22, sL22, sO23, sA23, sL23, sO24, sA24, sL24, sO25, sO26, sA26, sL26, sO27, sA27, sL27, sO28, sA28, sL28, sO29, sA29, sL29, sO30, sA30, sL30, sO31, sA31, sL31, sO32, sA32, sL32, sO33, sO34, sA34, sL34, sO35, sA35, sL35, sO36, sA36, sL36, sO37, sO38, sA38, sL38, sO39, sA39, sL39, sO40, sA40, sL40, sO41, sO42, sA42, sL42, sO43, sA43, sL43, sO44, sA44, sL44, sO45, sO46, sA46, sL46, sO47, sA47, sL47, sO48, sA48, sL48, sO49, sA49, sL49, sO50, sA50, sL50, sO51, sA51, sL51, sO52, sA52, sL52, sO53, sA53, sL53, sO54, sA54, sL54, sO55, sA55, sL55, sO56, sA56, sL56, sO57, sA57, sL57, sO58, sA58, sL58, sO59, sA59, sL59, sO60, sA60, sL60, sO61, sA61, sL61, sO62, sA62, sL62, sO63, sA63, sL63, sO64, sA64, sL64, sO65, sA65, sL65, sO66, sA66, sL66, sO67, sA67, sL67, sO68, sA68, sL68, sO69, sA69, sL69, sO70, sA70, sL70, sO71, sA71, sL71, sO72, sA72, sL72, sO73, sA73, sL73, sO74, sA74, sL74, sO75, sA75, sL75, sO76, sA76, sL76, sO77, sA77, sL77, sO78, sA78, sL78, sO79, sA79, sL79, sO80, sA80, sL80, sO81, sA81, sL81, sO82, sA82, sL82, sO83, sA83, sL83, sO84, sA84, sL84, sO85, sA85, sL85, sO86, sA86, sL86, sO87, sA87, sL87, sR0_0, sR0_1, sR0_2, sR0_3, sR0_5, sR0_6, sR0_8, sR0_10, sR0_11, sR0_12, sR0_13, sR1_0, sR6_0, sR6_1, sR6_2, sR9_0, sR9_1, sR9_2, sR13_0, sR13_1, sR13_2, sR13_3, sR13_4, sR13_5, sR20_0, sR20_1, sR20_2, sR20_3, sR25_0, sR25_1, sR25_2, sR25_4, sR25_5, sR25_6, sR25_7, sR33_2, sR33_3, sR37_2, sR37_3, sR41_2, sR41_3, sR45_0, sR45_1, sR45_3, sR45_4, sR45_5, sR45_6, sR45_7, sR45_8, sR45_9, sR45_10, sR45_12, sR45_13, sR45_14, sR45_15, sR45_16, sR45_17, sR45_18, sR45_19, sR45_20, sR45_21, sR45_22, sR45_25, sR45_26, sR45_27, sR45_28, sR45_29, sR45_30, sR45_31, sR45_32, sR45_33, sR45_34, sR45_35, sR45_36, sR45_40, sR45_41, sR45_42, sR45_43, sR45_45, sR45_46, sR45_47, sR45_48, sR45_49]
    · by_cases c2 : gI h 14 (k * 12 + x) ≤ gI h 14 (k * 12 + y)
      · have q : qF h x y k = false := by unfold qF; simp [c2]
        simp only [x0, o_m12, nI_add, z1, z2, z3, z4, c1, c2, nI_1, q, Bool.false_eq_true, Nat.add_zero, hs, and_self, if_true, if_false, n_1_0, n_0_0, okOb_sI, okAb_sI, okOb_sW, okAb_sW, vl_e, un_e, nl_s, nl_n, bnd_e, gd_e, SH_sI, SH_sW, xI_sI, xR_sI, xL_sI, xK_sI, xN_sI, gI_sW, xR_sW, xL_sW, xK_sW, xN_sW, sO0, sO1, sO2, sA2, sL2, sO3, sA3, sL3, sO4, sA4, sL4, sO5, sA5, sL5, sO6, sA6, sL6, sO7, sA7, sL7, sO8, sA8, sL8, sO9, sO10, sA10, sL10, sO11, sA11, sL11, sO12, sA12, sL12, sO13, sO14, sA14, sL14, sO15, sA15, sL15, sO16, sA16, sL16, sO17, sA17, sL17, sO18, sA18, sL18, sO19, sA19, sL19, sO20, sO21, sA21, sL21, sO22, sA22, sL22, sO23, sA23, sL23, sO24, sA24, sL24, sO25, sO26, sA26, sL26, sO27, sA27, sL27, sO28, sA28, sL28, sO29, sA29, sL29, sO30, sA30, sL30, sO31, sA31, sL31, sO32, sA32, sL32, sO33, sO34, sA34, sL34, sO35, sA35, sL35, sO36, sA36, sL36, sO37, sO38, sA38, sL38, sO39, sA39, sL39, sO40, sA40, sL40, sO41, sO42, sA42, sL42, sO43, sA43, sL43, sO44, sA44, sL44, sO45, sO46, sA46, sL46, sO47, sA47, sL47, sO48, sA48, sL48, sO49, sA49, sL49, sO50, sA50, sL50, sO51, sA51, sL51, sO52, sA52, sL52, sO53, sA53, sL53, sO54, sA54, sL54, sO55, sA55, sL55, sO56, sA56, sL56, sO57, sA57, sL57, sO58, sA58, sL58, sO59, sA59, sL59, sO60, sA60, sL60, sO61, sA61, sL61, sO62, sA62, sL62, sO63, sA63, sL63, sO64, sA64, sL64, sO65, sA65, sL65, sO66, sA66, sL66, sO67, sA67, sL67, sO68, sA68, sL68, sO69, sA69, sL69, sO70, sA70, sL70, sO71, sA71, sL71, sO72, sA72, sL72, sO73, sA73, sL73, sO74, sA74, sL74, sO75, sA75, sL75, sO76, sA76, sL76, sO77, sA77, sL77, sO78, sA78, sL78, sO79, sA79, sL79, sO80, sA80, sL80, sO81, sA81, sL81, sO82, sA82, sL82, sO83, sA83, sL83, sO84, sA84, sL84, sO85, sA85, sL85, sO86, sA86, sL86, sO87, sA87, sL87, sR0_0, sR0_1, sR0_2, sR0_3, sR0_5, sR0_6, sR0_8, sR0_10, sR0_11, sR0_12, sR0_13, sR1_0, sR6_0, sR6_1, sR6_2, sR9_0, sR9_1, sR9_2, sR13_0, sR13_1, sR13_2, sR13_3, sR13_4, sR13_5, sR20_0, sR20_1, sR20_2, sR20_3, sR25_0, sR25_1, sR25_2, sR25_4, sR25_5, sR25_6, sR25_7, sR33_2, sR33_3, sR37_2, sR37_3, sR41_2, sR41_3, sR45_0, sR45_1, sR45_3, sR45_4, sR45_5, sR45_6, sR45_7, sR45_8, sR45_9, sR45_10, sR45_12, sR45_13, sR45_14, sR45_15, sR45_16, sR45_17, sR45_18, sR45_19, sR45_20, sR45_21, sR45_22, sR45_25, sR45_26, sR45_27, sR45_28, sR45_29, sR45_30, sR45_31, sR45_32, sR45_33, sR45_34, sR45_35, sR45_36, sR45_40, sR45_41, sR45_42, sR45_43, sR45_45, sR45_46, sR45_47, sR45_48, sR45_49]
      · have q : qF h x y k = true := by unfold qF; simp [c1, c2]
        simp only [x0, o_m12, nI_add, z1, z2, z3, z4, c1, c2, nI_1, q, hs, and_self, if_true, if_false, n_1_0, n_0_0, okOb_sI, okAb_sI, okOb_sW, okAb_sW, vl_e, un_e, nl_s, nl_n, bnd_e, gd_e, SH_sI, SH_sW, xI_sI, xR_sI, xL_sI, xK_sI, xN_sI, gI_sW, xR_sW, xL_sW, xK_sW, xN_sW, sO0, sO1, sO2, sA2, sL2, sO3, sA3, sL3, sO4, sA4, sL4, sO5, sA5, sL5, sO6, sA6, sL6, sO7, sA7, sL7, sO8, sA8, sL8, sO9, sO10, sA10, sL10, sO11, sA11, sL11, sO12, sA12, sL12, sO13, sO14, sA14, sL14, sO15, sA15, sL15, sO16, sA16, sL16, sO17, sA17, sL17, sO18, sA18, sL18, sO19, sA19, sL19, sO20, sO21, sA21, sL21, sO22, sA22, sL22, sO23, sA23, sL23, sO24, sA24, sL24, sO25, sO26, sA26, sL26, sO27, sA27, sL27, sO28, sA28, sL28, sO29, sA29, sL29, sO30, sA30, sL30, sO31, sA31, sL31, sO32, sA32, sL32, sO33, sO34, sA34, sL34, sO35, sA35, sL35, sO36, sA36, sL36, sO37, sO38, sA38, sL38, sO39, sA39, sL39, sO40, sA40, sL40, sO41, sO42, sA42, sL42, sO43, sA43, sL43, sO44, sA44, sL44, sO45, sO46, sA46, sL46, sO47, sA47, sL47, sO48, sA48, sL48, sO49, sA49, sL49, sO50, sA50, sL50, sO51, sA51, sL51, sO52, sA52, sL52, sO53, sA53, sL53, sO54, sA54, sL54, sO55, sA55, sL55, sO56, sA56, sL56, sO57, sA57, sL57, sO58, sA58, sL58, sO59, sA59, sL59, sO60, sA60, sL60, sO61, sA61, sL61, sO62, sA62, sL62, sO63, sA63, sL63, sO64, sA64, sL64, sO65, sA65, sL65, sO66, sA66, sL66, sO67, sA67, sL67, sO68, sA68, sL68, sO69, sA69, sL69, sO70, sA70, sL70, sO71, sA71, sL71, sO72, sA72, sL72, sO73, sA73, sL73, sO74, sA74, sL74, sO75, sA75, sL75, sO76, sA76, sL76, sO77, sA77, sL77, sO78, sA78, sL78, sO79, sA79, sL79, sO80, sA80, sL80, sO81, sA81, sL81, sO82, sA82, sL82, sO83, sA83, sL83, sO84, sA84, sL84, sO85, sA85, sL85, sO86, sA86, sL86, sO87, sA87, sL87, sR0_0, sR0_1, sR0_2, sR0_3, sR0_5, sR0_6, sR0_8, sR0_10, sR0_11, sR0_12, sR0_13, sR1_0, sR6_0, sR6_1, sR6_2, sR9_0, sR9_1, sR9_2, sR13_0, sR13_1, sR13_2, sR13_3, sR13_4, sR13_5, sR20_0, sR20_1, sR20_2, sR20_3, sR25_0, sR25_1, sR25_2, sR25_4, sR25_5, sR25_6, sR25_7, sR33_2, sR33_3, sR37_2, sR37_3, sR41_2, sR41_3, sR45_0, sR45_1, sR45_3, sR45_4, sR45_5, sR45_6, sR45_7, sR45_8, sR45_9, sR45_10, sR45_12, sR45_13, sR45_14, sR45_15, sR45_16, sR45_17, sR45_18, sR45_19, sR45_20, sR45_21, sR45_22, sR45_25, sR45_26, sR45_27, sR45_28, sR45_29, sR45_30, sR45_31, sR45_32, sR45_33, sR45_34, sR45_35, sR45_36, sR45_40, sR45_41, sR45_42, sR45_43, sR45_45, sR45_46, sR45_47, sR45_48, sR45_49]
  · intro m
    rw [f_X0_quarrelsOf_L5, if_pos (by decide)]
    rfl
set_option maxRecDepth 100000 in
theorem quarrels_e {h : Hp} (hs : SH h) (ib : IB h) {x y : Nat} (hx : x < 12) (hy : y < 12) : f_X10_quarrels h 45 (nI x) (nI y) = some (nI (qN h x y), h) := by
  unfold f_X10_quarrels
  refine forU 6 (fun m k => f_X10_quarrels_L5 m 45 (nI x) (nI y) (nI (cnt (qF h x y) k)) (nI (k * 12)) h) _ ?_ ?_ 6 6000 0 (by omega) (by omega)
  · intro m k hk
    have x0 : ¬ (72 : Int32) ≤ nI (k * 12) := nI_ge (b := 72) (by omega) (by decide)
    have z1 : (nI (k * 12 + y)).toNatClampNeg = k * 12 + y := nI_clamp (by omega)
    have z2 : inB (nI (k * 12 + y)) 72 = true := inB_nI (by omega) (by decide)
    have z3 : (nI (k * 12 + x)).toNatClampNeg = k * 12 + x := nI_clamp (by omega)
    have z4 : inB (nI (k * 12 + x)) 72 = true := inB_nI (by omega) (by decide)
    obtain ⟨i1, i2, i3⟩ := ib (k * 12 + x) (by omega)
    obtain ⟨j1, j2, j3⟩ := ib (k * 12 + y) (by omega)
    have e : cnt (qF h x y) (k + 1) = cnt (qF h x y) k + (if qF h x y k = true then 1 else 0) := rfl
    rw [f_X10_quarrels_L5, e]
    by_cases c1 : gI h 76 (k * 12 + x) < 0
    · have q : qF h x y k = false := by
        rw [← i1, lt_iff] at c1
        have c1 : (gI h 14 (k * 12 + x)).toInt < 0 := c1
        have c2 : gI h 14 (k * 12 + x) ≤ gI h 14 (k * 12 + y) := by rw [le_iff]; omega
        unfold qF; simp [c2]
      simp only [x0, nI_add, z3, z4, c1, add0, o_p12, q, Bool.false_eq_true, Nat.add_zero, hs, and_self, if_true, if_false, n_1_0, n_0_0, okOb_sI, okAb_sI, okOb_sW, okAb_sW, vl_e, un_e, nl_s, nl_n, bnd_e, gd_e, SH_sI, SH_sW, xI_sI, xR_sI, xL_sI, xK_sI, xN_sI, gI_sW, xR_sW, xL_sW, xK_sW, xN_sW, sO0, sO1, sO2, sA2, sL2, sO3, sA3, sL3, sO4, sA4, sL4, sO5, sA5, sL5, sO6, sA6, sL6, sO7, sA7, sL7, sO8, sA8, sL8, sO9, sO10, sA10, sL10, sO11, sA11, sL11, sO12, sA12, sL12, sO13, sO14, sA14, sL14, sO15, sA15, sL15, sO16, sA16, sL16, sO17, sA17, sL17, sO18, sA18, sL18, sO19, sA19, sL19, sO20, sO21, sA21, sL21, sO22, sA22, sL22, sO23, sA23, sL23, sO24, sA24, sL24, sO25, sO26, sA26, sL26, sO27, sA27, sL27, sO28, sA28, sL28, sO29, sA29, sL29, sO30, sA30, sL30, sO31, sA31, sL31, sO32, sA32, sL32, sO33, sO34, sA34, sL34, sO35, sA35, sL35, sO36, sA36, sL36, sO37, sO38, sA38, sL38, sO39, sA39, sL39, sO40, sA40, sL40, sO41, sO42, sA42, sL42, sO43, sA43, sL43, sO44, sA44, sL44, sO45, sO46, sA46, sL46, sO47, sA47, sL47, sO48, sA48, sL48, sO49, sA49, sL49, sO50, sA50, sL50, sO51, sA51, sL51, sO52, sA52, sL52, sO53, sA53, sL53, sO54, sA54, sL54, sO55, sA55, sL55, sO56, sA56, sL56, sO57, sA57, sL57, sO58, sA58, sL58, sO59, sA59, sL59, sO60, sA60, sL60, sO61, sA61, sL61, sO62, sA62, sL62, sO63, sA63, sL63, sO64, sA64, sL64, sO65, sA65, sL65, sO66, sA66, sL66, sO67, sA67, sL67, sO68, sA68, sL68, sO69, sA69, sL69, sO70, sA70, sL70, sO71, sA71, sL71, sO72, sA72, sL72, sO73, sA73, sL73, sO74, sA74, sL74, sO75, sA75, sL75, sO76, sA76, sL76, sO77, sA77, sL77, sO78, sA78, sL78, sO79, sA79, sL79, sO80, sA80, sL80, sO81, sA81, sL81, sO82, sA82, sL82, sO83, sA83, sL83, sO84, sA84, sL84, sO85, sA85, sL85, sO86, sA86, sL86, sO87, sA87, sL87, sR0_0, sR0_1, sR0_2, sR0_3, sR0_5, sR0_6, sR0_8, sR0_10, sR0_11, sR0_12, sR0_13, sR1_0, sR6_0, sR6_1, sR6_2, sR9_0, sR9_1, sR9_2, sR13_0, sR13_1, sR13_2, sR13_3, sR13_4, sR13_5, sR20_0, sR20_1, sR20_2, sR20_3, sR25_0, sR25_1, sR25_2, sR25_4, sR25_5, sR25_6, sR25_7, sR33_2, sR33_3, sR37_2, sR37_3, sR41_2, sR41_3, sR45_0, sR45_1, sR45_3, sR45_4, sR45_5, sR45_6, sR45_7, sR45_8, sR45_9, sR45_10, sR45_12, sR45_13, sR45_14, sR45_15, sR45_16, sR45_17, sR45_18, sR45_19, sR45_20, sR45_21, sR45_22, sR45_25, sR45_26, sR45_27, sR45_28, sR45_29, sR45_30, sR45_31, sR45_32, sR45_33, sR45_34, sR45_35, sR45_36, sR45_40, sR45_41, sR45_42, sR45_43, sR45_45, sR45_46, sR45_47, sR45_48, sR45_49]
    · by_cases c2 : gI h 76 (k * 12 + y) < 0
      · have q : qF h x y k = false := by
          rw [← j1, lt_iff] at c2
          have c2 : (gI h 14 (k * 12 + y)).toInt < 0 := c2
          have c3 : gI h 14 (k * 12 + y) = -1 := by rw [eq_iff]; show _ = (-1 : Int); omega
          unfold qF; simp [c3]
        simp only [x0, nI_add, z1, z2, z3, z4, c1, c2, add0, o_p12, q, Bool.false_eq_true, Nat.add_zero, hs, and_self, if_true, if_false, n_1_0, n_0_0, okOb_sI, okAb_sI, okOb_sW, okAb_sW, vl_e, un_e, nl_s, nl_n, bnd_e, gd_e, SH_sI, SH_sW, xI_sI, xR_sI, xL_sI, xK_sI, xN_sI, gI_sW, xR_sW, xL_sW, xK_sW, xN_sW, sO0, sO1, sO2, sA2, sL2, sO3, sA3, sL3, sO4, sA4, sL4, sO5, sA5, sL5, sO6, sA6, sL6, sO7, sA7, sL7, sO8, sA8, sL8, sO9, sO10, sA10, sL10, sO11, sA11, sL11, sO12, sA12, sL12, sO13, sO14, sA14, sL14, sO15, sA15, sL15, sO16, sA16, sL16, sO17, sA17, sL17, sO18, sA18, sL18, sO19, sA19, sL19, sO20, sO21, sA21, sL21, sO22, sA22, sL22, sO23, sA23, sL23, sO24, sA24, sL24, sO25, sO26, sA26, sL26, sO27, sA27, sL27, sO28, sA28, sL28, sO29, sA29, sL29, sO30, sA30, sL30, sO31, sA31, sL31, sO32, sA32, sL32, sO33, sO34, sA34, sL34, sO35, sA35, sL35, sO36, sA36, sL36, sO37, sO38, sA38, sL38, sO39, sA39, sL39, sO40, sA40, sL40, sO41, sO42, sA42, sL42, sO43, sA43, sL43, sO44, sA44, sL44, sO45, sO46, sA46, sL46, sO47, sA47, sL47, sO48, sA48, sL48, sO49, sA49, sL49, sO50, sA50, sL50, sO51, sA51, sL51, sO52, sA52, sL52, sO53, sA53, sL53, sO54, sA54, sL54, sO55, sA55, sL55, sO56, sA56, sL56, sO57, sA57, sL57, sO58, sA58, sL58, sO59, sA59, sL59, sO60, sA60, sL60, sO61, sA61, sL61, sO62, sA62, sL62, sO63, sA63, sL63, sO64, sA64, sL64, sO65, sA65, sL65, sO66, sA66, sL66, sO67, sA67, sL67, sO68, sA68, sL68, sO69, sA69, sL69, sO70, sA70, sL70, sO71, sA71, sL71, sO72, sA72, sL72, sO73, sA73, sL73, sO74, sA74, sL74, sO75, sA75, sL75, sO76, sA76, sL76, sO77, sA77, sL77, sO78, sA78, sL78, sO79, sA79, sL79, sO80, sA80, sL80, sO81, sA81, sL81, sO82, sA82, sL82, sO83, sA83, sL83, sO84, sA84, sL84, sO85, sA85, sL85, sO86, sA86, sL86, sO87, sA87, sL87, sR0_0, sR0_1, sR0_2, sR0_3, sR0_5, sR0_6, sR0_8, sR0_10, sR0_11, sR0_12, sR0_13, sR1_0, sR6_0, sR6_1, sR6_2, sR9_0, sR9_1, sR9_2, sR13_0, sR13_1, sR13_2, sR13_3, sR13_4, sR13_5, sR20_0, sR20_1, sR20_2, sR20_3, sR25_0, sR25_1, sR25_2, sR25_4, sR25_5, sR25_6, sR25_7, sR33_2, sR33_3, sR37_2, sR37_3, sR41_2, sR41_3, sR45_0, sR45_1, sR45_3, sR45_4, sR45_5, sR45_6, sR45_7, sR45_8, sR45_9, sR45_10, sR45_12, sR45_13, sR45_14, sR45_15, sR45_16, sR45_17, sR45_18, sR45_19, sR45_20, sR45_21, sR45_22, sR45_25, sR45_26, sR45_27, sR45_28, sR45_29, sR45_30, sR45_31, sR45_32, sR45_33, sR45_34, sR45_35, sR45_36, sR45_40, sR45_41, sR45_42, sR45_43, sR45_45, sR45_46, sR45_47, sR45_48, sR45_49]
      · by_cases c3 : gI h 76 (k * 12 + x) ≤ gI h 76 (k * 12 + y)
        · have q : qF h x y k = false := by
            rw [← i1, ← j1] at c3
            unfold qF; simp [c3]
          simp only [x0, nI_add, z1, z2, z3, z4, c1, c2, c3, add0, o_p12, q, Bool.false_eq_true, Nat.add_zero, hs, and_self, if_true, if_false, n_1_0, n_0_0, okOb_sI, okAb_sI, okOb_sW, okAb_sW, vl_e, un_e, nl_s, nl_n, bnd_e, gd_e, SH_sI, SH_sW, xI_sI, xR_sI, xL_sI, xK_sI, xN_sI, gI_sW, xR_sW, xL_sW, xK_sW, xN_sW, sO0, sO1, sO2, sA2, sL2, sO3, sA3, sL3, sO4, sA4, sL4, sO5, sA5, sL5, sO6, sA6, sL6, sO7, sA7, sL7, sO8, sA8, sL8, sO9, sO10, sA10, sL10, sO11, sA11, sL11, sO12, sA12, sL12, sO13, sO14, sA14, sL14, sO15, sA15, sL15, sO16, sA16, sL16, sO17, sA17, sL17, sO18, sA18, sL18, sO19, sA19, sL19, sO20, sO21, sA21, sL21, sO22, sA22, sL22, sO23, sA23, sL23, sO24, sA24, sL24, sO25, sO26, sA26, sL26, sO27, sA27, sL27, sO28, sA28, sL28, sO29, sA29, sL29, sO30, sA30, sL30, sO31, sA31, sL31, sO32, sA32, sL32, sO33, sO34, sA34, sL34, sO35, sA35, sL35, sO36, sA36, sL36, sO37, sO38, sA38, sL38, sO39, sA39, sL39, sO40, sA40, sL40, sO41, sO42, sA42, sL42, sO43, sA43, sL43, sO44, sA44, sL44, sO45, sO46, sA46, sL46, sO47, sA47, sL47, sO48, sA48, sL48, sO49, sA49, sL49, sO50, sA50, sL50, sO51, sA51, sL51, sO52, sA52, sL52, sO53, sA53, sL53, sO54, sA54, sL54, sO55, sA55, sL55, sO56, sA56, sL56, sO57, sA57, sL57, sO58, sA58, sL58, sO59, sA59, sL59, sO60, sA60, sL60, sO61, sA61, sL61, sO62, sA62, sL62, sO63, sA63, sL63, sO64, sA64, sL64, sO65, sA65, sL65, sO66, sA66, sL66, sO67, sA67, sL67, sO68, sA68, sL68, sO69, sA69, sL69, sO70, sA70, sL70, sO71, sA71, sL71, sO72, sA72, sL72, sO73, sA73, sL73, sO74, sA74, sL74, sO75, sA75, sL75, sO76, sA76, sL76, sO77, sA77, sL77, sO78, sA78, sL78, sO79, sA79, sL79, sO80, sA80, sL80, sO81, sA81, sL81, sO82, sA82, sL82, sO83, sA83, sL83, sO84, sA84, sL84, sO85, sA85, sL85, sO86, sA86, sL86, sO87, sA87, sL87, sR0_0, sR0_1, sR0_2, sR0_3, sR0_5, sR0_6, sR0_8, sR0_10, sR0_11, sR0_12, sR0_13, sR1_0, sR6_0, sR6_1, sR6_2, sR9_0, sR9_1, sR9_2, sR13_0, sR13_1, sR13_2, sR13_3, sR13_4, sR13_5, sR20_0, sR20_1, sR20_2, sR20_3, sR25_0, sR25_1, sR25_2, sR25_4, sR25_5, sR25_6, sR25_7, sR33_2, sR33_3, sR37_2, sR37_3, sR41_2, sR41_3, sR45_0, sR45_1, sR45_3, sR45_4, sR45_5, sR45_6, sR45_7, sR45_8, sR45_9, sR45_10, sR45_12, sR45_13, sR45_14, sR45_15, sR45_16, sR45_17, sR45_18, sR45_19, sR45_20, sR45_21, sR45_22, sR45_25, sR45_26, sR45_27, sR45_28, sR45_29, sR45_30, sR45_31, sR45_32, sR45_33, sR45_34, sR45_35, sR45_36, sR45_40, sR45_41, sR45_42, sR45_43, sR45_45, sR45_46, sR45_47, sR45_48, sR45_49]
        · have q : qF h x y k = true := by
            rw [← i1, ← j1] at c3
            have c4 : ¬ gI h 14 (k * 12 + y) = -1 := fun w => c2 (by rw [← j1, w]; decide)
            unfold qF; simp [c3, c4]
          simp only [x0, nI_add, z1, z2, z3, z4, c1, c2, c3, nI_1, o_p12, q, hs, and_self, if_true, if_false, n_1_0, n_0_0, okOb_sI, okAb_sI, okOb_sW, okAb_sW, vl_e, un_e, nl_s, nl_n, bnd_e, gd_e, SH_sI, SH_sW, xI_sI, xR_sI, xL_sI, xK_sI, xN_sI, gI_sW, xR_sW, xL_sW, xK_sW, xN_sW, sO0, sO1, sO2, sA2, sL2, sO3, sA3, sL3, sO4, sA4, sL4, sO5, sA5, sL5, sO6, sA6, sL6, sO7, sA7, sL7, sO8, sA8, sL8, sO9, sO10, sA10, sL10, sO11, sA11, sL11, sO12, sA12, sL12, sO13, sO14, sA14, sL14, sO15, sA15, sL15, sO16, sA16, sL16, sO17, sA17, sL17, sO18, sA18, sL18, sO19, sA19, sL19, sO20, sO21, sA21, sL21, sO22, sA22, sL22, sO23, sA23, sL23, sO24, sA24, sL24, sO25, sO26, sA26, sL26, sO27, sA27, sL27, sO28, sA28, sL28, sO29, sA29, sL29, sO30, sA30, sL30, sO31, sA31, sL31, sO32, sA32, sL32, sO33, sO34, sA34, sL34, sO35, sA35, sL35, sO36, sA36, sL36, sO37, sO38, sA38, sL38, sO39, sA39, sL39, sO40, sA40, sL40, sO41, sO42, sA42, sL42, sO43, sA43, sL43, sO44, sA44, sL44, sO45, sO46, sA46, sL46, sO47, sA47, sL47, sO48, sA48, sL48, sO49, sA49, sL49, sO50, sA50, sL50, sO51, sA51, sL51, sO52, sA52, sL52, sO53, sA53, sL53, sO54, sA54, sL54, sO55, sA55, sL55, sO56, sA56, sL56, sO57, sA57, sL57, sO58, sA58, sL58, sO59, sA59, sL59, sO60, sA60, sL60, sO61, sA61, sL61, sO62, sA62, sL62, sO63, sA63, sL63, sO64, sA64, sL64, sO65, sA65, sL65, sO66, sA66, sL66, sO67, sA67, sL67, sO68, sA68, sL68, sO69, sA69, sL69, sO70, sA70, sL70, sO71, sA71, sL71, sO72, sA72, sL72, sO73, sA73, sL73, sO74, sA74, sL74, sO75, sA75, sL75, sO76, sA76, sL76, sO77, sA77, sL77, sO78, sA78, sL78, sO79, sA79, sL79, sO80, sA80, sL80, sO81, sA81, sL81, sO82, sA82, sL82, sO83, sA83, sL83, sO84, sA84, sL84, sO85, sA85, sL85, sO86, sA86, sL86, sO87, sA87, sL87, sR0_0, sR0_1, sR0_2, sR0_3, sR0_5, sR0_6, sR0_8, sR0_10, sR0_11, sR0_12, sR0_13, sR1_0, sR6_0, sR6_1, sR6_2, sR9_0, sR9_1, sR9_2, sR13_0, sR13_1, sR13_2, sR13_3, sR13_4, sR13_5, sR20_0, sR20_1, sR20_2, sR20_3, sR25_0, sR25_1, sR25_2, sR25_4, sR25_5, sR25_6, sR25_7, sR33_2, sR33_3, sR37_2, sR37_3, sR41_2, sR41_3, sR45_0, sR45_1, sR45_3, sR45_4, sR45_5, sR45_6, sR45_7, sR45_8, sR45_9, sR45_10, sR45_12, sR45_13, sR45_14, sR45_15, sR45_16, sR45_17, sR45_18, sR45_19, sR45_20, sR45_21, sR45_22, sR45_25, sR45_26, sR45_27, sR45_28, sR45_29, sR45_30, sR45_31, sR45_32, sR45_33, sR45_34, sR45_35, sR45_36, sR45_40, sR45_41, sR45_42, sR45_43, sR45_45, sR45_46, sR45_47, sR45_48, sR45_49]
  · intro m
    rw [f_X10_quarrels_L5, if_pos (by decide)]
    rfl
/-- the formes of a set, from the least on -/
def foS (S : Nat) : Nat → List Nat
  | 0 => []
  | f + 1 => if S.testBit f = true then foS S f ++ [f] else foS S f
theorem foS_len (S : Nat) : ∀ f, (foS S f).length ≤ f
  | 0 => Nat.le_refl _
  | f + 1 => by
    have := foS_len S f
    unfold foS
    split
    · rw [List.length_append, List.length_singleton]; omega
    · omega
theorem foS_pre (S : Nat) : ∀ f m, ∃ r, foS S (f + m) = foS S f ++ r
  | f, 0 => ⟨[], by simp⟩
  | f, m + 1 => by
    obtain ⟨r, e⟩ := foS_pre S f m
    show ∃ r, (if S.testBit (f + m) = true then foS S (f + m) ++ [f + m] else foS S (f + m)) = _
    split
    · exact ⟨r ++ [f + m], by rw [e, List.append_assoc]⟩
    · exact ⟨r, e⟩
theorem foS_srt (S : Nat) : ∀ f k, k < (foS S f).length → (foS S f).getD k 0 < f ∧ ∀ j, j < k → (foS S f).getD j 0 < (foS S f).getD k 0
  | 0, k, h => absurd h (Nat.not_lt_zero k)
  | f + 1, k, h => by
    have ih := foS_srt S f
    unfold foS at h ⊢
    by_cases b : S.testBit f = true
    · rw [if_pos b] at h ⊢
      rw [List.length_append, List.length_singleton] at h
      by_cases c : k < (foS S f).length
      · rw [getD_lt c]
        refine ⟨by have := (ih k c).1; omega, fun j hj => ?_⟩
        rw [getD_lt (by omega)]; exact (ih k c).2 j hj
      · have ek : k = (foS S f).length := by omega
        subst ek
        rw [getD_last]
        refine ⟨by omega, fun j hj => ?_⟩
        rw [getD_lt hj]; exact (ih j hj).1
    · rw [if_neg b] at h ⊢
      exact ⟨by have := (ih k h).1; omega, (ih k h).2⟩
theorem o_sh : ∀ f, f < 12 → ((nI f &&& 31).toBitVec.smod 32).toNat = f := by decide +kernel
theorem bit_s {S f : Nat} (hS : S < 4096) (hf : f < 12) : ((nI S >>> (nI f &&& 31)) &&& (1 : Int32)) = nI (if S.testBit f = true then 1 else 0) := by
  have := Nat.div_le_self S (2 ^ f)
  rw [pk_shrN (by omega) _ f (o_sh f hf), and1 (by omega), Nat.testBit_eq_decide_div_mod_eq]
  rcases Nat.mod_two_eq_zero_or_one (S / 2 ^ f) with e | e
  · rw [e]; rfl
  · rw [e]; rfl
def gO (S k : Nat) : Nat := if k < (foS S 12).length then (foS S 12).getD k 0 else 12 + k
theorem gO_lt {S k : Nat} (h : k < (foS S 12).length) : gO S k = (foS S 12).getD k 0 ∧ gO S k < 12 := by
  unfold gO
  rw [if_pos h]
  exact ⟨rfl, (foS_srt S 12 k h).1⟩
theorem gO_sm {S a b : Nat} (h : a < b) : gO S a < gO S b := by
  by_cases ca : a < (foS S 12).length
  · by_cases cb : b < (foS S 12).length
    · rw [(gO_lt ca).1, (gO_lt cb).1]; exact (foS_srt S 12 b cb).2 a h
    · have := (gO_lt ca).2
      have e : gO S b = 12 + b := if_neg cb
      omega
  · have e1 : gO S a = 12 + a := if_neg ca
    have e2 : gO S b = 12 + b := if_neg (by omega)
    omega
theorem gO_le (S a b : Nat) : gO S a ≤ gO S b ↔ a ≤ b := by
  constructor
  · intro q
    rcases Nat.lt_or_ge b a with w | w
    · have := gO_sm (S := S) w; omega
    · exact w
  · intro q
    rcases Nat.lt_or_ge a b with w | w
    · have := gO_sm (S := S) w; omega
    · have : a = b := by omega
      rw [this]; exact Nat.le_refl _
def bcF (a0 : Int32) : Int32 :=
  let x1 := (a0 - (((a0.toUInt32 >>> ((1 : Int32).toUInt32 &&& Int32.toUInt32 31)).toInt32) &&& (1431655765 : Int32)))
  let x2 := ((x1 &&& (858993459 : Int32)) + (((x1.toUInt32 >>> ((2 : Int32).toUInt32 &&& Int32.toUInt32 31)).toInt32) &&& (858993459 : Int32)))
  let x3 := ((x2 + ((x2.toUInt32 >>> ((4 : Int32).toUInt32 &&& Int32.toUInt32 31)).toInt32)) &&& (252645135 : Int32))
  let x4 := (x3 + ((x3.toUInt32 >>> ((8 : Int32).toUInt32 &&& Int32.toUInt32 31)).toInt32))
  let x5 := (x4 + ((x4.toUInt32 >>> ((16 : Int32).toUInt32 &&& Int32.toUInt32 31)).toInt32))
  x5 &&& (63 : Int32)
theorem bc_e (h : Hp) (a : Int32) : f_J6_bitCount_0f7a4 h a = some (bcF a, h) := by
  unfold f_J6_bitCount_0f7a4 bcF
  simp only [vl_e]
theorem bc_t : ∀ a, a < 64 → ∀ b, b < 64 → bcF (nI (64 * a + b)) = nI (foS (64 * a + b) 12).length ∧ ((foS (64 * a + b) 12).length = 0 → 64 * a + b = 0) := by decide +kernel
theorem bc_s {S : Nat} (hS : S < 4096) : bcF (nI S) = nI (foS S 12).length ∧ ((foS S 12).length = 0 → S = 0) := by
  have := bc_t (S / 64) (by omega) (S % 64) (by omega)
  rw [show 64 * (S / 64) + S % 64 = S by omega] at this
  exact this
