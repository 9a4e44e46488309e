/-- the tape as bytes, -1 behind its end -/
def TpC (h : Hp) (B : Nat → Int32) (z : Nat) : Prop := gI h 1 1 = nI z ∧ z ≤ 300 ∧ (∀ j, j < z → gI h 2 j = B j) ∧ ∀ j, z ≤ j → B j = -1
def TpM (h : Hp) (B : Nat → Int32) (z : Nat) : Prop := gI h 45 2 = nI z ∧ z ≤ 300 ∧ (∀ j, j < z → gI h 46 j = B j) ∧ ∀ j, z ≤ j → B j = -1
theorem TpC.fr {h h2 : Hp} {B : Nat → Int32} {z : Nat} {P : Nat → Nat → Prop} (u : Upd h h2 P) (hQ : ¬ P 1 1) (hP : ∀ k, ¬ P 2 k) (t : TpC h B z) : TpC h2 B z := ⟨by rw [u.2 _ _ hQ]; exact t.1, t.2.1, fun j hj => by rw [u.2 _ _ (hP j)]; exact t.2.2.1 j hj, t.2.2.2⟩
theorem TpM.fr {h h2 : Hp} {B : Nat → Int32} {z : Nat} {P : Nat → Nat → Prop} (u : Upd h h2 P) (hQ : ¬ P 45 2) (hP : ∀ k, ¬ P 46 k) (t : TpM h B z) : TpM h2 B z := ⟨by rw [u.2 _ _ hQ]; exact t.1, t.2.1, fun j hj => by rw [u.2 _ _ (hP j)]; exact t.2.2.1 j hj, t.2.2.2⟩
set_option maxRecDepth 100000 in
theorem byteAt_e {h : Hp} (hs : SH h) {B : Nat → Int32} {z : Nat} (tp : TpC h B z) {p : Nat} (hp : p < 2 ^ 30) : f_X8_byteAt h 1 (nI p) = some (B p, h) := by
  obtain ⟨t1, t2, t3, t4⟩ := tp
  have x1 : ¬ nI p < 0 := nI_pos (by omega)
  by_cases c : p < z
  · have x2 : ¬ nI z ≤ nI p := nI_ge c (by omega)
    have z1 : (nI p).toNatClampNeg = p := nI_clamp (by omega)
    have z2 : inB (nI p) 300 = true := inB_nI (by omega) (by decide)
    simp only [f_X8_byteAt, x1, x2, t1, z1, z2, t3 p c, hs, and_self, if_true, if_false, n_1_0, n_0_0, okOb_sI, okAb_sI, okOb_sW, okAb_sW, vl_e, un_e, nl_s, nl_n, bnd_e, gd_e, SH_sI, SH_sW, xI_sI, xR_sI, xL_sI, xK_sI, xN_sI, gI_sW, xR_sW, xL_sW, xK_sW, xN_sW, sO0, sO1, sO2, sA2, sL2, sO3, sA3, sL3, sO4, sA4, sL4, sO5, sA5, sL5, sO6, sA6, sL6, sO7, sA7, sL7, sO8, sA8, sL8, sO9, sO10, sA10, sL10, sO11, sA11, sL11, sO12, sA12, sL12, sO13, sO14, sA14, sL14, sO15, sA15, sL15, sO16, sA16, sL16, sO17, sA17, sL17, sO18, sA18, sL18, sO19, sA19, sL19, sO20, sO21, sA21, sL21, sO22, sA22, sL22, sO23, sA23, sL23, sO24, sA24, sL24, sO25, sO26, sA26, sL26, sO27, sA27, sL27, sO28, sA28, sL28, sO29, sA29, sL29, sO30, sA30, sL30, sO31, sA31, sL31, sO32, sA32, sL32, sO33, sO34, sA34, sL34, sO35, sA35, sL35, sO36, sA36, sL36, sO37, sO38, sA38, sL38, sO39, sA39, sL39, sO40, sA40, sL40, sO41, sO42, sA42, sL42, sO43, sA43, sL43, sO44, sA44, sL44, sO45, sO46, sA46, sL46, sO47, sA47, sL47, sO48, sA48, sL48, sO49, sA49, sL49, sO50, sA50, sL50, sO51, sA51, sL51, sO52, sA52, sL52, sO53, sA53, sL53, sO54, sA54, sL54, sO55, sA55, sL55, sO56, sA56, sL56, sO57, sA57, sL57, sO58, sA58, sL58, sO59, sA59, sL59, sO60, sA60, sL60, sO61, sA61, sL61, sO62, sA62, sL62, sO63, sA63, sL63, sO64, sA64, sL64, sO65, sA65, sL65, sO66, sA66, sL66, sO67, sA67, sL67, sO68, sA68, sL68, sO69, sA69, sL69, sO70, sA70, sL70, sO71, sA71, sL71, sO72, sA72, sL72, sO73, sA73, sL73, sO74, sA74, sL74, sO75, sA75, sL75, sO76, sA76, sL76, sO77, sA77, sL77, sO78, sA78, sL78, sO79, sA79, sL79, sO80, sA80, sL80, sO81, sA81, sL81, sO82, sA82, sL82, sO83, sA83, sL83, sO84, sA84, sL84, sO85, sA85, sL85, sO86, sA86, sL86, sO87, sA87, sL87, sR0_0, sR0_1, sR0_2, sR0_3, sR0_5, sR0_6, sR0_8, sR0_10, sR0_11, sR0_12, sR0_13, sR1_0, sR6_0, sR6_1, sR6_2, sR9_0, sR9_1, sR9_2, sR13_0, sR13_1, sR13_2, sR13_3, sR13_4, sR13_5, sR20_0, sR20_1, sR20_2, sR20_3, sR25_0, sR25_1, sR25_2, sR25_4, sR25_5, sR25_6, sR25_7, sR33_2, sR33_3, sR37_2, sR37_3, sR41_2, sR41_3, sR45_0, sR45_1, sR45_3, sR45_4, sR45_5, sR45_6, sR45_7, sR45_8, sR45_9, sR45_10, sR45_12, sR45_13, sR45_14, sR45_15, sR45_16, sR45_17, sR45_18, sR45_19, sR45_20, sR45_21, sR45_22, sR45_25, sR45_26, sR45_27, sR45_28, sR45_29, sR45_30, sR45_31, sR45_32, sR45_33, sR45_34, sR45_35, sR45_36, sR45_40, sR45_41, sR45_42, sR45_43, sR45_45, sR45_46, sR45_47, sR45_48, sR45_49]
  · have x2 : nI z ≤ nI p := nI_le (by omega) (by omega)
    simp only [f_X8_byteAt, x1, x2, t1, t4 p (by omega), hs, and_self, if_true, if_false, n_1_0, n_0_0, okOb_sI, okAb_sI, okOb_sW, okAb_sW, vl_e, un_e, nl_s, nl_n, bnd_e, gd_e, SH_sI, SH_sW, xI_sI, xR_sI, xL_sI, xK_sI, xN_sI, gI_sW, xR_sW, xL_sW, xK_sW, xN_sW, sO0, sO1, sO2, sA2, sL2, sO3, sA3, sL3, sO4, sA4, sL4, sO5, sA5, sL5, sO6, sA6, sL6, sO7, sA7, sL7, sO8, sA8, sL8, sO9, sO10, sA10, sL10, sO11, sA11, sL11, sO12, sA12, sL12, sO13, sO14, sA14, sL14, sO15, sA15, sL15, sO16, sA16, sL16, sO17, sA17, sL17, sO18, sA18, sL18, sO19, sA19, sL19, sO20, sO21, sA21, sL21, sO22, sA22, sL22, sO23, sA23, sL23, sO24, sA24, sL24, sO25, sO26, sA26, sL26, sO27, sA27, sL27, sO28, sA28, sL28, sO29, sA29, sL29, sO30, sA30, sL30, sO31, sA31, sL31, sO32, sA32, sL32, sO33, sO34, sA34, sL34, sO35, sA35, sL35, sO36, sA36, sL36, sO37, sO38, sA38, sL38, sO39, sA39, sL39, sO40, sA40, sL40, sO41, sO42, sA42, sL42, sO43, sA43, sL43, sO44, sA44, sL44, sO45, sO46, sA46, sL46, sO47, sA47, sL47, sO48, sA48, sL48, sO49, sA49, sL49, sO50, sA50, sL50, sO51, sA51, sL51, sO52, sA52, sL52, sO53, sA53, sL53, sO54, sA54, sL54, sO55, sA55, sL55, sO56, sA56, sL56, sO57, sA57, sL57, sO58, sA58, sL58, sO59, sA59, sL59, sO60, sA60, sL60, sO61, sA61, sL61, sO62, sA62, sL62, sO63, sA63, sL63, sO64, sA64, sL64, sO65, sA65, sL65, sO66, sA66, sL66, sO67, sA67, sL67, sO68, sA68, sL68, sO69, sA69, sL69, sO70, sA70, sL70, sO71, sA71, sL71, sO72, sA72, sL72, sO73, sA73, sL73, sO74, sA74, sL74, sO75, sA75, sL75, sO76, sA76, sL76, sO77, sA77, sL77, sO78, sA78, sL78, sO79, sA79, sL79, sO80, sA80, sL80, sO81, sA81, sL81, sO82, sA82, sL82, sO83, sA83, sL83, sO84, sA84, sL84, sO85, sA85, sL85, sO86, sA86, sL86, sO87, sA87, sL87, sR0_0, sR0_1, sR0_2, sR0_3, sR0_5, sR0_6, sR0_8, sR0_10, sR0_11, sR0_12, sR0_13, sR1_0, sR6_0, sR6_1, sR6_2, sR9_0, sR9_1, sR9_2, sR13_0, sR13_1, sR13_2, sR13_3, sR13_4, sR13_5, sR20_0, sR20_1, sR20_2, sR20_3, sR25_0, sR25_1, sR25_2, sR25_4, sR25_5, sR25_6, sR25_7, sR33_2, sR33_3, sR37_2, sR37_3, sR41_2, sR41_3, sR45_0, sR45_1, sR45_3, sR45_4, sR45_5, sR45_6, sR45_7, sR45_8, sR45_9, sR45_10, sR45_12, sR45_13, sR45_14, sR45_15, sR45_16, sR45_17, sR45_18, sR45_19, sR45_20, sR45_21, sR45_22, sR45_25, sR45_26, sR45_27, sR45_28, sR45_29, sR45_30, sR45_31, sR45_32, sR45_33, sR45_34, sR45_35, sR45_36, sR45_40, sR45_41, sR45_42, sR45_43, sR45_45, sR45_46, sR45_47, sR45_48, sR45_49]
set_option maxRecDepth 100000 in
theorem sign_e {h : Hp} (hs : SH h) {B : Nat → Int32} {z : Nat} (tp : TpM h B z) {p : Nat} (hp : p < 2 ^ 30) (e : gI h 45 44 = nI p) : f_X10_sign h 45 = some (B p, h) := by
  obtain ⟨t1, t2, t3, t4⟩ := tp
  by_cases c : p < z
  · have x2 : ¬ nI z ≤ nI p := nI_ge c (by omega)
    have z1 : (nI p).toNatClampNeg = p := nI_clamp (by omega)
    have z2 : inB (nI p) 300 = true := inB_nI (by omega) (by decide)
    simp only [f_X10_sign, x2, t1, e, z1, z2, t3 p c, hs, and_self, if_true, if_false, n_1_0, n_0_0, okOb_sI, okAb_sI, okOb_sW, okAb_sW, vl_e, un_e, nl_s, nl_n, bnd_e, gd_e, SH_sI, SH_sW, xI_sI, xR_sI, xL_sI, xK_sI, xN_sI, gI_sW, xR_sW, xL_sW, xK_sW, xN_sW, sO0, sO1, sO2, sA2, sL2, sO3, sA3, sL3, sO4, sA4, sL4, sO5, sA5, sL5, sO6, sA6, sL6, sO7, sA7, sL7, sO8, sA8, sL8, sO9, sO10, sA10, sL10, sO11, sA11, sL11, sO12, sA12, sL12, sO13, sO14, sA14, sL14, sO15, sA15, sL15, sO16, sA16, sL16, sO17, sA17, sL17, sO18, sA18, sL18, sO19, sA19, sL19, sO20, sO21, sA21, sL21, sO22, sA22, sL22, sO23, sA23, sL23, sO24, sA24, sL24, sO25, sO26, sA26, sL26, sO27, sA27, sL27, sO28, sA28, sL28, sO29, sA29, sL29, sO30, sA30, sL30, sO31, sA31, sL31, sO32, sA32, sL32, sO33, sO34, sA34, sL34, sO35, sA35, sL35, sO36, sA36, sL36, sO37, sO38, sA38, sL38, sO39, sA39, sL39, sO40, sA40, sL40, sO41, sO42, sA42, sL42, sO43, sA43, sL43, sO44, sA44, sL44, sO45, sO46, sA46, sL46, sO47, sA47, sL47, sO48, sA48, sL48, sO49, sA49, sL49, sO50, sA50, sL50, sO51, sA51, sL51, sO52, sA52, sL52, sO53, sA53, sL53, sO54, sA54, sL54, sO55, sA55, sL55, sO56, sA56, sL56, sO57, sA57, sL57, sO58, sA58, sL58, sO59, sA59, sL59, sO60, sA60, sL60, sO61, sA61, sL61, sO62, sA62, sL62, sO63, sA63, sL63, sO64, sA64, sL64, sO65, sA65, sL65, sO66, sA66, sL66, sO67, sA67, sL67, sO68, sA68, sL68, sO69, sA69, sL69, sO70, sA70, sL70, sO71, sA71, sL71, sO72, sA72, sL72, sO73, sA73, sL73, sO74, sA74, sL74, sO75, sA75, sL75, sO76, sA76, sL76, sO77, sA77, sL77, sO78, sA78, sL78, sO79, sA79, sL79, sO80, sA80, sL80, sO81, sA81, sL81, sO82, sA82, sL82, sO83, sA83, sL83, sO84, sA84, sL84, sO85, sA85, sL85, sO86, sA86, sL86, sO87, sA87, sL87, sR0_0, sR0_1, sR0_2, sR0_3, sR0_5, sR0_6, sR0_8, sR0_10, sR0_11, sR0_12, sR0_13, sR1_0, sR6_0, sR6_1, sR6_2, sR9_0, sR9_1, sR9_2, sR13_0, sR13_1, sR13_2, sR13_3, sR13_4, sR13_5, sR20_0, sR20_1, sR20_2, sR20_3, sR25_0, sR25_1, sR25_2, sR25_4, sR25_5, sR25_6, sR25_7, sR33_2, sR33_3, sR37_2, sR37_3, sR41_2, sR41_3, sR45_0, sR45_1, sR45_3, sR45_4, sR45_5, sR45_6, sR45_7, sR45_8, sR45_9, sR45_10, sR45_12, sR45_13, sR45_14, sR45_15, sR45_16, sR45_17, sR45_18, sR45_19, sR45_20, sR45_21, sR45_22, sR45_25, sR45_26, sR45_27, sR45_28, sR45_29, sR45_30, sR45_31, sR45_32, sR45_33, sR45_34, sR45_35, sR45_36, sR45_40, sR45_41, sR45_42, sR45_43, sR45_45, sR45_46, sR45_47, sR45_48, sR45_49]
  · have x2 : nI z ≤ nI p := nI_le (by omega) (by omega)
    simp only [f_X10_sign, x2, t1, e, t4 p (by omega), hs, and_self, if_true, if_false, n_1_0, n_0_0, okOb_sI, okAb_sI, okOb_sW, okAb_sW, vl_e, un_e, nl_s, nl_n, bnd_e, gd_e, SH_sI, SH_sW, xI_sI, xR_sI, xL_sI, xK_sI, xN_sI, gI_sW, xR_sW, xL_sW, xK_sW, xN_sW, sO0, sO1, sO2, sA2, sL2, sO3, sA3, sL3, sO4, sA4, sL4, sO5, sA5, sL5, sO6, sA6, sL6, sO7, sA7, sL7, sO8, sA8, sL8, sO9, sO10, sA10, sL10, sO11, sA11, sL11, sO12, sA12, sL12, sO13, sO14, sA14, sL14, sO15, sA15, sL15, sO16, sA16, sL16, sO17, sA17, sL17, sO18, sA18, sL18, sO19, sA19, sL19, sO20, sO21, sA21, sL21, sO22, sA22, sL22, sO23, sA23, sL23, sO24, sA24, sL24, sO25, sO26, sA26, sL26, sO27, sA27, sL27, sO28, sA28, sL28, sO29, sA29, sL29, sO30, sA30, sL30, sO31, sA31, sL31, sO32, sA32, sL32, sO33, sO34, sA34, sL34, sO35, sA35, sL35, sO36, sA36, sL36, sO37, sO38, sA38, sL38, sO39, sA39, sL39, sO40, sA40, sL40, sO41, sO42, sA42, sL42, sO43, sA43, sL43, sO44, sA44, sL44, sO45, sO46, sA46, sL46, sO47, sA47, sL47, sO48, sA48, sL48, sO49, sA49, sL49, sO50, sA50, sL50, sO51, sA51, sL51, sO52, sA52, sL52, sO53, sA53, sL53, sO54, sA54, sL54, sO55, sA55, sL55, sO56, sA56, sL56, sO57, sA57, sL57, sO58, sA58, sL58, sO59, sA59, sL59, sO60, sA60, sL60, sO61, sA61, sL61, sO62, sA62, sL62, sO63, sA63, sL63, sO64, sA64, sL64, sO65, sA65, sL65, sO66, sA66, sL66, sO67, sA67, sL67, sO68, sA68, sL68, sO69, sA69, sL69, sO70, sA70, sL70, sO71, sA71, sL71, sO72, sA72, sL72, sO73, sA73, sL73, sO74, sA74, sL74, sO75, sA75, sL75, sO76, sA76, sL76, sO77, sA77, sL77, sO78, sA78, sL78, sO79, sA79, sL79, sO80, sA80, sL80, sO81, sA81, sL81, sO82, sA82, sL82, sO83, sA83, sL83, sO84, sA84, sL84, sO85, sA85, sL85, sO86, sA86, sL86, sO87, sA87, sL87, sR0_0, sR0_1, sR0_2, sR0_3, sR0_5, sR0_6, sR0_8, sR0_10, sR0_11, sR0_12, sR0_13, sR1_0, sR6_0, sR6_1, sR6_2, sR9_0, sR9_1, sR9_2, sR13_0, sR13_1, sR13_2, sR13_3, sR13_4, sR13_5, sR20_0, sR20_1, sR20_2, sR20_3, sR25_0, sR25_1, sR25_2, sR25_4, sR25_5, sR25_6, sR25_7, sR33_2, sR33_3, sR37_2, sR37_3, sR41_2, sR41_3, sR45_0, sR45_1, sR45_3, sR45_4, sR45_5, sR45_6, sR45_7, sR45_8, sR45_9, sR45_10, sR45_12, sR45_13, sR45_14, sR45_15, sR45_16, sR45_17, sR45_18, sR45_19, sR45_20, sR45_21, sR45_22, sR45_25, sR45_26, sR45_27, sR45_28, sR45_29, sR45_30, sR45_31, sR45_32, sR45_33, sR45_34, sR45_35, sR45_36, sR45_40, sR45_41, sR45_42, sR45_43, sR45_45, sR45_46, sR45_47, sR45_48, sR45_49]
theorem slen_t : ∀ w, w < 4 → (Int32.ofNat (strL.getD w 0)) >>> ((0 : Int32) &&& 31) = nI (strL.getD w 0) := by decide +kernel
theorem slen_e (h : Hp) {w : Nat} (hw : w < 4) : f_J0_length_8abf5 h w = some (nI (strL.getD w 0), h) := by
  simp only [f_J0_length_8abf5, f_J0_coder_7d493, hw, decide_true, gd_e, n_1_0, if_false, bnd_e, slen_t w hw]
theorem sch_t : ∀ w, w < 4 → ∀ k, k < strL.getD w 0 → okS w (nI k) = true ∧ chOk (((((strB.getD w []).getD k 0) &&& (255 : Int32)).toUInt32 % 65536).toInt32) = true ∧ ((((strB.getD w []).getD k 0) &&& (255 : Int32)).toUInt32 % 65536).toInt32 = (strB.getD w []).getD k 0 ∧ strL.getD w 0 ≤ 5 := by decide +kernel
theorem sch_e (h : Hp) {w k : Nat} (hw : w < 4) (hk : k < strL.getD w 0) : f_J0_charAt_5068e h w (nI k) = some ((strB.getD w []).getD k 0, h) := by
  obtain ⟨e1, e2, e3, e4⟩ := sch_t w hw k hk
  have z1 : (nI k).toNatClampNeg = k := nI_clamp (by omega)
  have c1 : ¬ nI k < 0 := nI_pos (by omega)
  have c2 : nI k < nI (strL.getD w 0) := nI_lt hk (by omega)
  rw [e3] at e2
  simp only [f_J0_charAt_5068e, f_J0_isLatin1_aae02, f_J1_charAt_3b067, f_J0_checkIndex_df160, f_J3_checkIndex_8e157, hw, decide_true, gd_e, n_1_0, n_0_0, if_true, if_false, bnd_e, toI, c1, c2, z1, e1, e2, e3]
/-- how much of a word stands at a place -/
def lcp (B : Nat → Int32) : List Int32 → Nat → Nat
  | [], _ => 0
  | c :: r, p => if B p = c then 1 + lcp B r (p + 1) else 0
def mW (B : Nat → Int32) (p w : Nat) : Nat := lcp B (strB.getD w []) p
def wMx (B : Nat → Int32) (p : Nat) : Nat := max (max (max (max 0 (mW B p 0)) (mW B p 1)) (mW B p 2)) (mW B p 3)
theorem lcp_le (B : Nat → Int32) : ∀ (l : List Int32) (p : Nat), lcp B l p ≤ l.length
  | [], _ => Nat.le_refl _
  | c :: r, p => by
    have := lcp_le B r (p + 1)
    unfold lcp
    rw [List.length_cons]
    split <;> omega
theorem lcp_s (B : Nat → Int32) : ∀ (l : List Int32) (p i : Nat), i + 1 ≤ lcp B l p ↔ i ≤ lcp B l p ∧ i < l.length ∧ B (p + i) = l.getD i 0
  | [], p, i => by simp [lcp]
  | c :: r, p, i => by
    unfold lcp
    by_cases q : B p = c
    · rw [if_pos q]
      cases i with
      | zero => simp [q]
      | succ i =>
        have := lcp_s B r (p + 1) i
        rw [show p + 1 + i = p + (i + 1) by omega] at this
        simp only [List.length_cons, List.getD_cons_succ]
        constructor
        · intro w
          have w2 := this.mp (by omega)
          exact ⟨by omega, by omega, w2.2.2⟩
        · rintro ⟨w1, w2, w3⟩
          have := this.mpr ⟨by omega, by omega, w3⟩
          omega
    · rw [if_neg q]
      constructor
      · intro w; omega
      · rintro ⟨w1, w2, w3⟩
        have : i = 0 := by omega
        subst this
        exact absurd w3 q
theorem sLB : ∀ w, w < 4 → (strB.getD w []).length = strL.getD w 0 ∧ 3 ≤ strL.getD w 0 ∧ strL.getD w 0 ≤ 5 := by decide +kernel
theorem mW_le {B : Nat → Int32} {p w : Nat} (hw : w < 4) : mW B p w ≤ strL.getD w 0 := by
  rw [← (sLB w hw).1]; exact lcp_le B _ p
theorem wMx_le {B : Nat → Int32} {p : Nat} : wMx B p ≤ 5 := by
  have := mW_le (B := B) (p := p) (w := 0) (by decide)
  have := mW_le (B := B) (p := p) (w := 1) (by decide)
  have := mW_le (B := B) (p := p) (w := 2) (by decide)
  have := mW_le (B := B) (p := p) (w := 3) (by decide)
  have := (sLB 0 (by decide)).2.2
  have := (sLB 1 (by decide)).2.2
  have := (sLB 2 (by decide)).2.2
  have := (sLB 3 (by decide)).2.2
  unfold wMx
  omega
theorem mW_mx {B : Nat → Int32} {p w : Nat} (hw : w < 4) : mW B p w ≤ wMx B p := by
  unfold wMx
  match w, hw with
  | 0, _ => omega
  | 1, _ => omega
  | 2, _ => omega
  | 3, _ => omega
def fw (B : Nat → Int32) (p : Nat) : Option Nat := if mW B p 0 = 3 then some 0 else if mW B p 1 = 5 then some 1 else if mW B p 2 = 5 then some 2 else if mW B p 3 = 5 then some 3 else none
theorem neI {b : Int32} {x y : Int32} (e : b = x) (h : x ≠ y) : ¬ b = y := by rw [e]; exact h
/-- at most one word stands there, and it is the longest -/
theorem wd_c (B : Nat → Int32) (p : Nat) : (∃ w, w < 4 ∧ fw B p = some w ∧ mW B p w = strL.getD w 0 ∧ wMx B p = strL.getD w 0 ∧ ∀ v, v < 4 → v ≠ w → mW B p v < wMx B p) ∨ (fw B p = none ∧ ∀ w, w < 4 → mW B p w < strL.getD w 0) := by
  have m0 : mW B p 0 = if B p = 115 then 1 + (if B (p + 1) = 101 then 1 + (if B (p + 1 + 1) = 116 then 1 + 0 else 0) else 0) else 0 := rfl
  have m1 : mW B p 1 = if B p = 102 then 1 + (if B (p + 1) = 97 then 1 + (if B (p + 1 + 1) = 117 then 1 + (if B (p + 1 + 1 + 1) = 108 then 1 + (if B (p + 1 + 1 + 1 + 1) = 116 then 1 + 0 else 0) else 0) else 0) else 0) else 0 := rfl
  have m2 : mW B p 2 = if B p = 112 then 1 + (if B (p + 1) = 114 then 1 + (if B (p + 1 + 1) = 105 then 1 + (if B (p + 1 + 1 + 1) = 110 then 1 + (if B (p + 1 + 1 + 1 + 1) = 116 then 1 + 0 else 0) else 0) else 0) else 0) else 0 := rfl
  have m3 : mW B p 3 = if B p = 115 then 1 + (if B (p + 1) = 112 then 1 + (if B (p + 1 + 1) = 111 then 1 + (if B (p + 1 + 1 + 1) = 105 then 1 + (if B (p + 1 + 1 + 1 + 1) = 108 then 1 + 0 else 0) else 0) else 0) else 0) else 0 := rfl
  have l0 := mW_le (B := B) (p := p) (w := 0) (by decide)
  have l1 := mW_le (B := B) (p := p) (w := 1) (by decide)
  have l2 := mW_le (B := B) (p := p) (w := 2) (by decide)
  have l3 := mW_le (B := B) (p := p) (w := 3) (by decide)
  have k0' : strL.getD 0 0 = 3 := rfl
  have k1' : strL.getD 1 0 = 5 := rfl
  have k2' : strL.getD 2 0 = 5 := rfl
  have k3' : strL.getD 3 0 = 5 := rfl
  rw [k0'] at l0
  rw [k1'] at l1
  rw [k2'] at l2
  rw [k3'] at l3
  have full : ∀ w, w < 4 → fw B p = some w → mW B p w = strL.getD w 0 → (∀ v, v < 4 → v ≠ w → mW B p v < strL.getD w 0) → (∃ w, w < 4 ∧ fw B p = some w ∧ mW B p w = strL.getD w 0 ∧ wMx B p = strL.getD w 0 ∧ ∀ v, v < 4 → v ≠ w → mW B p v < wMx B p) := fun w hw e1 e2 e3 => by
    have e4 : wMx B p = strL.getD w 0 := by
      have q := mW_mx (B := B) (p := p) hw
      have r : ∀ v, v < 4 → mW B p v ≤ strL.getD w 0 := fun v hv => by
        by_cases c : v = w
        · rw [c, e2]; exact Nat.le_refl _
        · have := e3 v hv c; omega
      have := r 0 (by decide)
      have := r 1 (by decide)
      have := r 2 (by decide)
      have := r 3 (by decide)
      unfold wMx at q ⊢
      omega
    exact ⟨w, hw, e1, e2, e4, fun v hv c => by rw [e4]; exact e3 v hv c⟩
  have v4 : ∀ {P : Nat → Prop}, P 0 → P 1 → P 2 → P 3 → ∀ v, v < 4 → P v := by
    intro P p0 p1 p2 p3 v hv
    match v, hv with
    | 0, _ => exact p0
    | 1, _ => exact p1
    | 2, _ => exact p2
    | 3, _ => exact p3
  by_cases a0 : mW B p 0 = 3
  · left
    have s : B p = 115 := Decidable.byContradiction fun q => by rw [if_neg q] at m0; omega
    have e : B (p + 1) = 101 := Decidable.byContradiction fun q => by rw [if_pos s, if_neg q] at m0; omega
    rw [if_neg (neI s (by decide))] at m1 m2
    rw [if_pos s, if_neg (neI e (by decide))] at m3
    refine full 0 (by decide) (if_pos a0) a0 (v4 (fun q => absurd rfl q) (fun _ => ?_) (fun _ => ?_) (fun _ => ?_)) <;> rw [k0'] <;> omega
  · by_cases a1 : mW B p 1 = 5
    · left
      have s : B p = 102 := Decidable.byContradiction fun q => by rw [if_neg q] at m1; omega
      rw [if_neg (neI s (by decide))] at m0 m2 m3
      refine full 1 (by decide) (by unfold fw; rw [if_neg a0, if_pos a1]) a1 (v4 (fun _ => ?_) (fun q => absurd rfl q) (fun _ => ?_) (fun _ => ?_)) <;> rw [k1'] <;> omega
    · by_cases a2 : mW B p 2 = 5
      · left
        have s : B p = 112 := Decidable.byContradiction fun q => by rw [if_neg q] at m2; omega
        rw [if_neg (neI s (by decide))] at m0 m1 m3
        refine full 2 (by decide) (by unfold fw; rw [if_neg a0, if_neg a1, if_pos a2]) a2 (v4 (fun _ => ?_) (fun _ => ?_) (fun q => absurd rfl q) (fun _ => ?_)) <;> rw [k2'] <;> omega
      · by_cases a3 : mW B p 3 = 5
        · left
          have s : B p = 115 := Decidable.byContradiction fun q => by rw [if_neg q] at m3; omega
          have e : B (p + 1) = 112 := Decidable.byContradiction fun q => by rw [if_pos s, if_neg q] at m3; omega
          rw [if_neg (neI s (by decide))] at m1 m2
          rw [if_pos s, if_neg (neI e (by decide))] at m0
          refine full 3 (by decide) (by unfold fw; rw [if_neg a0, if_neg a1, if_neg a2, if_pos a3]) a3 (v4 (fun _ => ?_) (fun _ => ?_) (fun _ => ?_) (fun q => absurd rfl q)) <;> rw [k3'] <;> omega
        · right
          refine ⟨by unfold fw; rw [if_neg a0, if_neg a1, if_neg a2, if_neg a3], v4 ?_ ?_ ?_ ?_⟩
          · rw [k0']; omega
          · rw [k1']; omega
          · rw [k2']; omega
          · rw [k3']; omega
def wI (r : Option Nat) : Int32 := match r with
  | some w => nI w
  | none => -1
theorem dropI {r : List Int32} {i : Nat} (hi : i < r.length) : r.drop i = r.getD i 0 :: r.drop (i + 1) := by
  rw [List.drop_eq_getElem_cons hi, List.getD_eq_getElem?_getD, List.getElem?_eq_getElem hi]
  rfl
set_option maxRecDepth 100000 in
theorem sameAs_L {h : Hp} (hs : SH h) {B : Nat → Int32} {z p w : Nat} (tp : TpC h B z) (hw : w < 4) (hp : p ≤ 1000) (e4 : gI h 20 4 = nI p) : ∀ m fuel j, j + m = strL.getD w 0 → m < fuel → f_X5_sameAs_L2 fuel 20 1 w (nI j) h = some (nI (j + lcp B ((strB.getD w []).drop j) (p + j)), h) := by
  obtain ⟨s1, s2, s3⟩ := sLB w hw
  intro m
  induction m with
  | zero =>
    intro fuel j hj hf
    match fuel, hf with
    | fuel + 1, _ =>
      have x0 : nI (strL.getD w 0) ≤ nI j := nI_le (by omega) (by omega)
      have ed : (strB.getD w []).drop j = [] := List.drop_eq_nil_of_le (by omega)
      rw [f_X5_sameAs_L2, ed]
      simp only [hw, decide_true, gd_e, slen_e h hw, bnd_e, x0, if_true, lcp]
      rw [show j + 0 = strL.getD w 0 by omega]
  | succ m ih =>
    intro fuel j hj hf
    match fuel, hf with
    | fuel + 1, hf =>
      have x0 : ¬ nI (strL.getD w 0) ≤ nI j := nI_ge (by omega) (by omega)
      have b1 := byteAt_e hs tp (p := p + j) (by omega)
      rw [f_X5_sameAs_L2, dropI (show j < (strB.getD w []).length by omega), lcp]
      by_cases c : B (p + j) = (strB.getD w []).getD j 0
      · rw [if_pos c]
        have := ih fuel (j + 1) (by omega) (by omega)
        simp only [hw, decide_true, gd_e, slen_e h hw, bnd_e, x0, if_false, if_true, sO20 hs, sO1 hs, vl_e, e4, nI_add, b1, sch_e h hw (show j < strL.getD w 0 by omega), c, nI_1]
        rw [this]
        rw [show p + (j + 1) = p + j + 1 by omega, show j + 1 + lcp B (List.drop (j + 1) (strB.getD w [])) (p + j + 1) = j + (1 + lcp B (List.drop (j + 1) (strB.getD w [])) (p + j + 1)) by omega]
      · rw [if_neg c]
        simp only [hw, decide_true, gd_e, slen_e h hw, bnd_e, x0, if_false, sO20 hs, sO1 hs, vl_e, e4, nI_add, b1, sch_e h hw (show j < strL.getD w 0 by omega), c, Nat.add_zero]
theorem sameAs_e {h : Hp} (hs : SH h) {B : Nat → Int32} {z p w : Nat} (tp : TpC h B z) (hw : w < 4) (hp : p ≤ 1000) (e4 : gI h 20 4 = nI p) : f_X5_sameAs h 20 1 w = some (nI (mW B p w), h) := by
  obtain ⟨s1, s2, s3⟩ := sLB w hw
  have := sameAs_L hs tp hw hp e4 (strL.getD w 0) 6000 0 (by omega) (by omega)
  rw [List.drop_zero, Nat.add_zero, Nat.zero_add] at this
  exact this
theorem textOf_e (h : Hp) {w : Nat} (hw : w < 4) : f_X5_textOf h (nI w) = some (w, h) := by
  match w, hw with
  | 0, _ => unfold f_X5_textOf; rw [if_pos (by decide)]
  | 1, _ => unfold f_X5_textOf; rw [if_neg (by decide), if_pos (by decide)]
  | 2, _ => unfold f_X5_textOf; rw [if_neg (by decide), if_neg (by decide), if_pos (by decide)]
  | 3, _ => unfold f_X5_textOf; rw [if_neg (by decide), if_neg (by decide), if_neg (by decide)]
set_option maxRecDepth 100000 in
theorem readWord_s {h : Hp} (hs : SH h) {B : Nat → Int32} {z p w a : Nat} (tp : TpC h B z) (hw : w < 4) (hp : p ≤ 1000) (ha : a ≤ 5) (e4 : gI h 20 4 = nI p) (fuel : Nat) : f_X5_readWord_L4 (fuel + 1) 20 1 (nI a) (nI w) h = if mW B p w = strL.getD w 0 then some (nI w, sI h 20 4 (nI (p + strL.getD w 0))) else f_X5_readWord_L4 fuel 20 1 (nI (max a (mW B p w))) (nI (w + 1)) h := by
  obtain ⟨s1, s2, s3⟩ := sLB w hw
  have hm := mW_le (B := B) (p := p) hw
  have x0 : ¬ (4 : Int32) ≤ nI w := nI_ge (b := 4) hw (by decide)
  rw [f_X5_readWord_L4]
  simp only [x0, if_false, textOf_e h hw, bnd_e, sO20 hs, gd_e, sameAs_e hs tp hw hp e4, hw, decide_true, slen_e h hw, vl_e, e4, nI_add, nI_1, maxI (show a < 2 ^ 31 by omega) (show mW B p w < 2 ^ 31 by omega)]
  by_cases c : mW B p w = strL.getD w 0
  · rw [if_pos (by rw [c]), if_pos c, c]
  · rw [if_neg (fun q => c ((nI_eq (by omega) (by omega)).mp q)), if_neg c]
set_option maxRecDepth 100000 in
theorem readWord_e {h : Hp} (hs : SH h) {B : Nat → Int32} {z p : Nat} (tp : TpC h B z) (hp : p ≤ 1000) (e4 : gI h 20 4 = nI p) : f_X5_readWord h 20 1 = some (wI (fw B p), sI h 20 4 (nI (p + wMx B p))) := by
  have l0 := mW_le (B := B) (p := p) (w := 0) (by decide)
  have l1 := mW_le (B := B) (p := p) (w := 1) (by decide)
  have l2 := mW_le (B := B) (p := p) (w := 2) (by decide)
  have l3 := mW_le (B := B) (p := p) (w := 3) (by decide)
  have k0' : strL.getD 0 0 = 3 := rfl
  have k1' : strL.getD 1 0 = 5 := rfl
  have k2' : strL.getD 2 0 = 5 := rfl
  have k3' : strL.getD 3 0 = 5 := rfl
  have E : f_X5_readWord h 20 1 = if mW B p 0 = 3 then some (nI 0, sI h 20 4 (nI (p + 3))) else if mW B p 1 = 5 then some (nI 1, sI h 20 4 (nI (p + 5))) else if mW B p 2 = 5 then some (nI 2, sI h 20 4 (nI (p + 5))) else if mW B p 3 = 5 then some (nI 3, sI h 20 4 (nI (p + 5))) else some (-1, sI h 20 4 (nI (p + wMx B p))) := by
    have F : f_X5_readWord_L4 5996 20 1 (nI (wMx B p)) (nI 4) h = some (-1, sI h 20 4 (nI (p + wMx B p))) := by
      rw [f_X5_readWord_L4, if_pos (by decide)]
      simp only [sO20 hs, gd_e, vl_e, e4, nI_add]
    have A3 := readWord_s hs tp (w := 3) (a := max (max (max 0 (mW B p 0)) (mW B p 1)) (mW B p 2)) (by decide) hp (by omega) e4 5996
    have A2 := readWord_s hs tp (w := 2) (a := max (max 0 (mW B p 0)) (mW B p 1)) (by decide) hp (by omega) e4 5997
    have A1 := readWord_s hs tp (w := 1) (a := max 0 (mW B p 0)) (by decide) hp (by omega) e4 5998
    have A0 := readWord_s hs tp (w := 0) (a := 0) (by decide) hp (by omega) e4 5999
    have F' : f_X5_readWord_L4 5996 20 1 (nI (max (max (max (max 0 (mW B p 0)) (mW B p 1)) (mW B p 2)) (mW B p 3))) (nI (3 + 1)) h = some (-1, sI h 20 4 (nI (p + wMx B p))) := F
    rw [F', k3'] at A3
    rw [show 2 + 1 = 3 from rfl, A3, k2'] at A2
    rw [show 1 + 1 = 2 from rfl, A2, k1'] at A1
    rw [show 0 + 1 = 1 from rfl, A1, k0'] at A0
    exact A0
  rw [E]
  rcases wd_c B p with ⟨w, hw, f1, f2, f3, -⟩ | ⟨f1, -⟩
  · rw [f1]
    by_cases a0 : mW B p 0 = 3
    · unfold fw at f1
      rw [if_pos a0] at f1
      cases f1
      rw [if_pos a0, f3, k0']; rfl
    · by_cases a1 : mW B p 1 = 5
      · unfold fw at f1
        rw [if_neg a0, if_pos a1] at f1
        cases f1
        rw [if_neg a0, if_pos a1, f3, k1']; rfl
      · by_cases a2 : mW B p 2 = 5
        · unfold fw at f1
          rw [if_neg a0, if_neg a1, if_pos a2] at f1
          cases f1
          rw [if_neg a0, if_neg a1, if_pos a2, f3, k2']; rfl
        · by_cases a3 : mW B p 3 = 5
          · unfold fw at f1
            rw [if_neg a0, if_neg a1, if_neg a2, if_pos a3] at f1
            cases f1
            rw [if_neg a0, if_neg a1, if_neg a2, if_pos a3, f3, k3']; rfl
          · unfold fw at f1
            rw [if_neg a0, if_neg a1, if_neg a2, if_neg a3] at f1
            cases f1
  · rw [f1]
    by_cases a0 : mW B p 0 = 3
    · unfold fw at f1; rw [if_pos a0] at f1; cases f1
    · by_cases a1 : mW B p 1 = 5
      · unfold fw at f1; rw [if_neg a0, if_pos a1] at f1; cases f1
      · by_cases a2 : mW B p 2 = 5
        · unfold fw at f1; rw [if_neg a0, if_neg a1, if_pos a2] at f1; cases f1
        · by_cases a3 : mW B p 3 = 5
          · unfold fw at f1; rw [if_neg a0, if_neg a1, if_neg a2, if_pos a3] at f1; cases f1
          · rw [if_neg a0, if_neg a1, if_neg a2, if_neg a3]; rfl
/-- digits and numbers -/
def dgt (b : Int32) : Option Nat := if 48 ≤ b.toInt ∧ b.toInt ≤ 57 then some (b.toInt.toNat - 48) else none
theorem dgt_t {b : Int32} {d : Nat} (e : dgt b = some d) : d ≤ 9 ∧ b = nI (48 + d) := by
  unfold dgt at e
  by_cases c : 48 ≤ b.toInt ∧ b.toInt ≤ 57
  · rw [if_pos c] at e
    cases e
    refine ⟨by omega, ?_⟩
    rw [eq_iff, nI_toInt (by omega)]
    omega
  · rw [if_neg c] at e; cases e
theorem dgt_f {b : Int32} (e : dgt b = none) : b < (48 : Int32) ∨ (¬ b < (48 : Int32) ∧ (57 : Int32) < b) := by
  unfold dgt at e
  by_cases c : 48 ≤ b.toInt ∧ b.toInt ≤ 57
  · rw [if_pos c] at e; cases e
  · rw [lt_iff, lt_iff]
    show b.toInt < 48 ∨ (¬ b.toInt < 48 ∧ 57 < b.toInt)
    omega
def numP (B : Nat → Int32) : Nat → Nat → Nat → Nat × Nat
  | 0, v, p => (v, p)
  | r + 1, v, p => if v = 0 then (v, p) else match dgt (B p) with
    | none => (v, p)
    | some d => numP B r (10 * v + d) (p + 1)
def numF (B : Nat → Int32) (least p : Nat) : Option Nat × Nat := match dgt (B p) with
  | none => (none, p)
  | some d => if d < least then (none, p) else (some (numP B 3 d (p + 1)).1, (numP B 3 d (p + 1)).2)
theorem numP_0 {B : Nat → Int32} {v p : Nat} (r : Nat) (h : v = 0) : numP B r v p = (v, p) := by
  cases r with
  | zero => rfl
  | succ r => rw [numP, if_pos h]
theorem numP_n {B : Nat → Int32} {r v p : Nat} (h : dgt (B p) = none) : numP B r v p = (v, p) := by
  cases r with
  | zero => rfl
  | succ r =>
    rw [numP, h]
    split <;> rfl
theorem numP_s {B : Nat → Int32} {r v p d : Nat} (h : ¬ v = 0) (e : dgt (B p) = some d) : numP B (r + 1) v p = numP B r (10 * v + d) (p + 1) := by
  rw [numP, if_neg h, e]
theorem in_tape {B : Nat → Int32} {z p d : Nat} (hB : ∀ j, z ≤ j → B j = -1) (e : dgt (B p) = some d) : p < z := by
  rcases Nat.lt_or_ge p z with c | c
  · exact c
  · rw [hB p c] at e
    rw [show dgt (-1) = none by decide] at e
    cases e
theorem numP_b {B : Nat → Int32} {z : Nat} (hB : ∀ j, z ≤ j → B j = -1) : ∀ (r v p : Nat), p ≤ z → v < 10 ^ (4 - r) → r ≤ 4 → (numP B r v p).2 ≤ z ∧ p ≤ (numP B r v p).2 ∧ (numP B r v p).1 < 10000 ∧ v ≤ (numP B r v p).1
  | 0, v, p, h1, h2, _ => ⟨h1, Nat.le_refl _, h2, Nat.le_refl _⟩
  | r + 1, v, p, h1, h2, h3 => by
    have hv : v < 10000 := by
      have : 10 ^ (4 - (r + 1)) ≤ 10 ^ 4 := Nat.pow_le_pow_right (by decide) (by omega)
      omega
    by_cases c : v = 0
    · rw [numP_0 _ c]; exact ⟨h1, Nat.le_refl _, hv, Nat.le_refl _⟩
    · cases e : dgt (B p) with
      | none => rw [numP_n e]; exact ⟨h1, Nat.le_refl _, hv, Nat.le_refl _⟩
      | some d =>
        rw [numP_s c e]
        have hd := (dgt_t e).1
        have hp := in_tape hB e
        have e2 : 10 ^ (4 - r) = 10 ^ (4 - (r + 1)) * 10 := by rw [← Nat.pow_succ]; congr 1; omega
        have := numP_b hB r (10 * v + d) (p + 1) (by omega) (by omega) (by omega)
        omega
set_option maxRecDepth 100000 in
theorem digit_e {h : Hp} (hs : SH h) {B : Nat → Int32} {z p : Nat} (tp : TpC h B z) (hp : p ≤ 1000) (e4 : gI h 20 4 = nI p) : f_X5_digitHere h 20 1 = some (wI (dgt (B p)), h) := by
  have b1 := byteAt_e hs tp (p := p) (by omega)
  cases e : dgt (B p) with
  | none =>
    rcases dgt_f e with q | ⟨q1, q2⟩
    · simp only [f_X5_digitHere, sO20 hs, sO1 hs, gd_e, vl_e, e4, b1, bnd_e, q, if_true, wI]
    · simp only [f_X5_digitHere, sO20 hs, sO1 hs, gd_e, vl_e, e4, b1, bnd_e, q1, q2, if_true, if_false, wI]
  | some d =>
    obtain ⟨q1, q2⟩ := dgt_t e
    have x1 : ¬ nI (48 + d) < (48 : Int32) := nI_nlt (b := 48) (by omega) (by omega)
    have x2 : ¬ (57 : Int32) < nI (48 + d) := nI_nlt (a := 57) (by omega) (by decide)
    have x3 : nI (48 + d) - (48 : Int32) = nI d := by rw [show (48 : Int32) = nI 48 from rfl, pk_sub (by omega)]; congr 1; omega
    simp only [f_X5_digitHere, sO20 hs, sO1 hs, gd_e, vl_e, e4, b1, bnd_e, q2, x1, x2, x3, if_false, wI]
def P20 (a k : Nat) : Prop := a = 20 ∧ k = 4
set_option maxRecDepth 100000 in
theorem readN_L {h : Hp} (hs : SH h) {B : Nat → Int32} {z : Nat} (tp : TpC h B z) (x : Int32) : ∀ (r fuel v p : Nat) (hh : Hp), r ≤ 3 → r < fuel → p ≤ z → v < 10 ^ (4 - r) → Upd h hh P20 → gI hh 20 4 = nI p → ∃ h2, f_X5_readNumber_L26 fuel 20 1 x (nI v) (nI (4 - r)) hh = some (nI (numP B r v p).1, h2) ∧ Upd h h2 P20 ∧ gI h2 20 4 = nI (numP B r v p).2 := by
  intro r
  induction r with
  | zero =>
    intro fuel v p hh h1 h2 h3 h4 u e4
    match fuel, h2 with
    | fuel + 1, _ =>
      refine ⟨hh, ?_, u, e4⟩
      rw [f_X5_readNumber_L26, if_pos (by decide)]
      rfl
  | succ r ih =>
    intro fuel v p hh h1 h2 h3 h4 u e4
    have hz := tp.2.1
    have hv : v < 10000 := by
      have : 10 ^ (4 - (r + 1)) ≤ 10 ^ 4 := Nat.pow_le_pow_right (by decide) (by omega)
      omega
    match fuel, h2 with
    | fuel + 1, h2 =>
      have hsh := u.sh hs
      have tph : TpC hh B z := tp.fr u (by unfold P20; omega) (fun k => by unfold P20; omega)
      have x0 : ¬ (4 : Int32) ≤ nI (4 - (r + 1)) := nI_ge (b := 4) (by omega) (by decide)
      by_cases c : v = 0
      · rw [numP_0 _ c]
        refine ⟨hh, ?_, u, e4⟩
        rw [f_X5_readNumber_L26, if_neg x0, if_pos (by rw [c]; decide)]
      · have x1 : ¬ nI v ≤ 0 := nI_nle (by omega) (by omega)
        have de := digit_e hsh tph (by omega) e4
        cases e : dgt (B p) with
        | none =>
          rw [e] at de
          rw [numP_n e]
          refine ⟨hh, ?_, u, e4⟩
          rw [f_X5_readNumber_L26]
          simp only [x0, x1, sO20 hsh, gd_e, de, bnd_e, wI, if_false, if_true]
        | some d =>
          rw [e] at de
          rw [numP_s c e]
          have hd := (dgt_t e).1
          have hp := in_tape tp.2.2.2 e
          have e2 : 10 ^ (4 - r) = 10 ^ (4 - (r + 1)) * 10 := by rw [← Nat.pow_succ]; congr 1; omega
          have y1 : ¬ nI d = (-1 : Int32) := by rw [eq_iff, nI_toInt (by omega)]; show ¬ (d : Int) = -1; omega
          have y2 : (10 : Int32) * nI v + nI d = nI (10 * v + d) := by rw [show (10 : Int32) = nI 10 from rfl, pk_mul, nI_add]
          have y3 : nI (4 - (r + 1)) + 1 = nI (4 - r) := by rw [nI_1]; congr 1; omega
          obtain ⟨h2', q1, q2, q3⟩ := ih fuel (10 * v + d) (p + 1) (sI hh 20 4 (nI (p + 1))) (by omega) (by omega) (by omega) (by omega) (u.tr (Upd_sI ⟨rfl, rfl⟩)) (by rw [xI_sI, if_pos ⟨rfl, rfl⟩])
          refine ⟨h2', ?_, q2, q3⟩
          rw [f_X5_readNumber_L26]
          simp only [x0, x1, sO20 hsh, gd_e, de, bnd_e, wI, y1, if_false, vl_e, e4, y2, y3, nI_1]
          exact q1
set_option maxRecDepth 100000 in
theorem readNumber_e {h : Hp} (hs : SH h) {B : Nat → Int32} {z p least : Nat} (tp : TpC h B z) (hl : least ≤ 1) (hp : p ≤ z) (e4 : gI h 20 4 = nI p) : ∃ h2, f_X5_readNumber h 20 1 (nI least) = some (wI (numF B least p).1, h2) ∧ Upd h h2 P20 ∧ gI h2 20 4 = nI (numF B least p).2 := by
  have hz := tp.2.1
  have de := digit_e hs tp (by omega) e4
  unfold numF
  cases e : dgt (B p) with
  | none =>
    rw [e] at de
    have y : ¬ nI least ≤ (-1 : Int32) := by rw [le_iff, nI_toInt (by omega)]; show ¬ (least : Int) ≤ -1; omega
    refine ⟨h, ?_, Upd_rf _ _, e4⟩
    simp only [f_X5_readNumber, sO20 hs, gd_e, de, bnd_e, wI, y, if_false]
  | some d =>
    rw [e] at de
    have hd := (dgt_t e).1
    have hp := in_tape tp.2.2.2 e
    by_cases c : d < least
    · simp only [c, if_true]
      have y : ¬ nI least ≤ nI d := nI_ge c (by omega)
      refine ⟨h, ?_, Upd_rf _ _, e4⟩
      simp only [f_X5_readNumber, sO20 hs, gd_e, de, bnd_e, wI, y, if_false]
    · simp only [c, if_false]
      have y : nI least ≤ nI d := nI_le (by omega) (by omega)
      obtain ⟨h2, q1, q2, q3⟩ := readN_L hs tp (nI least) 3 6000 d (p + 1) (sI h 20 4 (nI (p + 1))) (by omega) (by omega) (by omega) (by omega) (Upd_sI ⟨rfl, rfl⟩) (by rw [xI_sI, if_pos ⟨rfl, rfl⟩])
      refine ⟨h2, ?_, q2, q3⟩
      simp only [f_X5_readNumber, sO20 hs, gd_e, de, bnd_e, wI, y, if_true, vl_e, e4, nI_1]
      exact q1
theorem skip_e {h : Hp} (hs : SH h) {B : Nat → Int32} {z p : Nat} (tp : TpC h B z) (hp : p ≤ 1000) (e4 : gI h 20 4 = nI p) (c : Int32) : f_X5_skip h 20 1 c = if B p = c then some (1, sI h 20 4 (nI (p + 1))) else some (0, h) := by
  have b1 := byteAt_e hs tp (p := p) (by omega)
  simp only [f_X5_skip, sO20 hs, sO1 hs, gd_e, vl_e, e4, b1, bnd_e, nI_1]
