set_option maxRecDepth 100000 in
theorem ordm_L4 (h : Hp) (a : Int32) (K : Nat → Int32 → Int32 → Int32 → Hp → Option (Int32 × Hp)) : ∃ y : Int32, f_X10_order_L4 K 6000 45 a 0 0 h = K 45 a y (nI 12) h ∧ ∀ S, S < 4096 → a = nI S → y = nI (foS S 12).length := by
  refine forL 12 (fun m f (y : Int32) => f_X10_order_L4 K m 45 a y (nI f) h) (fun f y => ∀ S, S < 4096 → a = nI S → y = nI (foS S f).length) (fun x => ∃ y : Int32, x = K 45 a y (nI 12) h ∧ ∀ S, S < 4096 → a = nI S → y = nI (foS S 12).length) ?_ ?_ 12 6000 0 0 (by omega) (by omega) (fun S _ _ => rfl)
  · intro m f y hf I
    have x0 : ¬ (12 : Int32) ≤ nI f := nI_ge (b := 12) hf (by decide)
    refine Or.inr ⟨y + ((a >>> (nI f &&& 31)) &&& (1 : Int32)), ?_, fun S hS e => ?_⟩
    · rw [f_X10_order_L4, if_neg x0, vl_e, vl_e, nI_1]
    · rw [e, bit_s hS hf, I S hS e, nI_add]
      congr 1
      show (foS S f).length + (if S.testBit f = true then 1 else 0) = (if S.testBit f = true then foS S f ++ [f] else foS S f).length
      cases S.testBit f with
      | false => rfl
      | true => simp
  · intro m y I
    refine ⟨y, ?_, I⟩
    show f_X10_order_L4 K (m + 1) 45 a y (nI 12) h = _
    rw [f_X10_order_L4, if_pos (by decide)]
set_option maxRecDepth 100000 in
theorem ordm_L50 {h : Hp} (hs : SH h) {S : Nat} (hS : S < 4096) (hn : (foS S 12).length ≤ 7) (K : Nat → Int32 → Int32 → Int32 → Int32 → Hp → Option (Int32 × Hp)) (x : Int32) : ∃ h2, f_X10_order_L50 K 6000 45 (nI S) x 0 0 h = K 45 (nI S) x (nI (foS S 12).length) (nI 12) h2 ∧ Upd h h2 (fun a _ => a = 75) ∧ ∀ k, k < (foS S 12).length → gI h2 75 k = nI ((foS S 12).getD k 0) := by
  refine forL 12 (fun m f (hh : Hp) => f_X10_order_L50 K m 45 (nI S) x (nI (foS S f).length) (nI f) hh) (fun f hh => Upd h hh (fun a _ => a = 75) ∧ ∀ k, k < (foS S f).length → gI hh 75 k = nI ((foS S f).getD k 0)) (fun y => ∃ h2, y = K 45 (nI S) x (nI (foS S 12).length) (nI 12) h2 ∧ Upd h h2 (fun a _ => a = 75) ∧ ∀ k, k < (foS S 12).length → gI h2 75 k = nI ((foS S 12).getD k 0)) ?_ ?_ 12 6000 0 h (by omega) (by omega) ⟨Upd_rf _ _, fun k hk => absurd hk (Nat.not_lt_zero k)⟩
  · intro m f hh hf ⟨I1, I3⟩
    have hsh := I1.sh hs
    have x0 : ¬ (12 : Int32) ≤ nI f := nI_ge (b := 12) hf (by decide)
    right
    cases b : S.testBit f with
    | false =>
      have y1 : ((nI S >>> (nI f &&& 31)) &&& (1 : Int32)) = 0 := by rw [bit_s hS hf, b]; rfl
      have ef : foS S (f + 1) = foS S f := by
        show (if S.testBit f = true then foS S f ++ [f] else foS S f) = _
        rw [b]; rfl
      refine ⟨hh, ?_, I1, by rw [ef]; exact I3⟩
      rw [ef, f_X10_order_L50]
      simp only [x0, y1, nI_1, hsh, and_self, if_true, if_false, n_1_0, n_0_0, okOb_sI, okAb_sI, okOb_sW, okAb_sW, vl_e, un_e, nl_s, nl_n, bnd_e, gd_e, SH_sI, SH_sW, xI_sI, xR_sI, xL_sI, xK_sI, xN_sI, gI_sW, xR_sW, xL_sW, xK_sW, xN_sW, sO0, sO1, sO2, sA2, sL2, sO3, sA3, sL3, sO4, sA4, sL4, sO5, sA5, sL5, sO6, sA6, sL6, sO7, sA7, sL7, sO8, sA8, sL8, sO9, sO10, sA10, sL10, sO11, sA11, sL11, sO12, sA12, sL12, sO13, sO14, sA14, sL14, sO15, sA15, sL15, sO16, sA16, sL16, sO17, sA17, sL17, sO18, sA18, sL18, sO19, sA19, sL19, sO20, sO21, sA21, sL21, sO22, sA22, sL22, sO23, sA23, sL23, sO24, sA24, sL24, sO25, sO26, sA26, sL26, sO27, sA27, sL27, sO28, sA28, sL28, sO29, sA29, sL29, sO30, sA30, sL30, sO31, sA31, sL31, sO32, sA32, sL32, sO33, sO34, sA34, sL34, sO35, sA35, sL35, sO36, sA36, sL36, sO37, sO38, sA38, sL38, sO39, sA39, sL39, sO40, sA40, sL40, sO41, sO42, sA42, sL42, sO43, sA43, sL43, sO44, sA44, sL44, sO45, sO46, sA46, sL46, sO47, sA47, sL47, sO48, sA48, sL48, sO49, sA49, sL49, sO50, sA50, sL50, sO51, sA51, sL51, sO52, sA52, sL52, sO53, sA53, sL53, sO54, sA54, sL54, sO55, sA55, sL55, sO56, sA56, sL56, sO57, sA57, sL57, sO58, sA58, sL58, sO59, sA59, sL59, sO60, sA60, sL60, sO61, sA61, sL61, sO62, sA62, sL62, sO63, sA63, sL63, sO64, sA64, sL64, sO65, sA65, sL65, sO66, sA66, sL66, sO67, sA67, sL67, sO68, sA68, sL68, sO69, sA69, sL69, sO70, sA70, sL70, sO71, sA71, sL71, sO72, sA72, sL72, sO73, sA73, sL73, sO74, sA74, sL74, sO75, sA75, sL75, sO76, sA76, sL76, sO77, sA77, sL77, sO78, sA78, sL78, sO79, sA79, sL79, sO80, sA80, sL80, sO81, sA81, sL81, sO82, sA82, sL82, sO83, sA83, sL83, sO84, sA84, sL84, sO85, sA85, sL85, sO86, sA86, sL86, sO87, sA87, sL87, sR0_0, sR0_1, sR0_2, sR0_3, sR0_5, sR0_6, sR0_8, sR0_10, sR0_11, sR0_12, sR0_13, sR1_0, sR6_0, sR6_1, sR6_2, sR9_0, sR9_1, sR9_2, sR13_0, sR13_1, sR13_2, sR13_3, sR13_4, sR13_5, sR20_0, sR20_1, sR20_2, sR20_3, sR25_0, sR25_1, sR25_2, sR25_4, sR25_5, sR25_6, sR25_7, sR33_2, sR33_3, sR37_2, sR37_3, sR41_2, sR41_3, sR45_0, sR45_1, sR45_3, sR45_4, sR45_5, sR45_6, sR45_7, sR45_8, sR45_9, sR45_10, sR45_12, sR45_13, sR45_14, sR45_15, sR45_16, sR45_17, sR45_18, sR45_19, sR45_20, sR45_21, sR45_22, sR45_25, sR45_26, sR45_27, sR45_28, sR45_29, sR45_30, sR45_31, sR45_32, sR45_33, sR45_34, sR45_35, sR45_36, sR45_40, sR45_41, sR45_42, sR45_43, sR45_45, sR45_46, sR45_47, sR45_48, sR45_49]
    | true =>
      have y1 : ¬ ((nI S >>> (nI f &&& 31)) &&& (1 : Int32)) = 0 := by rw [bit_s hS hf, b]; decide
      have ef : foS S (f + 1) = foS S f ++ [f] := by
        show (if S.testBit f = true then foS S f ++ [f] else foS S f) = _
        rw [b]; rfl
      obtain ⟨r, er⟩ := foS_pre S (f + 1) (12 - (f + 1))
      rw [show f + 1 + (12 - (f + 1)) = 12 by omega] at er
      have lr : (foS S 12).length = (foS S f).length + 1 + r.length := by rw [er, ef, List.length_append, List.length_append, List.length_singleton]
      have z1 : (nI (foS S f).length).toNatClampNeg = (foS S f).length := nI_clamp (by omega)
      have z2 : inB (nI (foS S f).length) 7 = true := inB_nI (by omega) (by decide)
      refine ⟨sI hh 75 (foS S f).length (nI f), ?_, I1.tr (Upd_sI rfl), fun k hk => ?_⟩
      · rw [ef, List.length_append, List.length_singleton, f_X10_order_L50]
        simp only [x0, y1, z1, z2, nI_1, hsh, and_self, if_true, if_false, n_1_0, n_0_0, okOb_sI, okAb_sI, okOb_sW, okAb_sW, vl_e, un_e, nl_s, nl_n, bnd_e, gd_e, SH_sI, SH_sW, xI_sI, xR_sI, xL_sI, xK_sI, xN_sI, gI_sW, xR_sW, xL_sW, xK_sW, xN_sW, sO0, sO1, sO2, sA2, sL2, sO3, sA3, sL3, sO4, sA4, sL4, sO5, sA5, sL5, sO6, sA6, sL6, sO7, sA7, sL7, sO8, sA8, sL8, sO9, sO10, sA10, sL10, sO11, sA11, sL11, sO12, sA12, sL12, sO13, sO14, sA14, sL14, sO15, sA15, sL15, sO16, sA16, sL16, sO17, sA17, sL17, sO18, sA18, sL18, sO19, sA19, sL19, sO20, sO21, sA21, sL21, sO22, sA22, sL22, sO23, sA23, sL23, sO24, sA24, sL24, sO25, sO26, sA26, sL26, sO27, sA27, sL27, sO28, sA28, sL28, sO29, sA29, sL29, sO30, sA30, sL30, sO31, sA31, sL31, sO32, sA32, sL32, sO33, sO34, sA34, sL34, sO35, sA35, sL35, sO36, sA36, sL36, sO37, sO38, sA38, sL38, sO39, sA39, sL39, sO40, sA40, sL40, sO41, sO42, sA42, sL42, sO43, sA43, sL43, sO44, sA44, sL44, sO45, sO46, sA46, sL46, sO47, sA47, sL47, sO48, sA48, sL48, sO49, sA49, sL49, sO50, sA50, sL50, sO51, sA51, sL51, sO52, sA52, sL52, sO53, sA53, sL53, sO54, sA54, sL54, sO55, sA55, sL55, sO56, sA56, sL56, sO57, sA57, sL57, sO58, sA58, sL58, sO59, sA59, sL59, sO60, sA60, sL60, sO61, sA61, sL61, sO62, sA62, sL62, sO63, sA63, sL63, sO64, sA64, sL64, sO65, sA65, sL65, sO66, sA66, sL66, sO67, sA67, sL67, sO68, sA68, sL68, sO69, sA69, sL69, sO70, sA70, sL70, sO71, sA71, sL71, sO72, sA72, sL72, sO73, sA73, sL73, sO74, sA74, sL74, sO75, sA75, sL75, sO76, sA76, sL76, sO77, sA77, sL77, sO78, sA78, sL78, sO79, sA79, sL79, sO80, sA80, sL80, sO81, sA81, sL81, sO82, sA82, sL82, sO83, sA83, sL83, sO84, sA84, sL84, sO85, sA85, sL85, sO86, sA86, sL86, sO87, sA87, sL87, sR0_0, sR0_1, sR0_2, sR0_3, sR0_5, sR0_6, sR0_8, sR0_10, sR0_11, sR0_12, sR0_13, sR1_0, sR6_0, sR6_1, sR6_2, sR9_0, sR9_1, sR9_2, sR13_0, sR13_1, sR13_2, sR13_3, sR13_4, sR13_5, sR20_0, sR20_1, sR20_2, sR20_3, sR25_0, sR25_1, sR25_2, sR25_4, sR25_5, sR25_6, sR25_7, sR33_2, sR33_3, sR37_2, sR37_3, sR41_2, sR41_3, sR45_0, sR45_1, sR45_3, sR45_4, sR45_5, sR45_6, sR45_7, sR45_8, sR45_9, sR45_10, sR45_12, sR45_13, sR45_14, sR45_15, sR45_16, sR45_17, sR45_18, sR45_19, sR45_20, sR45_21, sR45_22, sR45_25, sR45_26, sR45_27, sR45_28, sR45_29, sR45_30, sR45_31, sR45_32, sR45_33, sR45_34, sR45_35, sR45_36, sR45_40, sR45_41, sR45_42, sR45_43, sR45_45, sR45_46, sR45_47, sR45_48, sR45_49]
      · rw [ef] at hk ⊢
        rw [List.length_append, List.length_singleton] at hk
        rw [xI_sI]
        by_cases ck : k = (foS S f).length
        · rw [if_pos ⟨rfl, ck⟩, ck, getD_last]
        · rw [if_neg (fun w => ck w.2), getD_lt (by omega)]; exact I3 k (by omega)
  · intro m hh ⟨I1, I3⟩
    refine ⟨hh, ?_, I1, I3⟩
    show f_X10_order_L50 K (m + 1) 45 (nI S) x (nI (foS S 12).length) (nI 12) hh = _
    rw [f_X10_order_L50, if_pos (by decide)]
theorem o_d12 {k : Nat} (hk : k < 2 ^ 31) : nI k / (12 : Int32) = nI (k / 12) := pk_div (d := 12) hk (by decide) (by decide)
theorem o_r12 {k : Nat} (hk : k < 2 ^ 31) : nI k - nI k / (12 : Int32) * (12 : Int32) = nI (k % 12) := pk_rem (d := 12) hk (by decide) (by decide)
set_option maxRecDepth 100000 in
theorem ordm_L89 {h : Hp} (hs : SH h) (ib : IB h) (K : Nat → Int32 → Int32 → Int32 → Int32 → Hp → Option (Int32 × Hp)) (x y z : Int32) : ∃ h2, f_X10_order_L89 K 6000 45 x y z 0 h = K 45 x y z (nI 144) h2 ∧ Upd h h2 (fun a _ => a = 78) ∧ ∀ k, k < 144 → gI h2 78 k = nI (qN h (k / 12) (k % 12)) := by
  refine forL 144 (fun m k (hh : Hp) => f_X10_order_L89 K m 45 x y z (nI k) hh) (fun k hh => Upd h hh (fun a _ => a = 78) ∧ ∀ j, j < k → gI hh 78 j = nI (qN h (j / 12) (j % 12))) (fun w => ∃ h2, w = K 45 x y z (nI 144) h2 ∧ Upd h h2 (fun a _ => a = 78) ∧ ∀ k, k < 144 → gI h2 78 k = nI (qN h (k / 12) (k % 12))) ?_ ?_ 144 6000 0 h (by omega) (by omega) ⟨Upd_rf _ _, fun k hk => absurd hk (Nat.not_lt_zero k)⟩
  · intro m k hh hk ⟨I1, I2⟩
    have hsh := I1.sh hs
    have x0 : ¬ (144 : Int32) ≤ nI k := nI_ge (b := 144) hk (by decide)
    have ibh : IB hh := ib.fr I1 (fun _ => by omega)
    have qe := quarrels_e hsh ibh (x := k / 12) (y := k % 12) (by omega) (by omega)
    rw [qN_fr I1 (fun _ => by omega)] at qe
    have z1 : (nI k).toNatClampNeg = k := nI_clamp (by omega)
    have z2 : inB (nI k) 144 = true := inB_nI (by omega) (by decide)
    refine Or.inr ⟨sI hh 78 k (nI (qN h (k / 12) (k % 12))), ?_, I1.tr (Upd_sI rfl), fun j hj => ?_⟩
    · rw [f_X10_order_L89, o_r12 (by omega), o_d12 (by omega)]
      simp only [x0, qe, z1, z2, nI_1, hsh, and_self, if_true, if_false, n_1_0, n_0_0, okOb_sI, okAb_sI, okOb_sW, okAb_sW, vl_e, un_e, nl_s, nl_n, bnd_e, gd_e, SH_sI, SH_sW, xI_sI, xR_sI, xL_sI, xK_sI, xN_sI, gI_sW, xR_sW, xL_sW, xK_sW, xN_sW, sO0, sO1, sO2, sA2, sL2, sO3, sA3, sL3, sO4, sA4, sL4, sO5, sA5, sL5, sO6, sA6, sL6, sO7, sA7, sL7, sO8, sA8, sL8, sO9, sO10, sA10, sL10, sO11, sA11, sL11, sO12, sA12, sL12, sO13, sO14, sA14, sL14, sO15, sA15, sL15, sO16, sA16, sL16, sO17, sA17, sL17, sO18, sA18, sL18, sO19, sA19, sL19, sO20, sO21, sA21, sL21, sO22, sA22, sL22, sO23, sA23, sL23, sO24, sA24, sL24, sO25, sO26, sA26, sL26, sO27, sA27, sL27, sO28, sA28, sL28, sO29, sA29, sL29, sO30, sA30, sL30, sO31, sA31, sL31, sO32, sA32, sL32, sO33, sO34, sA34, sL34, sO35, sA35, sL35, sO36, sA36, sL36, sO37, sO38, sA38, sL38, sO39, sA39, sL39, sO40, sA40, sL40, sO41, sO42, sA42, sL42, sO43, sA43, sL43, sO44, sA44, sL44, sO45, sO46, sA46, sL46, sO47, sA47, sL47, sO48, sA48, sL48, sO49, sA49, sL49, sO50, sA50, sL50, sO51, sA51, sL51, sO52, sA52, sL52, sO53, sA53, sL53, sO54, sA54, sL54, sO55, sA55, sL55, sO56, sA56, sL56, sO57, sA57, sL57, sO58, sA58, sL58, sO59, sA59, sL59, sO60, sA60, sL60, sO61, sA61, sL61, sO62, sA62, sL62, sO63, sA63, sL63, sO64, sA64, sL64, sO65, sA65, sL65, sO66, sA66, sL66, sO67, sA67, sL67, sO68, sA68, sL68, sO69, sA69, sL69, sO70, sA70, sL70, sO71, sA71, sL71, sO72, sA72, sL72, sO73, sA73, sL73, sO74, sA74, sL74, sO75, sA75, sL75, sO76, sA76, sL76, sO77, sA77, sL77, sO78, sA78, sL78, sO79, sA79, sL79, sO80, sA80, sL80, sO81, sA81, sL81, sO82, sA82, sL82, sO83, sA83, sL83, sO84, sA84, sL84, sO85, sA85, sL85, sO86, sA86, sL86, sO87, sA87, sL87, sR0_0, sR0_1, sR0_2, sR0_3, sR0_5, sR0_6, sR0_8, sR0_10, sR0_11, sR0_12, sR0_13, sR1_0, sR6_0, sR6_1, sR6_2, sR9_0, sR9_1, sR9_2, sR13_0, sR13_1, sR13_2, sR13_3, sR13_4, sR13_5, sR20_0, sR20_1, sR20_2, sR20_3, sR25_0, sR25_1, sR25_2, sR25_4, sR25_5, sR25_6, sR25_7, sR33_2, sR33_3, sR37_2, sR37_3, sR41_2, sR41_3, sR45_0, sR45_1, sR45_3, sR45_4, sR45_5, sR45_6, sR45_7, sR45_8, sR45_9, sR45_10, sR45_12, sR45_13, sR45_14, sR45_15, sR45_16, sR45_17, sR45_18, sR45_19, sR45_20, sR45_21, sR45_22, sR45_25, sR45_26, sR45_27, sR45_28, sR45_29, sR45_30, sR45_31, sR45_32, sR45_33, sR45_34, sR45_35, sR45_36, sR45_40, sR45_41, sR45_42, sR45_43, sR45_45, sR45_46, sR45_47, sR45_48, sR45_49]
    · rw [xI_sI]
      by_cases cj : j = k
      · rw [if_pos ⟨rfl, cj⟩, cj]
      · rw [if_neg (fun w => cj w.2)]; exact I2 j (by omega)
  · intro m hh ⟨I1, I2⟩
    refine ⟨hh, ?_, I1, I2⟩
    show f_X10_order_L89 K (m + 1) 45 x y z (nI 144) hh = _
    rw [f_X10_order_L89, if_pos (by decide)]
theorem drop_c {r : List Nat} {i : Nat} (hi : i < r.length) : r.drop i = r.getD i 0 :: r.drop (i + 1) := by
  rw [List.drop_eq_getElem_cons hi, List.getD_eq_getElem?_getD, List.getElem?_eq_getElem hi]
  rfl
theorem drop_n {r : List Nat} : r.drop r.length = [] := List.drop_length
set_option maxRecDepth 100000 in
theorem ordm_L155 {h : Hp} (hs : SH h) {q g : Nat → Nat} {n i : Nat} {r : List Nat} (hn : n ≤ 7) (hl : r.length = n) (hi : i < n) (e75 : ∀ k, k < n → gI h 75 k = nI (g (r.getD k 0)) ∧ g (r.getD k 0) < 12) (e78 : ∀ k, k < n → gI h 78 (12 * g (r.getD i 0) + g (r.getD k 0)) = nI (q (r.getD k 0))) (K : Nat → Int32 → Int32 → Int32 → Int32 → Int32 → Int32 → Int32 → Int32 → Hp → Option (Int32 × Hp)) (a b c d : Int32) : ∀ (m fuel j s : Nat), j + m = n → m < fuel → f_X10_order_L155 K fuel 45 a (nI n) b c d (nI s) (nI i) (nI j) h = K 45 a (nI n) b c d (nI (s + lsm q (r.drop j))) (nI i) (nI n) h := by
  intro m
  induction m with
  | zero =>
    intro fuel j s hj hf
    match fuel, hf with
    | fuel + 1, _ =>
      have : j = n := by omega
      subst this
      rw [f_X10_order_L155, if_pos (nI_le (Nat.le_refl _) (by omega)), ← hl, drop_n]
      rfl
  | succ m ih =>
    intro fuel j s hj hf
    match fuel, hf with
    | fuel + 1, hf =>
      have x0 : ¬ nI n ≤ nI j := nI_ge (by omega) (by omega)
      have z1 : (nI i).toNatClampNeg = i := nI_clamp (by omega)
      have z2 : inB (nI i) 7 = true := inB_nI (by omega) (by decide)
      have z3 : (nI j).toNatClampNeg = j := nI_clamp (by omega)
      have z4 : inB (nI j) 7 = true := inB_nI (by omega) (by decide)
      obtain ⟨f1, f2⟩ := e75 i hi
      obtain ⟨f3, f4⟩ := e75 j (by omega)
      have z5 : (nI (12 * g (r.getD i 0) + g (r.getD j 0))).toNatClampNeg = 12 * g (r.getD i 0) + g (r.getD j 0) := nI_clamp (by omega)
      have z6 : inB (nI (12 * g (r.getD i 0) + g (r.getD j 0))) 144 = true := inB_nI (by omega) (by decide)
      rw [f_X10_order_L155, drop_c (show j < r.length by omega), lsm, ← Nat.add_assoc, ← ih fuel (j + 1) (s + q (r.getD j 0)) (by omega) (by omega)]
      simp only [x0, z1, z2, z3, z4, z5, z6, f1, f3, o_12m, nI_add, e78 j (by omega), nI_1, hs, and_self, if_true, if_false, n_1_0, n_0_0, okOb_sI, okAb_sI, okOb_sW, okAb_sW, vl_e, un_e, nl_s, nl_n, bnd_e, gd_e, SH_sI, SH_sW, xI_sI, xR_sI, xL_sI, xK_sI, xN_sI, gI_sW, xR_sW, xL_sW, xK_sW, xN_sW, sO0, sO1, sO2, sA2, sL2, sO3, sA3, sL3, sO4, sA4, sL4, sO5, sA5, sL5, sO6, sA6, sL6, sO7, sA7, sL7, sO8, sA8, sL8, sO9, sO10, sA10, sL10, sO11, sA11, sL11, sO12, sA12, sL12, sO13, sO14, sA14, sL14, sO15, sA15, sL15, sO16, sA16, sL16, sO17, sA17, sL17, sO18, sA18, sL18, sO19, sA19, sL19, sO20, sO21, sA21, sL21, sO22, sA22, sL22, sO23, sA23, sL23, sO24, sA24, sL24, sO25, sO26, sA26, sL26, sO27, sA27, sL27, sO28, sA28, sL28, sO29, sA29, sL29, sO30, sA30, sL30, sO31, sA31, sL31, sO32, sA32, sL32, sO33, sO34, sA34, sL34, sO35, sA35, sL35, sO36, sA36, sL36, sO37, sO38, sA38, sL38, sO39, sA39, sL39, sO40, sA40, sL40, sO41, sO42, sA42, sL42, sO43, sA43, sL43, sO44, sA44, sL44, sO45, sO46, sA46, sL46, sO47, sA47, sL47, sO48, sA48, sL48, sO49, sA49, sL49, sO50, sA50, sL50, sO51, sA51, sL51, sO52, sA52, sL52, sO53, sA53, sL53, sO54, sA54, sL54, sO55, sA55, sL55, sO56, sA56, sL56, sO57, sA57, sL57, sO58, sA58, sL58, sO59, sA59, sL59, sO60, sA60, sL60, sO61, sA61, sL61, sO62, sA62, sL62, sO63, sA63, sL63, sO64, sA64, sL64, sO65, sA65, sL65, sO66, sA66, sL66, sO67, sA67, sL67, sO68, sA68, sL68, sO69, sA69, sL69, sO70, sA70, sL70, sO71, sA71, sL71, sO72, sA72, sL72, sO73, sA73, sL73, sO74, sA74, sL74, sO75, sA75, sL75, sO76, sA76, sL76, sO77, sA77, sL77, sO78, sA78, sL78, sO79, sA79, sL79, sO80, sA80, sL80, sO81, sA81, sL81, sO82, sA82, sL82, sO83, sA83, sL83, sO84, sA84, sL84, sO85, sA85, sL85, sO86, sA86, sL86, sO87, sA87, sL87, sR0_0, sR0_1, sR0_2, sR0_3, sR0_5, sR0_6, sR0_8, sR0_10, sR0_11, sR0_12, sR0_13, sR1_0, sR6_0, sR6_1, sR6_2, sR9_0, sR9_1, sR9_2, sR13_0, sR13_1, sR13_2, sR13_3, sR13_4, sR13_5, sR20_0, sR20_1, sR20_2, sR20_3, sR25_0, sR25_1, sR25_2, sR25_4, sR25_5, sR25_6, sR25_7, sR33_2, sR33_3, sR37_2, sR37_3, sR41_2, sR41_3, sR45_0, sR45_1, sR45_3, sR45_4, sR45_5, sR45_6, sR45_7, sR45_8, sR45_9, sR45_10, sR45_12, sR45_13, sR45_14, sR45_15, sR45_16, sR45_17, sR45_18, sR45_19, sR45_20, sR45_21, sR45_22, sR45_25, sR45_26, sR45_27, sR45_28, sR45_29, sR45_30, sR45_31, sR45_32, sR45_33, sR45_34, sR45_35, sR45_36, sR45_40, sR45_41, sR45_42, sR45_43, sR45_45, sR45_46, sR45_47, sR45_48, sR45_49]
set_option maxRecDepth 100000 in
theorem ordm_L143 {h : Hp} (hs : SH h) {Q : Nat → Nat → Nat} {g : Nat → Nat} {n : Nat} {r : List Nat} (hn : n ≤ 7) (hl : r.length = n) (e75 : ∀ k, k < n → gI h 75 k = nI (g (r.getD k 0)) ∧ g (r.getD k 0) < 12) (e78 : ∀ i k, i < n → k < n → gI h 78 (12 * g (r.getD i 0) + g (r.getD k 0)) = nI (Q (r.getD i 0) (r.getD k 0))) (K : Nat → Int32 → Int32 → Int32 → Int32 → Int32 → Int32 → Int32 → Hp → Option (Int32 × Hp)) (a b c d : Int32) : ∀ (m fuel i s : Nat), i + m = n → m < fuel → f_X10_order_L143 K fuel 45 a (nI n) b c d (nI s) (nI i) h = K 45 a (nI n) b c d (nI (s + cst Q (r.drop i))) (nI n) h := by
  intro m
  induction m with
  | zero =>
    intro fuel i s hi hf
    match fuel, hf with
    | fuel + 1, _ =>
      have : i = n := by omega
      subst this
      rw [f_X10_order_L143, if_pos (nI_le (Nat.le_refl _) (by omega)), ← hl, drop_n]
      rfl
  | succ m ih =>
    intro fuel i s hi hf
    match fuel, hf with
    | fuel + 1, hf =>
      have x0 : ¬ nI n ≤ nI i := nI_ge (by omega) (by omega)
      rw [f_X10_order_L143, if_neg x0, vl_e, nI_1, ordm_L155 hs (q := Q (r.getD i 0)) hn hl (by omega) e75 (fun k hk => e78 i k (by omega) hk) _ a b c d m 6000 (i + 1) s (by omega) (by omega), vl_e, nI_1, ih fuel (i + 1) _ (by omega) (by omega), drop_c (show i < r.length by omega), cst, Nat.add_assoc]
set_option maxRecDepth 100000 in
theorem ordm_L220 {h : Hp} (hs : SH h) {n : Nat} (hn : n ≤ 7) (K : Nat → Int32 → Int32 → Int32 → Int32 → Int32 → Int32 → Int32 → Hp → Option (Int32 × Hp)) (a b c d e : Int32) : ∃ h2, f_X10_order_L220 K 6000 45 a (nI n) b c d e 0 h = K 45 a (nI n) b c d e (nI n) h2 ∧ Upd h h2 (fun a _ => a = 77) ∧ ∀ k, k < n → gI h2 77 k = gI h 75 k := by
  refine forL n (fun m k (hh : Hp) => f_X10_order_L220 K m 45 a (nI n) b c d e (nI k) hh) (fun k hh => Upd h hh (fun a _ => a = 77) ∧ ∀ j, j < k → gI hh 77 j = gI h 75 j) (fun x => ∃ h2, x = K 45 a (nI n) b c d e (nI n) h2 ∧ Upd h h2 (fun a _ => a = 77) ∧ ∀ k, k < n → gI h2 77 k = gI h 75 k) ?_ ?_ n 6000 0 h (by omega) (by omega) ⟨Upd_rf _ _, fun j hj => absurd hj (Nat.not_lt_zero j)⟩
  · intro m k hh hk ⟨I1, I2⟩
    have hsh := I1.sh hs
    have x0 : ¬ nI n ≤ nI k := nI_ge hk (by omega)
    have z3 : (nI k).toNatClampNeg = k := nI_clamp (by omega)
    have z4 : inB (nI k) 7 = true := inB_nI (by omega) (by decide)
    refine Or.inr ⟨sI hh 77 k (gI hh 75 k), ?_, I1.tr (Upd_sI rfl), fun j hj => ?_⟩
    · rw [f_X10_order_L220]
      simp only [x0, z3, z4, nI_1, hsh, and_self, if_true, if_false, n_1_0, n_0_0, okOb_sI, okAb_sI, okOb_sW, okAb_sW, vl_e, un_e, nl_s, nl_n, bnd_e, gd_e, SH_sI, SH_sW, xI_sI, xR_sI, xL_sI, xK_sI, xN_sI, gI_sW, xR_sW, xL_sW, xK_sW, xN_sW, sO0, sO1, sO2, sA2, sL2, sO3, sA3, sL3, sO4, sA4, sL4, sO5, sA5, sL5, sO6, sA6, sL6, sO7, sA7, sL7, sO8, sA8, sL8, sO9, sO10, sA10, sL10, sO11, sA11, sL11, sO12, sA12, sL12, sO13, sO14, sA14, sL14, sO15, sA15, sL15, sO16, sA16, sL16, sO17, sA17, sL17, sO18, sA18, sL18, sO19, sA19, sL19, sO20, sO21, sA21, sL21, sO22, sA22, sL22, sO23, sA23, sL23, sO24, sA24, sL24, sO25, sO26, sA26, sL26, sO27, sA27, sL27, sO28, sA28, sL28, sO29, sA29, sL29, sO30, sA30, sL30, sO31, sA31, sL31, sO32, sA32, sL32, sO33, sO34, sA34, sL34, sO35, sA35, sL35, sO36, sA36, sL36, sO37, sO38, sA38, sL38, sO39, sA39, sL39, sO40, sA40, sL40, sO41, sO42, sA42, sL42, sO43, sA43, sL43, sO44, sA44, sL44, sO45, sO46, sA46, sL46, sO47, sA47, sL47, sO48, sA48, sL48, sO49, sA49, sL49, sO50, sA50, sL50, sO51, sA51, sL51, sO52, sA52, sL52, sO53, sA53, sL53, sO54, sA54, sL54, sO55, sA55, sL55, sO56, sA56, sL56, sO57, sA57, sL57, sO58, sA58, sL58, sO59, sA59, sL59, sO60, sA60, sL60, sO61, sA61, sL61, sO62, sA62, sL62, sO63, sA63, sL63, sO64, sA64, sL64, sO65, sA65, sL65, sO66, sA66, sL66, sO67, sA67, sL67, sO68, sA68, sL68, sO69, sA69, sL69, sO70, sA70, sL70, sO71, sA71, sL71, sO72, sA72, sL72, sO73, sA73, sL73, sO74, sA74, sL74, sO75, sA75, sL75, sO76, sA76, sL76, sO77, sA77, sL77, sO78, sA78, sL78, sO79, sA79, sL79, sO80, sA80, sL80, sO81, sA81, sL81, sO82, sA82, sL82, sO83, sA83, sL83, sO84, sA84, sL84, sO85, sA85, sL85, sO86, sA86, sL86, sO87, sA87, sL87, sR0_0, sR0_1, sR0_2, sR0_3, sR0_5, sR0_6, sR0_8, sR0_10, sR0_11, sR0_12, sR0_13, sR1_0, sR6_0, sR6_1, sR6_2, sR9_0, sR9_1, sR9_2, sR13_0, sR13_1, sR13_2, sR13_3, sR13_4, sR13_5, sR20_0, sR20_1, sR20_2, sR20_3, sR25_0, sR25_1, sR25_2, sR25_4, sR25_5, sR25_6, sR25_7, sR33_2, sR33_3, sR37_2, sR37_3, sR41_2, sR41_3, sR45_0, sR45_1, sR45_3, sR45_4, sR45_5, sR45_6, sR45_7, sR45_8, sR45_9, sR45_10, sR45_12, sR45_13, sR45_14, sR45_15, sR45_16, sR45_17, sR45_18, sR45_19, sR45_20, sR45_21, sR45_22, sR45_25, sR45_26, sR45_27, sR45_28, sR45_29, sR45_30, sR45_31, sR45_32, sR45_33, sR45_34, sR45_35, sR45_36, sR45_40, sR45_41, sR45_42, sR45_43, sR45_45, sR45_46, sR45_47, sR45_48, sR45_49]
    · rw [xI_sI]
      by_cases cj : j = k
      · rw [if_pos ⟨rfl, cj⟩, I1.2 _ _ (by omega), cj]
      · rw [if_neg (fun w => cj w.2)]; exact I2 j (by omega)
  · intro m hh ⟨I1, I2⟩
    refine ⟨hh, ?_, I1, I2⟩
    show f_X10_order_L220 K (m + 1) 45 a (nI n) b c d e (nI n) hh = _
    rw [f_X10_order_L220, if_pos (nI_le (Nat.le_refl _) (by omega))]
def PM4 (a k : Nat) : Prop := a = 75 ∨ a = 77 ∨ (a = 45 ∧ k = 38)
def StO (g : Nat → Nat) (l : Int32) (hh : Hp) (n : Nat) (b : Nat × Nat × List Nat) : Prop := l = nI b.1 ∧ b.1 ≤ 1000000 ∧ (b = e0O ∨ (gI hh 45 38 = nI b.2.1 ∧ ∀ k, k < n → gI hh 77 k = nI (g (b.2.2.getD k 0))))
set_option maxRecDepth 100000 in
theorem ordm_s {h : Hp} (hs : SH h) {Q : Nat → Nat → Nat} (hQ : ∀ a k, Q a k ≤ 6) {g : Nat → Nat} {n : Nat} (hn : n ≤ 7) (hg : ∀ k, k < n → g k < 12) (e78 : ∀ x y, x < n → y < n → gI h 78 (12 * g x + g y) = nI (Q x y)) {r : List Nat} (fuel : Nat) {l4 a l3 : Int32} {b : Nat × Nat × List Nat} {hh : Hp} (ok : okp n r = true) (u : Upd h hh PM4) (row : RowR hh g n r) (st : StO g l4 hh n b) : ∃ (l4' : Int32) (h3 : Hp), f_X10_order_L132 (fuel + 1) 45 a (nI n) l3 l4 1 hh = (bnd (f_X10_next h3 45 (nI n)) fun v h' => f_X10_order_L132 fuel 45 a (nI n) l3 l4' v h') ∧ Upd h h3 PM4 ∧ RowR h3 g n r ∧ StO g l4' h3 n (stO Q b r) := by
  obtain ⟨hl, hr⟩ := okp_e ok
  have hsh := u.sh hs
  have hc : cst Q r < 1000000 := by
    have := cst_le hQ r 7 (by omega) (by omega)
    omega
  obtain ⟨s1, s2, s3⟩ := st
  have E0 := ordm_L143 hsh (Q := Q) (g := g) hn hl (fun k hk => ⟨row k hk, hg _ (hr k hk)⟩) (fun i k hi hk => by rw [u.2 _ _ (by unfold PM4; omega)]; exact e78 _ _ (hr i hi) (hr k hk)) (fun y77 y78 y79 y80 y81 y82 y83 y84 h85 =>
    if y81 ≤ y83 then (
    f_X10_order_J246 (f_X10_order_L132 fuel) y77 y78 y79 y80 y81 y82 y83 y84 h85) else (
    gd (okOb h85 y77 10) <|
    vl (sI h85 y77 38 (0 : Int32)) fun h97 =>
    f_X10_order_L220 (fun y109 y110 y111 y112 y113 y114 y115 y116 h117 =>
    f_X10_order_J246 (f_X10_order_L132 fuel) y109 y110 y111 y112 y113 y114 y115 y116 h117) 6000 y77 y78 y79 y80 y83 y82 y83 (0 : Int32) h97)) a l3 l4 1 n 6000 0 0 (by omega) (by omega)
  rw [List.drop_zero, Nat.zero_add] at E0
  have E1 : f_X10_order_L132 (fuel + 1) 45 a (nI n) l3 l4 1 hh = (if l4 ≤ nI (cst Q r) then (
    f_X10_order_J246 (f_X10_order_L132 fuel) 45 a (nI n) l3 l4 1 (nI (cst Q r)) (nI n) hh) else (
    gd (okOb hh 45 10) <|
    vl (sI hh 45 38 (0 : Int32)) fun h97 =>
    f_X10_order_L220 (fun y109 y110 y111 y112 y113 y114 y115 y116 h117 =>
    f_X10_order_J246 (f_X10_order_L132 fuel) y109 y110 y111 y112 y113 y114 y115 y116 h117) 6000 45 a (nI n) l3 (nI (cst Q r)) 1 (nI (cst Q r)) (0 : Int32) h97)) := by
    rw [f_X10_order_L132, if_neg (by decide)]
    exact E0
  have J : ∀ (l z w : Int32) (h' : Hp), SH h' → f_X10_order_J246 (f_X10_order_L132 fuel) 45 a (nI n) l3 l z l w h' = (bnd (f_X10_next (sI h' 45 38 (gI h' 45 38 + 1)) 45 (nI n)) fun v h' => f_X10_order_L132 fuel 45 a (nI n) l3 l v h') := fun l z w h' hs' => by
    unfold f_X10_order_J246
    rw [if_pos rfl]
    simp only [sO45 hs', gd_e, vl_e]
  rw [E1]
  rcases Nat.lt_trichotomy (cst Q r) b.1 with c | c | c
  · have eb : stO Q b r = (cst Q r, 1, r) := if_pos c
    rw [eb]
    have x0 : ¬ l4 ≤ nI (cst Q r) := by rw [s1]; exact nI_ge c (by omega)
    have hsA : SH (sI hh 45 38 0) := hsh
    have uA : Upd hh (sI hh 45 38 0) (fun a k => a = 45 ∧ k = 38) := Upd_sI ⟨rfl, rfl⟩
    obtain ⟨hB, B1, B2, B3⟩ := ordm_L220 hsA hn (fun y109 y110 y111 y112 y113 y114 y115 y116 h117 =>
    f_X10_order_J246 (f_X10_order_L132 fuel) y109 y110 y111 y112 y113 y114 y115 y116 h117) a l3 (nI (cst Q r)) 1 (nI (cst Q r))
    have hsB := B2.sh hsA
    have e38 : gI hB 45 38 = 0 := by rw [B2.2 _ _ (by omega), xI_sI, if_pos ⟨rfl, rfl⟩]
    refine ⟨nI (cst Q r), sI hB 45 38 (gI hB 45 38 + 1), ?_, ?_, ?_, ?_⟩
    · rw [if_neg x0, sO45 hsh, gd_e, vl_e, B1]
      exact J _ _ _ _ hsB
    · exact ((u.tr (uA.mono (fun a k w => by unfold PM4; omega))).tr (B2.mono (fun a k w => by unfold PM4; omega))).tr (Upd_sI (by unfold PM4; omega))
    · intro k hk
      rw [xI_sI, if_neg (by omega), B2.2 _ _ (by omega), uA.2 _ _ (by omega)]
      exact row k hk
    · refine ⟨rfl, by show cst Q r ≤ _; omega, Or.inr ⟨?_, fun k hk => ?_⟩⟩
      · rw [xI_sI, if_pos ⟨rfl, rfl⟩, e38]; rfl
      · rw [xI_sI, if_neg (by omega), B3 k hk, uA.2 _ _ (by omega)]
        exact row k hk
  · have eb : stO Q b r = (b.1, b.2.1 + 1, b.2.2) := by unfold stO; rw [if_neg (by omega), if_pos c]
    rw [eb]
    have x0 : l4 ≤ nI (cst Q r) := by rw [s1]; exact nI_le (by omega) (by omega)
    have e4 : l4 = nI (cst Q r) := by rw [s1, c]
    rcases s3 with s3 | ⟨s3, s4⟩
    · rw [s3] at c
      have c : cst Q r = 1000000 := c
      omega
    · refine ⟨l4, sI hh 45 38 (gI hh 45 38 + 1), ?_, u.tr (Upd_sI (by unfold PM4; omega)), ?_, s1, s2, Or.inr ⟨?_, fun k hk => ?_⟩⟩
      · rw [if_pos x0, ← e4]
        exact J _ _ _ _ hsh
      · intro k hk
        rw [xI_sI, if_neg (by omega)]; exact row k hk
      · rw [xI_sI, if_pos ⟨rfl, rfl⟩, s3, nI_1]
      · rw [xI_sI, if_neg (by omega)]; exact s4 k hk
  · have eb : stO Q b r = b := by unfold stO; rw [if_neg (by omega), if_neg (by omega)]
    rw [eb]
    have x0 : l4 ≤ nI (cst Q r) := by rw [s1]; exact nI_le (by omega) (by omega)
    have e4 : ¬ nI (cst Q r) = l4 := by rw [s1]; exact fun w => absurd ((nI_eq (by omega) (by omega)).mp w) (by omega)
    refine ⟨l4, hh, ?_, u, row, s1, s2, s3⟩
    rw [if_pos x0]
    unfold f_X10_order_J246
    rw [if_neg e4]
    simp only [sO45 hsh, gd_e]
set_option maxRecDepth 100000 in
theorem ordm_L132 {h : Hp} (hs : SH h) {Q : Nat → Nat → Nat} (hQ : ∀ a k, Q a k ≤ 6) {g : Nat → Nat} (hgl : ∀ a b, g a ≤ g b ↔ a ≤ b) {n : Nat} (h1 : 1 ≤ n) (hn : n ≤ 7) (hg : ∀ k, k < n → g k < 12) (e78 : ∀ x y, x < n → y < n → gI h 78 (12 * g x + g y) = nI (Q x y)) {a l3 : Int32} : ∀ (L : List (List Nat)) (r : List Nat) (fuel : Nat) (l4 : Int32) (b : Nat × Nat × List Nat) (hh : Hp), chk n (r :: L) = true → L.length + 1 < fuel → Upd h hh PM4 → RowR hh g n r → StO g l4 hh n b → ∃ (l4' : Int32) (h2 : Hp), f_X10_order_L132 fuel 45 a (nI n) l3 l4 1 hh = some (l4', sI (sI h2 45 37 (nI n)) 45 39 1) ∧ Upd h h2 PM4 ∧ StO g l4' h2 n ((r :: L).foldl (stO Q) b) := by
  intro L
  induction L with
  | nil =>
    intro r fuel l4 b hh hc hf u row st
    obtain ⟨ok, hc⟩ := chk_s hc
    match fuel, hf with
    | fuel + 2, _ =>
      obtain ⟨l4', h3, w1, w2, w3, w4⟩ := ordm_s hs hQ hn hg e78 (fuel + 1) (a := a) (l3 := l3) ok u row st
      obtain ⟨hl, hr⟩ := okp_e ok
      rcases hc with ⟨-, hc⟩ | ⟨q, L', e, -⟩
      · rcases next_e hgl h1 hn (w2.sh hs) w3 hl (fun k hk => by have := hg _ (hr k hk); omega) with ⟨-, q2⟩ | ⟨p', h', q1, -⟩
        · refine ⟨l4', h3, ?_, w2, w4⟩
          rw [w1, q2, bnd_e, f_X10_order_L132, if_pos rfl, sO45 (w2.sh hs), gd_e, vl_e, vl_e]
        · rw [hc] at q1; cases q1
      · cases e
  | cons q L ih =>
    intro r fuel l4 b hh hc hf u row st
    obtain ⟨ok, hc⟩ := chk_s hc
    match fuel, hf with
    | fuel + 1, hf =>
      obtain ⟨l4', h3, w1, w2, w3, w4⟩ := ordm_s hs hQ hn hg e78 fuel (a := a) (l3 := l3) ok u row st
      obtain ⟨hl, hr⟩ := okp_e ok
      rcases hc with ⟨e, -⟩ | ⟨q', L', e, e2, e3⟩
      · cases e
      · cases e
        rcases next_e hgl h1 hn (w2.sh hs) w3 hl (fun k hk => by have := hg _ (hr k hk); omega) with ⟨q1, -⟩ | ⟨p', h', q1, q2, q3, q4⟩
        · rw [e2] at q1; cases q1
        · rw [e2] at q1
          cases q1
          rw [w1, q2, bnd_e, List.foldl_cons]
          refine ih q fuel l4' _ h' e3 (by rw [List.length_cons] at hf; omega) (w2.tr (q4.mono (fun a k w => by unfold PM4; omega))) q3 ?_
          obtain ⟨v1, v2, v3⟩ := w4
          refine ⟨v1, v2, ?_⟩
          rcases v3 with v3 | ⟨v3, v4⟩
          · exact Or.inl v3
          · exact Or.inr ⟨by rw [q4.2 _ _ (by omega)]; exact v3, fun k hk => by rw [q4.2 _ _ (by omega)]; exact v4 k hk⟩
def POm (a k : Nat) : Prop := a = 75 ∨ a = 77 ∨ a = 78 ∨ (a = 45 ∧ (k = 37 ∨ k = 38 ∨ k = 39))
set_option maxRecDepth 100000 in
theorem orderM_e {h : Hp} (hs : SH h) (ib : IB h) {S : Nat} (hS : S < 4096) (h1 : 1 ≤ (foS S 12).length) (hn : (foS S 12).length ≤ 7) : ∃ h2, f_X10_order h 45 (nI S) = some (nI (smr (fun a b => qN h (gO S a) (gO S b)) (pms (foS S 12).length (List.range (foS S 12).length))).1, h2) ∧ Upd h h2 POm ∧ gI h2 45 37 = nI (foS S 12).length ∧ gI h2 45 39 = 1 ∧ gI h2 45 38 = nI (smr (fun a b => qN h (gO S a) (gO S b)) (pms (foS S 12).length (List.range (foS S 12).length))).2.1 ∧ ∀ k, k < (foS S 12).length → gI h2 77 k = nI (gO S ((smr (fun a b => qN h (gO S a) (gO S b)) (pms (foS S 12).length (List.range (foS S 12).length))).2.2.getD k 0)) := by
  have h0 : 1 ≤ S := by
    rcases Nat.eq_zero_or_pos S with w | w
    · subst w; revert h1; decide
    · exact w
  have y3 : nI (foS S 12).length ≤ (7 : Int32) := nI_le (b := 7) hn (by decide)
  have y4 : (1 : Int64).toInt ≤ (nI S).toInt ∧ (nI S).toInt ≤ (4095 : Int64).toInt := by
    rw [nI_toInt (by omega)]
    show (1 : Int) ≤ S ∧ (S : Int) ≤ 4095
    omega
  unfold f_X10_order
  obtain ⟨y, e1, e2⟩ := ordm_L4 h (nI S) (fun y4 y5 y6 y7 h8 =>
bnd (f_X10_isIn h8 (y5.toInt64) (1 : Int64) (4095 : Int64)) fun v9 h10 =>
if v9 = 0 then (
some ((-2 : Int32), h10)) else (
if y6 ≤ (7 : Int32) then (
f_X10_order_L50 (fun y23 y24 y25 y26 y27 h28 =>
f_X10_order_L89 (fun y38 y39 y40 y41 y42 h43 =>
f_X10_order_L132 6000 y38 y39 y40 y41 (1000000 : Int32) (1 : Int32) h43) 6000 y23 y24 y25 y26 (0 : Int32) h28) 6000 y4 y5 y6 (0 : Int32) (0 : Int32) h10) else (
some ((-2 : Int32), h10))))
  rw [e1]
  have ey := e2 S hS rfl
  subst ey
  rw [isIn_i, if_pos y4, if_pos y3]
  obtain ⟨hA, A1, A2, A3⟩ := ordm_L50 hs hS hn (fun y23 y24 y25 y26 y27 h28 =>
f_X10_order_L89 (fun y38 y39 y40 y41 y42 h43 =>
f_X10_order_L132 6000 y38 y39 y40 y41 (1000000 : Int32) (1 : Int32) h43) 6000 y23 y24 y25 y26 (0 : Int32) h28) (nI (foS S 12).length)
  rw [A1]
  have hsA := A2.sh hs
  have ibA : IB hA := ib.fr A2 (fun _ => by omega)
  obtain ⟨hB, B1, B2, B3⟩ := ordm_L89 hsA ibA (fun y38 y39 y40 y41 y42 h43 =>
f_X10_order_L132 6000 y38 y39 y40 y41 (1000000 : Int32) (1 : Int32) h43) (nI S) (nI (foS S 12).length) (nI (foS S 12).length)
  rw [B1]
  rw [qN_fr A2 (fun _ => by omega)] at B3
  have hsB := B2.sh hsA
  generalize hN : (foS S 12).length = n at *
  have gl : ∀ k, k < n → gO S k = (foS S 12).getD k 0 ∧ gO S k < 12 := fun k hk => gO_lt (by omega)
  obtain ⟨L, c1, c2, c3⟩ := pm_c h1 hn
  obtain ⟨l4, hC, C1, C2, C3⟩ := ordm_L132 hsB (Q := fun a b => qN h (gO S a) (gO S b)) (fun a k => qN_le h _ _) (gO_le S) h1 hn (fun k hk => (gl k hk).2) (fun x y hx hy => by
    have := (gl x hx).2
    have := (gl y hy).2
    rw [B3 _ (by omega)]
    congr 2
    · omega
    · omega) (a := nI S) (l3 := nI n) L (List.range n) 6000 1000000 e0O hB c2 (by omega) (Upd_rf _ _) (fun k hk => by
    rw [B2.2 _ _ (by omega), A3 k hk, ← (gl k hk).1, List.getD_eq_getElem?_getD, List.getElem?_range hk, Option.getD_some]) ⟨rfl, Nat.le_refl _, Or.inl rfl⟩
  have eb : (List.range n :: L).foldl (stO (fun a b => qN h (gO S a) (gO S b))) e0O = smr (fun a b => qN h (gO S a) (gO S b)) (pms n (List.range n)) := by rw [c1]; rfl
  rw [eb] at C3
  obtain ⟨v1, v2, v3⟩ := C3
  have nz : smr (fun a b => qN h (gO S a) (gO S b)) (pms n (List.range n)) ≠ e0O := fun w => by
    have := oS_lt (Q := fun a b => qN h (gO S a) (gO S b)) (fun a k => qN_le h _ _) (n := n) (U := 2 ^ n - 1) hn (by
      have : 2 ^ n ≤ 2 ^ 7 := Nat.pow_le_pow_right (by decide) hn
      omega)
    rw [oS_all _ hn, w] at this
    exact absurd this (by decide)
  rcases v3 with v3 | ⟨v3, v4⟩
  · exact absurd v3 nz
  · refine ⟨sI (sI hC 45 37 (nI n)) 45 39 1, by rw [C1, v1], (((((A2.mono (fun a k w => by unfold POm; omega)).tr (B2.mono (fun a k w => by unfold POm; omega))).tr (C2.mono (fun a k w => by unfold PM4 at w; unfold POm; omega))).tr (Upd_sI (by unfold POm; omega))).tr (Upd_sI (by unfold POm; omega))), ?_, ?_, ?_, fun k hk => ?_⟩
    · rw [xI_sI, if_neg (by omega), xI_sI, if_pos ⟨rfl, rfl⟩]
    · rw [xI_sI, if_pos ⟨rfl, rfl⟩]
    · rw [xI_sI, if_neg (by omega), xI_sI, if_neg (by omega)]; exact v3
    · rw [xI_sI, if_neg (by omega), xI_sI, if_neg (by omega)]; exact v4 k hk
def POr (a k : Nat) : Prop := PO a k ∨ POm a k
set_option maxRecDepth 100000 in
theorem order_bad {h : Hp} (hs : SH h) (a : Int32) (c : ¬ ∃ S, S < 4096 ∧ a = nI S ∧ 1 ≤ (foS S 12).length ∧ (foS S 12).length ≤ 7) : f_X9_order h 0 a = some (-2, h) ∧ f_X10_order h 45 a = some (-2, h) := by
  by_cases r : 0 ≤ a.toInt ∧ a.toInt < 4096
  · obtain ⟨S, hS, rfl⟩ := of_rng (b := 4096) (by decide) r.1 r.2
    have y1 : (nI S >>> ((12 : Int32) &&& 31)) = 0 := by
      rw [pk_shrN (by omega) _ 12 (by decide), show S / 2 ^ 12 = 0 by omega]; rfl
    have hl := foS_len S 12
    obtain ⟨y, e1, e2⟩ := ordm_L4 h (nI S) (fun y4 y5 y6 y7 h8 =>
bnd (f_X10_isIn h8 (y5.toInt64) (1 : Int64) (4095 : Int64)) fun v9 h10 =>
if v9 = 0 then (
some ((-2 : Int32), h10)) else (
if y6 ≤ (7 : Int32) then (
f_X10_order_L50 (fun y23 y24 y25 y26 y27 h28 =>
f_X10_order_L89 (fun y38 y39 y40 y41 y42 h43 =>
f_X10_order_L132 6000 y38 y39 y40 y41 (1000000 : Int32) (1 : Int32) h43) 6000 y23 y24 y25 y26 (0 : Int32) h28) 6000 y4 y5 y6 (0 : Int32) (0 : Int32) h10) else (
some ((-2 : Int32), h10))))
    have ey := e2 S hS rfl
    subst ey
    by_cases c1 : 1 ≤ (foS S 12).length
    · have c2 : ¬ (foS S 12).length ≤ 7 := fun w => c ⟨S, hS, rfl, c1, w⟩
      have y2 : ¬ nI (foS S 12).length < (1 : Int32) := nI_nlt (b := 1) c1 (by omega)
      have y3 : ¬ nI (foS S 12).length ≤ (7 : Int32) := nI_ge (a := 7) (by omega) (by omega)
      refine ⟨?_, ?_⟩
      · simp only [f_X9_order, bc_e, (bc_s hS).1, y1, y2, y3, and_self, if_true, if_false, n_1_0, n_0_0, okOb_sI, okAb_sI, okOb_sW, okAb_sW, vl_e, un_e, nl_s, nl_n, bnd_e, gd_e, SH_sI, SH_sW, xI_sI, xR_sI, xL_sI, xK_sI, xN_sI, gI_sW, xR_sW, xL_sW, xK_sW, xN_sW, sO0, sO1, sO2, sA2, sL2, sO3, sA3, sL3, sO4, sA4, sL4, sO5, sA5, sL5, sO6, sA6, sL6, sO7, sA7, sL7, sO8, sA8, sL8, sO9, sO10, sA10, sL10, sO11, sA11, sL11, sO12, sA12, sL12, sO13, sO14, sA14, sL14, sO15, sA15, sL15, sO16, sA16, sL16, sO17, sA17, sL17, sO18, sA18, sL18, sO19, sA19, sL19, sO20, sO21, sA21, sL21, sO22, sA22, sL22, sO23, sA23, sL23, sO24, sA24, sL24, sO25, sO26, sA26, sL26, sO27, sA27, sL27, sO28, sA28, sL28, sO29, sA29, sL29, sO30, sA30, sL30, sO31, sA31, sL31, sO32, sA32, sL32, sO33, sO34, sA34, sL34, sO35, sA35, sL35, sO36, sA36, sL36, sO37, sO38, sA38, sL38, sO39, sA39, sL39, sO40, sA40, sL40, sO41, sO42, sA42, sL42, sO43, sA43, sL43, sO44, sA44, sL44, sO45, sO46, sA46, sL46, sO47, sA47, sL47, sO48, sA48, sL48, sO49, sA49, sL49, sO50, sA50, sL50, sO51, sA51, sL51, sO52, sA52, sL52, sO53, sA53, sL53, sO54, sA54, sL54, sO55, sA55, sL55, sO56, sA56, sL56, sO57, sA57, sL57, sO58, sA58, sL58, sO59, sA59, sL59, sO60, sA60, sL60, sO61, sA61, sL61, sO62, sA62, sL62, sO63, sA63, sL63, sO64, sA64, sL64, sO65, sA65, sL65, sO66, sA66, sL66, sO67, sA67, sL67, sO68, sA68, sL68, sO69, sA69, sL69, sO70, sA70, sL70, sO71, sA71, sL71, sO72, sA72, sL72, sO73, sA73, sL73, sO74, sA74, sL74, sO75, sA75, sL75, sO76, sA76, sL76, sO77, sA77, sL77, sO78, sA78, sL78, sO79, sA79, sL79, sO80, sA80, sL80, sO81, sA81, sL81, sO82, sA82, sL82, sO83, sA83, sL83, sO84, sA84, sL84, sO85, sA85, sL85, sO86, sA86, sL86, sO87, sA87, sL87, sR0_0, sR0_1, sR0_2, sR0_3, sR0_5, sR0_6, sR0_8, sR0_10, sR0_11, sR0_12, sR0_13, sR1_0, sR6_0, sR6_1, sR6_2, sR9_0, sR9_1, sR9_2, sR13_0, sR13_1, sR13_2, sR13_3, sR13_4, sR13_5, sR20_0, sR20_1, sR20_2, sR20_3, sR25_0, sR25_1, sR25_2, sR25_4, sR25_5, sR25_6, sR25_7, sR33_2, sR33_3, sR37_2, sR37_3, sR41_2, sR41_3, sR45_0, sR45_1, sR45_3, sR45_4, sR45_5, sR45_6, sR45_7, sR45_8, sR45_9, sR45_10, sR45_12, sR45_13, sR45_14, sR45_15, sR45_16, sR45_17, sR45_18, sR45_19, sR45_20, sR45_21, sR45_22, sR45_25, sR45_26, sR45_27, sR45_28, sR45_29, sR45_30, sR45_31, sR45_32, sR45_33, sR45_34, sR45_35, sR45_36, sR45_40, sR45_41, sR45_42, sR45_43, sR45_45, sR45_46, sR45_47, sR45_48, sR45_49]
      · unfold f_X10_order
        rw [e1]
        rw [isIn_i]
        simp only [y3, if_false]
        split <;> rfl
    · have s0 : S = 0 := (bc_s hS).2 (by omega)
      have y2 : nI (foS S 12).length < (1 : Int32) := by rw [s0]; decide
      have y4 : ¬ ((1 : Int64).toInt ≤ (nI S).toInt ∧ (nI S).toInt ≤ (4095 : Int64).toInt) := by
        rw [s0]; decide
      refine ⟨?_, ?_⟩
      · simp only [f_X9_order, bc_e, (bc_s hS).1, y1, y2, and_self, if_true, if_false, n_1_0, n_0_0, okOb_sI, okAb_sI, okOb_sW, okAb_sW, vl_e, un_e, nl_s, nl_n, bnd_e, gd_e, SH_sI, SH_sW, xI_sI, xR_sI, xL_sI, xK_sI, xN_sI, gI_sW, xR_sW, xL_sW, xK_sW, xN_sW, sO0, sO1, sO2, sA2, sL2, sO3, sA3, sL3, sO4, sA4, sL4, sO5, sA5, sL5, sO6, sA6, sL6, sO7, sA7, sL7, sO8, sA8, sL8, sO9, sO10, sA10, sL10, sO11, sA11, sL11, sO12, sA12, sL12, sO13, sO14, sA14, sL14, sO15, sA15, sL15, sO16, sA16, sL16, sO17, sA17, sL17, sO18, sA18, sL18, sO19, sA19, sL19, sO20, sO21, sA21, sL21, sO22, sA22, sL22, sO23, sA23, sL23, sO24, sA24, sL24, sO25, sO26, sA26, sL26, sO27, sA27, sL27, sO28, sA28, sL28, sO29, sA29, sL29, sO30, sA30, sL30, sO31, sA31, sL31, sO32, sA32, sL32, sO33, sO34, sA34, sL34, sO35, sA35, sL35, sO36, sA36, sL36, sO37, sO38, sA38, sL38, sO39, sA39, sL39, sO40, sA40, sL40, sO41, sO42, sA42, sL42, sO43, sA43, sL43, sO44, sA44, sL44, sO45, sO46, sA46, sL46, sO47, sA47, sL47, sO48, sA48, sL48, sO49, sA49, sL49, sO50, sA50, sL50, sO51, sA51, sL51, sO52, sA52, sL52, sO53, sA53, sL53, sO54, sA54, sL54, sO55, sA55, sL55, sO56, sA56, sL56, sO57, sA57, sL57, sO58, sA58, sL58, sO59, sA59, sL59, sO60, sA60, sL60, sO61, sA61, sL61, sO62, sA62, sL62, sO63, sA63, sL63, sO64, sA64, sL64, sO65, sA65, sL65, sO66, sA66, sL66, sO67, sA67, sL67, sO68, sA68, sL68, sO69, sA69, sL69, sO70, sA70, sL70, sO71, sA71, sL71, sO72, sA72, sL72, sO73, sA73, sL73, sO74, sA74, sL74, sO75, sA75, sL75, sO76, sA76, sL76, sO77, sA77, sL77, sO78, sA78, sL78, sO79, sA79, sL79, sO80, sA80, sL80, sO81, sA81, sL81, sO82, sA82, sL82, sO83, sA83, sL83, sO84, sA84, sL84, sO85, sA85, sL85, sO86, sA86, sL86, sO87, sA87, sL87, sR0_0, sR0_1, sR0_2, sR0_3, sR0_5, sR0_6, sR0_8, sR0_10, sR0_11, sR0_12, sR0_13, sR1_0, sR6_0, sR6_1, sR6_2, sR9_0, sR9_1, sR9_2, sR13_0, sR13_1, sR13_2, sR13_3, sR13_4, sR13_5, sR20_0, sR20_1, sR20_2, sR20_3, sR25_0, sR25_1, sR25_2, sR25_4, sR25_5, sR25_6, sR25_7, sR33_2, sR33_3, sR37_2, sR37_3, sR41_2, sR41_3, sR45_0, sR45_1, sR45_3, sR45_4, sR45_5, sR45_6, sR45_7, sR45_8, sR45_9, sR45_10, sR45_12, sR45_13, sR45_14, sR45_15, sR45_16, sR45_17, sR45_18, sR45_19, sR45_20, sR45_21, sR45_22, sR45_25, sR45_26, sR45_27, sR45_28, sR45_29, sR45_30, sR45_31, sR45_32, sR45_33, sR45_34, sR45_35, sR45_36, sR45_40, sR45_41, sR45_42, sR45_43, sR45_45, sR45_46, sR45_47, sR45_48, sR45_49]
      · unfold f_X10_order
        rw [e1]
        rw [isIn_i, if_neg y4]
  · have y1 : ¬ (a >>> ((12 : Int32) &&& 31)) = 0 := fun w => by
      have e := pk_shr a ((12 : Int32) &&& 31) 12 (by decide)
      rw [w] at e
      have e : (0 : Int) = a.toInt >>> 12 := e
      rw [Int.shiftRight_eq_div_pow] at e
      have e : (0 : Int) = a.toInt / 4096 := e
      omega
    have y4 : ¬ ((1 : Int64).toInt ≤ a.toInt ∧ a.toInt ≤ (4095 : Int64).toInt) := by
      show ¬ ((1 : Int) ≤ a.toInt ∧ a.toInt ≤ 4095)
      omega
    obtain ⟨y, e1, -⟩ := ordm_L4 h a (fun y4 y5 y6 y7 h8 =>
bnd (f_X10_isIn h8 (y5.toInt64) (1 : Int64) (4095 : Int64)) fun v9 h10 =>
if v9 = 0 then (
some ((-2 : Int32), h10)) else (
if y6 ≤ (7 : Int32) then (
f_X10_order_L50 (fun y23 y24 y25 y26 y27 h28 =>
f_X10_order_L89 (fun y38 y39 y40 y41 y42 h43 =>
f_X10_order_L132 6000 y38 y39 y40 y41 (1000000 : Int32) (1 : Int32) h43) 6000 y23 y24 y25 y26 (0 : Int32) h28) 6000 y4 y5 y6 (0 : Int32) (0 : Int32) h10) else (
some ((-2 : Int32), h10))))
    refine ⟨?_, ?_⟩
    · simp only [f_X9_order, bc_e, y1, and_self, if_true, if_false, n_1_0, n_0_0, okOb_sI, okAb_sI, okOb_sW, okAb_sW, vl_e, un_e, nl_s, nl_n, bnd_e, gd_e, SH_sI, SH_sW, xI_sI, xR_sI, xL_sI, xK_sI, xN_sI, gI_sW, xR_sW, xL_sW, xK_sW, xN_sW, sO0, sO1, sO2, sA2, sL2, sO3, sA3, sL3, sO4, sA4, sL4, sO5, sA5, sL5, sO6, sA6, sL6, sO7, sA7, sL7, sO8, sA8, sL8, sO9, sO10, sA10, sL10, sO11, sA11, sL11, sO12, sA12, sL12, sO13, sO14, sA14, sL14, sO15, sA15, sL15, sO16, sA16, sL16, sO17, sA17, sL17, sO18, sA18, sL18, sO19, sA19, sL19, sO20, sO21, sA21, sL21, sO22, sA22, sL22, sO23, sA23, sL23, sO24, sA24, sL24, sO25, sO26, sA26, sL26, sO27, sA27, sL27, sO28, sA28, sL28, sO29, sA29, sL29, sO30, sA30, sL30, sO31, sA31, sL31, sO32, sA32, sL32, sO33, sO34, sA34, sL34, sO35, sA35, sL35, sO36, sA36, sL36, sO37, sO38, sA38, sL38, sO39, sA39, sL39, sO40, sA40, sL40, sO41, sO42, sA42, sL42, sO43, sA43, sL43, sO44, sA44, sL44, sO45, sO46, sA46, sL46, sO47, sA47, sL47, sO48, sA48, sL48, sO49, sA49, sL49, sO50, sA50, sL50, sO51, sA51, sL51, sO52, sA52, sL52, sO53, sA53, sL53, sO54, sA54, sL54, sO55, sA55, sL55, sO56, sA56, sL56, sO57, sA57, sL57, sO58, sA58, sL58, sO59, sA59, sL59, sO60, sA60, sL60, sO61, sA61, sL61, sO62, sA62, sL62, sO63, sA63, sL63, sO64, sA64, sL64, sO65, sA65, sL65, sO66, sA66, sL66, sO67, sA67, sL67, sO68, sA68, sL68, sO69, sA69, sL69, sO70, sA70, sL70, sO71, sA71, sL71, sO72, sA72, sL72, sO73, sA73, sL73, sO74, sA74, sL74, sO75, sA75, sL75, sO76, sA76, sL76, sO77, sA77, sL77, sO78, sA78, sL78, sO79, sA79, sL79, sO80, sA80, sL80, sO81, sA81, sL81, sO82, sA82, sL82, sO83, sA83, sL83, sO84, sA84, sL84, sO85, sA85, sL85, sO86, sA86, sL86, sO87, sA87, sL87, sR0_0, sR0_1, sR0_2, sR0_3, sR0_5, sR0_6, sR0_8, sR0_10, sR0_11, sR0_12, sR0_13, sR1_0, sR6_0, sR6_1, sR6_2, sR9_0, sR9_1, sR9_2, sR13_0, sR13_1, sR13_2, sR13_3, sR13_4, sR13_5, sR20_0, sR20_1, sR20_2, sR20_3, sR25_0, sR25_1, sR25_2, sR25_4, sR25_5, sR25_6, sR25_7, sR33_2, sR33_3, sR37_2, sR37_3, sR41_2, sR41_3, sR45_0, sR45_1, sR45_3, sR45_4, sR45_5, sR45_6, sR45_7, sR45_8, sR45_9, sR45_10, sR45_12, sR45_13, sR45_14, sR45_15, sR45_16, sR45_17, sR45_18, sR45_19, sR45_20, sR45_21, sR45_22, sR45_25, sR45_26, sR45_27, sR45_28, sR45_29, sR45_30, sR45_31, sR45_32, sR45_33, sR45_34, sR45_35, sR45_36, sR45_40, sR45_41, sR45_42, sR45_43, sR45_45, sR45_46, sR45_47, sR45_48, sR45_49]
    · unfold f_X10_order
      rw [e1]
      rw [isIn_i, if_neg y4]
set_option maxRecDepth 100000 in
theorem order_ok {h : Hp} (hs : SH h) (ib : IB h) (io : IOr h) (a : Int32) : Out h POr IOr (f_X9_order h 0 a) (fun h1 => f_X10_order h1 45 a) := by
  by_cases c : ∃ S, S < 4096 ∧ a = nI S ∧ 1 ≤ (foS S 12).length ∧ (foS S 12).length ≤ 7
  · obtain ⟨S, hS, rfl, c1, c2⟩ := c
    obtain ⟨hA, A1, A2, A3, A4, A5⟩ := orderC_e hs hS c1 c2
    have hsA := A2.sh hs
    have ibA : IB hA := ib.fr A2 (fun _ => by unfold PO; omega)
    obtain ⟨hB, B1, B2, B3, B4, B5, B6⟩ := orderM_e hsA ibA hS c1 c2
    rw [qN_fr A2 (fun _ => by unfold PO; omega)] at B1 B5 B6
    refine ⟨_, hA, hB, A1, hsA, B1, ⟨(foS S 12).length, c2, ?_, B3, fun j hj => ?_, fun w => ?_, fun _ => ⟨B4, ?_⟩⟩, (A2.mono (fun a k w => Or.inl w)).tr (B2.mono (fun a k w => Or.inr w))⟩
    · rw [B2.2 _ _ (by unfold POm; omega)]; exact A3
    · rw [B6 j hj, B2.2 _ _ (by unfold POm; omega)]; exact A5 j hj
    · omega
    · rw [B5, B2.2 _ _ (by unfold POm; omega)]; exact A4
  · obtain ⟨e1, e2⟩ := order_bad hs a c
    exact Out.same (-2) hs e1 e2 io
