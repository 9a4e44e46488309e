set_option maxRecDepth 100000 in
theorem ord_L7 {h : Hp} (hs : SH h) {S : Nat} (hS : S < 4096) (hn : (foS S 12).length ≤ 7) (e6 : gI h 13 6 = 0) (K : Nat → Int32 → Int32 → Hp → Option (Int32 × Hp)) : ∃ (l : Int32) (h2 : Hp), f_X0_findOrder_L7 K 6000 13 (nI S) 0 h = K 13 (nI S) l h2 ∧ Upd h h2 (fun a k => a = 15 ∨ (a = 13 ∧ k = 6)) ∧ gI h2 13 6 = nI (foS S 12).length ∧ ∀ k, k < (foS S 12).length → gI h2 15 k = nI ((foS S 12).getD k 0) := by
  refine forL 12 (fun m f (hh : Hp) => f_X0_findOrder_L7 K m 13 (nI S) (nI f) hh) (fun f hh => Upd h hh (fun a k => a = 15 ∨ (a = 13 ∧ k = 6)) ∧ gI hh 13 6 = nI (foS S f).length ∧ ∀ k, k < (foS S f).length → gI hh 15 k = nI ((foS S f).getD k 0)) (fun x => ∃ (l : Int32) (h2 : Hp), x = K 13 (nI S) l h2 ∧ Upd h h2 (fun a k => a = 15 ∨ (a = 13 ∧ k = 6)) ∧ gI h2 13 6 = nI (foS S 12).length ∧ ∀ k, k < (foS S 12).length → gI h2 15 k = nI ((foS S 12).getD k 0)) ?_ ?_ 12 6000 0 h (by omega) (by omega) ⟨Upd_rf _ _, e6, fun k hk => absurd hk (Nat.not_lt_zero k)⟩
  · intro m f hh hf ⟨I1, I2, I3⟩
    have hsh := I1.sh hs
    have x0 : ¬ (12 : Int32) ≤ nI f := nI_ge (b := 12) hf (by decide)
    have hl := foS_len S f
    obtain ⟨r, er⟩ := foS_pre S f (12 - f)
    rw [show f + (12 - f) = 12 by omega] at er
    have lr : (foS S 12).length = (foS S f).length + r.length := by rw [er, List.length_append]
    show (∃ (l : Int32) (h2 : Hp), f_X0_findOrder_L7 K (m + 1) 13 (nI S) (nI f) hh = _ ∧ _) ∨ _
    by_cases c : (foS S f).length = 7
    · left
      have r0 : r = [] := List.eq_nil_of_length_eq_zero (by omega)
      rw [r0, List.append_nil] at er
      have x1 : (7 : Int32) ≤ nI (foS S f).length := by rw [c]; decide
      refine ⟨nI f, hh, ?_, I1, by rw [er]; exact I2, by rw [er]; exact I3⟩
      rw [f_X0_findOrder_L7]
      simp only [x0, I2, x1, hsh, and_self, if_true, if_false, n_1_0, n_0_0, okOb_sI, okAb_sI, okOb_sW, okAb_sW, vl_e, un_e, nl_s, nl_n, bnd_e, gd_e, SH_sI, SH_sW, xI_sI, xR_sI, xL_sI, xK_sI, xN_sI, gI_sW, xR_sW, xL_sW, xK_sW, xN_sW, sO0, sO1, sO2, sA2, sL2, sO3, sA3, sL3, sO4, sA4, sL4, sO5, sA5, sL5, sO6, sA6, sL6, sO7, sA7, sL7, sO8, sA8, sL8, sO9, sO10, sA10, sL10, sO11, sA11, sL11, sO12, sA12, sL12, sO13, sO14, sA14, sL14, sO15, sA15, sL15, sO16, sA16, sL16, sO17, sA17, sL17, sO18, sA18, sL18, sO19, sA19, sL19, sO20, sO21, sA21, sL21, sO22, sA22, sL22, sO23, sA23, sL23, sO24, sA24, sL24, sO25, sO26, sA26, sL26, sO27, sA27, sL27, sO28, sA28, sL28, sO29, sA29, sL29, sO30, sA30, sL30, sO31, sA31, sL31, sO32, sA32, sL32, sO33, sO34, sA34, sL34, sO35, sA35, sL35, sO36, sA36, sL36, sO37, sO38, sA38, sL38, sO39, sA39, sL39, sO40, sA40, sL40, sO41, sO42, sA42, sL42, sO43, sA43, sL43, sO44, sA44, sL44, sO45, sO46, sA46, sL46, sO47, sA47, sL47, sO48, sA48, sL48, sO49, sA49, sL49, sO50, sA50, sL50, sO51, sA51, sL51, sO52, sA52, sL52, sO53, sA53, sL53, sO54, sA54, sL54, sO55, sA55, sL55, sO56, sA56, sL56, sO57, sA57, sL57, sO58, sA58, sL58, sO59, sA59, sL59, sO60, sA60, sL60, sO61, sA61, sL61, sO62, sA62, sL62, sO63, sA63, sL63, sO64, sA64, sL64, sO65, sA65, sL65, sO66, sA66, sL66, sO67, sA67, sL67, sO68, sA68, sL68, sO69, sA69, sL69, sO70, sA70, sL70, sO71, sA71, sL71, sO72, sA72, sL72, sO73, sA73, sL73, sO74, sA74, sL74, sO75, sA75, sL75, sO76, sA76, sL76, sO77, sA77, sL77, sO78, sA78, sL78, sO79, sA79, sL79, sO80, sA80, sL80, sO81, sA81, sL81, sO82, sA82, sL82, sO83, sA83, sL83, sO84, sA84, sL84, sO85, sA85, sL85, sO86, sA86, sL86, sO87, sA87, sL87, sR0_0, sR0_1, sR0_2, sR0_3, sR0_5, sR0_6, sR0_8, sR0_10, sR0_11, sR0_12, sR0_13, sR1_0, sR6_0, sR6_1, sR6_2, sR9_0, sR9_1, sR9_2, sR13_0, sR13_1, sR13_2, sR13_3, sR13_4, sR13_5, sR20_0, sR20_1, sR20_2, sR20_3, sR25_0, sR25_1, sR25_2, sR25_4, sR25_5, sR25_6, sR25_7, sR33_2, sR33_3, sR37_2, sR37_3, sR41_2, sR41_3, sR45_0, sR45_1, sR45_3, sR45_4, sR45_5, sR45_6, sR45_7, sR45_8, sR45_9, sR45_10, sR45_12, sR45_13, sR45_14, sR45_15, sR45_16, sR45_17, sR45_18, sR45_19, sR45_20, sR45_21, sR45_22, sR45_25, sR45_26, sR45_27, sR45_28, sR45_29, sR45_30, sR45_31, sR45_32, sR45_33, sR45_34, sR45_35, sR45_36, sR45_40, sR45_41, sR45_42, sR45_43, sR45_45, sR45_46, sR45_47, sR45_48, sR45_49]
    · right
      have x1 : ¬ (7 : Int32) ≤ nI (foS S f).length := nI_ge (b := 7) (by omega) (by decide)
      cases b : S.testBit f with
      | false =>
        have y1 : ((nI S >>> (nI f &&& 31)) &&& (1 : Int32)) = 0 := by rw [bit_s hS hf, b]; rfl
        have ef : foS S (f + 1) = foS S f := by
          show (if S.testBit f = true then foS S f ++ [f] else foS S f) = _
          rw [b]; rfl
        refine ⟨hh, ?_, I1, by rw [ef]; exact I2, by rw [ef]; exact I3⟩
        rw [f_X0_findOrder_L7]
        simp only [x0, I2, x1, y1, nI_1, hsh, and_self, if_true, if_false, n_1_0, n_0_0, okOb_sI, okAb_sI, okOb_sW, okAb_sW, vl_e, un_e, nl_s, nl_n, bnd_e, gd_e, SH_sI, SH_sW, xI_sI, xR_sI, xL_sI, xK_sI, xN_sI, gI_sW, xR_sW, xL_sW, xK_sW, xN_sW, sO0, sO1, sO2, sA2, sL2, sO3, sA3, sL3, sO4, sA4, sL4, sO5, sA5, sL5, sO6, sA6, sL6, sO7, sA7, sL7, sO8, sA8, sL8, sO9, sO10, sA10, sL10, sO11, sA11, sL11, sO12, sA12, sL12, sO13, sO14, sA14, sL14, sO15, sA15, sL15, sO16, sA16, sL16, sO17, sA17, sL17, sO18, sA18, sL18, sO19, sA19, sL19, sO20, sO21, sA21, sL21, sO22, sA22, sL22, sO23, sA23, sL23, sO24, sA24, sL24, sO25, sO26, sA26, sL26, sO27, sA27, sL27, sO28, sA28, sL28, sO29, sA29, sL29, sO30, sA30, sL30, sO31, sA31, sL31, sO32, sA32, sL32, sO33, sO34, sA34, sL34, sO35, sA35, sL35, sO36, sA36, sL36, sO37, sO38, sA38, sL38, sO39, sA39, sL39, sO40, sA40, sL40, sO41, sO42, sA42, sL42, sO43, sA43, sL43, sO44, sA44, sL44, sO45, sO46, sA46, sL46, sO47, sA47, sL47, sO48, sA48, sL48, sO49, sA49, sL49, sO50, sA50, sL50, sO51, sA51, sL51, sO52, sA52, sL52, sO53, sA53, sL53, sO54, sA54, sL54, sO55, sA55, sL55, sO56, sA56, sL56, sO57, sA57, sL57, sO58, sA58, sL58, sO59, sA59, sL59, sO60, sA60, sL60, sO61, sA61, sL61, sO62, sA62, sL62, sO63, sA63, sL63, sO64, sA64, sL64, sO65, sA65, sL65, sO66, sA66, sL66, sO67, sA67, sL67, sO68, sA68, sL68, sO69, sA69, sL69, sO70, sA70, sL70, sO71, sA71, sL71, sO72, sA72, sL72, sO73, sA73, sL73, sO74, sA74, sL74, sO75, sA75, sL75, sO76, sA76, sL76, sO77, sA77, sL77, sO78, sA78, sL78, sO79, sA79, sL79, sO80, sA80, sL80, sO81, sA81, sL81, sO82, sA82, sL82, sO83, sA83, sL83, sO84, sA84, sL84, sO85, sA85, sL85, sO86, sA86, sL86, sO87, sA87, sL87, sR0_0, sR0_1, sR0_2, sR0_3, sR0_5, sR0_6, sR0_8, sR0_10, sR0_11, sR0_12, sR0_13, sR1_0, sR6_0, sR6_1, sR6_2, sR9_0, sR9_1, sR9_2, sR13_0, sR13_1, sR13_2, sR13_3, sR13_4, sR13_5, sR20_0, sR20_1, sR20_2, sR20_3, sR25_0, sR25_1, sR25_2, sR25_4, sR25_5, sR25_6, sR25_7, sR33_2, sR33_3, sR37_2, sR37_3, sR41_2, sR41_3, sR45_0, sR45_1, sR45_3, sR45_4, sR45_5, sR45_6, sR45_7, sR45_8, sR45_9, sR45_10, sR45_12, sR45_13, sR45_14, sR45_15, sR45_16, sR45_17, sR45_18, sR45_19, sR45_20, sR45_21, sR45_22, sR45_25, sR45_26, sR45_27, sR45_28, sR45_29, sR45_30, sR45_31, sR45_32, sR45_33, sR45_34, sR45_35, sR45_36, sR45_40, sR45_41, sR45_42, sR45_43, sR45_45, sR45_46, sR45_47, sR45_48, sR45_49]
      | true =>
        have y1 : ¬ ((nI S >>> (nI f &&& 31)) &&& (1 : Int32)) = 0 := by rw [bit_s hS hf, b]; decide
        have ef : foS S (f + 1) = foS S f ++ [f] := by
          show (if S.testBit f = true then foS S f ++ [f] else foS S f) = _
          rw [b]; rfl
        have z1 : (nI (foS S f).length).toNatClampNeg = (foS S f).length := nI_clamp (by omega)
        have z2 : inB (nI (foS S f).length) 7 = true := inB_nI (by omega) (by decide)
        refine ⟨sI (sI hh 15 (foS S f).length (nI f)) 13 6 (nI ((foS S f).length + 1)), ?_, (I1.tr (Upd_sI (Or.inl rfl))).tr (Upd_sI (Or.inr ⟨rfl, rfl⟩)), ?_, fun k hk => ?_⟩
        · rw [f_X0_findOrder_L7]
          simp only [x0, I2, x1, y1, z1, z2, nI_1, hsh, and_self, if_true, if_false, n_1_0, n_0_0, okOb_sI, okAb_sI, okOb_sW, okAb_sW, vl_e, un_e, nl_s, nl_n, bnd_e, gd_e, SH_sI, SH_sW, xI_sI, xR_sI, xL_sI, xK_sI, xN_sI, gI_sW, xR_sW, xL_sW, xK_sW, xN_sW, sO0, sO1, sO2, sA2, sL2, sO3, sA3, sL3, sO4, sA4, sL4, sO5, sA5, sL5, sO6, sA6, sL6, sO7, sA7, sL7, sO8, sA8, sL8, sO9, sO10, sA10, sL10, sO11, sA11, sL11, sO12, sA12, sL12, sO13, sO14, sA14, sL14, sO15, sA15, sL15, sO16, sA16, sL16, sO17, sA17, sL17, sO18, sA18, sL18, sO19, sA19, sL19, sO20, sO21, sA21, sL21, sO22, sA22, sL22, sO23, sA23, sL23, sO24, sA24, sL24, sO25, sO26, sA26, sL26, sO27, sA27, sL27, sO28, sA28, sL28, sO29, sA29, sL29, sO30, sA30, sL30, sO31, sA31, sL31, sO32, sA32, sL32, sO33, sO34, sA34, sL34, sO35, sA35, sL35, sO36, sA36, sL36, sO37, sO38, sA38, sL38, sO39, sA39, sL39, sO40, sA40, sL40, sO41, sO42, sA42, sL42, sO43, sA43, sL43, sO44, sA44, sL44, sO45, sO46, sA46, sL46, sO47, sA47, sL47, sO48, sA48, sL48, sO49, sA49, sL49, sO50, sA50, sL50, sO51, sA51, sL51, sO52, sA52, sL52, sO53, sA53, sL53, sO54, sA54, sL54, sO55, sA55, sL55, sO56, sA56, sL56, sO57, sA57, sL57, sO58, sA58, sL58, sO59, sA59, sL59, sO60, sA60, sL60, sO61, sA61, sL61, sO62, sA62, sL62, sO63, sA63, sL63, sO64, sA64, sL64, sO65, sA65, sL65, sO66, sA66, sL66, sO67, sA67, sL67, sO68, sA68, sL68, sO69, sA69, sL69, sO70, sA70, sL70, sO71, sA71, sL71, sO72, sA72, sL72, sO73, sA73, sL73, sO74, sA74, sL74, sO75, sA75, sL75, sO76, sA76, sL76, sO77, sA77, sL77, sO78, sA78, sL78, sO79, sA79, sL79, sO80, sA80, sL80, sO81, sA81, sL81, sO82, sA82, sL82, sO83, sA83, sL83, sO84, sA84, sL84, sO85, sA85, sL85, sO86, sA86, sL86, sO87, sA87, sL87, sR0_0, sR0_1, sR0_2, sR0_3, sR0_5, sR0_6, sR0_8, sR0_10, sR0_11, sR0_12, sR0_13, sR1_0, sR6_0, sR6_1, sR6_2, sR9_0, sR9_1, sR9_2, sR13_0, sR13_1, sR13_2, sR13_3, sR13_4, sR13_5, sR20_0, sR20_1, sR20_2, sR20_3, sR25_0, sR25_1, sR25_2, sR25_4, sR25_5, sR25_6, sR25_7, sR33_2, sR33_3, sR37_2, sR37_3, sR41_2, sR41_3, sR45_0, sR45_1, sR45_3, sR45_4, sR45_5, sR45_6, sR45_7, sR45_8, sR45_9, sR45_10, sR45_12, sR45_13, sR45_14, sR45_15, sR45_16, sR45_17, sR45_18, sR45_19, sR45_20, sR45_21, sR45_22, sR45_25, sR45_26, sR45_27, sR45_28, sR45_29, sR45_30, sR45_31, sR45_32, sR45_33, sR45_34, sR45_35, sR45_36, sR45_40, sR45_41, sR45_42, sR45_43, sR45_45, sR45_46, sR45_47, sR45_48, sR45_49]
          simp only [Nat.reduceEqDiff, false_and, if_false, I2, nI_1]
        · rw [xI_sI, if_pos ⟨rfl, rfl⟩, ef, List.length_append, List.length_singleton]
        · rw [ef] at hk ⊢
          rw [List.length_append, List.length_singleton] at hk
          rw [xI_sI, if_neg (by omega), xI_sI]
          by_cases ck : k = (foS S f).length
          · rw [if_pos ⟨rfl, ck⟩, ck, getD_last]
          · rw [if_neg (fun w => ck w.2), getD_lt (by omega)]; exact I3 k (by omega)
  · intro m hh ⟨I1, I2, I3⟩
    refine ⟨nI 12, hh, ?_, I1, I2, I3⟩
    show f_X0_findOrder_L7 K (m + 1) 13 (nI S) (nI 12) hh = _
    rw [f_X0_findOrder_L7, if_pos (by decide)]
set_option maxRecDepth 100000 in
theorem ord_cp {h : Hp} (hs : SH h) {g : Nat → Nat} {n : Nat} (hn : n ≤ 7) (hg : ∀ k, k < n → g k < 12) (e6 : gI h 13 6 = nI n) (e15 : ∀ k, k < n → gI h 15 k = nI (g k)) : ∃ h2, f_X0_countPairs h 13 = some ((), h2) ∧ Upd h h2 (fun a _ => a = 16) ∧ ∀ a k, a < n → k < n → gI h2 16 (a * 7 + k) = nI (qN h (g a) (g k)) := by
  unfold f_X0_countPairs
  refine forL n (fun m a (hh : Hp) => f_X0_countPairs_L2 m 13 (nI a) hh) (fun a hh => Upd h hh (fun a _ => a = 16) ∧ ∀ b k, b < a → k < n → gI hh 16 (b * 7 + k) = nI (qN h (g b) (g k))) (fun x => ∃ h2, x = some ((), h2) ∧ Upd h h2 (fun a _ => a = 16) ∧ ∀ a k, a < n → k < n → gI h2 16 (a * 7 + k) = nI (qN h (g a) (g k))) ?_ ?_ n 6000 0 h (by omega) (by omega) ⟨Upd_rf _ _, fun b k hb => absurd hb (Nat.not_lt_zero b)⟩
  · intro m a hh ha ⟨I1, I2⟩
    have hsh := I1.sh hs
    have x6 : gI hh 13 6 = nI n := by rw [I1.2 _ _ (by omega)]; exact e6
    have x0 : ¬ nI n ≤ nI a := nI_ge ha (by omega)
    right
    have key : ∃ h2, f_X0_countPairs_L12 (fun y22 y23 y24 h25 => vl (y23 + (1 : Int32)) fun x26 => f_X0_countPairs_L2 m y22 x26 h25) 6000 13 (nI a) 0 hh = f_X0_countPairs_L2 m 13 (nI (a + 1)) h2 ∧ Upd h h2 (fun a _ => a = 16) ∧ ∀ b k, b < a + 1 → k < n → gI h2 16 (b * 7 + k) = nI (qN h (g b) (g k)) := by
      refine forL n (fun m' j (h' : Hp) => f_X0_countPairs_L12 (fun y22 y23 y24 h25 => vl (y23 + (1 : Int32)) fun x26 => f_X0_countPairs_L2 m y22 x26 h25) m' 13 (nI a) (nI j) h') (fun j h' => Upd h h' (fun a _ => a = 16) ∧ (∀ b k, b < a → k < n → gI h' 16 (b * 7 + k) = nI (qN h (g b) (g k))) ∧ ∀ k, k < j → gI h' 16 (a * 7 + k) = nI (qN h (g a) (g k))) (fun x => ∃ h2, x = f_X0_countPairs_L2 m 13 (nI (a + 1)) h2 ∧ Upd h h2 (fun a _ => a = 16) ∧ ∀ b k, b < a + 1 → k < n → gI h2 16 (b * 7 + k) = nI (qN h (g b) (g k))) ?_ ?_ n 6000 0 hh (by omega) (by omega) ⟨I1, I2, fun k hk => absurd hk (Nat.not_lt_zero k)⟩
      · intro m' j h' hj ⟨J1, J2, J3⟩
        have hsh' := J1.sh hs
        have y6 : gI h' 13 6 = nI n := by rw [J1.2 _ _ (by omega)]; exact e6
        have y0 : ¬ nI n ≤ nI j := nI_ge hj (by omega)
        have fa : gI h' 15 a = nI (g a) := by rw [J1.2 _ _ (by omega)]; exact e15 a ha
        have fj : gI h' 15 j = nI (g j) := by rw [J1.2 _ _ (by omega)]; exact e15 j hj
        have z1 : (nI a).toNatClampNeg = a := nI_clamp (by omega)
        have z2 : inB (nI a) 7 = true := inB_nI (by omega) (by decide)
        have z3 : (nI j).toNatClampNeg = j := nI_clamp (by omega)
        have z4 : inB (nI j) 7 = true := inB_nI (by omega) (by decide)
        have z5 : (nI (a * 7 + j)).toNatClampNeg = a * 7 + j := nI_clamp (by omega)
        have z6 : inB (nI (a * 7 + j)) 49 = true := inB_nI (by omega) (by decide)
        have qe := quarrelsOf_e hsh' (hg a ha) (hg j hj)
        rw [qN_fr J1 (by omega)] at qe
        refine Or.inr ⟨sI h' 16 (a * 7 + j) (nI (qN h (g a) (g j))), ?_, J1.tr (Upd_sI rfl), fun b k hb hk => ?_, fun k hk => ?_⟩
        · rw [f_X0_countPairs_L12]
          simp only [y6, y0, z1, z2, z3, z4, z5, z6, fa, fj, qe, mul7, nI_add, nI_1, hsh', and_self, if_true, if_false, n_1_0, n_0_0, okOb_sI, okAb_sI, okOb_sW, okAb_sW, vl_e, un_e, nl_s, nl_n, bnd_e, gd_e, SH_sI, SH_sW, xI_sI, xR_sI, xL_sI, xK_sI, xN_sI, gI_sW, xR_sW, xL_sW, xK_sW, xN_sW, sO0, sO1, sO2, sA2, sL2, sO3, sA3, sL3, sO4, sA4, sL4, sO5, sA5, sL5, sO6, sA6, sL6, sO7, sA7, sL7, sO8, sA8, sL8, sO9, sO10, sA10, sL10, sO11, sA11, sL11, sO12, sA12, sL12, sO13, sO14, sA14, sL14, sO15, sA15, sL15, sO16, sA16, sL16, sO17, sA17, sL17, sO18, sA18, sL18, sO19, sA19, sL19, sO20, sO21, sA21, sL21, sO22, sA22, sL22, sO23, sA23, sL23, sO24, sA24, sL24, sO25, sO26, sA26, sL26, sO27, sA27, sL27, sO28, sA28, sL28, sO29, sA29, sL29, sO30, sA30, sL30, sO31, sA31, sL31, sO32, sA32, sL32, sO33, sO34, sA34, sL34, sO35, sA35, sL35, sO36, sA36, sL36, sO37, sO38, sA38, sL38, sO39, sA39, sL39, sO40, sA40, sL40, sO41, sO42, sA42, sL42, sO43, sA43, sL43, sO44, sA44, sL44, sO45, sO46, sA46, sL46, sO47, sA47, sL47, sO48, sA48, sL48, sO49, sA49, sL49, sO50, sA50, sL50, sO51, sA51, sL51, sO52, sA52, sL52, sO53, sA53, sL53, sO54, sA54, sL54, sO55, sA55, sL55, sO56, sA56, sL56, sO57, sA57, sL57, sO58, sA58, sL58, sO59, sA59, sL59, sO60, sA60, sL60, sO61, sA61, sL61, sO62, sA62, sL62, sO63, sA63, sL63, sO64, sA64, sL64, sO65, sA65, sL65, sO66, sA66, sL66, sO67, sA67, sL67, sO68, sA68, sL68, sO69, sA69, sL69, sO70, sA70, sL70, sO71, sA71, sL71, sO72, sA72, sL72, sO73, sA73, sL73, sO74, sA74, sL74, sO75, sA75, sL75, sO76, sA76, sL76, sO77, sA77, sL77, sO78, sA78, sL78, sO79, sA79, sL79, sO80, sA80, sL80, sO81, sA81, sL81, sO82, sA82, sL82, sO83, sA83, sL83, sO84, sA84, sL84, sO85, sA85, sL85, sO86, sA86, sL86, sO87, sA87, sL87, sR0_0, sR0_1, sR0_2, sR0_3, sR0_5, sR0_6, sR0_8, sR0_10, sR0_11, sR0_12, sR0_13, sR1_0, sR6_0, sR6_1, sR6_2, sR9_0, sR9_1, sR9_2, sR13_0, sR13_1, sR13_2, sR13_3, sR13_4, sR13_5, sR20_0, sR20_1, sR20_2, sR20_3, sR25_0, sR25_1, sR25_2, sR25_4, sR25_5, sR25_6, sR25_7, sR33_2, sR33_3, sR37_2, sR37_3, sR41_2, sR41_3, sR45_0, sR45_1, sR45_3, sR45_4, sR45_5, sR45_6, sR45_7, sR45_8, sR45_9, sR45_10, sR45_12, sR45_13, sR45_14, sR45_15, sR45_16, sR45_17, sR45_18, sR45_19, sR45_20, sR45_21, sR45_22, sR45_25, sR45_26, sR45_27, sR45_28, sR45_29, sR45_30, sR45_31, sR45_32, sR45_33, sR45_34, sR45_35, sR45_36, sR45_40, sR45_41, sR45_42, sR45_43, sR45_45, sR45_46, sR45_47, sR45_48, sR45_49]
        · rw [xI_sI, if_neg (by omega)]; exact J2 b k hb hk
        · rw [xI_sI]
          by_cases ck : k = j
          · rw [if_pos ⟨rfl, by rw [ck]⟩, ck]
          · rw [if_neg (by omega)]; exact J3 k (by omega)
      · intro m' h' ⟨J1, J2, J3⟩
        have hsh' := J1.sh hs
        have y6 : gI h' 13 6 = nI n := by rw [J1.2 _ _ (by omega)]; exact e6
        have y0 : nI n ≤ nI n := nI_le (Nat.le_refl _) (by omega)
        refine ⟨h', ?_, J1, fun b k hb hk => ?_⟩
        · show f_X0_countPairs_L12 _ (m' + 1) 13 (nI a) (nI n) h' = _
          rw [f_X0_countPairs_L12]
          simp only [y6, y0, nI_1, hsh', and_self, if_true, if_false, n_1_0, n_0_0, okOb_sI, okAb_sI, okOb_sW, okAb_sW, vl_e, un_e, nl_s, nl_n, bnd_e, gd_e, SH_sI, SH_sW, xI_sI, xR_sI, xL_sI, xK_sI, xN_sI, gI_sW, xR_sW, xL_sW, xK_sW, xN_sW, sO0, sO1, sO2, sA2, sL2, sO3, sA3, sL3, sO4, sA4, sL4, sO5, sA5, sL5, sO6, sA6, sL6, sO7, sA7, sL7, sO8, sA8, sL8, sO9, sO10, sA10, sL10, sO11, sA11, sL11, sO12, sA12, sL12, sO13, sO14, sA14, sL14, sO15, sA15, sL15, sO16, sA16, sL16, sO17, sA17, sL17, sO18, sA18, sL18, sO19, sA19, sL19, sO20, sO21, sA21, sL21, sO22, sA22, sL22, sO23, sA23, sL23, sO24, sA24, sL24, sO25, sO26, sA26, sL26, sO27, sA27, sL27, sO28, sA28, sL28, sO29, sA29, sL29, sO30, sA30, sL30, sO31, sA31, sL31, sO32, sA32, sL32, sO33, sO34, sA34, sL34, sO35, sA35, sL35, sO36, sA36, sL36, sO37, sO38, sA38, sL38, sO39, sA39, sL39, sO40, sA40, sL40, sO41, sO42, sA42, sL42, sO43, sA43, sL43, sO44, sA44, sL44, sO45, sO46, sA46, sL46, sO47, sA47, sL47, sO48, sA48, sL48, sO49, sA49, sL49, sO50, sA50, sL50, sO51, sA51, sL51, sO52, sA52, sL52, sO53, sA53, sL53, sO54, sA54, sL54, sO55, sA55, sL55, sO56, sA56, sL56, sO57, sA57, sL57, sO58, sA58, sL58, sO59, sA59, sL59, sO60, sA60, sL60, sO61, sA61, sL61, sO62, sA62, sL62, sO63, sA63, sL63, sO64, sA64, sL64, sO65, sA65, sL65, sO66, sA66, sL66, sO67, sA67, sL67, sO68, sA68, sL68, sO69, sA69, sL69, sO70, sA70, sL70, sO71, sA71, sL71, sO72, sA72, sL72, sO73, sA73, sL73, sO74, sA74, sL74, sO75, sA75, sL75, sO76, sA76, sL76, sO77, sA77, sL77, sO78, sA78, sL78, sO79, sA79, sL79, sO80, sA80, sL80, sO81, sA81, sL81, sO82, sA82, sL82, sO83, sA83, sL83, sO84, sA84, sL84, sO85, sA85, sL85, sO86, sA86, sL86, sO87, sA87, sL87, sR0_0, sR0_1, sR0_2, sR0_3, sR0_5, sR0_6, sR0_8, sR0_10, sR0_11, sR0_12, sR0_13, sR1_0, sR6_0, sR6_1, sR6_2, sR9_0, sR9_1, sR9_2, sR13_0, sR13_1, sR13_2, sR13_3, sR13_4, sR13_5, sR20_0, sR20_1, sR20_2, sR20_3, sR25_0, sR25_1, sR25_2, sR25_4, sR25_5, sR25_6, sR25_7, sR33_2, sR33_3, sR37_2, sR37_3, sR41_2, sR41_3, sR45_0, sR45_1, sR45_3, sR45_4, sR45_5, sR45_6, sR45_7, sR45_8, sR45_9, sR45_10, sR45_12, sR45_13, sR45_14, sR45_15, sR45_16, sR45_17, sR45_18, sR45_19, sR45_20, sR45_21, sR45_22, sR45_25, sR45_26, sR45_27, sR45_28, sR45_29, sR45_30, sR45_31, sR45_32, sR45_33, sR45_34, sR45_35, sR45_36, sR45_40, sR45_41, sR45_42, sR45_43, sR45_45, sR45_46, sR45_47, sR45_48, sR45_49]
        · by_cases cb : b = a
          · rw [cb]; exact J3 k hk
          · exact J2 b k (by omega) hk
    obtain ⟨h2, q1, q2, q3⟩ := key
    refine ⟨h2, ?_, q2, q3⟩
    rw [f_X0_countPairs_L2]
    simp only [x6, x0, hsh, and_self, if_true, if_false, n_1_0, n_0_0, okOb_sI, okAb_sI, okOb_sW, okAb_sW, vl_e, un_e, nl_s, nl_n, bnd_e, gd_e, SH_sI, SH_sW, xI_sI, xR_sI, xL_sI, xK_sI, xN_sI, gI_sW, xR_sW, xL_sW, xK_sW, xN_sW, sO0, sO1, sO2, sA2, sL2, sO3, sA3, sL3, sO4, sA4, sL4, sO5, sA5, sL5, sO6, sA6, sL6, sO7, sA7, sL7, sO8, sA8, sL8, sO9, sO10, sA10, sL10, sO11, sA11, sL11, sO12, sA12, sL12, sO13, sO14, sA14, sL14, sO15, sA15, sL15, sO16, sA16, sL16, sO17, sA17, sL17, sO18, sA18, sL18, sO19, sA19, sL19, sO20, sO21, sA21, sL21, sO22, sA22, sL22, sO23, sA23, sL23, sO24, sA24, sL24, sO25, sO26, sA26, sL26, sO27, sA27, sL27, sO28, sA28, sL28, sO29, sA29, sL29, sO30, sA30, sL30, sO31, sA31, sL31, sO32, sA32, sL32, sO33, sO34, sA34, sL34, sO35, sA35, sL35, sO36, sA36, sL36, sO37, sO38, sA38, sL38, sO39, sA39, sL39, sO40, sA40, sL40, sO41, sO42, sA42, sL42, sO43, sA43, sL43, sO44, sA44, sL44, sO45, sO46, sA46, sL46, sO47, sA47, sL47, sO48, sA48, sL48, sO49, sA49, sL49, sO50, sA50, sL50, sO51, sA51, sL51, sO52, sA52, sL52, sO53, sA53, sL53, sO54, sA54, sL54, sO55, sA55, sL55, sO56, sA56, sL56, sO57, sA57, sL57, sO58, sA58, sL58, sO59, sA59, sL59, sO60, sA60, sL60, sO61, sA61, sL61, sO62, sA62, sL62, sO63, sA63, sL63, sO64, sA64, sL64, sO65, sA65, sL65, sO66, sA66, sL66, sO67, sA67, sL67, sO68, sA68, sL68, sO69, sA69, sL69, sO70, sA70, sL70, sO71, sA71, sL71, sO72, sA72, sL72, sO73, sA73, sL73, sO74, sA74, sL74, sO75, sA75, sL75, sO76, sA76, sL76, sO77, sA77, sL77, sO78, sA78, sL78, sO79, sA79, sL79, sO80, sA80, sL80, sO81, sA81, sL81, sO82, sA82, sL82, sO83, sA83, sL83, sO84, sA84, sL84, sO85, sA85, sL85, sO86, sA86, sL86, sO87, sA87, sL87, sR0_0, sR0_1, sR0_2, sR0_3, sR0_5, sR0_6, sR0_8, sR0_10, sR0_11, sR0_12, sR0_13, sR1_0, sR6_0, sR6_1, sR6_2, sR9_0, sR9_1, sR9_2, sR13_0, sR13_1, sR13_2, sR13_3, sR13_4, sR13_5, sR20_0, sR20_1, sR20_2, sR20_3, sR25_0, sR25_1, sR25_2, sR25_4, sR25_5, sR25_6, sR25_7, sR33_2, sR33_3, sR37_2, sR37_3, sR41_2, sR41_3, sR45_0, sR45_1, sR45_3, sR45_4, sR45_5, sR45_6, sR45_7, sR45_8, sR45_9, sR45_10, sR45_12, sR45_13, sR45_14, sR45_15, sR45_16, sR45_17, sR45_18, sR45_19, sR45_20, sR45_21, sR45_22, sR45_25, sR45_26, sR45_27, sR45_28, sR45_29, sR45_30, sR45_31, sR45_32, sR45_33, sR45_34, sR45_35, sR45_36, sR45_40, sR45_41, sR45_42, sR45_43, sR45_45, sR45_46, sR45_47, sR45_48, sR45_49]
    exact q1
  · intro m hh ⟨I1, I2⟩
    have hsh := I1.sh hs
    have x6 : gI hh 13 6 = nI n := by rw [I1.2 _ _ (by omega)]; exact e6
    have x0 : nI n ≤ nI n := nI_le (Nat.le_refl _) (by omega)
    refine ⟨hh, ?_, I1, I2⟩
    show f_X0_countPairs_L2 (m + 1) 13 (nI n) hh = _
    rw [f_X0_countPairs_L2]
    simp only [x6, x0, hsh, and_self, if_true, if_false, n_1_0, n_0_0, okOb_sI, okAb_sI, okOb_sW, okAb_sW, vl_e, un_e, nl_s, nl_n, bnd_e, gd_e, SH_sI, SH_sW, xI_sI, xR_sI, xL_sI, xK_sI, xN_sI, gI_sW, xR_sW, xL_sW, xK_sW, xN_sW, sO0, sO1, sO2, sA2, sL2, sO3, sA3, sL3, sO4, sA4, sL4, sO5, sA5, sL5, sO6, sA6, sL6, sO7, sA7, sL7, sO8, sA8, sL8, sO9, sO10, sA10, sL10, sO11, sA11, sL11, sO12, sA12, sL12, sO13, sO14, sA14, sL14, sO15, sA15, sL15, sO16, sA16, sL16, sO17, sA17, sL17, sO18, sA18, sL18, sO19, sA19, sL19, sO20, sO21, sA21, sL21, sO22, sA22, sL22, sO23, sA23, sL23, sO24, sA24, sL24, sO25, sO26, sA26, sL26, sO27, sA27, sL27, sO28, sA28, sL28, sO29, sA29, sL29, sO30, sA30, sL30, sO31, sA31, sL31, sO32, sA32, sL32, sO33, sO34, sA34, sL34, sO35, sA35, sL35, sO36, sA36, sL36, sO37, sO38, sA38, sL38, sO39, sA39, sL39, sO40, sA40, sL40, sO41, sO42, sA42, sL42, sO43, sA43, sL43, sO44, sA44, sL44, sO45, sO46, sA46, sL46, sO47, sA47, sL47, sO48, sA48, sL48, sO49, sA49, sL49, sO50, sA50, sL50, sO51, sA51, sL51, sO52, sA52, sL52, sO53, sA53, sL53, sO54, sA54, sL54, sO55, sA55, sL55, sO56, sA56, sL56, sO57, sA57, sL57, sO58, sA58, sL58, sO59, sA59, sL59, sO60, sA60, sL60, sO61, sA61, sL61, sO62, sA62, sL62, sO63, sA63, sL63, sO64, sA64, sL64, sO65, sA65, sL65, sO66, sA66, sL66, sO67, sA67, sL67, sO68, sA68, sL68, sO69, sA69, sL69, sO70, sA70, sL70, sO71, sA71, sL71, sO72, sA72, sL72, sO73, sA73, sL73, sO74, sA74, sL74, sO75, sA75, sL75, sO76, sA76, sL76, sO77, sA77, sL77, sO78, sA78, sL78, sO79, sA79, sL79, sO80, sA80, sL80, sO81, sA81, sL81, sO82, sA82, sL82, sO83, sA83, sL83, sO84, sA84, sL84, sO85, sA85, sL85, sO86, sA86, sL86, sO87, sA87, sL87, sR0_0, sR0_1, sR0_2, sR0_3, sR0_5, sR0_6, sR0_8, sR0_10, sR0_11, sR0_12, sR0_13, sR1_0, sR6_0, sR6_1, sR6_2, sR9_0, sR9_1, sR9_2, sR13_0, sR13_1, sR13_2, sR13_3, sR13_4, sR13_5, sR20_0, sR20_1, sR20_2, sR20_3, sR25_0, sR25_1, sR25_2, sR25_4, sR25_5, sR25_6, sR25_7, sR33_2, sR33_3, sR37_2, sR37_3, sR41_2, sR41_3, sR45_0, sR45_1, sR45_3, sR45_4, sR45_5, sR45_6, sR45_7, sR45_8, sR45_9, sR45_10, sR45_12, sR45_13, sR45_14, sR45_15, sR45_16, sR45_17, sR45_18, sR45_19, sR45_20, sR45_21, sR45_22, sR45_25, sR45_26, sR45_27, sR45_28, sR45_29, sR45_30, sR45_31, sR45_32, sR45_33, sR45_34, sR45_35, sR45_36, sR45_40, sR45_41, sR45_42, sR45_43, sR45_45, sR45_46, sR45_47, sR45_48, sR45_49]
def PO (a k : Nat) : Prop := a = 15 ∨ a = 16 ∨ a = 17 ∨ a = 18 ∨ a = 19 ∨ (a = 13 ∧ (k = 6 ∨ k = 7))
theorem SS_0 (n : Nat) : SS n 0 = [] := by
  unfold SS
  rw [List.filter_eq_nil_iff]
  intro a _
  simp
theorem oS_0 (Q : Nat → Nat → Nat) (n : Nat) : oS Q n 0 = (0, 1, []) := by
  unfold oS crd
  rw [SS_0]
  rfl
theorem oS_all (Q : Nat → Nat → Nat) {n : Nat} (hn : n ≤ 7) : oS Q n (2 ^ n - 1) = smr Q (pms n (List.range n)) := by
  obtain ⟨c1, c2, -⟩ := crd_all n (by omega)
  unfold oS
  rw [c1, c2]
set_option maxRecDepth 100000 in
theorem ord_L85 {h : Hp} (hs : SH h) {Q : Nat → Nat → Nat} (hQ : ∀ a k, Q a k ≤ 6) {n : Nat} (h1 : 1 ≤ n) (hn : n ≤ 7) (g : Nat → Nat) (e15 : ∀ k, k < n → gI h 15 k = nI (g k)) (t : TB h Q n 1) (x : Int32) : ∃ h2, f_X0_findOrder_L85 6000 13 x (nI (2 ^ n - 1)) 1 h = some (nI (smr Q (pms n (List.range n))).1, h2) ∧ Upd h h2 PO ∧ gI h2 13 6 = nI n ∧ gI h2 13 7 = nI (smr Q (pms n (List.range n))).2.1 ∧ ∀ k, k < n → gI h2 19 k = nI (g ((smr Q (pms n (List.range n))).2.2.getD k 0)) := by
  have hp1 : 2 ^ 1 ≤ 2 ^ n := Nat.pow_le_pow_right (by decide) h1
  have hp7 : 2 ^ n ≤ 2 ^ 7 := Nat.pow_le_pow_right (by decide) hn
  refine forL (2 ^ n - 1) (fun m U (hh : Hp) => f_X0_findOrder_L85 m 13 x (nI (2 ^ n - 1)) (nI (U + 1)) hh) (fun U hh => Upd h hh (fun a _ => a = 17 ∨ a = 18) ∧ TB hh Q n (U + 1)) (fun y => ∃ h2, y = some (nI (smr Q (pms n (List.range n))).1, h2) ∧ Upd h h2 PO ∧ gI h2 13 6 = nI n ∧ gI h2 13 7 = nI (smr Q (pms n (List.range n))).2.1 ∧ ∀ k, k < n → gI h2 19 k = nI (g ((smr Q (pms n (List.range n))).2.2.getD k 0))) ?_ ?_ (2 ^ n - 1) 6000 0 h (by omega) (by omega) ⟨Upd_rf _ _, t⟩
  · intro m U hh hU ⟨I1, I2⟩
    have hsh := I1.sh hs
    have x0 : ¬ nI (2 ^ n - 1) < nI (U + 1) := nI_nlt (by omega) (by omega)
    have so := solve_e hsh hQ hn (U := U + 1) (by omega) (by omega) I2
    right
    refine ⟨sI (sI hh 17 (U + 1) (nI (oS Q n (U + 1)).1)) 18 (U + 1) (nI (oS Q n (U + 1)).2.1), ?_, (I1.tr (Upd_sI (Or.inl rfl))).tr (Upd_sI (Or.inr rfl)), ?_⟩
    · rw [f_X0_findOrder_L85]
      simp only [x0, so, nI_1, hsh, and_self, if_true, if_false, n_1_0, n_0_0, okOb_sI, okAb_sI, okOb_sW, okAb_sW, vl_e, un_e, nl_s, nl_n, bnd_e, gd_e, SH_sI, SH_sW, xI_sI, xR_sI, xL_sI, xK_sI, xN_sI, gI_sW, xR_sW, xL_sW, xK_sW, xN_sW, sO0, sO1, sO2, sA2, sL2, sO3, sA3, sL3, sO4, sA4, sL4, sO5, sA5, sL5, sO6, sA6, sL6, sO7, sA7, sL7, sO8, sA8, sL8, sO9, sO10, sA10, sL10, sO11, sA11, sL11, sO12, sA12, sL12, sO13, sO14, sA14, sL14, sO15, sA15, sL15, sO16, sA16, sL16, sO17, sA17, sL17, sO18, sA18, sL18, sO19, sA19, sL19, sO20, sO21, sA21, sL21, sO22, sA22, sL22, sO23, sA23, sL23, sO24, sA24, sL24, sO25, sO26, sA26, sL26, sO27, sA27, sL27, sO28, sA28, sL28, sO29, sA29, sL29, sO30, sA30, sL30, sO31, sA31, sL31, sO32, sA32, sL32, sO33, sO34, sA34, sL34, sO35, sA35, sL35, sO36, sA36, sL36, sO37, sO38, sA38, sL38, sO39, sA39, sL39, sO40, sA40, sL40, sO41, sO42, sA42, sL42, sO43, sA43, sL43, sO44, sA44, sL44, sO45, sO46, sA46, sL46, sO47, sA47, sL47, sO48, sA48, sL48, sO49, sA49, sL49, sO50, sA50, sL50, sO51, sA51, sL51, sO52, sA52, sL52, sO53, sA53, sL53, sO54, sA54, sL54, sO55, sA55, sL55, sO56, sA56, sL56, sO57, sA57, sL57, sO58, sA58, sL58, sO59, sA59, sL59, sO60, sA60, sL60, sO61, sA61, sL61, sO62, sA62, sL62, sO63, sA63, sL63, sO64, sA64, sL64, sO65, sA65, sL65, sO66, sA66, sL66, sO67, sA67, sL67, sO68, sA68, sL68, sO69, sA69, sL69, sO70, sA70, sL70, sO71, sA71, sL71, sO72, sA72, sL72, sO73, sA73, sL73, sO74, sA74, sL74, sO75, sA75, sL75, sO76, sA76, sL76, sO77, sA77, sL77, sO78, sA78, sL78, sO79, sA79, sL79, sO80, sA80, sL80, sO81, sA81, sL81, sO82, sA82, sL82, sO83, sA83, sL83, sO84, sA84, sL84, sO85, sA85, sL85, sO86, sA86, sL86, sO87, sA87, sL87, sR0_0, sR0_1, sR0_2, sR0_3, sR0_5, sR0_6, sR0_8, sR0_10, sR0_11, sR0_12, sR0_13, sR1_0, sR6_0, sR6_1, sR6_2, sR9_0, sR9_1, sR9_2, sR13_0, sR13_1, sR13_2, sR13_3, sR13_4, sR13_5, sR20_0, sR20_1, sR20_2, sR20_3, sR25_0, sR25_1, sR25_2, sR25_4, sR25_5, sR25_6, sR25_7, sR33_2, sR33_3, sR37_2, sR37_3, sR41_2, sR41_3, sR45_0, sR45_1, sR45_3, sR45_4, sR45_5, sR45_6, sR45_7, sR45_8, sR45_9, sR45_10, sR45_12, sR45_13, sR45_14, sR45_15, sR45_16, sR45_17, sR45_18, sR45_19, sR45_20, sR45_21, sR45_22, sR45_25, sR45_26, sR45_27, sR45_28, sR45_29, sR45_30, sR45_31, sR45_32, sR45_33, sR45_34, sR45_35, sR45_36, sR45_40, sR45_41, sR45_42, sR45_43, sR45_45, sR45_46, sR45_47, sR45_48, sR45_49]
    · obtain ⟨t1, t2, t3⟩ := I2
      refine ⟨by rw [xI_sI, if_neg (by omega), xI_sI, if_neg (by omega)]; exact t1, fun a k ha hk => by rw [xI_sI, if_neg (by omega), xI_sI, if_neg (by omega)]; exact t2 a k ha hk, fun V hV => ?_⟩
      simp only [xI_sI]
      by_cases c : V = U + 1
      · subst c; simp
      · simp [c]; exact t3 V (by omega)
  · intro m hh ⟨I1, I2⟩
    rw [show 2 ^ n - 1 + 1 = 2 ^ n by omega] at I2
    have hsh := I1.sh hs
    have x0 : nI (2 ^ n - 1) < nI (2 ^ n - 1 + 1) := nI_lt (by omega) (by omega)
    obtain ⟨c1, c2, -⟩ := crd_all n (by omega)
    obtain ⟨h2, q1, q2, q3⟩ := takeLeast_e hsh hQ hn g (fun k hk => by rw [I1.2 _ _ (by omega)]; exact e15 k hk) I2 (nI (2 ^ n - 1)) n 0 6000 (2 ^ n - 1) hh [] (by omega) (by omega) (by omega) c1 (Upd_rf _ _) rfl (fun k hk => absurd hk (Nat.not_lt_zero k))
    have hs2 := q2.sh hsh
    rw [oS_all Q hn, List.nil_append] at q3
    have e17 := (I2.2.2 (2 ^ n - 1) (by omega)).1
    have e18 := (I2.2.2 (2 ^ n - 1) (by omega)).2
    rw [oS_all Q hn, ← q2.2 _ _ (by omega)] at e17 e18
    have z1 : (nI (2 ^ n - 1)).toNatClampNeg = 2 ^ n - 1 := nI_clamp (by omega)
    have z2 : inB (nI (2 ^ n - 1)) 128 = true := inB_nI (by omega) (by decide)
    have q1' : f_X0_takeLeast hh 13 (nI (2 ^ n - 1)) = some ((), h2) := q1
    refine ⟨sI h2 13 7 (nI (smr Q (pms n (List.range n))).2.1), ?_, ((I1.mono (fun a k w => by unfold PO; omega)).tr (q2.mono (fun a k w => by unfold PO; omega))).tr (Upd_sI (by unfold PO; omega)), ?_, by rw [xI_sI, if_pos ⟨rfl, rfl⟩], fun k hk => ?_⟩
    · show f_X0_findOrder_L85 (m + 1) 13 x (nI (2 ^ n - 1)) (nI (2 ^ n - 1 + 1)) hh = _
      rw [f_X0_findOrder_L85]
      simp only [x0, q1', z1, z2, e17, e18, hsh, hs2, and_self, if_true, if_false, n_1_0, n_0_0, okOb_sI, okAb_sI, okOb_sW, okAb_sW, vl_e, un_e, nl_s, nl_n, bnd_e, gd_e, SH_sI, SH_sW, xI_sI, xR_sI, xL_sI, xK_sI, xN_sI, gI_sW, xR_sW, xL_sW, xK_sW, xN_sW, sO0, sO1, sO2, sA2, sL2, sO3, sA3, sL3, sO4, sA4, sL4, sO5, sA5, sL5, sO6, sA6, sL6, sO7, sA7, sL7, sO8, sA8, sL8, sO9, sO10, sA10, sL10, sO11, sA11, sL11, sO12, sA12, sL12, sO13, sO14, sA14, sL14, sO15, sA15, sL15, sO16, sA16, sL16, sO17, sA17, sL17, sO18, sA18, sL18, sO19, sA19, sL19, sO20, sO21, sA21, sL21, sO22, sA22, sL22, sO23, sA23, sL23, sO24, sA24, sL24, sO25, sO26, sA26, sL26, sO27, sA27, sL27, sO28, sA28, sL28, sO29, sA29, sL29, sO30, sA30, sL30, sO31, sA31, sL31, sO32, sA32, sL32, sO33, sO34, sA34, sL34, sO35, sA35, sL35, sO36, sA36, sL36, sO37, sO38, sA38, sL38, sO39, sA39, sL39, sO40, sA40, sL40, sO41, sO42, sA42, sL42, sO43, sA43, sL43, sO44, sA44, sL44, sO45, sO46, sA46, sL46, sO47, sA47, sL47, sO48, sA48, sL48, sO49, sA49, sL49, sO50, sA50, sL50, sO51, sA51, sL51, sO52, sA52, sL52, sO53, sA53, sL53, sO54, sA54, sL54, sO55, sA55, sL55, sO56, sA56, sL56, sO57, sA57, sL57, sO58, sA58, sL58, sO59, sA59, sL59, sO60, sA60, sL60, sO61, sA61, sL61, sO62, sA62, sL62, sO63, sA63, sL63, sO64, sA64, sL64, sO65, sA65, sL65, sO66, sA66, sL66, sO67, sA67, sL67, sO68, sA68, sL68, sO69, sA69, sL69, sO70, sA70, sL70, sO71, sA71, sL71, sO72, sA72, sL72, sO73, sA73, sL73, sO74, sA74, sL74, sO75, sA75, sL75, sO76, sA76, sL76, sO77, sA77, sL77, sO78, sA78, sL78, sO79, sA79, sL79, sO80, sA80, sL80, sO81, sA81, sL81, sO82, sA82, sL82, sO83, sA83, sL83, sO84, sA84, sL84, sO85, sA85, sL85, sO86, sA86, sL86, sO87, sA87, sL87, sR0_0, sR0_1, sR0_2, sR0_3, sR0_5, sR0_6, sR0_8, sR0_10, sR0_11, sR0_12, sR0_13, sR1_0, sR6_0, sR6_1, sR6_2, sR9_0, sR9_1, sR9_2, sR13_0, sR13_1, sR13_2, sR13_3, sR13_4, sR13_5, sR20_0, sR20_1, sR20_2, sR20_3, sR25_0, sR25_1, sR25_2, sR25_4, sR25_5, sR25_6, sR25_7, sR33_2, sR33_3, sR37_2, sR37_3, sR41_2, sR41_3, sR45_0, sR45_1, sR45_3, sR45_4, sR45_5, sR45_6, sR45_7, sR45_8, sR45_9, sR45_10, sR45_12, sR45_13, sR45_14, sR45_15, sR45_16, sR45_17, sR45_18, sR45_19, sR45_20, sR45_21, sR45_22, sR45_25, sR45_26, sR45_27, sR45_28, sR45_29, sR45_30, sR45_31, sR45_32, sR45_33, sR45_34, sR45_35, sR45_36, sR45_40, sR45_41, sR45_42, sR45_43, sR45_45, sR45_46, sR45_47, sR45_48, sR45_49]
      simp only [Nat.reduceEqDiff, false_and, if_false, e17]
    · rw [xI_sI, if_neg (by omega), q2.2 _ _ (by omega)]; exact I2.1
    · rw [xI_sI, if_neg (by omega)]; exact q3 k hk
set_option maxRecDepth 100000 in
theorem orderC_e {h : Hp} (hs : SH h) {S : Nat} (hS : S < 4096) (h1 : 1 ≤ (foS S 12).length) (hn : (foS S 12).length ≤ 7) : ∃ h2, f_X9_order h 0 (nI S) = some (nI (smr (fun a b => qN h (gO S a) (gO S b)) (pms (foS S 12).length (List.range (foS S 12).length))).1, h2) ∧ Upd h h2 PO ∧ gI h2 13 6 = nI (foS S 12).length ∧ gI h2 13 7 = nI (smr (fun a b => qN h (gO S a) (gO S b)) (pms (foS S 12).length (List.range (foS S 12).length))).2.1 ∧ ∀ k, k < (foS S 12).length → gI h2 19 k = nI (gO S ((smr (fun a b => qN h (gO S a) (gO S b)) (pms (foS S 12).length (List.range (foS S 12).length))).2.2.getD k 0)) := by
  have hsA : SH (sI h 13 6 0) := hs
  have uA : Upd h (sI h 13 6 0) (fun a k => a = 13 ∧ k = 6) := Upd_sI ⟨rfl, rfl⟩
  obtain ⟨l, hB, B1, B2, B3, B4⟩ := ord_L7 hsA hS hn (by rw [xI_sI, if_pos ⟨rfl, rfl⟩]) (fun y17 y18 y19 h20 => f_X0_findOrder_J56 y17 y18 y19 h20)
  have e0 : f_X9_order h 0 (nI S) = f_X0_findOrder_J56 13 (nI S) l hB := by
    have y1 : (nI S >>> ((12 : Int32) &&& 31)) = 0 := by
      rw [pk_shrN (by omega) _ 12 (by decide), show S / 2 ^ 12 = 0 by omega]; rfl
    have y2 : ¬ nI (foS S 12).length < (1 : Int32) := nI_nlt (b := 1) h1 (by omega)
    have y3 : nI (foS S 12).length ≤ (7 : Int32) := nI_le (b := 7) hn (by decide)
    simp only [f_X9_order, f_X0_findOrder, bc_e, (bc_s hS).1, y1, y2, y3, hs, and_self, if_true, if_false, n_1_0, n_0_0, okOb_sI, okAb_sI, okOb_sW, okAb_sW, vl_e, un_e, nl_s, nl_n, bnd_e, gd_e, SH_sI, SH_sW, xI_sI, xR_sI, xL_sI, xK_sI, xN_sI, gI_sW, xR_sW, xL_sW, xK_sW, xN_sW, sO0, sO1, sO2, sA2, sL2, sO3, sA3, sL3, sO4, sA4, sL4, sO5, sA5, sL5, sO6, sA6, sL6, sO7, sA7, sL7, sO8, sA8, sL8, sO9, sO10, sA10, sL10, sO11, sA11, sL11, sO12, sA12, sL12, sO13, sO14, sA14, sL14, sO15, sA15, sL15, sO16, sA16, sL16, sO17, sA17, sL17, sO18, sA18, sL18, sO19, sA19, sL19, sO20, sO21, sA21, sL21, sO22, sA22, sL22, sO23, sA23, sL23, sO24, sA24, sL24, sO25, sO26, sA26, sL26, sO27, sA27, sL27, sO28, sA28, sL28, sO29, sA29, sL29, sO30, sA30, sL30, sO31, sA31, sL31, sO32, sA32, sL32, sO33, sO34, sA34, sL34, sO35, sA35, sL35, sO36, sA36, sL36, sO37, sO38, sA38, sL38, sO39, sA39, sL39, sO40, sA40, sL40, sO41, sO42, sA42, sL42, sO43, sA43, sL43, sO44, sA44, sL44, sO45, sO46, sA46, sL46, sO47, sA47, sL47, sO48, sA48, sL48, sO49, sA49, sL49, sO50, sA50, sL50, sO51, sA51, sL51, sO52, sA52, sL52, sO53, sA53, sL53, sO54, sA54, sL54, sO55, sA55, sL55, sO56, sA56, sL56, sO57, sA57, sL57, sO58, sA58, sL58, sO59, sA59, sL59, sO60, sA60, sL60, sO61, sA61, sL61, sO62, sA62, sL62, sO63, sA63, sL63, sO64, sA64, sL64, sO65, sA65, sL65, sO66, sA66, sL66, sO67, sA67, sL67, sO68, sA68, sL68, sO69, sA69, sL69, sO70, sA70, sL70, sO71, sA71, sL71, sO72, sA72, sL72, sO73, sA73, sL73, sO74, sA74, sL74, sO75, sA75, sL75, sO76, sA76, sL76, sO77, sA77, sL77, sO78, sA78, sL78, sO79, sA79, sL79, sO80, sA80, sL80, sO81, sA81, sL81, sO82, sA82, sL82, sO83, sA83, sL83, sO84, sA84, sL84, sO85, sA85, sL85, sO86, sA86, sL86, sO87, sA87, sL87, sR0_0, sR0_1, sR0_2, sR0_3, sR0_5, sR0_6, sR0_8, sR0_10, sR0_11, sR0_12, sR0_13, sR1_0, sR6_0, sR6_1, sR6_2, sR9_0, sR9_1, sR9_2, sR13_0, sR13_1, sR13_2, sR13_3, sR13_4, sR13_5, sR20_0, sR20_1, sR20_2, sR20_3, sR25_0, sR25_1, sR25_2, sR25_4, sR25_5, sR25_6, sR25_7, sR33_2, sR33_3, sR37_2, sR37_3, sR41_2, sR41_3, sR45_0, sR45_1, sR45_3, sR45_4, sR45_5, sR45_6, sR45_7, sR45_8, sR45_9, sR45_10, sR45_12, sR45_13, sR45_14, sR45_15, sR45_16, sR45_17, sR45_18, sR45_19, sR45_20, sR45_21, sR45_22, sR45_25, sR45_26, sR45_27, sR45_28, sR45_29, sR45_30, sR45_31, sR45_32, sR45_33, sR45_34, sR45_35, sR45_36, sR45_40, sR45_41, sR45_42, sR45_43, sR45_45, sR45_46, sR45_47, sR45_48, sR45_49]
    rw [B1]
    cases f_X0_findOrder_J56 13 (nI S) l hB with
    | none => rfl
    | some v => rfl
  rw [e0]
  generalize hN : (foS S 12).length = n at *
  have gl : ∀ k, k < n → gO S k = (foS S 12).getD k 0 ∧ gO S k < 12 := fun k hk => gO_lt (by omega)
  have hsB := B2.sh hsA
  have uB : Upd h hB PO := (uA.mono (fun a k w => by unfold PO; omega)).tr (B2.mono (fun a k w => by unfold PO; omega))
  obtain ⟨hC, C1, C2, C3⟩ := ord_cp hsB hn (g := gO S) (fun k hk => (gl k hk).2) B3 (fun k hk => by rw [B4 k hk, (gl k hk).1])
  have hsC := C2.sh hsB
  rw [qN_fr uB (fun k => by unfold PO; omega)] at C3
  have e6C : gI hC 13 6 = nI n := by rw [C2.2 _ _ (by omega)]; exact B3
  let hD : Hp := sI (sI hC 17 0 0) 18 0 1
  have hsD : SH hD := hsC
  have uD : Upd hC hD (fun a _ => a = 17 ∨ a = 18) := (Upd_sI (Or.inl rfl)).tr (Upd_sI (Or.inr rfl))
  have tD : TB hD (fun a b => qN h (gO S a) (gO S b)) n 1 := by
    refine ⟨by rw [uD.2 _ _ (by omega)]; exact e6C, fun a k ha hk => by rw [uD.2 _ _ (by omega)]; exact C3 a k ha hk, fun V hV => ?_⟩
    have : V = 0 := by omega
    subst this
    rw [oS_0]
    simp [hD, xI_sI]
    exact ⟨nI_0.symm, rfl⟩
  obtain ⟨h2, q1, q2, q3, q4, q5⟩ := ord_L85 hsD (fun a k => qN_le h _ _) h1 hn (gO S) (fun k hk => by rw [uD.2 _ _ (by omega), C2.2 _ _ (by omega), B4 k hk, (gl k hk).1]) tD (nI S)
  refine ⟨h2, ?_, ((uB.tr (C2.mono (fun a k w => by unfold PO; omega))).tr (uD.mono (fun a k w => by unfold PO; omega))).tr q2, q3, q4, q5⟩
  have z0 : (0 : Int32).toNatClampNeg = 0 := by decide
  have z1 : inB (0 : Int32) 128 = true := by decide
  rw [← q1]
  simp only [f_X0_findOrder_J56, C1, e6C, (crd_all n (by omega)).2.2, z0, z1, hsB, hsC, and_self, if_true, if_false, n_1_0, n_0_0, okOb_sI, okAb_sI, okOb_sW, okAb_sW, vl_e, un_e, nl_s, nl_n, bnd_e, gd_e, SH_sI, SH_sW, xI_sI, xR_sI, xL_sI, xK_sI, xN_sI, gI_sW, xR_sW, xL_sW, xK_sW, xN_sW, sO0, sO1, sO2, sA2, sL2, sO3, sA3, sL3, sO4, sA4, sL4, sO5, sA5, sL5, sO6, sA6, sL6, sO7, sA7, sL7, sO8, sA8, sL8, sO9, sO10, sA10, sL10, sO11, sA11, sL11, sO12, sA12, sL12, sO13, sO14, sA14, sL14, sO15, sA15, sL15, sO16, sA16, sL16, sO17, sA17, sL17, sO18, sA18, sL18, sO19, sA19, sL19, sO20, sO21, sA21, sL21, sO22, sA22, sL22, sO23, sA23, sL23, sO24, sA24, sL24, sO25, sO26, sA26, sL26, sO27, sA27, sL27, sO28, sA28, sL28, sO29, sA29, sL29, sO30, sA30, sL30, sO31, sA31, sL31, sO32, sA32, sL32, sO33, sO34, sA34, sL34, sO35, sA35, sL35, sO36, sA36, sL36, sO37, sO38, sA38, sL38, sO39, sA39, sL39, sO40, sA40, sL40, sO41, sO42, sA42, sL42, sO43, sA43, sL43, sO44, sA44, sL44, sO45, sO46, sA46, sL46, sO47, sA47, sL47, sO48, sA48, sL48, sO49, sA49, sL49, sO50, sA50, sL50, sO51, sA51, sL51, sO52, sA52, sL52, sO53, sA53, sL53, sO54, sA54, sL54, sO55, sA55, sL55, sO56, sA56, sL56, sO57, sA57, sL57, sO58, sA58, sL58, sO59, sA59, sL59, sO60, sA60, sL60, sO61, sA61, sL61, sO62, sA62, sL62, sO63, sA63, sL63, sO64, sA64, sL64, sO65, sA65, sL65, sO66, sA66, sL66, sO67, sA67, sL67, sO68, sA68, sL68, sO69, sA69, sL69, sO70, sA70, sL70, sO71, sA71, sL71, sO72, sA72, sL72, sO73, sA73, sL73, sO74, sA74, sL74, sO75, sA75, sL75, sO76, sA76, sL76, sO77, sA77, sL77, sO78, sA78, sL78, sO79, sA79, sL79, sO80, sA80, sL80, sO81, sA81, sL81, sO82, sA82, sL82, sO83, sA83, sL83, sO84, sA84, sL84, sO85, sA85, sL85, sO86, sA86, sL86, sO87, sA87, sL87, sR0_0, sR0_1, sR0_2, sR0_3, sR0_5, sR0_6, sR0_8, sR0_10, sR0_11, sR0_12, sR0_13, sR1_0, sR6_0, sR6_1, sR6_2, sR9_0, sR9_1, sR9_2, sR13_0, sR13_1, sR13_2, sR13_3, sR13_4, sR13_5, sR20_0, sR20_1, sR20_2, sR20_3, sR25_0, sR25_1, sR25_2, sR25_4, sR25_5, sR25_6, sR25_7, sR33_2, sR33_3, sR37_2, sR37_3, sR41_2, sR41_3, sR45_0, sR45_1, sR45_3, sR45_4, sR45_5, sR45_6, sR45_7, sR45_8, sR45_9, sR45_10, sR45_12, sR45_13, sR45_14, sR45_15, sR45_16, sR45_17, sR45_18, sR45_19, sR45_20, sR45_21, sR45_22, sR45_25, sR45_26, sR45_27, sR45_28, sR45_29, sR45_30, sR45_31, sR45_32, sR45_33, sR45_34, sR45_35, sR45_36, sR45_40, sR45_41, sR45_42, sR45_43, sR45_45, sR45_46, sR45_47, sR45_48, sR45_49]
  rfl
