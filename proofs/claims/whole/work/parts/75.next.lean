def RowR (h : Hp) (g : Nat → Nat) (n : Nat) (p : List Nat) : Prop := ∀ k, k < n → gI h 75 k = nI (g (p.getD k 0))
theorem swp_len (p : List Nat) (a b : Nat) : (swp p a b).length = p.length := by unfold swp; simp
theorem swp_at {p : List Nat} {a b k : Nat} (ha : a < p.length) (hb : b < p.length) : (swp p a b).getD k 0 = if k = b then p.getD a 0 else if k = a then p.getD b 0 else p.getD k 0 := by
  unfold swp
  simp only [List.getD_eq_getElem?_getD, List.getElem?_set, List.length_set]
  by_cases c1 : k = b
  · subst c1
    simp [hb]
  · rw [if_neg c1, if_neg (fun z => c1 z.symm)]
    by_cases c2 : k = a
    · subst c2
      simp [ha]
    · rw [if_neg c2, if_neg (fun z => c2 z.symm)]
set_option maxRecDepth 100000 in
theorem exch_e {h : Hp} (hs : SH h) {a b : Nat} (ha : a < 7) (hb : b < 7) : f_X10_exchanges h 45 (nI a) (nI b) = some ((), sI (sI h 75 a (gI h 75 b)) 75 b (gI h 75 a)) := by
  have x1 : (nI a).toNatClampNeg = a := nI_clamp (by omega)
  have x2 : inB (nI a) 7 = true := inB_nI (by omega) (by decide)
  have x3 : (nI b).toNatClampNeg = b := nI_clamp (by omega)
  have x4 : inB (nI b) 7 = true := inB_nI (by omega) (by decide)
  simp only [f_X10_exchanges, x1, x2, x3, x4, hs, and_self, if_true, if_false, n_1_0, n_0_0, okOb_sI, okAb_sI, okOb_sW, okAb_sW, vl_e, un_e, nl_s, nl_n, bnd_e, gd_e, SH_sI, SH_sW, xI_sI, xR_sI, xL_sI, xK_sI, xN_sI, gI_sW, xR_sW, xL_sW, xK_sW, xN_sW, sO0, sO1, sO2, sA2, sL2, sO3, sA3, sL3, sO4, sA4, sL4, sO5, sA5, sL5, sO6, sA6, sL6, sO7, sA7, sL7, sO8, sA8, sL8, sO9, sO10, sA10, sL10, sO11, sA11, sL11, sO12, sA12, sL12, sO13, sO14, sA14, sL14, sO15, sA15, sL15, sO16, sA16, sL16, sO17, sA17, sL17, sO18, sA18, sL18, sO19, sA19, sL19, sO20, sO21, sA21, sL21, sO22, sA22, sL22, sO23, sA23, sL23, sO24, sA24, sL24, sO25, sO26, sA26, sL26, sO27, sA27, sL27, sO28, sA28, sL28, sO29, sA29, sL29, sO30, sA30, sL30, sO31, sA31, sL31, sO32, sA32, sL32, sO33, sO34, sA34, sL34, sO35, sA35, sL35, sO36, sA36, sL36, sO37, sO38, sA38, sL38, sO39, sA39, sL39, sO40, sA40, sL40, sO41, sO42, sA42, sL42, sO43, sA43, sL43, sO44, sA44, sL44, sO45, sO46, sA46, sL46, sO47, sA47, sL47, sO48, sA48, sL48, sO49, sA49, sL49, sO50, sA50, sL50, sO51, sA51, sL51, sO52, sA52, sL52, sO53, sA53, sL53, sO54, sA54, sL54, sO55, sA55, sL55, sO56, sA56, sL56, sO57, sA57, sL57, sO58, sA58, sL58, sO59, sA59, sL59, sO60, sA60, sL60, sO61, sA61, sL61, sO62, sA62, sL62, sO63, sA63, sL63, sO64, sA64, sL64, sO65, sA65, sL65, sO66, sA66, sL66, sO67, sA67, sL67, sO68, sA68, sL68, sO69, sA69, sL69, sO70, sA70, sL70, sO71, sA71, sL71, sO72, sA72, sL72, sO73, sA73, sL73, sO74, sA74, sL74, sO75, sA75, sL75, sO76, sA76, sL76, sO77, sA77, sL77, sO78, sA78, sL78, sO79, sA79, sL79, sO80, sA80, sL80, sO81, sA81, sL81, sO82, sA82, sL82, sO83, sA83, sL83, sO84, sA84, sL84, sO85, sA85, sL85, sO86, sA86, sL86, sO87, sA87, sL87, sR0_0, sR0_1, sR0_2, sR0_3, sR0_5, sR0_6, sR0_8, sR0_10, sR0_11, sR0_12, sR0_13, sR1_0, sR6_0, sR6_1, sR6_2, sR9_0, sR9_1, sR9_2, sR13_0, sR13_1, sR13_2, sR13_3, sR13_4, sR13_5, sR20_0, sR20_1, sR20_2, sR20_3, sR25_0, sR25_1, sR25_2, sR25_4, sR25_5, sR25_6, sR25_7, sR33_2, sR33_3, sR37_2, sR37_3, sR41_2, sR41_3, sR45_0, sR45_1, sR45_3, sR45_4, sR45_5, sR45_6, sR45_7, sR45_8, sR45_9, sR45_10, sR45_12, sR45_13, sR45_14, sR45_15, sR45_16, sR45_17, sR45_18, sR45_19, sR45_20, sR45_21, sR45_22, sR45_25, sR45_26, sR45_27, sR45_28, sR45_29, sR45_30, sR45_31, sR45_32, sR45_33, sR45_34, sR45_35, sR45_36, sR45_40, sR45_41, sR45_42, sR45_43, sR45_45, sR45_46, sR45_47, sR45_48, sR45_49]
theorem RowR_swp {h : Hp} {g : Nat → Nat} {n : Nat} {p : List Nat} {a b : Nat} (hl : p.length = n) (ha : a < n) (hb : b < n) (r : RowR h g n p) : RowR (sI (sI h 75 a (gI h 75 b)) 75 b (gI h 75 a)) g n (swp p a b) := by
  intro k hk
  rw [swp_at (by omega) (by omega), xI_sI]
  by_cases c1 : k = b
  · rw [if_pos ⟨rfl, c1⟩, if_pos c1]; exact r a ha
  · rw [if_neg (fun z => c1 z.2), if_neg c1, xI_sI]
    by_cases c2 : k = a
    · rw [if_pos ⟨rfl, c2⟩, if_pos c2]; exact r b hb
    · rw [if_neg (fun z => c2 z.2), if_neg c2]; exact r k hk
theorem Upd_swp {h : Hp} {a b : Nat} {x y : Int32} : Upd h (sI (sI h 75 a x) 75 b y) (fun c _ => c = 75) := (Upd_sI (P := fun c _ => c = 75) rfl).tr (Upd_sI rfl)
set_option maxRecDepth 100000 in
theorem rvs_e {g : Nat → Nat} {n : Nat} (hn : n ≤ 7) (x y z : Int32) : ∀ (m fuel : Nat) (p : List Nat) (h : Hp) (a b : Nat), SH h → RowR h g n p → p.length = n → b < n → a ≤ n → b ≤ a + m → m < fuel → ∃ h', f_X10_next_L78 fuel 45 x y z (nI b) (nI a) h = some (1, h') ∧ RowR h' g n (rvs m p a b) ∧ Upd h h' (fun c _ => c = 75) := by
  intro m
  induction m with
  | zero =>
    intro fuel p h a b hs r hl hb ha hab hf
    match fuel, hf with
    | fuel + 1, _ =>
      refine ⟨h, ?_, r, Upd_rf _ _⟩
      rw [f_X10_next_L78, if_pos (nI_le (by omega) (by omega))]
  | succ m ih =>
    intro fuel p h a b hs r hl hb ha hab hf
    match fuel, hf with
    | fuel + 1, hf =>
      rw [f_X10_next_L78, rvs]
      by_cases c : b ≤ a
      · rw [if_pos (nI_le c (by omega)), Nat.ble_eq_true_of_le c]
        exact ⟨h, rfl, r, Upd_rf _ _⟩
      · have c2 : Nat.ble b a = false := by
          cases e : Nat.ble b a with
          | false => rfl
          | true => exact absurd (Nat.le_of_ble_eq_true e) c
        rw [if_neg (nI_ge (by omega) (by omega)), c2]
        obtain ⟨b', rfl⟩ : ∃ b', b = b' + 1 := ⟨b - 1, by omega⟩
        have hs2 : SH (sI (sI h 75 a (gI h 75 (b' + 1))) 75 (b' + 1) (gI h 75 a)) := hs
        obtain ⟨h', q1, q2, q3⟩ := ih fuel (swp p a (b' + 1)) _ (a + 1) b' hs2 (RowR_swp hl (by omega) hb r) (by rw [swp_len]; exact hl) (by omega) (by omega) (by omega) (by omega)
        refine ⟨h', ?_, q2, Upd_swp.tr q3⟩
        simp only [exch_e hs (show a < 7 by omega) (show b' + 1 < 7 by omega), nI_addm1, nI_1, hs, and_self, if_true, if_false, n_1_0, n_0_0, okOb_sI, okAb_sI, okOb_sW, okAb_sW, vl_e, un_e, nl_s, nl_n, bnd_e, gd_e, SH_sI, SH_sW, xI_sI, xR_sI, xL_sI, xK_sI, xN_sI, gI_sW, xR_sW, xL_sW, xK_sW, xN_sW, sO0, sO1, sO2, sA2, sL2, sO3, sA3, sL3, sO4, sA4, sL4, sO5, sA5, sL5, sO6, sA6, sL6, sO7, sA7, sL7, sO8, sA8, sL8, sO9, sO10, sA10, sL10, sO11, sA11, sL11, sO12, sA12, sL12, sO13, sO14, sA14, sL14, sO15, sA15, sL15, sO16, sA16, sL16, sO17, sA17, sL17, sO18, sA18, sL18, sO19, sA19, sL19, sO20, sO21, sA21, sL21, sO22, sA22, sL22, sO23, sA23, sL23, sO24, sA24, sL24, sO25, sO26, sA26, sL26, sO27, sA27, sL27, sO28, sA28, sL28, sO29, sA29, sL29, sO30, sA30, sL30, sO31, sA31, sL31, sO32, sA32, sL32, sO33, sO34, sA34, sL34, sO35, sA35, sL35, sO36, sA36, sL36, sO37, sO38, sA38, sL38, sO39, sA39, sL39, sO40, sA40, sL40, sO41, sO42, sA42, sL42, sO43, sA43, sL43, sO44, sA44, sL44, sO45, sO46, sA46, sL46, sO47, sA47, sL47, sO48, sA48, sL48, sO49, sA49, sL49, sO50, sA50, sL50, sO51, sA51, sL51, sO52, sA52, sL52, sO53, sA53, sL53, sO54, sA54, sL54, sO55, sA55, sL55, sO56, sA56, sL56, sO57, sA57, sL57, sO58, sA58, sL58, sO59, sA59, sL59, sO60, sA60, sL60, sO61, sA61, sL61, sO62, sA62, sL62, sO63, sA63, sL63, sO64, sA64, sL64, sO65, sA65, sL65, sO66, sA66, sL66, sO67, sA67, sL67, sO68, sA68, sL68, sO69, sA69, sL69, sO70, sA70, sL70, sO71, sA71, sL71, sO72, sA72, sL72, sO73, sA73, sL73, sO74, sA74, sL74, sO75, sA75, sL75, sO76, sA76, sL76, sO77, sA77, sL77, sO78, sA78, sL78, sO79, sA79, sL79, sO80, sA80, sL80, sO81, sA81, sL81, sO82, sA82, sL82, sO83, sA83, sL83, sO84, sA84, sL84, sO85, sA85, sL85, sO86, sA86, sL86, sO87, sA87, sL87, sR0_0, sR0_1, sR0_2, sR0_3, sR0_5, sR0_6, sR0_8, sR0_10, sR0_11, sR0_12, sR0_13, sR1_0, sR6_0, sR6_1, sR6_2, sR9_0, sR9_1, sR9_2, sR13_0, sR13_1, sR13_2, sR13_3, sR13_4, sR13_5, sR20_0, sR20_1, sR20_2, sR20_3, sR25_0, sR25_1, sR25_2, sR25_4, sR25_5, sR25_6, sR25_7, sR33_2, sR33_3, sR37_2, sR37_3, sR41_2, sR41_3, sR45_0, sR45_1, sR45_3, sR45_4, sR45_5, sR45_6, sR45_7, sR45_8, sR45_9, sR45_10, sR45_12, sR45_13, sR45_14, sR45_15, sR45_16, sR45_17, sR45_18, sR45_19, sR45_20, sR45_21, sR45_22, sR45_25, sR45_26, sR45_27, sR45_28, sR45_29, sR45_30, sR45_31, sR45_32, sR45_33, sR45_34, sR45_35, sR45_36, sR45_40, sR45_41, sR45_42, sR45_43, sR45_45, sR45_46, sR45_47, sR45_48, sR45_49]
        exact q1
set_option maxRecDepth 100000 in
theorem nxJ_e {g : Nat → Nat} (hg : ∀ a b, g a ≤ g b ↔ a ≤ b) {n : Nat} (hn : n ≤ 7) {p : List Nat} {h : Hp} (hs : SH h) (r : RowR h g n p) (hb : ∀ k, k < n → g (p.getD k 0) < 2 ^ 31) {i : Nat} (hi : p.getD i 0 ≤ p.getD (i + 1) 0) (K : Nat → Int32 → Int32 → Int32 → Hp → Option (Int32 × Hp)) (x : Int32) : ∀ (j fuel : Nat), i < j → j < n → j < fuel → i < nxJ p i j ∧ nxJ p i j ≤ j ∧ f_X10_next_L41 K fuel 45 x (nI i) (nI j) h = K 45 x (nI i) (nI (nxJ p i j)) h := by
  intro j
  induction j with
  | zero => intro fuel h1; omega
  | succ j ih =>
    intro fuel h1 h2 h3
    match fuel, h3 with
    | fuel + 1, h3 =>
      have x1 : (nI i).toNatClampNeg = i := nI_clamp (by omega)
      have x2 : inB (nI i) 7 = true := inB_nI (by omega) (by decide)
      have x3 : (nI (j + 1)).toNatClampNeg = j + 1 := nI_clamp (by omega)
      have x4 : inB (nI (j + 1)) 7 = true := inB_nI (by omega) (by decide)
      have e1 := r i (by omega)
      have e2 := r (j + 1) h2
      have ec : (nI (g (p.getD i 0)) ≤ nI (g (p.getD (j + 1) 0))) ↔ p.getD i 0 ≤ p.getD (j + 1) 0 := by
        rw [nI_leI (hb i (by omega)) (hb (j + 1) h2), hg]
      rw [f_X10_next_L41, nxJ]
      by_cases c : p.getD i 0 ≤ p.getD (j + 1) 0
      · rw [Nat.ble_eq_true_of_le c]
        refine ⟨by simpa using h1, by simp, ?_⟩
        simp only [x1, x2, x3, x4, e1, e2, ec.mpr c, hs, and_self, if_true, if_false, n_1_0, n_0_0, okOb_sI, okAb_sI, okOb_sW, okAb_sW, vl_e, un_e, nl_s, nl_n, bnd_e, gd_e, SH_sI, SH_sW, xI_sI, xR_sI, xL_sI, xK_sI, xN_sI, gI_sW, xR_sW, xL_sW, xK_sW, xN_sW, sO0, sO1, sO2, sA2, sL2, sO3, sA3, sL3, sO4, sA4, sL4, sO5, sA5, sL5, sO6, sA6, sL6, sO7, sA7, sL7, sO8, sA8, sL8, sO9, sO10, sA10, sL10, sO11, sA11, sL11, sO12, sA12, sL12, sO13, sO14, sA14, sL14, sO15, sA15, sL15, sO16, sA16, sL16, sO17, sA17, sL17, sO18, sA18, sL18, sO19, sA19, sL19, sO20, sO21, sA21, sL21, sO22, sA22, sL22, sO23, sA23, sL23, sO24, sA24, sL24, sO25, sO26, sA26, sL26, sO27, sA27, sL27, sO28, sA28, sL28, sO29, sA29, sL29, sO30, sA30, sL30, sO31, sA31, sL31, sO32, sA32, sL32, sO33, sO34, sA34, sL34, sO35, sA35, sL35, sO36, sA36, sL36, sO37, sO38, sA38, sL38, sO39, sA39, sL39, sO40, sA40, sL40, sO41, sO42, sA42, sL42, sO43, sA43, sL43, sO44, sA44, sL44, sO45, sO46, sA46, sL46, sO47, sA47, sL47, sO48, sA48, sL48, sO49, sA49, sL49, sO50, sA50, sL50, sO51, sA51, sL51, sO52, sA52, sL52, sO53, sA53, sL53, sO54, sA54, sL54, sO55, sA55, sL55, sO56, sA56, sL56, sO57, sA57, sL57, sO58, sA58, sL58, sO59, sA59, sL59, sO60, sA60, sL60, sO61, sA61, sL61, sO62, sA62, sL62, sO63, sA63, sL63, sO64, sA64, sL64, sO65, sA65, sL65, sO66, sA66, sL66, sO67, sA67, sL67, sO68, sA68, sL68, sO69, sA69, sL69, sO70, sA70, sL70, sO71, sA71, sL71, sO72, sA72, sL72, sO73, sA73, sL73, sO74, sA74, sL74, sO75, sA75, sL75, sO76, sA76, sL76, sO77, sA77, sL77, sO78, sA78, sL78, sO79, sA79, sL79, sO80, sA80, sL80, sO81, sA81, sL81, sO82, sA82, sL82, sO83, sA83, sL83, sO84, sA84, sL84, sO85, sA85, sL85, sO86, sA86, sL86, sO87, sA87, sL87, sR0_0, sR0_1, sR0_2, sR0_3, sR0_5, sR0_6, sR0_8, sR0_10, sR0_11, sR0_12, sR0_13, sR1_0, sR6_0, sR6_1, sR6_2, sR9_0, sR9_1, sR9_2, sR13_0, sR13_1, sR13_2, sR13_3, sR13_4, sR13_5, sR20_0, sR20_1, sR20_2, sR20_3, sR25_0, sR25_1, sR25_2, sR25_4, sR25_5, sR25_6, sR25_7, sR33_2, sR33_3, sR37_2, sR37_3, sR41_2, sR41_3, sR45_0, sR45_1, sR45_3, sR45_4, sR45_5, sR45_6, sR45_7, sR45_8, sR45_9, sR45_10, sR45_12, sR45_13, sR45_14, sR45_15, sR45_16, sR45_17, sR45_18, sR45_19, sR45_20, sR45_21, sR45_22, sR45_25, sR45_26, sR45_27, sR45_28, sR45_29, sR45_30, sR45_31, sR45_32, sR45_33, sR45_34, sR45_35, sR45_36, sR45_40, sR45_41, sR45_42, sR45_43, sR45_45, sR45_46, sR45_47, sR45_48, sR45_49]
        rfl
      · have c2 : Nat.ble (p.getD i 0) (p.getD (j + 1) 0) = false := by
          cases e : Nat.ble (p.getD i 0) (p.getD (j + 1) 0) with
          | false => rfl
          | true => exact absurd (Nat.le_of_ble_eq_true e) c
        have hij : i < j := by
          rcases Nat.lt_or_ge i j with w | w
          · exact w
          · have : i = j := by omega
            subst this
            exact absurd hi c
        obtain ⟨q1, q2, q3⟩ := ih fuel hij (by omega) (by omega)
        rw [c2]
        refine ⟨q1, Nat.le_succ_of_le q2, ?_⟩
        have ec2 : ¬ nI (g (p.getD i 0)) ≤ nI (g (p.getD (j + 1) 0)) := fun w => c (ec.mp w)
        simp only [x1, x2, x3, x4, e1, e2, ec2, nI_addm1, hs, and_self, if_true, if_false, n_1_0, n_0_0, okOb_sI, okAb_sI, okOb_sW, okAb_sW, vl_e, un_e, nl_s, nl_n, bnd_e, gd_e, SH_sI, SH_sW, xI_sI, xR_sI, xL_sI, xK_sI, xN_sI, gI_sW, xR_sW, xL_sW, xK_sW, xN_sW, sO0, sO1, sO2, sA2, sL2, sO3, sA3, sL3, sO4, sA4, sL4, sO5, sA5, sL5, sO6, sA6, sL6, sO7, sA7, sL7, sO8, sA8, sL8, sO9, sO10, sA10, sL10, sO11, sA11, sL11, sO12, sA12, sL12, sO13, sO14, sA14, sL14, sO15, sA15, sL15, sO16, sA16, sL16, sO17, sA17, sL17, sO18, sA18, sL18, sO19, sA19, sL19, sO20, sO21, sA21, sL21, sO22, sA22, sL22, sO23, sA23, sL23, sO24, sA24, sL24, sO25, sO26, sA26, sL26, sO27, sA27, sL27, sO28, sA28, sL28, sO29, sA29, sL29, sO30, sA30, sL30, sO31, sA31, sL31, sO32, sA32, sL32, sO33, sO34, sA34, sL34, sO35, sA35, sL35, sO36, sA36, sL36, sO37, sO38, sA38, sL38, sO39, sA39, sL39, sO40, sA40, sL40, sO41, sO42, sA42, sL42, sO43, sA43, sL43, sO44, sA44, sL44, sO45, sO46, sA46, sL46, sO47, sA47, sL47, sO48, sA48, sL48, sO49, sA49, sL49, sO50, sA50, sL50, sO51, sA51, sL51, sO52, sA52, sL52, sO53, sA53, sL53, sO54, sA54, sL54, sO55, sA55, sL55, sO56, sA56, sL56, sO57, sA57, sL57, sO58, sA58, sL58, sO59, sA59, sL59, sO60, sA60, sL60, sO61, sA61, sL61, sO62, sA62, sL62, sO63, sA63, sL63, sO64, sA64, sL64, sO65, sA65, sL65, sO66, sA66, sL66, sO67, sA67, sL67, sO68, sA68, sL68, sO69, sA69, sL69, sO70, sA70, sL70, sO71, sA71, sL71, sO72, sA72, sL72, sO73, sA73, sL73, sO74, sA74, sL74, sO75, sA75, sL75, sO76, sA76, sL76, sO77, sA77, sL77, sO78, sA78, sL78, sO79, sA79, sL79, sO80, sA80, sL80, sO81, sA81, sL81, sO82, sA82, sL82, sO83, sA83, sL83, sO84, sA84, sL84, sO85, sA85, sL85, sO86, sA86, sL86, sO87, sA87, sL87, sR0_0, sR0_1, sR0_2, sR0_3, sR0_5, sR0_6, sR0_8, sR0_10, sR0_11, sR0_12, sR0_13, sR1_0, sR6_0, sR6_1, sR6_2, sR9_0, sR9_1, sR9_2, sR13_0, sR13_1, sR13_2, sR13_3, sR13_4, sR13_5, sR20_0, sR20_1, sR20_2, sR20_3, sR25_0, sR25_1, sR25_2, sR25_4, sR25_5, sR25_6, sR25_7, sR33_2, sR33_3, sR37_2, sR37_3, sR41_2, sR41_3, sR45_0, sR45_1, sR45_3, sR45_4, sR45_5, sR45_6, sR45_7, sR45_8, sR45_9, sR45_10, sR45_12, sR45_13, sR45_14, sR45_15, sR45_16, sR45_17, sR45_18, sR45_19, sR45_20, sR45_21, sR45_22, sR45_25, sR45_26, sR45_27, sR45_28, sR45_29, sR45_30, sR45_31, sR45_32, sR45_33, sR45_34, sR45_35, sR45_36, sR45_40, sR45_41, sR45_42, sR45_43, sR45_45, sR45_46, sR45_47, sR45_48, sR45_49]
        exact q3
set_option maxRecDepth 100000 in
theorem nxI_e {g : Nat → Nat} (hg : ∀ a b, g a ≤ g b ↔ a ≤ b) {n : Nat} (hn : n ≤ 7) {p : List Nat} {h : Hp} (hs : SH h) (r : RowR h g n p) (hb : ∀ k, k < n → g (p.getD k 0) < 2 ^ 31) (K : Nat → Int32 → Int32 → Hp → Option (Int32 × Hp)) (x : Int32) : ∀ (m fuel : Nat), m < n → m < fuel → (nxI p m = none ∧ f_X10_next_L4 K fuel 45 x (nI m + (-1)) h = K 45 x (-1) h) ∨ ∃ i, nxI p m = some i ∧ i < m ∧ p.getD i 0 ≤ p.getD (i + 1) 0 ∧ f_X10_next_L4 K fuel 45 x (nI m + (-1)) h = K 45 x (nI i) h := by
  intro m
  induction m with
  | zero =>
    intro fuel h1 h2
    match fuel, h2 with
    | fuel + 1, _ =>
      refine Or.inl ⟨rfl, ?_⟩
      rw [f_X10_next_L4, if_pos (by decide)]
      rfl
  | succ m ih =>
    intro fuel h1 h2
    match fuel, h2 with
    | fuel + 1, h2 =>
      have x1 : (nI m).toNatClampNeg = m := nI_clamp (by omega)
      have x2 : inB (nI m) 7 = true := inB_nI (by omega) (by decide)
      have x3 : (nI (m + 1)).toNatClampNeg = m + 1 := nI_clamp (by omega)
      have x4 : inB (nI (m + 1)) 7 = true := inB_nI (by omega) (by decide)
      have e1 := r m (by omega)
      have e2 := r (m + 1) h1
      have ec : (nI (g (p.getD m 0)) ≤ nI (g (p.getD (m + 1) 0))) ↔ p.getD m 0 ≤ p.getD (m + 1) 0 := by
        rw [nI_leI (hb m (by omega)) (hb (m + 1) h1), hg]
      rw [nI_addm1, f_X10_next_L4, if_neg (nI_pos (by omega)), nxI]
      by_cases c : p.getD m 0 ≤ p.getD (m + 1) 0
      · rw [Nat.ble_eq_true_of_le c]
        refine Or.inr ⟨m, rfl, by omega, c, ?_⟩
        simp only [nI_1, x1, x2, x3, x4, e1, e2, ec.mpr c, hs, and_self, if_true, if_false, n_1_0, n_0_0, okOb_sI, okAb_sI, okOb_sW, okAb_sW, vl_e, un_e, nl_s, nl_n, bnd_e, gd_e, SH_sI, SH_sW, xI_sI, xR_sI, xL_sI, xK_sI, xN_sI, gI_sW, xR_sW, xL_sW, xK_sW, xN_sW, sO0, sO1, sO2, sA2, sL2, sO3, sA3, sL3, sO4, sA4, sL4, sO5, sA5, sL5, sO6, sA6, sL6, sO7, sA7, sL7, sO8, sA8, sL8, sO9, sO10, sA10, sL10, sO11, sA11, sL11, sO12, sA12, sL12, sO13, sO14, sA14, sL14, sO15, sA15, sL15, sO16, sA16, sL16, sO17, sA17, sL17, sO18, sA18, sL18, sO19, sA19, sL19, sO20, sO21, sA21, sL21, sO22, sA22, sL22, sO23, sA23, sL23, sO24, sA24, sL24, sO25, sO26, sA26, sL26, sO27, sA27, sL27, sO28, sA28, sL28, sO29, sA29, sL29, sO30, sA30, sL30, sO31, sA31, sL31, sO32, sA32, sL32, sO33, sO34, sA34, sL34, sO35, sA35, sL35, sO36, sA36, sL36, sO37, sO38, sA38, sL38, sO39, sA39, sL39, sO40, sA40, sL40, sO41, sO42, sA42, sL42, sO43, sA43, sL43, sO44, sA44, sL44, sO45, sO46, sA46, sL46, sO47, sA47, sL47, sO48, sA48, sL48, sO49, sA49, sL49, sO50, sA50, sL50, sO51, sA51, sL51, sO52, sA52, sL52, sO53, sA53, sL53, sO54, sA54, sL54, sO55, sA55, sL55, sO56, sA56, sL56, sO57, sA57, sL57, sO58, sA58, sL58, sO59, sA59, sL59, sO60, sA60, sL60, sO61, sA61, sL61, sO62, sA62, sL62, sO63, sA63, sL63, sO64, sA64, sL64, sO65, sA65, sL65, sO66, sA66, sL66, sO67, sA67, sL67, sO68, sA68, sL68, sO69, sA69, sL69, sO70, sA70, sL70, sO71, sA71, sL71, sO72, sA72, sL72, sO73, sA73, sL73, sO74, sA74, sL74, sO75, sA75, sL75, sO76, sA76, sL76, sO77, sA77, sL77, sO78, sA78, sL78, sO79, sA79, sL79, sO80, sA80, sL80, sO81, sA81, sL81, sO82, sA82, sL82, sO83, sA83, sL83, sO84, sA84, sL84, sO85, sA85, sL85, sO86, sA86, sL86, sO87, sA87, sL87, sR0_0, sR0_1, sR0_2, sR0_3, sR0_5, sR0_6, sR0_8, sR0_10, sR0_11, sR0_12, sR0_13, sR1_0, sR6_0, sR6_1, sR6_2, sR9_0, sR9_1, sR9_2, sR13_0, sR13_1, sR13_2, sR13_3, sR13_4, sR13_5, sR20_0, sR20_1, sR20_2, sR20_3, sR25_0, sR25_1, sR25_2, sR25_4, sR25_5, sR25_6, sR25_7, sR33_2, sR33_3, sR37_2, sR37_3, sR41_2, sR41_3, sR45_0, sR45_1, sR45_3, sR45_4, sR45_5, sR45_6, sR45_7, sR45_8, sR45_9, sR45_10, sR45_12, sR45_13, sR45_14, sR45_15, sR45_16, sR45_17, sR45_18, sR45_19, sR45_20, sR45_21, sR45_22, sR45_25, sR45_26, sR45_27, sR45_28, sR45_29, sR45_30, sR45_31, sR45_32, sR45_33, sR45_34, sR45_35, sR45_36, sR45_40, sR45_41, sR45_42, sR45_43, sR45_45, sR45_46, sR45_47, sR45_48, sR45_49]
      · have c2 : Nat.ble (p.getD m 0) (p.getD (m + 1) 0) = false := by
          cases e : Nat.ble (p.getD m 0) (p.getD (m + 1) 0) with
          | false => rfl
          | true => exact absurd (Nat.le_of_ble_eq_true e) c
        have ec2 : ¬ nI (g (p.getD m 0)) ≤ nI (g (p.getD (m + 1) 0)) := fun w => c (ec.mp w)
        rw [c2]
        simp only [nI_1, x1, x2, x3, x4, e1, e2, ec2, hs, and_self, if_true, if_false, n_1_0, n_0_0, okOb_sI, okAb_sI, okOb_sW, okAb_sW, vl_e, un_e, nl_s, nl_n, bnd_e, gd_e, SH_sI, SH_sW, xI_sI, xR_sI, xL_sI, xK_sI, xN_sI, gI_sW, xR_sW, xL_sW, xK_sW, xN_sW, sO0, sO1, sO2, sA2, sL2, sO3, sA3, sL3, sO4, sA4, sL4, sO5, sA5, sL5, sO6, sA6, sL6, sO7, sA7, sL7, sO8, sA8, sL8, sO9, sO10, sA10, sL10, sO11, sA11, sL11, sO12, sA12, sL12, sO13, sO14, sA14, sL14, sO15, sA15, sL15, sO16, sA16, sL16, sO17, sA17, sL17, sO18, sA18, sL18, sO19, sA19, sL19, sO20, sO21, sA21, sL21, sO22, sA22, sL22, sO23, sA23, sL23, sO24, sA24, sL24, sO25, sO26, sA26, sL26, sO27, sA27, sL27, sO28, sA28, sL28, sO29, sA29, sL29, sO30, sA30, sL30, sO31, sA31, sL31, sO32, sA32, sL32, sO33, sO34, sA34, sL34, sO35, sA35, sL35, sO36, sA36, sL36, sO37, sO38, sA38, sL38, sO39, sA39, sL39, sO40, sA40, sL40, sO41, sO42, sA42, sL42, sO43, sA43, sL43, sO44, sA44, sL44, sO45, sO46, sA46, sL46, sO47, sA47, sL47, sO48, sA48, sL48, sO49, sA49, sL49, sO50, sA50, sL50, sO51, sA51, sL51, sO52, sA52, sL52, sO53, sA53, sL53, sO54, sA54, sL54, sO55, sA55, sL55, sO56, sA56, sL56, sO57, sA57, sL57, sO58, sA58, sL58, sO59, sA59, sL59, sO60, sA60, sL60, sO61, sA61, sL61, sO62, sA62, sL62, sO63, sA63, sL63, sO64, sA64, sL64, sO65, sA65, sL65, sO66, sA66, sL66, sO67, sA67, sL67, sO68, sA68, sL68, sO69, sA69, sL69, sO70, sA70, sL70, sO71, sA71, sL71, sO72, sA72, sL72, sO73, sA73, sL73, sO74, sA74, sL74, sO75, sA75, sL75, sO76, sA76, sL76, sO77, sA77, sL77, sO78, sA78, sL78, sO79, sA79, sL79, sO80, sA80, sL80, sO81, sA81, sL81, sO82, sA82, sL82, sO83, sA83, sL83, sO84, sA84, sL84, sO85, sA85, sL85, sO86, sA86, sL86, sO87, sA87, sL87, sR0_0, sR0_1, sR0_2, sR0_3, sR0_5, sR0_6, sR0_8, sR0_10, sR0_11, sR0_12, sR0_13, sR1_0, sR6_0, sR6_1, sR6_2, sR9_0, sR9_1, sR9_2, sR13_0, sR13_1, sR13_2, sR13_3, sR13_4, sR13_5, sR20_0, sR20_1, sR20_2, sR20_3, sR25_0, sR25_1, sR25_2, sR25_4, sR25_5, sR25_6, sR25_7, sR33_2, sR33_3, sR37_2, sR37_3, sR41_2, sR41_3, sR45_0, sR45_1, sR45_3, sR45_4, sR45_5, sR45_6, sR45_7, sR45_8, sR45_9, sR45_10, sR45_12, sR45_13, sR45_14, sR45_15, sR45_16, sR45_17, sR45_18, sR45_19, sR45_20, sR45_21, sR45_22, sR45_25, sR45_26, sR45_27, sR45_28, sR45_29, sR45_30, sR45_31, sR45_32, sR45_33, sR45_34, sR45_35, sR45_36, sR45_40, sR45_41, sR45_42, sR45_43, sR45_45, sR45_46, sR45_47, sR45_48, sR45_49]
        rcases ih fuel (by omega) (by omega) with ⟨q1, q2⟩ | ⟨i, q1, q2, q3, q4⟩
        · exact Or.inl ⟨q1, q2⟩
        · exact Or.inr ⟨i, q1, by omega, q3, q4⟩
theorem sub2 (n : Nat) : nI (n + 1) - 2 = nI n + (-1) := by
  rw [nI_succ, Int32.sub_eq_add_neg, Int32.add_assoc]; rfl
set_option maxRecDepth 100000 in
theorem next_e {g : Nat → Nat} (hg : ∀ a b, g a ≤ g b ↔ a ≤ b) {n : Nat} (h1 : 1 ≤ n) (hn : n ≤ 7) {p : List Nat} {h : Hp} (hs : SH h) (r : RowR h g n p) (hl : p.length = n) (hb : ∀ k, k < n → g (p.getD k 0) < 2 ^ 31) : (nx n p = none ∧ f_X10_next h 45 (nI n) = some (0, h)) ∨ ∃ p' h', nx n p = some p' ∧ f_X10_next h 45 (nI n) = some (1, h') ∧ RowR h' g n p' ∧ Upd h h' (fun c _ => c = 75) := by
  obtain ⟨n', rfl⟩ : ∃ n', n = n' + 1 := ⟨n - 1, by omega⟩
  have E : f_X10_next h 45 (nI (n' + 1)) = f_X10_next_L4 f_X10_next_J31 6000 45 (nI (n' + 1)) (nI n' + (-1)) h := by
    unfold f_X10_next
    rw [vl_e, sub2]
  rw [E]
  unfold nx
  rw [Nat.add_sub_cancel]
  rcases nxI_e hg hn hs r hb f_X10_next_J31 (nI (n' + 1)) n' 6000 (by omega) (by omega) with ⟨q1, q2⟩ | ⟨i, q1, q2, q3, q4⟩
  · left
    rw [q1, q2]
    refine ⟨rfl, ?_⟩
    unfold f_X10_next_J31
    rw [if_neg (by decide)]
  · right
    rw [q1, q4]
    unfold f_X10_next_J31
    rw [if_pos (nI_pos' (by omega)), vl_e, nI_pred]
    obtain ⟨j1, j2, j3⟩ := nxJ_e hg hn hs r hb q3 (fun y31 y32 y33 y34 h35 =>
gd (okOb h35 y31 10) <|
bnd (f_X10_exchanges h35 y31 y33 y34) fun u37 h38 =>
vl (y32 - (1 : Int32)) fun x39 =>
vl (y33 + (1 : Int32)) fun x40 =>
f_X10_next_L78 6000 y31 y32 y33 y34 x39 x40 h38) (nI (n' + 1)) n' 6000 q2 (by omega) (by omega)
    rw [j3]
    have hs2 : SH (sI (sI h 75 i (gI h 75 (nxJ p i n'))) 75 (nxJ p i n') (gI h 75 i)) := hs
    obtain ⟨h', v1, v2, v3⟩ := rvs_e hn (nI (n' + 1)) (nI i) (nI (nxJ p i n')) (n' + 1) 6000 (swp p i (nxJ p i n')) _ (i + 1) n' hs2 (RowR_swp hl (by omega) (by omega) r) (by rw [swp_len]; exact hl) (by omega) (by omega) (by omega) (by omega)
    refine ⟨_, h', rfl, ?_, v2, Upd_swp.tr v3⟩
    simp only [exch_e hs (show i < 7 by omega) (show nxJ p i n' < 7 by omega), nI_pred, nI_1, hs, and_self, if_true, if_false, n_1_0, n_0_0, okOb_sI, okAb_sI, okOb_sW, okAb_sW, vl_e, un_e, nl_s, nl_n, bnd_e, gd_e, SH_sI, SH_sW, xI_sI, xR_sI, xL_sI, xK_sI, xN_sI, gI_sW, xR_sW, xL_sW, xK_sW, xN_sW, sO0, sO1, sO2, sA2, sL2, sO3, sA3, sL3, sO4, sA4, sL4, sO5, sA5, sL5, sO6, sA6, sL6, sO7, sA7, sL7, sO8, sA8, sL8, sO9, sO10, sA10, sL10, sO11, sA11, sL11, sO12, sA12, sL12, sO13, sO14, sA14, sL14, sO15, sA15, sL15, sO16, sA16, sL16, sO17, sA17, sL17, sO18, sA18, sL18, sO19, sA19, sL19, sO20, sO21, sA21, sL21, sO22, sA22, sL22, sO23, sA23, sL23, sO24, sA24, sL24, sO25, sO26, sA26, sL26, sO27, sA27, sL27, sO28, sA28, sL28, sO29, sA29, sL29, sO30, sA30, sL30, sO31, sA31, sL31, sO32, sA32, sL32, sO33, sO34, sA34, sL34, sO35, sA35, sL35, sO36, sA36, sL36, sO37, sO38, sA38, sL38, sO39, sA39, sL39, sO40, sA40, sL40, sO41, sO42, sA42, sL42, sO43, sA43, sL43, sO44, sA44, sL44, sO45, sO46, sA46, sL46, sO47, sA47, sL47, sO48, sA48, sL48, sO49, sA49, sL49, sO50, sA50, sL50, sO51, sA51, sL51, sO52, sA52, sL52, sO53, sA53, sL53, sO54, sA54, sL54, sO55, sA55, sL55, sO56, sA56, sL56, sO57, sA57, sL57, sO58, sA58, sL58, sO59, sA59, sL59, sO60, sA60, sL60, sO61, sA61, sL61, sO62, sA62, sL62, sO63, sA63, sL63, sO64, sA64, sL64, sO65, sA65, sL65, sO66, sA66, sL66, sO67, sA67, sL67, sO68, sA68, sL68, sO69, sA69, sL69, sO70, sA70, sL70, sO71, sA71, sL71, sO72, sA72, sL72, sO73, sA73, sL73, sO74, sA74, sL74, sO75, sA75, sL75, sO76, sA76, sL76, sO77, sA77, sL77, sO78, sA78, sL78, sO79, sA79, sL79, sO80, sA80, sL80, sO81, sA81, sL81, sO82, sA82, sL82, sO83, sA83, sL83, sO84, sA84, sL84, sO85, sA85, sL85, sO86, sA86, sL86, sO87, sA87, sL87, sR0_0, sR0_1, sR0_2, sR0_3, sR0_5, sR0_6, sR0_8, sR0_10, sR0_11, sR0_12, sR0_13, sR1_0, sR6_0, sR6_1, sR6_2, sR9_0, sR9_1, sR9_2, sR13_0, sR13_1, sR13_2, sR13_3, sR13_4, sR13_5, sR20_0, sR20_1, sR20_2, sR20_3, sR25_0, sR25_1, sR25_2, sR25_4, sR25_5, sR25_6, sR25_7, sR33_2, sR33_3, sR37_2, sR37_3, sR41_2, sR41_3, sR45_0, sR45_1, sR45_3, sR45_4, sR45_5, sR45_6, sR45_7, sR45_8, sR45_9, sR45_10, sR45_12, sR45_13, sR45_14, sR45_15, sR45_16, sR45_17, sR45_18, sR45_19, sR45_20, sR45_21, sR45_22, sR45_25, sR45_26, sR45_27, sR45_28, sR45_29, sR45_30, sR45_31, sR45_32, sR45_33, sR45_34, sR45_35, sR45_36, sR45_40, sR45_41, sR45_42, sR45_43, sR45_45, sR45_46, sR45_47, sR45_48, sR45_49]
    exact v1
