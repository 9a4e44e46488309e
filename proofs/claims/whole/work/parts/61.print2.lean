/-- what each hand did -/
def IH (t : Nat) (h : Hp) : Prop := ∀ o d, o < 3 → d < 6 → gI h (10 + o) d = gI h (56 + o) d ∧ ∃ n : Nat, n ≤ 2000 * t ∧ gI h (10 + o) d = nI n
theorem IH.fr {t : Nat} {h h2 : Hp} {P : Nat → Nat → Prop} (u : Upd h h2 P) (hP : ∀ a k, (10 ≤ a ∧ a ≤ 12 ∨ 56 ≤ a ∧ a ≤ 58) → ¬ P a k) (i : IH t h) : IH t h2 := fun o d ho hd => by
  rw [u.2 _ _ (hP _ _ (by omega)), u.2 _ _ (hP _ _ (by omega))]; exact i o d ho hd
theorem IH.up {t t2 : Nat} {h : Hp} (ht : t ≤ t2) (i : IH t h) : IH t2 h := fun o d ho hd => by
  obtain ⟨h1, n, h2, h3⟩ := i o d ho hd
  exact ⟨h1, n, by omega, h3⟩
theorem IH.add {t o d R : Nat} {h h2 : Hp} (ho : o < 3) (hd : d < 6) (hR : R ≤ 2000) (i : IH t h) (v1 : gI h2 (10 + o) d = gI h (10 + o) d + nI R) (v2 : gI h2 (56 + o) d = gI h (56 + o) d + nI R) (w : ∀ o' d', o' < 3 → d' < 6 → (o' ≠ o ∨ d' ≠ d) → gI h2 (10 + o') d' = gI h (10 + o') d' ∧ gI h2 (56 + o') d' = gI h (56 + o') d') : IH (t + 1) h2 := fun o' d' ho' hd' => by
  by_cases c : o' = o ∧ d' = d
  · obtain ⟨rfl, rfl⟩ := c
    obtain ⟨h1, n, h2, h3⟩ := i o' d' ho' hd'
    rw [v1, v2, h1]
    refine ⟨rfl, n + R, by omega, ?_⟩
    rw [← h1, h3, nI_add]
  · obtain ⟨w1, w2⟩ := w o' d' ho' hd' (by omega)
    rw [w1, w2]
    exact i.up (Nat.le_succ t) o' d' ho' hd'
def PPr (h : Hp) (f : Nat) (a k : Nat) : Prop := (a = 0 ∧ k = 9) ∨ (a = 45 ∧ k = 24) ∨ a = 11 ∨ a = 57 ∨ a = 51 ∨ a = 66 ∨ a = 68 ∨ a = 70 ∨ (a = sb h (f / 2) ∧ k = 5) ∨ Pim h f a k
theorem j140_7 : f_X10_print_J140_7 = f_X10_print_J140 := rfl
theorem j93_7 : f_X10_print_J93_7 = f_X10_print_J93 := rfl
theorem minI {a b : Nat} (ha : a < 2 ^ 31) (hb : b < 2 ^ 31) : (if nI a < nI b then nI a else nI b) = nI (min a b) := by
  by_cases c : a < b
  · rw [if_pos (nI_lt c hb), Nat.min_eq_left (by omega)]
  · rw [if_neg (nI_nlt (by omega) ha), Nat.min_eq_right (by omega)]
set_option maxRecDepth 100000 in
theorem isFirst_e {h : Hp} (i : IGeo h) (z : IFs h) {f : Nat} (hf : f < 2 * nS h) : f_X7_isFirstSide h (sb h (f / 2)) (nI (f % 2)) = some (if fsB h f = true then 1 else 0, h) := by
  obtain ⟨r1, r2, -⟩ := sh_rules i (s := f / 2) (by omega)
  have e := (z (f / 2) (by omega)).1
  unfold f_X7_isFirstSide
  simp only [r2, gd_e, vl_e, e, fsB, Bool.or_eq_true, decide_eq_true_eq]
  by_cases c1 : gI h 66 (f / 2) = -1
  · rw [if_pos c1, if_pos (Or.inl c1)]
  · rw [if_neg c1]
    by_cases c2 : gI h 66 (f / 2) = nI (f % 2)
    · rw [if_pos c2, if_pos (Or.inr c2)]
    · rw [if_neg c2, if_neg (by rintro (w | w); exact c1 w; exact c2 w)]
/-- the other side goes first -/
theorem fs_other {h : Hp} (z : IFs h) {f : Nat} (hf : f < 2 * nS h) (c : fsB h f = false) : gI h 66 (f / 2) = nI (1 - f % 2) := by
  unfold fsB at c
  rw [Bool.or_eq_false_iff, decide_eq_false_iff_not, decide_eq_false_iff_not] at c
  have e := (z (f / 2) (by omega)).2
  rcases (show f % 2 = 0 ∨ f % 2 = 1 by omega) with d | d
  · rw [d] at c ⊢
    rcases e with e | e | e
    · exact absurd e c.1
    · exact absurd e c.2
    · exact e
  · rw [d] at c ⊢
    rcases e with e | e | e
    · exact absurd e c.1
    · exact e
    · exact absurd e c.2
set_option maxRecDepth 100000 in
theorem mayBe_e {h : Hp} (i : IGeo h) (z : IFs h) (o : IFo h) {f : Nat} (hf : f < 2 * nS h) : f_X7_mayBePrintedOn h (sb h (f / 2)) (nI (f % 2)) = some (if fsB h f = true ∨ nM h (2 * (f / 2) + (1 - f % 2)) = cp h (f / 2) then 1 else 0, h) := by
  obtain ⟨r1, r2, -⟩ := sh_rules i (s := f / 2) (by omega)
  have hcp := (sh_at i (s := f / 2) (by omega)).2.2.2.2.2.2.2.2.2.1
  have e := (z (f / 2) (by omega)).1
  cases c : fsB h f with
  | true => simp only [f_X7_mayBePrintedOn, r2, isFirst_e i z hf, c, true_or, and_self, if_true, if_false, n_1_0, n_0_0, okOb_sI, okAb_sI, okOb_sW, okAb_sW, vl_e, un_e, nl_s, nl_n, bnd_e, gd_e, SH_sI, SH_sW, xI_sI, xR_sI, xL_sI, xK_sI, xN_sI, gI_sW, xR_sW, xL_sW, xK_sW, xN_sW, sO0, sO1, sO2, sA2, sL2, sO3, sA3, sL3, sO4, sA4, sL4, sO5, sA5, sL5, sO6, sA6, sL6, sO7, sA7, sL7, sO8, sA8, sL8, sO9, sO10, sA10, sL10, sO11, sA11, sL11, sO12, sA12, sL12, sO13, sO14, sA14, sL14, sO15, sA15, sL15, sO16, sA16, sL16, sO17, sA17, sL17, sO18, sA18, sL18, sO19, sA19, sL19, sO20, sO21, sA21, sL21, sO22, sA22, sL22, sO23, sA23, sL23, sO24, sA24, sL24, sO25, sO26, sA26, sL26, sO27, sA27, sL27, sO28, sA28, sL28, sO29, sA29, sL29, sO30, sA30, sL30, sO31, sA31, sL31, sO32, sA32, sL32, sO33, sO34, sA34, sL34, sO35, sA35, sL35, sO36, sA36, sL36, sO37, sO38, sA38, sL38, sO39, sA39, sL39, sO40, sA40, sL40, sO41, sO42, sA42, sL42, sO43, sA43, sL43, sO44, sA44, sL44, sO45, sO46, sA46, sL46, sO47, sA47, sL47, sO48, sA48, sL48, sO49, sA49, sL49, sO50, sA50, sL50, sO51, sA51, sL51, sO52, sA52, sL52, sO53, sA53, sL53, sO54, sA54, sL54, sO55, sA55, sL55, sO56, sA56, sL56, sO57, sA57, sL57, sO58, sA58, sL58, sO59, sA59, sL59, sO60, sA60, sL60, sO61, sA61, sL61, sO62, sA62, sL62, sO63, sA63, sL63, sO64, sA64, sL64, sO65, sA65, sL65, sO66, sA66, sL66, sO67, sA67, sL67, sO68, sA68, sL68, sO69, sA69, sL69, sO70, sA70, sL70, sO71, sA71, sL71, sO72, sA72, sL72, sO73, sA73, sL73, sO74, sA74, sL74, sO75, sA75, sL75, sO76, sA76, sL76, sO77, sA77, sL77, sO78, sA78, sL78, sO79, sA79, sL79, sO80, sA80, sL80, sO81, sA81, sL81, sO82, sA82, sL82, sO83, sA83, sL83, sO84, sA84, sL84, sO85, sA85, sL85, sO86, sA86, sL86, sO87, sA87, sL87, sR0_0, sR0_1, sR0_2, sR0_3, sR0_5, sR0_6, sR0_8, sR0_10, sR0_11, sR0_12, sR0_13, sR1_0, sR6_0, sR6_1, sR6_2, sR9_0, sR9_1, sR9_2, sR13_0, sR13_1, sR13_2, sR13_3, sR13_4, sR13_5, sR20_0, sR20_1, sR20_2, sR20_3, sR25_0, sR25_1, sR25_2, sR25_4, sR25_5, sR25_6, sR25_7, sR33_2, sR33_3, sR37_2, sR37_3, sR41_2, sR41_3, sR45_0, sR45_1, sR45_3, sR45_4, sR45_5, sR45_6, sR45_7, sR45_8, sR45_9, sR45_10, sR45_12, sR45_13, sR45_14, sR45_15, sR45_16, sR45_17, sR45_18, sR45_19, sR45_20, sR45_21, sR45_22, sR45_25, sR45_26, sR45_27, sR45_28, sR45_29, sR45_30, sR45_31, sR45_32, sR45_33, sR45_34, sR45_35, sR45_36, sR45_40, sR45_41, sR45_42, sR45_43, sR45_45, sR45_46, sR45_47, sR45_48, sR45_49]
  | false =>
    have e66 := fs_other z hf c
    have hg : 2 * (f / 2) + (1 - f % 2) < 2 * nS h := by omega
    have eg : (2 * (f / 2) + (1 - f % 2)) / 2 = f / 2 := by omega
    obtain ⟨f1, f2, f3, f4, f5, f6, f7, f8, f9, f10, f11, f12, -⟩ := fo_rules i hg
    rw [eg] at f12
    obtain ⟨⟨d1, d2, d3, -⟩, -⟩ := o.1 _ hg
    rw [eg] at d3
    simp only [f_X7_mayBePrintedOn, f_X2_hasAll, r2, isFirst_e i z hf, c, Bool.false_eq_true, false_or, e, e66, formeOn_e i (show f / 2 < nS h by omega) (show 1 - f % 2 < 2 by omega), f1, f3, f10, f12, toI, d1, and_self, if_true, if_false, n_1_0, n_0_0, okOb_sI, okAb_sI, okOb_sW, okAb_sW, vl_e, un_e, nl_s, nl_n, bnd_e, gd_e, SH_sI, SH_sW, xI_sI, xR_sI, xL_sI, xK_sI, xN_sI, gI_sW, xR_sW, xL_sW, xK_sW, xN_sW, sO0, sO1, sO2, sA2, sL2, sO3, sA3, sL3, sO4, sA4, sL4, sO5, sA5, sL5, sO6, sA6, sL6, sO7, sA7, sL7, sO8, sA8, sL8, sO9, sO10, sA10, sL10, sO11, sA11, sL11, sO12, sA12, sL12, sO13, sO14, sA14, sL14, sO15, sA15, sL15, sO16, sA16, sL16, sO17, sA17, sL17, sO18, sA18, sL18, sO19, sA19, sL19, sO20, sO21, sA21, sL21, sO22, sA22, sL22, sO23, sA23, sL23, sO24, sA24, sL24, sO25, sO26, sA26, sL26, sO27, sA27, sL27, sO28, sA28, sL28, sO29, sA29, sL29, sO30, sA30, sL30, sO31, sA31, sL31, sO32, sA32, sL32, sO33, sO34, sA34, sL34, sO35, sA35, sL35, sO36, sA36, sL36, sO37, sO38, sA38, sL38, sO39, sA39, sL39, sO40, sA40, sL40, sO41, sO42, sA42, sL42, sO43, sA43, sL43, sO44, sA44, sL44, sO45, sO46, sA46, sL46, sO47, sA47, sL47, sO48, sA48, sL48, sO49, sA49, sL49, sO50, sA50, sL50, sO51, sA51, sL51, sO52, sA52, sL52, sO53, sA53, sL53, sO54, sA54, sL54, sO55, sA55, sL55, sO56, sA56, sL56, sO57, sA57, sL57, sO58, sA58, sL58, sO59, sA59, sL59, sO60, sA60, sL60, sO61, sA61, sL61, sO62, sA62, sL62, sO63, sA63, sL63, sO64, sA64, sL64, sO65, sA65, sL65, sO66, sA66, sL66, sO67, sA67, sL67, sO68, sA68, sL68, sO69, sA69, sL69, sO70, sA70, sL70, sO71, sA71, sL71, sO72, sA72, sL72, sO73, sA73, sL73, sO74, sA74, sL74, sO75, sA75, sL75, sO76, sA76, sL76, sO77, sA77, sL77, sO78, sA78, sL78, sO79, sA79, sL79, sO80, sA80, sL80, sO81, sA81, sL81, sO82, sA82, sL82, sO83, sA83, sL83, sO84, sA84, sL84, sO85, sA85, sL85, sO86, sA86, sL86, sO87, sA87, sL87, sR0_0, sR0_1, sR0_2, sR0_3, sR0_5, sR0_6, sR0_8, sR0_10, sR0_11, sR0_12, sR0_13, sR1_0, sR6_0, sR6_1, sR6_2, sR9_0, sR9_1, sR9_2, sR13_0, sR13_1, sR13_2, sR13_3, sR13_4, sR13_5, sR20_0, sR20_1, sR20_2, sR20_3, sR25_0, sR25_1, sR25_2, sR25_4, sR25_5, sR25_6, sR25_7, sR33_2, sR33_3, sR37_2, sR37_3, sR41_2, sR41_3, sR45_0, sR45_1, sR45_3, sR45_4, sR45_5, sR45_6, sR45_7, sR45_8, sR45_9, sR45_10, sR45_12, sR45_13, sR45_14, sR45_15, sR45_16, sR45_17, sR45_18, sR45_19, sR45_20, sR45_21, sR45_22, sR45_25, sR45_26, sR45_27, sR45_28, sR45_29, sR45_30, sR45_31, sR45_32, sR45_33, sR45_34, sR45_35, sR45_36, sR45_40, sR45_41, sR45_42, sR45_43, sR45_45, sR45_46, sR45_47, sR45_48, sR45_49]
    by_cases c2 : nM h (2 * (f / 2) + (1 - f % 2)) = cp h (f / 2)
    · simp only [c2, if_true, bnd_e, n_1_0, if_false]
    · have c3 : ¬ nI (nM h (2 * (f / 2) + (1 - f % 2))) = nI (cp h (f / 2)) := fun w => c2 ((nI_eq (by omega) (by omega)).mp w)
      simp only [c2, c3, if_true, if_false, bnd_e]
