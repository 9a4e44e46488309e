theorem isLet_i {x : Int32} : isLet x = true ↔ 0 ≤ x.toInt ∧ x.toInt < 26 := by
  unfold isLet; simp only [Bool.and_eq_true, decide_eq_true_eq]
theorem isLet_n {x : Int32} (h : isLet x = true) : ∃ l, l < 26 ∧ x = nI l := of_rng (by decide) (isLet_i.mp h).1 (isLet_i.mp h).2
theorem isLet_f {x : Int32} (h : ¬ isLet x = true) {l : Nat} (hl : l < 26) : ¬ x = nI l := fun e => h (by rw [e, isLet_i, nI_toInt (by omega)]; omega)
/-- how many of the first n are the letter l -/
def cl (F : Nat → Int32) (l n : Nat) : Nat := cnt (fun k => decide (F k = nI l)) n
theorem cl_s (F : Nat → Int32) (l n : Nat) : cl F l (n + 1) = cl F l n + (if F n = nI l then 1 else 0) := by
  unfold cl
  show cnt _ n + (if decide (F n = nI l) = true then 1 else 0) = _
  simp only [decide_eq_true_eq]
theorem cnt_mono {P : Nat → Bool} {m n : Nat} (h : m ≤ n) : cnt P m ≤ cnt P n := by
  induction n with
  | zero => have : m = 0 := by omega
            subst this; exact Nat.le_refl _
  | succ n ih =>
    by_cases c : m = n + 1
    · subst c; exact Nat.le_refl _
    · have := ih (by omega)
      have e : cnt P (n + 1) = cnt P n + (if P n = true then 1 else 0) := rfl
      omega
theorem cl_mono {F : Nat → Int32} {l m n : Nat} (h : m ≤ n) : cl F l m ≤ cl F l n := cnt_mono h
theorem cl_le (F : Nat → Int32) (l n : Nat) : cl F l n ≤ n := cnt_le _ n
theorem fill_e {h : Hp} {a N : Nat} (o1 : okOb h a 11 = true) (o2 : ∀ j, okAb h a 11 j = inB j N) (o3 : gL h a = N) (hN : N < 5900) (v : Int32) : ∃ h2, f_J7_fill_53178 h a v = some ((), h2) ∧ Upd h h2 (fun b k => b = a ∧ k < N) ∧ ∀ k, k < N → gI h2 a k = v := by
  unfold f_J7_fill_53178
  rw [o1, gd_e, vl_e, o3]
  refine forL N (fun n k (h3 : Hp) => f_J7_fill_53178_L5 n a v (nI k) (nI N) h3) (fun k h3 => Upd h h3 (fun b k => b = a ∧ k < N) ∧ ∀ j, j < k → gI h3 a j = v) (fun r => ∃ h2, r = some ((), h2) ∧ Upd h h2 (fun b k => b = a ∧ k < N) ∧ ∀ k, k < N → gI h2 a k = v) ?_ ?_ N 6000 0 h (by omega) (by omega) ⟨Upd_rf _ _, fun j hj => absurd hj (Nat.not_lt_zero j)⟩
  · intro n k h3 hk I
    have e1 : (nI k).toNatClampNeg = k := nI_clamp (by omega)
    have e2 : inB (nI k) N = true := inB_nI hk (by omega)
    rw [f_J7_fill_53178_L5, if_neg (nI_ge hk (by omega)), (I.1.str).2.1, o2, e2, gd_e, vl_e, vl_e, nI_1, e1]
    refine Or.inr ⟨_, rfl, I.1.tr (Upd_sI ⟨rfl, hk⟩), fun j hj => ?_⟩
    rw [xI_sI]
    by_cases c : j = k
    · rw [if_pos ⟨rfl, c⟩]
    · rw [if_neg (fun z => c z.2)]; exact I.2 j (by omega)
  · intro n h3 I
    refine ⟨h3, ?_, I⟩
    rw [f_J7_fill_53178_L5, if_pos (nI_le (Nat.le_refl _) (by omega))]
set_option maxRecDepth 100000 in
theorem need_e {h h0 : Hp} (hs : SH h0) (i : IGeo h) {P : Nat → Nat → Prop} (u : Upd h h0 P) {p : Nat} (hp : p < nP h) (z : ∀ l, l < 26 → gI h0 4 l = 0) (K : Nat → Nat → Int32 → Hp → Option (Int32 × Hp)) : ∃ h2, f_X9_firstMissing_L10 K 6000 0 (pb h p) 0 h0 = K 0 (pb h p) (nI (pl h p)) h2 ∧ Upd h0 h2 (fun a _ => a = 4) ∧ ∀ l, l < 26 → gI h2 4 l = nI (cl (gI h0 (pb h p + 1)) l (pl h p)) := by
  have hl := (i.2.2.2.2.1 p hp).2.2.2.2.2.2
  have lp := lo_p i hp
  obtain ⟨-, r2, r3, -, -, r6, -, -, r9, -, -, r12, -⟩ := pg_rules i hp
  refine forL (pl h p) (fun n k (h3 : Hp) => f_X9_firstMissing_L10 K n 0 (pb h p) (nI k) h3) (fun k h3 => Upd h0 h3 (fun a _ => a = 4) ∧ ∀ l, l < 26 → gI h3 4 l = nI (cl (gI h0 (pb h p + 1)) l k)) (fun r => ∃ h2, r = K 0 (pb h p) (nI (pl h p)) h2 ∧ Upd h0 h2 (fun a _ => a = 4) ∧ ∀ l, l < 26 → gI h2 4 l = nI (cl (gI h0 (pb h p + 1)) l (pl h p))) ?_ ?_ (pl h p) 6000 0 h0 (by omega) (by omega) ⟨Upd_rf _ _, fun l hl => z l hl⟩
  · intro n k h3 hk I
    obtain ⟨I1, I2⟩ := I
    have hs3 := I1.sh hs
    obtain ⟨t1, t2, t3, t4⟩ := (u.mono (Q := fun _ _ => True) (fun _ _ _ => trivial)).tr (I1.mono (fun _ _ _ => trivial)) |>.str
    have e1 : (nI k).toNatClampNeg = k := nI_clamp (by omega)
    have e2 : inB (nI k) (pl h p) = true := inB_nI hk (by omega)
    have e3 : ¬ nI (pl h p) ≤ nI k := nI_ge hk (by omega)
    have e4 : gI h3 (pb h p + 1) k = gI h0 (pb h p + 1) k := I1.2 _ _ (by omega)
    rw [f_X9_firstMissing_L10]
    simp only [t1, t2, t3, t4, r2, r3, r6, r9, r12, toI, e1, e2, e3, e4, letC_i, nI_1, and_self, if_true, if_false, n_1_0, n_0_0, okOb_sI, okAb_sI, okOb_sW, okAb_sW, vl_e, un_e, nl_s, nl_n, bnd_e, gd_e, SH_sI, SH_sW, xI_sI, xR_sI, xL_sI, xK_sI, xN_sI, gI_sW, xR_sW, xL_sW, xK_sW, xN_sW, sO0, sO1, sO2, sA2, sL2, sO3, sA3, sL3, sO4, sA4, sL4, sO5, sA5, sL5, sO6, sA6, sL6, sO7, sA7, sL7, sO8, sA8, sL8, sO9, sO10, sA10, sL10, sO11, sA11, sL11, sO12, sA12, sL12, sO13, sO14, sA14, sL14, sO15, sA15, sL15, sO16, sA16, sL16, sO17, sA17, sL17, sO18, sA18, sL18, sO19, sA19, sL19, sO20, sO21, sA21, sL21, sO22, sA22, sL22, sO23, sA23, sL23, sO24, sA24, sL24, sO25, sO26, sA26, sL26, sO27, sA27, sL27, sO28, sA28, sL28, sO29, sA29, sL29, sO30, sA30, sL30, sO31, sA31, sL31, sO32, sA32, sL32, sO33, sO34, sA34, sL34, sO35, sA35, sL35, sO36, sA36, sL36, sO37, sO38, sA38, sL38, sO39, sA39, sL39, sO40, sA40, sL40, sO41, sO42, sA42, sL42, sO43, sA43, sL43, sO44, sA44, sL44, sO45, sO46, sA46, sL46, sO47, sA47, sL47, sO48, sA48, sL48, sO49, sA49, sL49, sO50, sA50, sL50, sO51, sA51, sL51, sO52, sA52, sL52, sO53, sA53, sL53, sO54, sA54, sL54, sO55, sA55, sL55, sO56, sA56, sL56, sO57, sA57, sL57, sO58, sA58, sL58, sO59, sA59, sL59, sO60, sA60, sL60, sO61, sA61, sL61, sO62, sA62, sL62, sO63, sA63, sL63, sO64, sA64, sL64, sO65, sA65, sL65, sO66, sA66, sL66, sO67, sA67, sL67, sO68, sA68, sL68, sO69, sA69, sL69, sO70, sA70, sL70, sO71, sA71, sL71, sO72, sA72, sL72, sO73, sA73, sL73, sO74, sA74, sL74, sO75, sA75, sL75, sO76, sA76, sL76, sO77, sA77, sL77, sO78, sA78, sL78, sO79, sA79, sL79, sO80, sA80, sL80, sO81, sA81, sL81, sO82, sA82, sL82, sO83, sA83, sL83, sO84, sA84, sL84, sO85, sA85, sL85, sO86, sA86, sL86, sO87, sA87, sL87, sR0_0, sR0_1, sR0_2, sR0_3, sR0_5, sR0_6, sR0_8, sR0_10, sR0_11, sR0_12, sR0_13, sR1_0, sR6_0, sR6_1, sR6_2, sR9_0, sR9_1, sR9_2, sR13_0, sR13_1, sR13_2, sR13_3, sR13_4, sR13_5, sR20_0, sR20_1, sR20_2, sR20_3, sR25_0, sR25_1, sR25_2, sR25_4, sR25_5, sR25_6, sR25_7, sR33_2, sR33_3, sR37_2, sR37_3, sR41_2, sR41_3, sR45_0, sR45_1, sR45_3, sR45_4, sR45_5, sR45_6, sR45_7, sR45_8, sR45_9, sR45_10, sR45_12, sR45_13, sR45_14, sR45_15, sR45_16, sR45_17, sR45_18, sR45_19, sR45_20, sR45_21, sR45_22, sR45_25, sR45_26, sR45_27, sR45_28, sR45_29, sR45_30, sR45_31, sR45_32, sR45_33, sR45_34, sR45_35, sR45_36, sR45_40, sR45_41, sR45_42, sR45_43, sR45_45, sR45_46, sR45_47, sR45_48, sR45_49]
    by_cases c : isLet (gI h0 (pb h p + 1) k) = true
    · rw [if_pos (isLet_i.mp c)]
      obtain ⟨l0, hl0, e5⟩ := isLet_n c
      have e6 : (nI l0).toNatClampNeg = l0 := nI_clamp (by omega)
      have e7 : inB (nI l0) 26 = true := inB_nI hl0 (by decide)
      have e8 := hs3
      simp only [← t1, ← t2, ← t3, sO0 hs3, sR0_2 hs3, sA4 hs3, un_e, gd_e, vl_e, e5, e6, e7, I2 l0 hl0, nI_1]
      refine Or.inr ⟨_, rfl, I1.tr (Upd_sI rfl), fun l hl => ?_⟩
      rw [xI_sI, cl_s, e5]
      by_cases c2 : l = l0
      · rw [if_pos ⟨rfl, c2⟩, if_pos (by rw [c2]), c2]
      · rw [if_neg (fun z => c2 z.2), if_neg (fun z => c2 ((nI_eq (by omega) (by omega)).mp z).symm)]
        exact I2 l hl
    · rw [if_neg (fun z => c (isLet_i.mpr z))]
      refine Or.inr ⟨_, rfl, I1, fun l hl => ?_⟩
      rw [cl_s, if_neg (isLet_f c hl)]; exact I2 l hl
  · intro n h3 I
    obtain ⟨t1, t2, t3, t4⟩ := (u.mono (Q := fun _ _ => True) (fun _ _ _ => trivial)).tr (I.1.mono (fun _ _ _ => trivial)) |>.str
    refine ⟨h3, ?_, I⟩
    rw [f_X9_firstMissing_L10]
    simp only [t1, t3, t4, r2, r3, r6, r12, toI, nI_le (Nat.le_refl (pl h p)) (show pl h p < 2 ^ 31 by omega), and_self, if_true, if_false, n_1_0, n_0_0, okOb_sI, okAb_sI, okOb_sW, okAb_sW, vl_e, un_e, nl_s, nl_n, bnd_e, gd_e, SH_sI, SH_sW, xI_sI, xR_sI, xL_sI, xK_sI, xN_sI, gI_sW, xR_sW, xL_sW, xK_sW, xN_sW, sO0, sO1, sO2, sA2, sL2, sO3, sA3, sL3, sO4, sA4, sL4, sO5, sA5, sL5, sO6, sA6, sL6, sO7, sA7, sL7, sO8, sA8, sL8, sO9, sO10, sA10, sL10, sO11, sA11, sL11, sO12, sA12, sL12, sO13, sO14, sA14, sL14, sO15, sA15, sL15, sO16, sA16, sL16, sO17, sA17, sL17, sO18, sA18, sL18, sO19, sA19, sL19, sO20, sO21, sA21, sL21, sO22, sA22, sL22, sO23, sA23, sL23, sO24, sA24, sL24, sO25, sO26, sA26, sL26, sO27, sA27, sL27, sO28, sA28, sL28, sO29, sA29, sL29, sO30, sA30, sL30, sO31, sA31, sL31, sO32, sA32, sL32, sO33, sO34, sA34, sL34, sO35, sA35, sL35, sO36, sA36, sL36, sO37, sO38, sA38, sL38, sO39, sA39, sL39, sO40, sA40, sL40, sO41, sO42, sA42, sL42, sO43, sA43, sL43, sO44, sA44, sL44, sO45, sO46, sA46, sL46, sO47, sA47, sL47, sO48, sA48, sL48, sO49, sA49, sL49, sO50, sA50, sL50, sO51, sA51, sL51, sO52, sA52, sL52, sO53, sA53, sL53, sO54, sA54, sL54, sO55, sA55, sL55, sO56, sA56, sL56, sO57, sA57, sL57, sO58, sA58, sL58, sO59, sA59, sL59, sO60, sA60, sL60, sO61, sA61, sL61, sO62, sA62, sL62, sO63, sA63, sL63, sO64, sA64, sL64, sO65, sA65, sL65, sO66, sA66, sL66, sO67, sA67, sL67, sO68, sA68, sL68, sO69, sA69, sL69, sO70, sA70, sL70, sO71, sA71, sL71, sO72, sA72, sL72, sO73, sA73, sL73, sO74, sA74, sL74, sO75, sA75, sL75, sO76, sA76, sL76, sO77, sA77, sL77, sO78, sA78, sL78, sO79, sA79, sL79, sO80, sA80, sL80, sO81, sA81, sL81, sO82, sA82, sL82, sO83, sA83, sL83, sO84, sA84, sL84, sO85, sA85, sL85, sO86, sA86, sL86, sO87, sA87, sL87, sR0_0, sR0_1, sR0_2, sR0_3, sR0_5, sR0_6, sR0_8, sR0_10, sR0_11, sR0_12, sR0_13, sR1_0, sR6_0, sR6_1, sR6_2, sR9_0, sR9_1, sR9_2, sR13_0, sR13_1, sR13_2, sR13_3, sR13_4, sR13_5, sR20_0, sR20_1, sR20_2, sR20_3, sR25_0, sR25_1, sR25_2, sR25_4, sR25_5, sR25_6, sR25_7, sR33_2, sR33_3, sR37_2, sR37_3, sR41_2, sR41_3, sR45_0, sR45_1, sR45_3, sR45_4, sR45_5, sR45_6, sR45_7, sR45_8, sR45_9, sR45_10, sR45_12, sR45_13, sR45_14, sR45_15, sR45_16, sR45_17, sR45_18, sR45_19, sR45_20, sR45_21, sR45_22, sR45_25, sR45_26, sR45_27, sR45_28, sR45_29, sR45_30, sR45_31, sR45_32, sR45_33, sR45_34, sR45_35, sR45_36, sR45_40, sR45_41, sR45_42, sR45_43, sR45_45, sR45_46, sR45_47, sR45_48, sR45_49]
set_option maxRecDepth 100000 in
theorem miss_e {h : Hp} (hs : SH h) (b : Nat) {c s : Nat → Nat} (h1 : ∀ l, l < 26 → gI h 4 l = nI (c l) ∧ c l < 2 ^ 31) (h2 : ∀ l, l < 26 → gI h 3 l = nI (s l) ∧ s l < 2 ^ 31) : (∀ l, l < 26 → c l ≤ s l) ∧ f_X9_firstMissing_L51 6000 0 b 0 h = some (-1, h) ∨ ∃ l, l < 26 ∧ s l < c l ∧ (∀ l', l' < l → c l' ≤ s l') ∧ f_X9_firstMissing_L51 6000 0 b 0 h = some (nI l, h) := by
  refine forL 26 (fun n k (_ : Unit) => f_X9_firstMissing_L51 n 0 b (nI k) h) (fun k _ => ∀ l, l < k → c l ≤ s l) (fun r => (∀ l, l < 26 → c l ≤ s l) ∧ r = some (-1, h) ∨ ∃ l, l < 26 ∧ s l < c l ∧ (∀ l', l' < l → c l' ≤ s l') ∧ r = some (nI l, h)) ?_ ?_ 26 6000 0 () (by decide) (by decide) (fun j hj => absurd hj (Nat.not_lt_zero j))
  · intro n k _ hk I
    have e1 : (nI k).toNatClampNeg = k := nI_clamp (by omega)
    have e2 : inB (nI k) 26 = true := inB_nI hk (by omega)
    have e3 : ¬ (26 : Int32) ≤ nI k := nI_ge (b := 26) hk (by omega)
    rw [f_X9_firstMissing_L51, if_neg e3]
    simp only [e1, e2, hs, (h1 k hk).1, (h2 k hk).1, nI_1, and_self, if_true, if_false, n_1_0, n_0_0, okOb_sI, okAb_sI, okOb_sW, okAb_sW, vl_e, un_e, nl_s, nl_n, bnd_e, gd_e, SH_sI, SH_sW, xI_sI, xR_sI, xL_sI, xK_sI, xN_sI, gI_sW, xR_sW, xL_sW, xK_sW, xN_sW, sO0, sO1, sO2, sA2, sL2, sO3, sA3, sL3, sO4, sA4, sL4, sO5, sA5, sL5, sO6, sA6, sL6, sO7, sA7, sL7, sO8, sA8, sL8, sO9, sO10, sA10, sL10, sO11, sA11, sL11, sO12, sA12, sL12, sO13, sO14, sA14, sL14, sO15, sA15, sL15, sO16, sA16, sL16, sO17, sA17, sL17, sO18, sA18, sL18, sO19, sA19, sL19, sO20, sO21, sA21, sL21, sO22, sA22, sL22, sO23, sA23, sL23, sO24, sA24, sL24, sO25, sO26, sA26, sL26, sO27, sA27, sL27, sO28, sA28, sL28, sO29, sA29, sL29, sO30, sA30, sL30, sO31, sA31, sL31, sO32, sA32, sL32, sO33, sO34, sA34, sL34, sO35, sA35, sL35, sO36, sA36, sL36, sO37, sO38, sA38, sL38, sO39, sA39, sL39, sO40, sA40, sL40, sO41, sO42, sA42, sL42, sO43, sA43, sL43, sO44, sA44, sL44, sO45, sO46, sA46, sL46, sO47, sA47, sL47, sO48, sA48, sL48, sO49, sA49, sL49, sO50, sA50, sL50, sO51, sA51, sL51, sO52, sA52, sL52, sO53, sA53, sL53, sO54, sA54, sL54, sO55, sA55, sL55, sO56, sA56, sL56, sO57, sA57, sL57, sO58, sA58, sL58, sO59, sA59, sL59, sO60, sA60, sL60, sO61, sA61, sL61, sO62, sA62, sL62, sO63, sA63, sL63, sO64, sA64, sL64, sO65, sA65, sL65, sO66, sA66, sL66, sO67, sA67, sL67, sO68, sA68, sL68, sO69, sA69, sL69, sO70, sA70, sL70, sO71, sA71, sL71, sO72, sA72, sL72, sO73, sA73, sL73, sO74, sA74, sL74, sO75, sA75, sL75, sO76, sA76, sL76, sO77, sA77, sL77, sO78, sA78, sL78, sO79, sA79, sL79, sO80, sA80, sL80, sO81, sA81, sL81, sO82, sA82, sL82, sO83, sA83, sL83, sO84, sA84, sL84, sO85, sA85, sL85, sO86, sA86, sL86, sO87, sA87, sL87, sR0_0, sR0_1, sR0_2, sR0_3, sR0_5, sR0_6, sR0_8, sR0_10, sR0_11, sR0_12, sR0_13, sR1_0, sR6_0, sR6_1, sR6_2, sR9_0, sR9_1, sR9_2, sR13_0, sR13_1, sR13_2, sR13_3, sR13_4, sR13_5, sR20_0, sR20_1, sR20_2, sR20_3, sR25_0, sR25_1, sR25_2, sR25_4, sR25_5, sR25_6, sR25_7, sR33_2, sR33_3, sR37_2, sR37_3, sR41_2, sR41_3, sR45_0, sR45_1, sR45_3, sR45_4, sR45_5, sR45_6, sR45_7, sR45_8, sR45_9, sR45_10, sR45_12, sR45_13, sR45_14, sR45_15, sR45_16, sR45_17, sR45_18, sR45_19, sR45_20, sR45_21, sR45_22, sR45_25, sR45_26, sR45_27, sR45_28, sR45_29, sR45_30, sR45_31, sR45_32, sR45_33, sR45_34, sR45_35, sR45_36, sR45_40, sR45_41, sR45_42, sR45_43, sR45_45, sR45_46, sR45_47, sR45_48, sR45_49]
    by_cases d : c k ≤ s k
    · rw [if_pos (nI_le d (h2 k hk).2)]
      refine Or.inr ⟨(), rfl, fun l hl => ?_⟩
      by_cases e : l = k
      · rw [e]; exact d
      · exact I l (by omega)
    · rw [if_neg (nI_ge (by omega) (h1 k hk).2)]
      exact Or.inl (Or.inr ⟨k, hk, by omega, I, rfl⟩)
  · intro n _ I
    refine Or.inl ⟨I, ?_⟩
    rw [f_X9_firstMissing_L51, if_pos (by decide)]
set_option maxRecDepth 100000 in
theorem s43 {h : Hp} (hs : SH h) {p n : Nat} (hp : p < 48) (hn : n ≤ 120) (e48 : gI h 48 p = nI n) {F : Nat → Int32} (hF : ∀ k, k < n → gI h 49 (120 * p + k) = F k) (K : Nat → Int32 → Int32 → Int32 → Int32 → Int32 → Hp → Option (Int32 × Hp)) (d : Int32) (l : Nat) : f_X10_set_L43 K 6000 45 (nI p) d (nI l) 0 0 h = K 45 (nI p) d (nI l) (nI (cl F l n)) (nI n) h := by
  have x1 : (nI p).toNatClampNeg = p := nI_clamp (by omega)
  have x2 : inB (nI p) 48 = true := inB_nI (by omega) (by decide)
  refine forU n (fun m k => f_X10_set_L43 K m 45 (nI p) d (nI l) (nI (cl F l k)) (nI k) h) _ ?_ ?_ n 6000 0 (by omega) (by omega)
  · intro m k hk
    have z7 : (nI (120 * p + k)).toNatClampNeg = 120 * p + k := nI_clamp (by omega)
    have z8 : inB (nI (120 * p + k)) 5760 = true := inB_nI (by omega) (by decide)
    rw [f_X10_set_L43]
    simp only [x1, x2, e48, nI_ge hk (show n < 2 ^ 31 by omega), mul120, nI_add, z7, z8, hF k hk, hs, nI_1, and_self, if_true, if_false, n_1_0, n_0_0, okOb_sI, okAb_sI, okOb_sW, okAb_sW, vl_e, un_e, nl_s, nl_n, bnd_e, gd_e, SH_sI, SH_sW, xI_sI, xR_sI, xL_sI, xK_sI, xN_sI, gI_sW, xR_sW, xL_sW, xK_sW, xN_sW, sO0, sO1, sO2, sA2, sL2, sO3, sA3, sL3, sO4, sA4, sL4, sO5, sA5, sL5, sO6, sA6, sL6, sO7, sA7, sL7, sO8, sA8, sL8, sO9, sO10, sA10, sL10, sO11, sA11, sL11, sO12, sA12, sL12, sO13, sO14, sA14, sL14, sO15, sA15, sL15, sO16, sA16, sL16, sO17, sA17, sL17, sO18, sA18, sL18, sO19, sA19, sL19, sO20, sO21, sA21, sL21, sO22, sA22, sL22, sO23, sA23, sL23, sO24, sA24, sL24, sO25, sO26, sA26, sL26, sO27, sA27, sL27, sO28, sA28, sL28, sO29, sA29, sL29, sO30, sA30, sL30, sO31, sA31, sL31, sO32, sA32, sL32, sO33, sO34, sA34, sL34, sO35, sA35, sL35, sO36, sA36, sL36, sO37, sO38, sA38, sL38, sO39, sA39, sL39, sO40, sA40, sL40, sO41, sO42, sA42, sL42, sO43, sA43, sL43, sO44, sA44, sL44, sO45, sO46, sA46, sL46, sO47, sA47, sL47, sO48, sA48, sL48, sO49, sA49, sL49, sO50, sA50, sL50, sO51, sA51, sL51, sO52, sA52, sL52, sO53, sA53, sL53, sO54, sA54, sL54, sO55, sA55, sL55, sO56, sA56, sL56, sO57, sA57, sL57, sO58, sA58, sL58, sO59, sA59, sL59, sO60, sA60, sL60, sO61, sA61, sL61, sO62, sA62, sL62, sO63, sA63, sL63, sO64, sA64, sL64, sO65, sA65, sL65, sO66, sA66, sL66, sO67, sA67, sL67, sO68, sA68, sL68, sO69, sA69, sL69, sO70, sA70, sL70, sO71, sA71, sL71, sO72, sA72, sL72, sO73, sA73, sL73, sO74, sA74, sL74, sO75, sA75, sL75, sO76, sA76, sL76, sO77, sA77, sL77, sO78, sA78, sL78, sO79, sA79, sL79, sO80, sA80, sL80, sO81, sA81, sL81, sO82, sA82, sL82, sO83, sA83, sL83, sO84, sA84, sL84, sO85, sA85, sL85, sO86, sA86, sL86, sO87, sA87, sL87, sR0_0, sR0_1, sR0_2, sR0_3, sR0_5, sR0_6, sR0_8, sR0_10, sR0_11, sR0_12, sR0_13, sR1_0, sR6_0, sR6_1, sR6_2, sR9_0, sR9_1, sR9_2, sR13_0, sR13_1, sR13_2, sR13_3, sR13_4, sR13_5, sR20_0, sR20_1, sR20_2, sR20_3, sR25_0, sR25_1, sR25_2, sR25_4, sR25_5, sR25_6, sR25_7, sR33_2, sR33_3, sR37_2, sR37_3, sR41_2, sR41_3, sR45_0, sR45_1, sR45_3, sR45_4, sR45_5, sR45_6, sR45_7, sR45_8, sR45_9, sR45_10, sR45_12, sR45_13, sR45_14, sR45_15, sR45_16, sR45_17, sR45_18, sR45_19, sR45_20, sR45_21, sR45_22, sR45_25, sR45_26, sR45_27, sR45_28, sR45_29, sR45_30, sR45_31, sR45_32, sR45_33, sR45_34, sR45_35, sR45_36, sR45_40, sR45_41, sR45_42, sR45_43, sR45_45, sR45_46, sR45_47, sR45_48, sR45_49]
    rw [cl_s]
    by_cases c : F k = nI l
    · rw [if_pos c, if_pos c]
    · rw [if_neg c, if_neg c, show nI (cl F l k) + 0 = nI (cl F l k) from nI_add _ 0]; rfl
  · intro m
    rw [f_X10_set_L43]
    simp only [x1, x2, e48, nI_le (Nat.le_refl n) (show n < 2 ^ 31 by omega), hs, and_self, if_true, if_false, n_1_0, n_0_0, okOb_sI, okAb_sI, okOb_sW, okAb_sW, vl_e, un_e, nl_s, nl_n, bnd_e, gd_e, SH_sI, SH_sW, xI_sI, xR_sI, xL_sI, xK_sI, xN_sI, gI_sW, xR_sW, xL_sW, xK_sW, xN_sW, sO0, sO1, sO2, sA2, sL2, sO3, sA3, sL3, sO4, sA4, sL4, sO5, sA5, sL5, sO6, sA6, sL6, sO7, sA7, sL7, sO8, sA8, sL8, sO9, sO10, sA10, sL10, sO11, sA11, sL11, sO12, sA12, sL12, sO13, sO14, sA14, sL14, sO15, sA15, sL15, sO16, sA16, sL16, sO17, sA17, sL17, sO18, sA18, sL18, sO19, sA19, sL19, sO20, sO21, sA21, sL21, sO22, sA22, sL22, sO23, sA23, sL23, sO24, sA24, sL24, sO25, sO26, sA26, sL26, sO27, sA27, sL27, sO28, sA28, sL28, sO29, sA29, sL29, sO30, sA30, sL30, sO31, sA31, sL31, sO32, sA32, sL32, sO33, sO34, sA34, sL34, sO35, sA35, sL35, sO36, sA36, sL36, sO37, sO38, sA38, sL38, sO39, sA39, sL39, sO40, sA40, sL40, sO41, sO42, sA42, sL42, sO43, sA43, sL43, sO44, sA44, sL44, sO45, sO46, sA46, sL46, sO47, sA47, sL47, sO48, sA48, sL48, sO49, sA49, sL49, sO50, sA50, sL50, sO51, sA51, sL51, sO52, sA52, sL52, sO53, sA53, sL53, sO54, sA54, sL54, sO55, sA55, sL55, sO56, sA56, sL56, sO57, sA57, sL57, sO58, sA58, sL58, sO59, sA59, sL59, sO60, sA60, sL60, sO61, sA61, sL61, sO62, sA62, sL62, sO63, sA63, sL63, sO64, sA64, sL64, sO65, sA65, sL65, sO66, sA66, sL66, sO67, sA67, sL67, sO68, sA68, sL68, sO69, sA69, sL69, sO70, sA70, sL70, sO71, sA71, sL71, sO72, sA72, sL72, sO73, sA73, sL73, sO74, sA74, sL74, sO75, sA75, sL75, sO76, sA76, sL76, sO77, sA77, sL77, sO78, sA78, sL78, sO79, sA79, sL79, sO80, sA80, sL80, sO81, sA81, sL81, sO82, sA82, sL82, sO83, sA83, sL83, sO84, sA84, sL84, sO85, sA85, sL85, sO86, sA86, sL86, sO87, sA87, sL87, sR0_0, sR0_1, sR0_2, sR0_3, sR0_5, sR0_6, sR0_8, sR0_10, sR0_11, sR0_12, sR0_13, sR1_0, sR6_0, sR6_1, sR6_2, sR9_0, sR9_1, sR9_2, sR13_0, sR13_1, sR13_2, sR13_3, sR13_4, sR13_5, sR20_0, sR20_1, sR20_2, sR20_3, sR25_0, sR25_1, sR25_2, sR25_4, sR25_5, sR25_6, sR25_7, sR33_2, sR33_3, sR37_2, sR37_3, sR41_2, sR41_3, sR45_0, sR45_1, sR45_3, sR45_4, sR45_5, sR45_6, sR45_7, sR45_8, sR45_9, sR45_10, sR45_12, sR45_13, sR45_14, sR45_15, sR45_16, sR45_17, sR45_18, sR45_19, sR45_20, sR45_21, sR45_22, sR45_25, sR45_26, sR45_27, sR45_28, sR45_29, sR45_30, sR45_31, sR45_32, sR45_33, sR45_34, sR45_35, sR45_36, sR45_40, sR45_41, sR45_42, sR45_43, sR45_45, sR45_46, sR45_47, sR45_48, sR45_49]
set_option maxRecDepth 100000 in
theorem s31 {h : Hp} (hs : SH h) {p n : Nat} (hp : p < 48) (hn : n ≤ 120) (e48 : gI h 48 p = nI n) {F : Nat → Int32} (hF : ∀ k, k < n → gI h 49 (120 * p + k) = F k) {s : Nat → Nat} (h2 : ∀ l, l < 26 → gI h 47 l = nI (s l) ∧ s l < 2 ^ 31) (K : Nat → Int32 → Int32 → Int32 → Hp → Option (Int32 × Hp)) (d : Int32) : (∀ l, l < 26 → cl F l n ≤ s l) ∧ f_X10_set_L31 K 6000 45 (nI p) d 0 h = K 45 (nI p) d (nI 26) h ∨ ∃ l, l < 26 ∧ s l < cl F l n ∧ (∀ l', l' < l → cl F l' n ≤ s l') ∧ f_X10_set_L31 K 6000 45 (nI p) d 0 h = some (-10 - nI l, h) := by
  refine forL 26 (fun m k (_ : Unit) => f_X10_set_L31 K m 45 (nI p) d (nI k) h) (fun k _ => ∀ l, l < k → cl F l n ≤ s l) (fun r => (∀ l, l < 26 → cl F l n ≤ s l) ∧ r = K 45 (nI p) d (nI 26) h ∨ ∃ l, l < 26 ∧ s l < cl F l n ∧ (∀ l', l' < l → cl F l' n ≤ s l') ∧ r = some (-10 - nI l, h)) ?_ ?_ 26 6000 0 () (by decide) (by decide) (fun j hj => absurd hj (Nat.not_lt_zero j))
  · intro m k _ hk I
    have e1 : (nI k).toNatClampNeg = k := nI_clamp (by omega)
    have e2 : inB (nI k) 26 = true := inB_nI hk (by omega)
    have e3 : ¬ (26 : Int32) ≤ nI k := nI_ge (b := 26) hk (by omega)
    have hc := cl_le F k n
    rw [f_X10_set_L31, if_neg e3, s43 hs hp hn e48 hF]
    simp only [e1, e2, hs, (h2 k hk).1, nI_1, and_self, if_true, if_false, n_1_0, n_0_0, okOb_sI, okAb_sI, okOb_sW, okAb_sW, vl_e, un_e, nl_s, nl_n, bnd_e, gd_e, SH_sI, SH_sW, xI_sI, xR_sI, xL_sI, xK_sI, xN_sI, gI_sW, xR_sW, xL_sW, xK_sW, xN_sW, sO0, sO1, sO2, sA2, sL2, sO3, sA3, sL3, sO4, sA4, sL4, sO5, sA5, sL5, sO6, sA6, sL6, sO7, sA7, sL7, sO8, sA8, sL8, sO9, sO10, sA10, sL10, sO11, sA11, sL11, sO12, sA12, sL12, sO13, sO14, sA14, sL14, sO15, sA15, sL15, sO16, sA16, sL16, sO17, sA17, sL17, sO18, sA18, sL18, sO19, sA19, sL19, sO20, sO21, sA21, sL21, sO22, sA22, sL22, sO23, sA23, sL23, sO24, sA24, sL24, sO25, sO26, sA26, sL26, sO27, sA27, sL27, sO28, sA28, sL28, sO29, sA29, sL29, sO30, sA30, sL30, sO31, sA31, sL31, sO32, sA32, sL32, sO33, sO34, sA34, sL34, sO35, sA35, sL35, sO36, sA36, sL36, sO37, sO38, sA38, sL38, sO39, sA39, sL39, sO40, sA40, sL40, sO41, sO42, sA42, sL42, sO43, sA43, sL43, sO44, sA44, sL44, sO45, sO46, sA46, sL46, sO47, sA47, sL47, sO48, sA48, sL48, sO49, sA49, sL49, sO50, sA50, sL50, sO51, sA51, sL51, sO52, sA52, sL52, sO53, sA53, sL53, sO54, sA54, sL54, sO55, sA55, sL55, sO56, sA56, sL56, sO57, sA57, sL57, sO58, sA58, sL58, sO59, sA59, sL59, sO60, sA60, sL60, sO61, sA61, sL61, sO62, sA62, sL62, sO63, sA63, sL63, sO64, sA64, sL64, sO65, sA65, sL65, sO66, sA66, sL66, sO67, sA67, sL67, sO68, sA68, sL68, sO69, sA69, sL69, sO70, sA70, sL70, sO71, sA71, sL71, sO72, sA72, sL72, sO73, sA73, sL73, sO74, sA74, sL74, sO75, sA75, sL75, sO76, sA76, sL76, sO77, sA77, sL77, sO78, sA78, sL78, sO79, sA79, sL79, sO80, sA80, sL80, sO81, sA81, sL81, sO82, sA82, sL82, sO83, sA83, sL83, sO84, sA84, sL84, sO85, sA85, sL85, sO86, sA86, sL86, sO87, sA87, sL87, sR0_0, sR0_1, sR0_2, sR0_3, sR0_5, sR0_6, sR0_8, sR0_10, sR0_11, sR0_12, sR0_13, sR1_0, sR6_0, sR6_1, sR6_2, sR9_0, sR9_1, sR9_2, sR13_0, sR13_1, sR13_2, sR13_3, sR13_4, sR13_5, sR20_0, sR20_1, sR20_2, sR20_3, sR25_0, sR25_1, sR25_2, sR25_4, sR25_5, sR25_6, sR25_7, sR33_2, sR33_3, sR37_2, sR37_3, sR41_2, sR41_3, sR45_0, sR45_1, sR45_3, sR45_4, sR45_5, sR45_6, sR45_7, sR45_8, sR45_9, sR45_10, sR45_12, sR45_13, sR45_14, sR45_15, sR45_16, sR45_17, sR45_18, sR45_19, sR45_20, sR45_21, sR45_22, sR45_25, sR45_26, sR45_27, sR45_28, sR45_29, sR45_30, sR45_31, sR45_32, sR45_33, sR45_34, sR45_35, sR45_36, sR45_40, sR45_41, sR45_42, sR45_43, sR45_45, sR45_46, sR45_47, sR45_48, sR45_49]
    by_cases c : cl F k n ≤ s k
    · rw [if_pos (nI_le c (h2 k hk).2)]
      refine Or.inr ⟨(), rfl, fun l hl => ?_⟩
      by_cases e : l = k
      · rw [e]; exact c
      · exact I l (by omega)
    · rw [if_neg (nI_ge (by omega) (by omega))]
      exact Or.inl (Or.inr ⟨k, hk, by omega, I, rfl⟩)
  · intro m _ I
    refine Or.inl ⟨I, ?_⟩
    rw [f_X10_set_L31, if_pos (by decide)]
set_option maxRecDepth 100000 in
theorem s51 {h : Hp} (hs : SH h) {c s : Nat → Nat} (h1 : ∀ l, l < 26 → gI h 4 l = nI (c l)) (h2 : ∀ l, l < 26 → gI h 3 l = nI (s l)) (h3 : ∀ l, l < 26 → c l ≤ s l) (K : Nat → Int32 → Int32 → Nat → Int32 → Int32 → Hp → Option (Int32 × Hp)) (a b : Int32) (q : Nat) (m : Int32) : ∃ h2, f_X9_set_L51 K 6000 0 a b q m 0 h = K 0 a b q m (nI 26) h2 ∧ Upd h h2 (fun a _ => a = 3) ∧ ∀ l, l < 26 → gI h2 3 l = nI (s l - c l) := by
  refine forL 26 (fun n k (h4 : Hp) => f_X9_set_L51 K n 0 a b q m (nI k) h4) (fun k h4 => Upd h h4 (fun a _ => a = 3) ∧ ∀ l, l < 26 → gI h4 3 l = if l < k then nI (s l - c l) else nI (s l)) (fun r => ∃ h2, r = K 0 a b q m (nI 26) h2 ∧ Upd h h2 (fun a _ => a = 3) ∧ ∀ l, l < 26 → gI h2 3 l = nI (s l - c l)) ?_ ?_ 26 6000 0 h (by decide) (by decide) ⟨Upd_rf _ _, fun l hl => by rw [if_neg (Nat.not_lt_zero l)]; exact h2 l hl⟩
  · intro n k h4 hk I
    have hs4 := I.1.sh hs
    have e1 : (nI k).toNatClampNeg = k := nI_clamp (by omega)
    have e2 : inB (nI k) 26 = true := inB_nI hk (by omega)
    have e3 : ¬ (26 : Int32) ≤ nI k := nI_ge (b := 26) hk (by omega)
    have e4 : gI h4 4 k = nI (c k) := by rw [I.1.2 _ _ (show ¬ (4 = 3) by decide)]; exact h1 k hk
    have e5 := I.2 k hk
    rw [if_neg (Nat.lt_irrefl k)] at e5
    have e6 : nI (s k) - nI (c k) = nI (s k - c k) := pk_sub (h3 k hk)
    rw [f_X9_set_L51, if_neg e3]
    simp only [e1, e2, e4, e5, e6, hs4, nI_1, and_self, if_true, if_false, n_1_0, n_0_0, okOb_sI, okAb_sI, okOb_sW, okAb_sW, vl_e, un_e, nl_s, nl_n, bnd_e, gd_e, SH_sI, SH_sW, xI_sI, xR_sI, xL_sI, xK_sI, xN_sI, gI_sW, xR_sW, xL_sW, xK_sW, xN_sW, sO0, sO1, sO2, sA2, sL2, sO3, sA3, sL3, sO4, sA4, sL4, sO5, sA5, sL5, sO6, sA6, sL6, sO7, sA7, sL7, sO8, sA8, sL8, sO9, sO10, sA10, sL10, sO11, sA11, sL11, sO12, sA12, sL12, sO13, sO14, sA14, sL14, sO15, sA15, sL15, sO16, sA16, sL16, sO17, sA17, sL17, sO18, sA18, sL18, sO19, sA19, sL19, sO20, sO21, sA21, sL21, sO22, sA22, sL22, sO23, sA23, sL23, sO24, sA24, sL24, sO25, sO26, sA26, sL26, sO27, sA27, sL27, sO28, sA28, sL28, sO29, sA29, sL29, sO30, sA30, sL30, sO31, sA31, sL31, sO32, sA32, sL32, sO33, sO34, sA34, sL34, sO35, sA35, sL35, sO36, sA36, sL36, sO37, sO38, sA38, sL38, sO39, sA39, sL39, sO40, sA40, sL40, sO41, sO42, sA42, sL42, sO43, sA43, sL43, sO44, sA44, sL44, sO45, sO46, sA46, sL46, sO47, sA47, sL47, sO48, sA48, sL48, sO49, sA49, sL49, sO50, sA50, sL50, sO51, sA51, sL51, sO52, sA52, sL52, sO53, sA53, sL53, sO54, sA54, sL54, sO55, sA55, sL55, sO56, sA56, sL56, sO57, sA57, sL57, sO58, sA58, sL58, sO59, sA59, sL59, sO60, sA60, sL60, sO61, sA61, sL61, sO62, sA62, sL62, sO63, sA63, sL63, sO64, sA64, sL64, sO65, sA65, sL65, sO66, sA66, sL66, sO67, sA67, sL67, sO68, sA68, sL68, sO69, sA69, sL69, sO70, sA70, sL70, sO71, sA71, sL71, sO72, sA72, sL72, sO73, sA73, sL73, sO74, sA74, sL74, sO75, sA75, sL75, sO76, sA76, sL76, sO77, sA77, sL77, sO78, sA78, sL78, sO79, sA79, sL79, sO80, sA80, sL80, sO81, sA81, sL81, sO82, sA82, sL82, sO83, sA83, sL83, sO84, sA84, sL84, sO85, sA85, sL85, sO86, sA86, sL86, sO87, sA87, sL87, sR0_0, sR0_1, sR0_2, sR0_3, sR0_5, sR0_6, sR0_8, sR0_10, sR0_11, sR0_12, sR0_13, sR1_0, sR6_0, sR6_1, sR6_2, sR9_0, sR9_1, sR9_2, sR13_0, sR13_1, sR13_2, sR13_3, sR13_4, sR13_5, sR20_0, sR20_1, sR20_2, sR20_3, sR25_0, sR25_1, sR25_2, sR25_4, sR25_5, sR25_6, sR25_7, sR33_2, sR33_3, sR37_2, sR37_3, sR41_2, sR41_3, sR45_0, sR45_1, sR45_3, sR45_4, sR45_5, sR45_6, sR45_7, sR45_8, sR45_9, sR45_10, sR45_12, sR45_13, sR45_14, sR45_15, sR45_16, sR45_17, sR45_18, sR45_19, sR45_20, sR45_21, sR45_22, sR45_25, sR45_26, sR45_27, sR45_28, sR45_29, sR45_30, sR45_31, sR45_32, sR45_33, sR45_34, sR45_35, sR45_36, sR45_40, sR45_41, sR45_42, sR45_43, sR45_45, sR45_46, sR45_47, sR45_48, sR45_49]
    refine Or.inr ⟨_, rfl, I.1.tr (Upd_sI rfl), fun l hl => ?_⟩
    rw [xI_sI]
    by_cases d : l = k
    · rw [if_pos ⟨rfl, d⟩, d, if_pos (by omega)]
    · rw [if_neg (fun z => d z.2), I.2 l hl]
      by_cases d2 : l < k
      · rw [if_pos d2, if_pos (by omega)]
      · rw [if_neg d2, if_neg (by omega)]
  · intro n h4 I
    refine ⟨h4, ?_, I.1, fun l hl => by rw [I.2 l hl, if_pos hl]⟩
    rw [f_X9_set_L51, if_pos (by decide)]
set_option maxRecDepth 100000 in
theorem s110 {h : Hp} (hs : SH h) {p n : Nat} (hp : p < 48) (hn : n ≤ 120) (e48 : gI h 48 p = nI n) {F : Nat → Int32} (hF : ∀ k, k < n → gI h 49 (120 * p + k) = F k) {s : Nat → Nat} (h2 : ∀ l, l < 26 → gI h 47 l = nI (s l)) (h3 : ∀ l, l < 26 → cl F l n ≤ s l) (K : Nat → Int32 → Int32 → Int32 → Hp → Option (Int32 × Hp)) (d : Int32) : ∃ h2, f_X10_set_L110 K 6000 45 (nI p) d 0 h = K 45 (nI p) d (nI n) h2 ∧ Upd h h2 (fun a k => a = 47 ∨ (a = 50 ∧ 120 * p ≤ k ∧ k < 120 * p + 120)) ∧ (∀ k, k < n → gI h2 50 (120 * p + k) = F k) ∧ ∀ l, l < 26 → gI h2 47 l = nI (s l - cl F l n) := by
  have x1 : (nI p).toNatClampNeg = p := nI_clamp (by omega)
  have x2 : inB (nI p) 48 = true := inB_nI (by omega) (by decide)
  refine forL n (fun m k (h4 : Hp) => f_X10_set_L110 K m 45 (nI p) d (nI k) h4) (fun k h4 => Upd h h4 (fun a k => a = 47 ∨ (a = 50 ∧ 120 * p ≤ k ∧ k < 120 * p + 120)) ∧ (∀ j, j < k → gI h4 50 (120 * p + j) = F j) ∧ ∀ l, l < 26 → gI h4 47 l = nI (s l - cl F l k)) (fun r => ∃ h2, r = K 45 (nI p) d (nI n) h2 ∧ Upd h h2 (fun a k => a = 47 ∨ (a = 50 ∧ 120 * p ≤ k ∧ k < 120 * p + 120)) ∧ (∀ k, k < n → gI h2 50 (120 * p + k) = F k) ∧ ∀ l, l < 26 → gI h2 47 l = nI (s l - cl F l n)) ?_ ?_ n 6000 0 h (by omega) (by omega) ⟨Upd_rf _ _, fun j hj => absurd hj (Nat.not_lt_zero j), fun l hl => h2 l hl⟩
  · intro m k h4 hk I
    obtain ⟨I1, I2, I3⟩ := I
    have hs4 := I1.sh hs
    have z7 : (nI (120 * p + k)).toNatClampNeg = 120 * p + k := nI_clamp (by omega)
    have z8 : inB (nI (120 * p + k)) 5760 = true := inB_nI (by omega) (by decide)
    have y48 : gI h4 48 p = nI n := by rw [I1.2 _ _ (by omega)]; exact e48
    have y49 : gI h4 49 (120 * p + k) = F k := by rw [I1.2 _ _ (by omega)]; exact hF k hk
    rw [f_X10_set_L110]
    simp only [x1, x2, y48, nI_ge hk (show n < 2 ^ 31 by omega), mul120, nI_add, z7, z8, y49, letM_i, hs4, nI_1, and_self, if_true, if_false, n_1_0, n_0_0, okOb_sI, okAb_sI, okOb_sW, okAb_sW, vl_e, un_e, nl_s, nl_n, bnd_e, gd_e, SH_sI, SH_sW, xI_sI, xR_sI, xL_sI, xK_sI, xN_sI, gI_sW, xR_sW, xL_sW, xK_sW, xN_sW, sO0, sO1, sO2, sA2, sL2, sO3, sA3, sL3, sO4, sA4, sL4, sO5, sA5, sL5, sO6, sA6, sL6, sO7, sA7, sL7, sO8, sA8, sL8, sO9, sO10, sA10, sL10, sO11, sA11, sL11, sO12, sA12, sL12, sO13, sO14, sA14, sL14, sO15, sA15, sL15, sO16, sA16, sL16, sO17, sA17, sL17, sO18, sA18, sL18, sO19, sA19, sL19, sO20, sO21, sA21, sL21, sO22, sA22, sL22, sO23, sA23, sL23, sO24, sA24, sL24, sO25, sO26, sA26, sL26, sO27, sA27, sL27, sO28, sA28, sL28, sO29, sA29, sL29, sO30, sA30, sL30, sO31, sA31, sL31, sO32, sA32, sL32, sO33, sO34, sA34, sL34, sO35, sA35, sL35, sO36, sA36, sL36, sO37, sO38, sA38, sL38, sO39, sA39, sL39, sO40, sA40, sL40, sO41, sO42, sA42, sL42, sO43, sA43, sL43, sO44, sA44, sL44, sO45, sO46, sA46, sL46, sO47, sA47, sL47, sO48, sA48, sL48, sO49, sA49, sL49, sO50, sA50, sL50, sO51, sA51, sL51, sO52, sA52, sL52, sO53, sA53, sL53, sO54, sA54, sL54, sO55, sA55, sL55, sO56, sA56, sL56, sO57, sA57, sL57, sO58, sA58, sL58, sO59, sA59, sL59, sO60, sA60, sL60, sO61, sA61, sL61, sO62, sA62, sL62, sO63, sA63, sL63, sO64, sA64, sL64, sO65, sA65, sL65, sO66, sA66, sL66, sO67, sA67, sL67, sO68, sA68, sL68, sO69, sA69, sL69, sO70, sA70, sL70, sO71, sA71, sL71, sO72, sA72, sL72, sO73, sA73, sL73, sO74, sA74, sL74, sO75, sA75, sL75, sO76, sA76, sL76, sO77, sA77, sL77, sO78, sA78, sL78, sO79, sA79, sL79, sO80, sA80, sL80, sO81, sA81, sL81, sO82, sA82, sL82, sO83, sA83, sL83, sO84, sA84, sL84, sO85, sA85, sL85, sO86, sA86, sL86, sO87, sA87, sL87, sR0_0, sR0_1, sR0_2, sR0_3, sR0_5, sR0_6, sR0_8, sR0_10, sR0_11, sR0_12, sR0_13, sR1_0, sR6_0, sR6_1, sR6_2, sR9_0, sR9_1, sR9_2, sR13_0, sR13_1, sR13_2, sR13_3, sR13_4, sR13_5, sR20_0, sR20_1, sR20_2, sR20_3, sR25_0, sR25_1, sR25_2, sR25_4, sR25_5, sR25_6, sR25_7, sR33_2, sR33_3, sR37_2, sR37_3, sR41_2, sR41_3, sR45_0, sR45_1, sR45_3, sR45_4, sR45_5, sR45_6, sR45_7, sR45_8, sR45_9, sR45_10, sR45_12, sR45_13, sR45_14, sR45_15, sR45_16, sR45_17, sR45_18, sR45_19, sR45_20, sR45_21, sR45_22, sR45_25, sR45_26, sR45_27, sR45_28, sR45_29, sR45_30, sR45_31, sR45_32, sR45_33, sR45_34, sR45_35, sR45_36, sR45_40, sR45_41, sR45_42, sR45_43, sR45_45, sR45_46, sR45_47, sR45_48, sR45_49]
    by_cases c : isLet (F k) = true
    · rw [if_pos (isLet_i.mp c)]
      obtain ⟨l0, hl0, e5⟩ := isLet_n c
      have e6 : (nI l0).toNatClampNeg = l0 := nI_clamp (by omega)
      have e7 : inB (nI l0) 26 = true := inB_nI hl0 (by decide)
      have e8 : cl F l0 (k + 1) ≤ cl F l0 n := cl_mono (by omega)
      have e9 := h3 l0 hl0
      have e10 : cl F l0 (k + 1) = cl F l0 k + 1 := by rw [cl_s, if_pos e5]
      have e11 : nI (s l0 - cl F l0 k) - 1 = nI (s l0 - cl F l0 (k + 1)) := by
        rw [show (1 : Int32) = nI 1 from rfl, pk_sub (by omega)]; congr 1; omega
      simp only [e5, e6, e7, Nat.reduceEqDiff, false_and, if_false, I3 l0 hl0, e11, gd_e, vl_e]
      refine Or.inr ⟨_, rfl, (I1.tr (Upd_sI (Or.inr ⟨rfl, by omega, by omega⟩))).tr (Upd_sI (Or.inl rfl)), fun j hj => ?_, fun l hl => ?_⟩
      · rw [xI_sI, if_neg (by omega), xI_sI]
        by_cases c2 : j = k
        · rw [if_pos ⟨rfl, by omega⟩, c2]; exact e5.symm
        · rw [if_neg (by omega)]; exact I2 j (by omega)
      · rw [xI_sI]
        by_cases c2 : l = l0
        · rw [if_pos ⟨rfl, c2⟩, c2]
        · rw [if_neg (fun z => c2 z.2), xI_sI, if_neg (by omega), I3 l hl, cl_s, e5, if_neg (fun z => c2 ((nI_eq (by omega) (by omega)).mp z).symm)]; rfl
    · rw [if_neg (fun z => c (isLet_i.mpr z))]
      refine Or.inr ⟨_, rfl, I1.tr (Upd_sI (Or.inr ⟨rfl, by omega, by omega⟩)), fun j hj => ?_, fun l hl => ?_⟩
      · rw [xI_sI]
        by_cases c2 : j = k
        · rw [if_pos ⟨rfl, by omega⟩, c2]
        · rw [if_neg (by omega)]; exact I2 j (by omega)
      · rw [xI_sI, if_neg (by omega), I3 l hl, cl_s, if_neg (isLet_f c hl)]; rfl
  · intro m h4 I
    have hs4 := I.1.sh hs
    have y48 : gI h4 48 p = nI n := by rw [I.1.2 _ _ (by omega)]; exact e48
    refine ⟨h4, ?_, I⟩
    rw [f_X10_set_L110]
    simp only [x1, x2, y48, nI_le (Nat.le_refl n) (show n < 2 ^ 31 by omega), hs4, and_self, if_true, if_false, n_1_0, n_0_0, okOb_sI, okAb_sI, okOb_sW, okAb_sW, vl_e, un_e, nl_s, nl_n, bnd_e, gd_e, SH_sI, SH_sW, xI_sI, xR_sI, xL_sI, xK_sI, xN_sI, gI_sW, xR_sW, xL_sW, xK_sW, xN_sW, sO0, sO1, sO2, sA2, sL2, sO3, sA3, sL3, sO4, sA4, sL4, sO5, sA5, sL5, sO6, sA6, sL6, sO7, sA7, sL7, sO8, sA8, sL8, sO9, sO10, sA10, sL10, sO11, sA11, sL11, sO12, sA12, sL12, sO13, sO14, sA14, sL14, sO15, sA15, sL15, sO16, sA16, sL16, sO17, sA17, sL17, sO18, sA18, sL18, sO19, sA19, sL19, sO20, sO21, sA21, sL21, sO22, sA22, sL22, sO23, sA23, sL23, sO24, sA24, sL24, sO25, sO26, sA26, sL26, sO27, sA27, sL27, sO28, sA28, sL28, sO29, sA29, sL29, sO30, sA30, sL30, sO31, sA31, sL31, sO32, sA32, sL32, sO33, sO34, sA34, sL34, sO35, sA35, sL35, sO36, sA36, sL36, sO37, sO38, sA38, sL38, sO39, sA39, sL39, sO40, sA40, sL40, sO41, sO42, sA42, sL42, sO43, sA43, sL43, sO44, sA44, sL44, sO45, sO46, sA46, sL46, sO47, sA47, sL47, sO48, sA48, sL48, sO49, sA49, sL49, sO50, sA50, sL50, sO51, sA51, sL51, sO52, sA52, sL52, sO53, sA53, sL53, sO54, sA54, sL54, sO55, sA55, sL55, sO56, sA56, sL56, sO57, sA57, sL57, sO58, sA58, sL58, sO59, sA59, sL59, sO60, sA60, sL60, sO61, sA61, sL61, sO62, sA62, sL62, sO63, sA63, sL63, sO64, sA64, sL64, sO65, sA65, sL65, sO66, sA66, sL66, sO67, sA67, sL67, sO68, sA68, sL68, sO69, sA69, sL69, sO70, sA70, sL70, sO71, sA71, sL71, sO72, sA72, sL72, sO73, sA73, sL73, sO74, sA74, sL74, sO75, sA75, sL75, sO76, sA76, sL76, sO77, sA77, sL77, sO78, sA78, sL78, sO79, sA79, sL79, sO80, sA80, sL80, sO81, sA81, sL81, sO82, sA82, sL82, sO83, sA83, sL83, sO84, sA84, sL84, sO85, sA85, sL85, sO86, sA86, sL86, sO87, sA87, sL87, sR0_0, sR0_1, sR0_2, sR0_3, sR0_5, sR0_6, sR0_8, sR0_10, sR0_11, sR0_12, sR0_13, sR1_0, sR6_0, sR6_1, sR6_2, sR9_0, sR9_1, sR9_2, sR13_0, sR13_1, sR13_2, sR13_3, sR13_4, sR13_5, sR20_0, sR20_1, sR20_2, sR20_3, sR25_0, sR25_1, sR25_2, sR25_4, sR25_5, sR25_6, sR25_7, sR33_2, sR33_3, sR37_2, sR37_3, sR41_2, sR41_3, sR45_0, sR45_1, sR45_3, sR45_4, sR45_5, sR45_6, sR45_7, sR45_8, sR45_9, sR45_10, sR45_12, sR45_13, sR45_14, sR45_15, sR45_16, sR45_17, sR45_18, sR45_19, sR45_20, sR45_21, sR45_22, sR45_25, sR45_26, sR45_27, sR45_28, sR45_29, sR45_30, sR45_31, sR45_32, sR45_33, sR45_34, sR45_35, sR45_36, sR45_40, sR45_41, sR45_42, sR45_43, sR45_45, sR45_46, sR45_47, sR45_48, sR45_49]
set_option maxRecDepth 100000 in
theorem letters_e {h : Hp} (hs : SH h) {p n : Nat} (hp : p < 48) (hn : n ≤ 120) (e48 : gI h 48 p = nI n) {F : Nat → Int32} (hF : ∀ k, k < n → gI h 49 (120 * p + k) = F k) : f_X10_lettersOf h 45 (nI p) = some (nI (cnt (fun k => isLet (F k)) n), h) := by
  have x1 : (nI p).toNatClampNeg = p := nI_clamp (by omega)
  have x2 : inB (nI p) 48 = true := inB_nI (by omega) (by decide)
  unfold f_X10_lettersOf
  refine forU n (fun m k => f_X10_lettersOf_L4 m 45 (nI p) (nI (cnt (fun k => isLet (F k)) k)) (nI k) h) _ ?_ ?_ n 6000 0 (by omega) (by omega)
  · intro m k hk
    have z7 : (nI (120 * p + k)).toNatClampNeg = 120 * p + k := nI_clamp (by omega)
    have z8 : inB (nI (120 * p + k)) 5760 = true := inB_nI (by omega) (by decide)
    have e : cnt (fun k => isLet (F k)) (k + 1) = cnt (fun k => isLet (F k)) k + (if isLet (F k) = true then 1 else 0) := rfl
    rw [f_X10_lettersOf_L4, e]
    simp only [x1, x2, e48, nI_ge hk (show n < 2 ^ 31 by omega), mul120, nI_add, z7, z8, hF k hk, letM_i, hs, nI_1, and_self, if_true, if_false, n_1_0, n_0_0, okOb_sI, okAb_sI, okOb_sW, okAb_sW, vl_e, un_e, nl_s, nl_n, bnd_e, gd_e, SH_sI, SH_sW, xI_sI, xR_sI, xL_sI, xK_sI, xN_sI, gI_sW, xR_sW, xL_sW, xK_sW, xN_sW, sO0, sO1, sO2, sA2, sL2, sO3, sA3, sL3, sO4, sA4, sL4, sO5, sA5, sL5, sO6, sA6, sL6, sO7, sA7, sL7, sO8, sA8, sL8, sO9, sO10, sA10, sL10, sO11, sA11, sL11, sO12, sA12, sL12, sO13, sO14, sA14, sL14, sO15, sA15, sL15, sO16, sA16, sL16, sO17, sA17, sL17, sO18, sA18, sL18, sO19, sA19, sL19, sO20, sO21, sA21, sL21, sO22, sA22, sL22, sO23, sA23, sL23, sO24, sA24, sL24, sO25, sO26, sA26, sL26, sO27, sA27, sL27, sO28, sA28, sL28, sO29, sA29, sL29, sO30, sA30, sL30, sO31, sA31, sL31, sO32, sA32, sL32, sO33, sO34, sA34, sL34, sO35, sA35, sL35, sO36, sA36, sL36, sO37, sO38, sA38, sL38, sO39, sA39, sL39, sO40, sA40, sL40, sO41, sO42, sA42, sL42, sO43, sA43, sL43, sO44, sA44, sL44, sO45, sO46, sA46, sL46, sO47, sA47, sL47, sO48, sA48, sL48, sO49, sA49, sL49, sO50, sA50, sL50, sO51, sA51, sL51, sO52, sA52, sL52, sO53, sA53, sL53, sO54, sA54, sL54, sO55, sA55, sL55, sO56, sA56, sL56, sO57, sA57, sL57, sO58, sA58, sL58, sO59, sA59, sL59, sO60, sA60, sL60, sO61, sA61, sL61, sO62, sA62, sL62, sO63, sA63, sL63, sO64, sA64, sL64, sO65, sA65, sL65, sO66, sA66, sL66, sO67, sA67, sL67, sO68, sA68, sL68, sO69, sA69, sL69, sO70, sA70, sL70, sO71, sA71, sL71, sO72, sA72, sL72, sO73, sA73, sL73, sO74, sA74, sL74, sO75, sA75, sL75, sO76, sA76, sL76, sO77, sA77, sL77, sO78, sA78, sL78, sO79, sA79, sL79, sO80, sA80, sL80, sO81, sA81, sL81, sO82, sA82, sL82, sO83, sA83, sL83, sO84, sA84, sL84, sO85, sA85, sL85, sO86, sA86, sL86, sO87, sA87, sL87, sR0_0, sR0_1, sR0_2, sR0_3, sR0_5, sR0_6, sR0_8, sR0_10, sR0_11, sR0_12, sR0_13, sR1_0, sR6_0, sR6_1, sR6_2, sR9_0, sR9_1, sR9_2, sR13_0, sR13_1, sR13_2, sR13_3, sR13_4, sR13_5, sR20_0, sR20_1, sR20_2, sR20_3, sR25_0, sR25_1, sR25_2, sR25_4, sR25_5, sR25_6, sR25_7, sR33_2, sR33_3, sR37_2, sR37_3, sR41_2, sR41_3, sR45_0, sR45_1, sR45_3, sR45_4, sR45_5, sR45_6, sR45_7, sR45_8, sR45_9, sR45_10, sR45_12, sR45_13, sR45_14, sR45_15, sR45_16, sR45_17, sR45_18, sR45_19, sR45_20, sR45_21, sR45_22, sR45_25, sR45_26, sR45_27, sR45_28, sR45_29, sR45_30, sR45_31, sR45_32, sR45_33, sR45_34, sR45_35, sR45_36, sR45_40, sR45_41, sR45_42, sR45_43, sR45_45, sR45_46, sR45_47, sR45_48, sR45_49]
    by_cases c : isLet (F k) = true
    · rw [if_pos (isLet_i.mp c), if_pos c]
    · rw [if_neg (fun z => c (isLet_i.mpr z)), if_neg c, show nI (cnt (fun k => isLet (F k)) k) + 0 = nI (cnt (fun k => isLet (F k)) k) from nI_add _ 0]; rfl
  · intro m
    rw [f_X10_lettersOf_L4]
    simp only [x1, x2, e48, nI_le (Nat.le_refl n) (show n < 2 ^ 31 by omega), hs, and_self, if_true, if_false, n_1_0, n_0_0, okOb_sI, okAb_sI, okOb_sW, okAb_sW, vl_e, un_e, nl_s, nl_n, bnd_e, gd_e, SH_sI, SH_sW, xI_sI, xR_sI, xL_sI, xK_sI, xN_sI, gI_sW, xR_sW, xL_sW, xK_sW, xN_sW, sO0, sO1, sO2, sA2, sL2, sO3, sA3, sL3, sO4, sA4, sL4, sO5, sA5, sL5, sO6, sA6, sL6, sO7, sA7, sL7, sO8, sA8, sL8, sO9, sO10, sA10, sL10, sO11, sA11, sL11, sO12, sA12, sL12, sO13, sO14, sA14, sL14, sO15, sA15, sL15, sO16, sA16, sL16, sO17, sA17, sL17, sO18, sA18, sL18, sO19, sA19, sL19, sO20, sO21, sA21, sL21, sO22, sA22, sL22, sO23, sA23, sL23, sO24, sA24, sL24, sO25, sO26, sA26, sL26, sO27, sA27, sL27, sO28, sA28, sL28, sO29, sA29, sL29, sO30, sA30, sL30, sO31, sA31, sL31, sO32, sA32, sL32, sO33, sO34, sA34, sL34, sO35, sA35, sL35, sO36, sA36, sL36, sO37, sO38, sA38, sL38, sO39, sA39, sL39, sO40, sA40, sL40, sO41, sO42, sA42, sL42, sO43, sA43, sL43, sO44, sA44, sL44, sO45, sO46, sA46, sL46, sO47, sA47, sL47, sO48, sA48, sL48, sO49, sA49, sL49, sO50, sA50, sL50, sO51, sA51, sL51, sO52, sA52, sL52, sO53, sA53, sL53, sO54, sA54, sL54, sO55, sA55, sL55, sO56, sA56, sL56, sO57, sA57, sL57, sO58, sA58, sL58, sO59, sA59, sL59, sO60, sA60, sL60, sO61, sA61, sL61, sO62, sA62, sL62, sO63, sA63, sL63, sO64, sA64, sL64, sO65, sA65, sL65, sO66, sA66, sL66, sO67, sA67, sL67, sO68, sA68, sL68, sO69, sA69, sL69, sO70, sA70, sL70, sO71, sA71, sL71, sO72, sA72, sL72, sO73, sA73, sL73, sO74, sA74, sL74, sO75, sA75, sL75, sO76, sA76, sL76, sO77, sA77, sL77, sO78, sA78, sL78, sO79, sA79, sL79, sO80, sA80, sL80, sO81, sA81, sL81, sO82, sA82, sL82, sO83, sA83, sL83, sO84, sA84, sL84, sO85, sA85, sL85, sO86, sA86, sL86, sO87, sA87, sL87, sR0_0, sR0_1, sR0_2, sR0_3, sR0_5, sR0_6, sR0_8, sR0_10, sR0_11, sR0_12, sR0_13, sR1_0, sR6_0, sR6_1, sR6_2, sR9_0, sR9_1, sR9_2, sR13_0, sR13_1, sR13_2, sR13_3, sR13_4, sR13_5, sR20_0, sR20_1, sR20_2, sR20_3, sR25_0, sR25_1, sR25_2, sR25_4, sR25_5, sR25_6, sR25_7, sR33_2, sR33_3, sR37_2, sR37_3, sR41_2, sR41_3, sR45_0, sR45_1, sR45_3, sR45_4, sR45_5, sR45_6, sR45_7, sR45_8, sR45_9, sR45_10, sR45_12, sR45_13, sR45_14, sR45_15, sR45_16, sR45_17, sR45_18, sR45_19, sR45_20, sR45_21, sR45_22, sR45_25, sR45_26, sR45_27, sR45_28, sR45_29, sR45_30, sR45_31, sR45_32, sR45_33, sR45_34, sR45_35, sR45_36, sR45_40, sR45_41, sR45_42, sR45_43, sR45_45, sR45_46, sR45_47, sR45_48, sR45_49]
