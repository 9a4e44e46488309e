def hdL (n : Nat) (L : List (List Nat)) : Bool := match L with
  | [] => false
  | r :: _ => eqL r (List.range n)
theorem pm_7 : ∀ n, 1 ≤ n → n ≤ 7 → chk n (pms n (List.range n)) = true := by
  intro n h1 h2
  match n, h1, h2 with
  | 1, _, _ => exact chk_1
  | 2, _, _ => exact chk_2
  | 3, _, _ => exact chk_3
  | 4, _, _ => exact chk_4
  | 5, _, _ => exact chk_5
  | 6, _, _ => exact chk_6
  | 7, _, _ => exact chk_7
theorem hd_7 : ∀ n, n < 7 → hdL (n + 1) (pms (n + 1) (List.range (n + 1))) = true := by decide +kernel
theorem ln_7 : ∀ n, n < 7 → Nat.ble (pms (n + 1) (List.range (n + 1))).length 5040 = true := by decide +kernel
theorem pm_c {n : Nat} (h1 : 1 ≤ n) (h2 : n ≤ 7) : ∃ L, pms n (List.range n) = List.range n :: L ∧ chk n (List.range n :: L) = true ∧ L.length < 5040 := by
  obtain ⟨m, rfl⟩ : ∃ m, n = m + 1 := ⟨n - 1, by omega⟩
  have a := pm_7 (m + 1) h1 h2
  have b := hd_7 m (by omega)
  have c := Nat.le_of_ble_eq_true (ln_7 m (by omega))
  revert a b c
  cases pms (m + 1) (List.range (m + 1)) with
  | nil => intro a b c; simp [hdL] at b
  | cons r L =>
    intro a b c
    have e : r = List.range (m + 1) := eqL_e b
    subst e
    refine ⟨L, rfl, a, ?_⟩
    rw [List.length_cons] at c
    omega
theorem okp_e {n : Nat} {r : List Nat} (h : okp n r = true) : r.length = n ∧ ∀ k, k < n → r.getD k 0 < n := by
  unfold okp at h
  rw [Bool.and_eq_true, List.all_eq_true] at h
  have e := Nat.eq_of_beq_eq_true h.1
  refine ⟨e, fun k hk => ?_⟩
  rw [List.getD_eq_getElem?_getD, List.getElem?_eq_getElem (by omega), Option.getD_some]
  exact Nat.blt_eq.mp (h.2 _ (List.getElem_mem _))
theorem chk_s {n : Nat} {r : List Nat} {L : List (List Nat)} (h : chk n (r :: L) = true) : okp n r = true ∧ ((L = [] ∧ nx n r = none) ∨ ∃ q L', L = q :: L' ∧ nx n r = some q ∧ chk n L = true) := by
  cases L with
  | nil =>
    simp only [chk, Bool.and_eq_true] at h
    exact ⟨h.1.1, Or.inl ⟨rfl, by simpa using h.1.2⟩⟩
  | cons q L =>
    rw [chk] at h
    simp only [Bool.and_eq_true] at h
    exact ⟨h.1.1, Or.inr ⟨q, L, rfl, eqO_e h.1.2, h.2⟩⟩
theorem take_s {r : List Nat} {k : Nat} (hk : k < r.length) : r.take (k + 1) = r.take k ++ [r.getD k 0] := by
  rw [List.take_succ, List.getD_eq_getElem?_getD, List.getElem?_eq_getElem hk]
  rfl
theorem bdP_t {s p d : Nat → Nat} {n : Nat} {r : List Nat} (hn : n ≤ 7) (hl : r.length = n) (hr : ∀ k, k < n → r.getD k 0 < n) (hj : ∀ j, j < n → s j ≤ 50 ∧ p j ≤ 50) : ∀ k, k ≤ n → bdP s p d (r.take k)
  | 0, _ => ⟨Nat.le_refl _, Nat.le_refl _, Nat.le_refl _⟩
  | k + 1, h => by
    have := bdP_t hn hl hr hj (d := d) k (by omega)
    rw [take_s (by omega)]
    exact bdP_s (by rw [List.length_take]; omega) (hj _ (hr k (by omega))).1 (hj _ (hr k (by omega))).2 this
def idN (k : Nat) : Nat := k
set_option maxRecDepth 100000 in
theorem lt50 {hh : Hp} (hs : SH hh) {k j S T M P D : Nat} (hk : k < 7) (hj : j < 7) (e75 : gI hh 75 k = nI j) (e84 : gI hh 84 j = nI P) (e85 : gI hh 85 j = nI D) (hM : M + P < 2 ^ 30) (hD : D < 2 ^ 30) (K : Nat → Int32 → Int32 → Int32 → Hp → Option (Int32 × Hp)) : f_X10_late_J50 K 45 (nI S) (nI T) (nI k) (nI M) 45 hh = K 45 (nI S) (nI (T + (M + P - D))) (nI (k + 1)) (sI hh 45 52 (nI (M + P))) := by
  have z1 : (nI j).toNatClampNeg = j := nI_clamp (by omega)
  have z2 : inB (nI j) 7 = true := inB_nI (by omega) (by decide)
  have z3 : (nI k).toNatClampNeg = k := nI_clamp (by omega)
  have z4 : inB (nI k) 7 = true := inB_nI (by omega) (by decide)
  simp only [f_X10_late_J50, z1, z2, z3, z4, e75, e84, e85, nI_add, nI_1, add0, hs, and_self, if_true, if_false, n_1_0, n_0_0, okOb_sI, okAb_sI, okOb_sW, okAb_sW, vl_e, un_e, nl_s, nl_n, bnd_e, gd_e, SH_sI, SH_sW, xI_sI, xR_sI, xL_sI, xK_sI, xN_sI, gI_sW, xR_sW, xL_sW, xK_sW, xN_sW, sO0, sO1, sO2, sA2, sL2, sO3, sA3, sL3, sO4, sA4, sL4, sO5, sA5, sL5, sO6, sA6, sL6, sO7, sA7, sL7, sO8, sA8, sL8, sO9, sO10, sA10, sL10, sO11, sA11, sL11, sO12, sA12, sL12, sO13, sO14, sA14, sL14, sO15, sA15, sL15, sO16, sA16, sL16, sO17, sA17, sL17, sO18, sA18, sL18, sO19, sA19, sL19, sO20, sO21, sA21, sL21, sO22, sA22, sL22, sO23, sA23, sL23, sO24, sA24, sL24, sO25, sO26, sA26, sL26, sO27, sA27, sL27, sO28, sA28, sL28, sO29, sA29, sL29, sO30, sA30, sL30, sO31, sA31, sL31, sO32, sA32, sL32, sO33, sO34, sA34, sL34, sO35, sA35, sL35, sO36, sA36, sL36, sO37, sO38, sA38, sL38, sO39, sA39, sL39, sO40, sA40, sL40, sO41, sO42, sA42, sL42, sO43, sA43, sL43, sO44, sA44, sL44, sO45, sO46, sA46, sL46, sO47, sA47, sL47, sO48, sA48, sL48, sO49, sA49, sL49, sO50, sA50, sL50, sO51, sA51, sL51, sO52, sA52, sL52, sO53, sA53, sL53, sO54, sA54, sL54, sO55, sA55, sL55, sO56, sA56, sL56, sO57, sA57, sL57, sO58, sA58, sL58, sO59, sA59, sL59, sO60, sA60, sL60, sO61, sA61, sL61, sO62, sA62, sL62, sO63, sA63, sL63, sO64, sA64, sL64, sO65, sA65, sL65, sO66, sA66, sL66, sO67, sA67, sL67, sO68, sA68, sL68, sO69, sA69, sL69, sO70, sA70, sL70, sO71, sA71, sL71, sO72, sA72, sL72, sO73, sA73, sL73, sO74, sA74, sL74, sO75, sA75, sL75, sO76, sA76, sL76, sO77, sA77, sL77, sO78, sA78, sL78, sO79, sA79, sL79, sO80, sA80, sL80, sO81, sA81, sL81, sO82, sA82, sL82, sO83, sA83, sL83, sO84, sA84, sL84, sO85, sA85, sL85, sO86, sA86, sL86, sO87, sA87, sL87, sR0_0, sR0_1, sR0_2, sR0_3, sR0_5, sR0_6, sR0_8, sR0_10, sR0_11, sR0_12, sR0_13, sR1_0, sR6_0, sR6_1, sR6_2, sR9_0, sR9_1, sR9_2, sR13_0, sR13_1, sR13_2, sR13_3, sR13_4, sR13_5, sR20_0, sR20_1, sR20_2, sR20_3, sR25_0, sR25_1, sR25_2, sR25_4, sR25_5, sR25_6, sR25_7, sR33_2, sR33_3, sR37_2, sR37_3, sR41_2, sR41_3, sR45_0, sR45_1, sR45_3, sR45_4, sR45_5, sR45_6, sR45_7, sR45_8, sR45_9, sR45_10, sR45_12, sR45_13, sR45_14, sR45_15, sR45_16, sR45_17, sR45_18, sR45_19, sR45_20, sR45_21, sR45_22, sR45_25, sR45_26, sR45_27, sR45_28, sR45_29, sR45_30, sR45_31, sR45_32, sR45_33, sR45_34, sR45_35, sR45_36, sR45_40, sR45_41, sR45_42, sR45_43, sR45_45, sR45_46, sR45_47, sR45_48, sR45_49]
  simp only [Nat.reduceEqDiff, false_and, if_false, e75, e85, z1, z2, gd_e]
  by_cases c : M + P ≤ D
  · rw [if_pos (nI_le c (by omega)), show M + P - D = 0 by omega]
    rfl
  · rw [if_neg (nI_ge (by omega) (by omega)), pk_sub (by omega), nI_add]
set_option maxRecDepth 100000 in
theorem late_e {h : Hp} (hs : SH h) {s p d : Nat → Nat} {n : Nat} {r : List Nat} (hn : n ≤ 7) (hl : r.length = n) (hr : ∀ k, k < n → r.getD k 0 < n) (e50 : gI h 45 50 = nI n) (jd' : JD h s p d n) (row : RowR h idN n r) : ∃ h2, f_X10_late h 45 = some (nI (runP s p d r).2.2, h2) ∧ Upd h h2 (fun a k => a = 45 ∧ k = 52) ∧ gI h2 45 52 = nI (runP s p d r).2.1 := by
  have hj : ∀ j, j < n → s j ≤ 50 ∧ p j ≤ 50 := fun j w => ⟨(jd' j w).1.2.2, (jd' j w).2.1.2.2⟩
  have E : f_X10_late h 45 = f_X10_late_L11 6000 45 (nI (runP s p d (r.take 0)).1) (nI (runP s p d (r.take 0)).2.2) (nI 0) (sI h 45 52 0) := by
    simp only [f_X10_late, hs, and_self, if_true, if_false, n_1_0, n_0_0, okOb_sI, okAb_sI, okOb_sW, okAb_sW, vl_e, un_e, nl_s, nl_n, bnd_e, gd_e, SH_sI, SH_sW, xI_sI, xR_sI, xL_sI, xK_sI, xN_sI, gI_sW, xR_sW, xL_sW, xK_sW, xN_sW, sO0, sO1, sO2, sA2, sL2, sO3, sA3, sL3, sO4, sA4, sL4, sO5, sA5, sL5, sO6, sA6, sL6, sO7, sA7, sL7, sO8, sA8, sL8, sO9, sO10, sA10, sL10, sO11, sA11, sL11, sO12, sA12, sL12, sO13, sO14, sA14, sL14, sO15, sA15, sL15, sO16, sA16, sL16, sO17, sA17, sL17, sO18, sA18, sL18, sO19, sA19, sL19, sO20, sO21, sA21, sL21, sO22, sA22, sL22, sO23, sA23, sL23, sO24, sA24, sL24, sO25, sO26, sA26, sL26, sO27, sA27, sL27, sO28, sA28, sL28, sO29, sA29, sL29, sO30, sA30, sL30, sO31, sA31, sL31, sO32, sA32, sL32, sO33, sO34, sA34, sL34, sO35, sA35, sL35, sO36, sA36, sL36, sO37, sO38, sA38, sL38, sO39, sA39, sL39, sO40, sA40, sL40, sO41, sO42, sA42, sL42, sO43, sA43, sL43, sO44, sA44, sL44, sO45, sO46, sA46, sL46, sO47, sA47, sL47, sO48, sA48, sL48, sO49, sA49, sL49, sO50, sA50, sL50, sO51, sA51, sL51, sO52, sA52, sL52, sO53, sA53, sL53, sO54, sA54, sL54, sO55, sA55, sL55, sO56, sA56, sL56, sO57, sA57, sL57, sO58, sA58, sL58, sO59, sA59, sL59, sO60, sA60, sL60, sO61, sA61, sL61, sO62, sA62, sL62, sO63, sA63, sL63, sO64, sA64, sL64, sO65, sA65, sL65, sO66, sA66, sL66, sO67, sA67, sL67, sO68, sA68, sL68, sO69, sA69, sL69, sO70, sA70, sL70, sO71, sA71, sL71, sO72, sA72, sL72, sO73, sA73, sL73, sO74, sA74, sL74, sO75, sA75, sL75, sO76, sA76, sL76, sO77, sA77, sL77, sO78, sA78, sL78, sO79, sA79, sL79, sO80, sA80, sL80, sO81, sA81, sL81, sO82, sA82, sL82, sO83, sA83, sL83, sO84, sA84, sL84, sO85, sA85, sL85, sO86, sA86, sL86, sO87, sA87, sL87, sR0_0, sR0_1, sR0_2, sR0_3, sR0_5, sR0_6, sR0_8, sR0_10, sR0_11, sR0_12, sR0_13, sR1_0, sR6_0, sR6_1, sR6_2, sR9_0, sR9_1, sR9_2, sR13_0, sR13_1, sR13_2, sR13_3, sR13_4, sR13_5, sR20_0, sR20_1, sR20_2, sR20_3, sR25_0, sR25_1, sR25_2, sR25_4, sR25_5, sR25_6, sR25_7, sR33_2, sR33_3, sR37_2, sR37_3, sR41_2, sR41_3, sR45_0, sR45_1, sR45_3, sR45_4, sR45_5, sR45_6, sR45_7, sR45_8, sR45_9, sR45_10, sR45_12, sR45_13, sR45_14, sR45_15, sR45_16, sR45_17, sR45_18, sR45_19, sR45_20, sR45_21, sR45_22, sR45_25, sR45_26, sR45_27, sR45_28, sR45_29, sR45_30, sR45_31, sR45_32, sR45_33, sR45_34, sR45_35, sR45_36, sR45_40, sR45_41, sR45_42, sR45_43, sR45_45, sR45_46, sR45_47, sR45_48, sR45_49]
    rfl
  rw [E]
  refine forL n (fun m k (hh : Hp) => f_X10_late_L11 m 45 (nI (runP s p d (r.take k)).1) (nI (runP s p d (r.take k)).2.2) (nI k) hh) (fun k hh => Upd h hh (fun a k => a = 45 ∧ k = 52) ∧ gI hh 45 52 = nI (runP s p d (r.take k)).2.1) (fun x => ∃ h2, x = some (nI (runP s p d r).2.2, h2) ∧ Upd h h2 (fun a k => a = 45 ∧ k = 52) ∧ gI h2 45 52 = nI (runP s p d r).2.1) ?_ ?_ n 6000 0 _ (by omega) (by omega) ⟨Upd_sI ⟨rfl, rfl⟩, by rw [xI_sI, if_pos ⟨rfl, rfl⟩]; rfl⟩
  · intro m k hh hk ⟨I1, I2⟩
    have hsh := I1.sh hs
    have x3 : gI hh 45 50 = nI n := by rw [I1.2 _ _ (by omega)]; exact e50
    have x0 : ¬ nI n ≤ nI k := nI_ge hk (by omega)
    have jdh : JD hh s p d n := jd'.fr I1 (fun a k w _ => by omega)
    have e75 : gI hh 75 k = nI (r.getD k 0) := by rw [I1.2 _ _ (by omega)]; exact row k hk
    have hrk := hr k hk
    obtain ⟨⟨-, g1, g2⟩, ⟨-, g3, g4⟩, ⟨-, g5, g6⟩⟩ := jdh _ hrk
    obtain ⟨b1, b2, b3⟩ := bdP_t hn hl hr hj (d := d) k (by omega)
    rw [List.length_take] at b1 b2 b3
    have z1 : (nI (r.getD k 0)).toNatClampNeg = r.getD k 0 := nI_clamp (by omega)
    have z2 : inB (nI (r.getD k 0)) 7 = true := inB_nI (by omega) (by decide)
    have z3 : (nI k).toNatClampNeg = k := nI_clamp (by omega)
    have z4 : inB (nI k) 7 = true := inB_nI (by omega) (by decide)
    have key := lt50 hsh (k := k) (j := r.getD k 0) (S := (runP s p d (r.take k)).1 + s (r.getD k 0)) (T := (runP s p d (r.take k)).2.2) (M := max ((runP s p d (r.take k)).1 + s (r.getD k 0)) (runP s p d (r.take k)).2.1) (by omega) (by omega) e75 g3 g5 (by omega) (by omega) (f_X10_late_L11 m)
    right
    refine ⟨sI hh 45 52 (nI (max ((runP s p d (r.take k)).1 + s (r.getD k 0)) (runP s p d (r.take k)).2.1 + p (r.getD k 0))), ?_, I1.tr (Upd_sI ⟨rfl, rfl⟩), ?_⟩
    · rw [take_s (by omega), runP_s]
      refine Eq.trans ?_ key
      rw [f_X10_late_L11]
      simp only [x3, x0, e75, z1, z2, z3, z4, g1, nI_add, I2, hsh, and_self, if_true, if_false, n_1_0, n_0_0, okOb_sI, okAb_sI, okOb_sW, okAb_sW, vl_e, un_e, nl_s, nl_n, bnd_e, gd_e, SH_sI, SH_sW, xI_sI, xR_sI, xL_sI, xK_sI, xN_sI, gI_sW, xR_sW, xL_sW, xK_sW, xN_sW, sO0, sO1, sO2, sA2, sL2, sO3, sA3, sL3, sO4, sA4, sL4, sO5, sA5, sL5, sO6, sA6, sL6, sO7, sA7, sL7, sO8, sA8, sL8, sO9, sO10, sA10, sL10, sO11, sA11, sL11, sO12, sA12, sL12, sO13, sO14, sA14, sL14, sO15, sA15, sL15, sO16, sA16, sL16, sO17, sA17, sL17, sO18, sA18, sL18, sO19, sA19, sL19, sO20, sO21, sA21, sL21, sO22, sA22, sL22, sO23, sA23, sL23, sO24, sA24, sL24, sO25, sO26, sA26, sL26, sO27, sA27, sL27, sO28, sA28, sL28, sO29, sA29, sL29, sO30, sA30, sL30, sO31, sA31, sL31, sO32, sA32, sL32, sO33, sO34, sA34, sL34, sO35, sA35, sL35, sO36, sA36, sL36, sO37, sO38, sA38, sL38, sO39, sA39, sL39, sO40, sA40, sL40, sO41, sO42, sA42, sL42, sO43, sA43, sL43, sO44, sA44, sL44, sO45, sO46, sA46, sL46, sO47, sA47, sL47, sO48, sA48, sL48, sO49, sA49, sL49, sO50, sA50, sL50, sO51, sA51, sL51, sO52, sA52, sL52, sO53, sA53, sL53, sO54, sA54, sL54, sO55, sA55, sL55, sO56, sA56, sL56, sO57, sA57, sL57, sO58, sA58, sL58, sO59, sA59, sL59, sO60, sA60, sL60, sO61, sA61, sL61, sO62, sA62, sL62, sO63, sA63, sL63, sO64, sA64, sL64, sO65, sA65, sL65, sO66, sA66, sL66, sO67, sA67, sL67, sO68, sA68, sL68, sO69, sA69, sL69, sO70, sA70, sL70, sO71, sA71, sL71, sO72, sA72, sL72, sO73, sA73, sL73, sO74, sA74, sL74, sO75, sA75, sL75, sO76, sA76, sL76, sO77, sA77, sL77, sO78, sA78, sL78, sO79, sA79, sL79, sO80, sA80, sL80, sO81, sA81, sL81, sO82, sA82, sL82, sO83, sA83, sL83, sO84, sA84, sL84, sO85, sA85, sL85, sO86, sA86, sL86, sO87, sA87, sL87, sR0_0, sR0_1, sR0_2, sR0_3, sR0_5, sR0_6, sR0_8, sR0_10, sR0_11, sR0_12, sR0_13, sR1_0, sR6_0, sR6_1, sR6_2, sR9_0, sR9_1, sR9_2, sR13_0, sR13_1, sR13_2, sR13_3, sR13_4, sR13_5, sR20_0, sR20_1, sR20_2, sR20_3, sR25_0, sR25_1, sR25_2, sR25_4, sR25_5, sR25_6, sR25_7, sR33_2, sR33_3, sR37_2, sR37_3, sR41_2, sR41_3, sR45_0, sR45_1, sR45_3, sR45_4, sR45_5, sR45_6, sR45_7, sR45_8, sR45_9, sR45_10, sR45_12, sR45_13, sR45_14, sR45_15, sR45_16, sR45_17, sR45_18, sR45_19, sR45_20, sR45_21, sR45_22, sR45_25, sR45_26, sR45_27, sR45_28, sR45_29, sR45_30, sR45_31, sR45_32, sR45_33, sR45_34, sR45_35, sR45_36, sR45_40, sR45_41, sR45_42, sR45_43, sR45_45, sR45_46, sR45_47, sR45_48, sR45_49]
      by_cases c : (runP s p d (r.take k)).1 + s (r.getD k 0) ≤ (runP s p d (r.take k)).2.1
      · rw [if_pos (nI_le c (by omega)), Nat.max_eq_right c]
      · rw [if_neg (nI_ge (by omega) (by omega)), Nat.max_eq_left (by omega)]
    · rw [xI_sI, if_pos ⟨rfl, rfl⟩, take_s (by omega), runP_s]
      rfl
  · intro m hh ⟨I1, I2⟩
    have hsh := I1.sh hs
    have x3 : gI hh 45 50 = nI n := by rw [I1.2 _ _ (by omega)]; exact e50
    have x0 : nI n ≤ nI n := nI_le (Nat.le_refl _) (by omega)
    have et : r.take n = r := List.take_of_length_le (by omega)
    rw [et] at I2
    refine ⟨hh, ?_, I1, I2⟩
    show f_X10_late_L11 (m + 1) 45 _ _ _ hh = _
    rw [et, f_X10_late_L11]
    simp only [x3, x0, hsh, and_self, if_true, if_false, n_1_0, n_0_0, okOb_sI, okAb_sI, okOb_sW, okAb_sW, vl_e, un_e, nl_s, nl_n, bnd_e, gd_e, SH_sI, SH_sW, xI_sI, xR_sI, xL_sI, xK_sI, xN_sI, gI_sW, xR_sW, xL_sW, xK_sW, xN_sW, sO0, sO1, sO2, sA2, sL2, sO3, sA3, sL3, sO4, sA4, sL4, sO5, sA5, sL5, sO6, sA6, sL6, sO7, sA7, sL7, sO8, sA8, sL8, sO9, sO10, sA10, sL10, sO11, sA11, sL11, sO12, sA12, sL12, sO13, sO14, sA14, sL14, sO15, sA15, sL15, sO16, sA16, sL16, sO17, sA17, sL17, sO18, sA18, sL18, sO19, sA19, sL19, sO20, sO21, sA21, sL21, sO22, sA22, sL22, sO23, sA23, sL23, sO24, sA24, sL24, sO25, sO26, sA26, sL26, sO27, sA27, sL27, sO28, sA28, sL28, sO29, sA29, sL29, sO30, sA30, sL30, sO31, sA31, sL31, sO32, sA32, sL32, sO33, sO34, sA34, sL34, sO35, sA35, sL35, sO36, sA36, sL36, sO37, sO38, sA38, sL38, sO39, sA39, sL39, sO40, sA40, sL40, sO41, sO42, sA42, sL42, sO43, sA43, sL43, sO44, sA44, sL44, sO45, sO46, sA46, sL46, sO47, sA47, sL47, sO48, sA48, sL48, sO49, sA49, sL49, sO50, sA50, sL50, sO51, sA51, sL51, sO52, sA52, sL52, sO53, sA53, sL53, sO54, sA54, sL54, sO55, sA55, sL55, sO56, sA56, sL56, sO57, sA57, sL57, sO58, sA58, sL58, sO59, sA59, sL59, sO60, sA60, sL60, sO61, sA61, sL61, sO62, sA62, sL62, sO63, sA63, sL63, sO64, sA64, sL64, sO65, sA65, sL65, sO66, sA66, sL66, sO67, sA67, sL67, sO68, sA68, sL68, sO69, sA69, sL69, sO70, sA70, sL70, sO71, sA71, sL71, sO72, sA72, sL72, sO73, sA73, sL73, sO74, sA74, sL74, sO75, sA75, sL75, sO76, sA76, sL76, sO77, sA77, sL77, sO78, sA78, sL78, sO79, sA79, sL79, sO80, sA80, sL80, sO81, sA81, sL81, sO82, sA82, sL82, sO83, sA83, sL83, sO84, sA84, sL84, sO85, sA85, sL85, sO86, sA86, sL86, sO87, sA87, sL87, sR0_0, sR0_1, sR0_2, sR0_3, sR0_5, sR0_6, sR0_8, sR0_10, sR0_11, sR0_12, sR0_13, sR1_0, sR6_0, sR6_1, sR6_2, sR9_0, sR9_1, sR9_2, sR13_0, sR13_1, sR13_2, sR13_3, sR13_4, sR13_5, sR20_0, sR20_1, sR20_2, sR20_3, sR25_0, sR25_1, sR25_2, sR25_4, sR25_5, sR25_6, sR25_7, sR33_2, sR33_3, sR37_2, sR37_3, sR41_2, sR41_3, sR45_0, sR45_1, sR45_3, sR45_4, sR45_5, sR45_6, sR45_7, sR45_8, sR45_9, sR45_10, sR45_12, sR45_13, sR45_14, sR45_15, sR45_16, sR45_17, sR45_18, sR45_19, sR45_20, sR45_21, sR45_22, sR45_25, sR45_26, sR45_27, sR45_28, sR45_29, sR45_30, sR45_31, sR45_32, sR45_33, sR45_34, sR45_35, sR45_36, sR45_40, sR45_41, sR45_42, sR45_43, sR45_45, sR45_46, sR45_47, sR45_48, sR45_49]
set_option maxRecDepth 100000 in
theorem p91 {h : Hp} (hs : SH h) {n : Nat} (hn : n ≤ 7) (e50 : gI h 45 50 = nI n) (K : Nat → Int32 → Int32 → Int32 → Int32 → Int32 → Hp → Option (Int32 × Hp)) (a b c e : Int32) : ∃ h2, f_X10_plan_L91 K 6000 45 a b c e 0 h = K 45 a b c e (nI n) h2 ∧ Upd h h2 (fun a _ => a = 86) ∧ ∀ k, k < n → gI h2 86 k = gI h 75 k := by
  refine forL n (fun m k (hh : Hp) => f_X10_plan_L91 K m 45 a b c e (nI k) hh) (fun k hh => Upd h hh (fun a _ => a = 86) ∧ ∀ j, j < k → gI hh 86 j = gI h 75 j) (fun x => ∃ h2, x = K 45 a b c e (nI n) h2 ∧ Upd h h2 (fun a _ => a = 86) ∧ ∀ k, k < n → gI h2 86 k = gI h 75 k) ?_ ?_ n 6000 0 h (by omega) (by omega) ⟨Upd_rf _ _, fun j hj => absurd hj (Nat.not_lt_zero j)⟩
  · intro m k hh hk ⟨I1, I2⟩
    have hsh := I1.sh hs
    have x3 : gI hh 45 50 = nI n := by rw [I1.2 _ _ (by omega)]; exact e50
    have x0 : ¬ nI n ≤ nI k := nI_ge hk (by omega)
    have z3 : (nI k).toNatClampNeg = k := nI_clamp (by omega)
    have z4 : inB (nI k) 7 = true := inB_nI (by omega) (by decide)
    refine Or.inr ⟨sI hh 86 k (gI hh 75 k), ?_, I1.tr (Upd_sI rfl), fun j hj => ?_⟩
    · rw [f_X10_plan_L91]
      simp only [x3, x0, z3, z4, nI_1, hsh, and_self, if_true, if_false, n_1_0, n_0_0, okOb_sI, okAb_sI, okOb_sW, okAb_sW, vl_e, un_e, nl_s, nl_n, bnd_e, gd_e, SH_sI, SH_sW, xI_sI, xR_sI, xL_sI, xK_sI, xN_sI, gI_sW, xR_sW, xL_sW, xK_sW, xN_sW, sO0, sO1, sO2, sA2, sL2, sO3, sA3, sL3, sO4, sA4, sL4, sO5, sA5, sL5, sO6, sA6, sL6, sO7, sA7, sL7, sO8, sA8, sL8, sO9, sO10, sA10, sL10, sO11, sA11, sL11, sO12, sA12, sL12, sO13, sO14, sA14, sL14, sO15, sA15, sL15, sO16, sA16, sL16, sO17, sA17, sL17, sO18, sA18, sL18, sO19, sA19, sL19, sO20, sO21, sA21, sL21, sO22, sA22, sL22, sO23, sA23, sL23, sO24, sA24, sL24, sO25, sO26, sA26, sL26, sO27, sA27, sL27, sO28, sA28, sL28, sO29, sA29, sL29, sO30, sA30, sL30, sO31, sA31, sL31, sO32, sA32, sL32, sO33, sO34, sA34, sL34, sO35, sA35, sL35, sO36, sA36, sL36, sO37, sO38, sA38, sL38, sO39, sA39, sL39, sO40, sA40, sL40, sO41, sO42, sA42, sL42, sO43, sA43, sL43, sO44, sA44, sL44, sO45, sO46, sA46, sL46, sO47, sA47, sL47, sO48, sA48, sL48, sO49, sA49, sL49, sO50, sA50, sL50, sO51, sA51, sL51, sO52, sA52, sL52, sO53, sA53, sL53, sO54, sA54, sL54, sO55, sA55, sL55, sO56, sA56, sL56, sO57, sA57, sL57, sO58, sA58, sL58, sO59, sA59, sL59, sO60, sA60, sL60, sO61, sA61, sL61, sO62, sA62, sL62, sO63, sA63, sL63, sO64, sA64, sL64, sO65, sA65, sL65, sO66, sA66, sL66, sO67, sA67, sL67, sO68, sA68, sL68, sO69, sA69, sL69, sO70, sA70, sL70, sO71, sA71, sL71, sO72, sA72, sL72, sO73, sA73, sL73, sO74, sA74, sL74, sO75, sA75, sL75, sO76, sA76, sL76, sO77, sA77, sL77, sO78, sA78, sL78, sO79, sA79, sL79, sO80, sA80, sL80, sO81, sA81, sL81, sO82, sA82, sL82, sO83, sA83, sL83, sO84, sA84, sL84, sO85, sA85, sL85, sO86, sA86, sL86, sO87, sA87, sL87, sR0_0, sR0_1, sR0_2, sR0_3, sR0_5, sR0_6, sR0_8, sR0_10, sR0_11, sR0_12, sR0_13, sR1_0, sR6_0, sR6_1, sR6_2, sR9_0, sR9_1, sR9_2, sR13_0, sR13_1, sR13_2, sR13_3, sR13_4, sR13_5, sR20_0, sR20_1, sR20_2, sR20_3, sR25_0, sR25_1, sR25_2, sR25_4, sR25_5, sR25_6, sR25_7, sR33_2, sR33_3, sR37_2, sR37_3, sR41_2, sR41_3, sR45_0, sR45_1, sR45_3, sR45_4, sR45_5, sR45_6, sR45_7, sR45_8, sR45_9, sR45_10, sR45_12, sR45_13, sR45_14, sR45_15, sR45_16, sR45_17, sR45_18, sR45_19, sR45_20, sR45_21, sR45_22, sR45_25, sR45_26, sR45_27, sR45_28, sR45_29, sR45_30, sR45_31, sR45_32, sR45_33, sR45_34, sR45_35, sR45_36, sR45_40, sR45_41, sR45_42, sR45_43, sR45_45, sR45_46, sR45_47, sR45_48, sR45_49]
    · rw [xI_sI]
      by_cases cj : j = k
      · rw [if_pos ⟨rfl, cj⟩, I1.2 _ _ (by omega), cj]
      · rw [if_neg (fun w => cj w.2)]; exact I2 j (by omega)
  · intro m hh ⟨I1, I2⟩
    have hsh := I1.sh hs
    have x3 : gI hh 45 50 = nI n := by rw [I1.2 _ _ (by omega)]; exact e50
    have x0 : nI n ≤ nI n := nI_le (Nat.le_refl _) (by omega)
    refine ⟨hh, ?_, I1, I2⟩
    rw [f_X10_plan_L91]
    simp only [x3, x0, hsh, and_self, if_true, if_false, n_1_0, n_0_0, okOb_sI, okAb_sI, okOb_sW, okAb_sW, vl_e, un_e, nl_s, nl_n, bnd_e, gd_e, SH_sI, SH_sW, xI_sI, xR_sI, xL_sI, xK_sI, xN_sI, gI_sW, xR_sW, xL_sW, xK_sW, xN_sW, sO0, sO1, sO2, sA2, sL2, sO3, sA3, sL3, sO4, sA4, sL4, sO5, sA5, sL5, sO6, sA6, sL6, sO7, sA7, sL7, sO8, sA8, sL8, sO9, sO10, sA10, sL10, sO11, sA11, sL11, sO12, sA12, sL12, sO13, sO14, sA14, sL14, sO15, sA15, sL15, sO16, sA16, sL16, sO17, sA17, sL17, sO18, sA18, sL18, sO19, sA19, sL19, sO20, sO21, sA21, sL21, sO22, sA22, sL22, sO23, sA23, sL23, sO24, sA24, sL24, sO25, sO26, sA26, sL26, sO27, sA27, sL27, sO28, sA28, sL28, sO29, sA29, sL29, sO30, sA30, sL30, sO31, sA31, sL31, sO32, sA32, sL32, sO33, sO34, sA34, sL34, sO35, sA35, sL35, sO36, sA36, sL36, sO37, sO38, sA38, sL38, sO39, sA39, sL39, sO40, sA40, sL40, sO41, sO42, sA42, sL42, sO43, sA43, sL43, sO44, sA44, sL44, sO45, sO46, sA46, sL46, sO47, sA47, sL47, sO48, sA48, sL48, sO49, sA49, sL49, sO50, sA50, sL50, sO51, sA51, sL51, sO52, sA52, sL52, sO53, sA53, sL53, sO54, sA54, sL54, sO55, sA55, sL55, sO56, sA56, sL56, sO57, sA57, sL57, sO58, sA58, sL58, sO59, sA59, sL59, sO60, sA60, sL60, sO61, sA61, sL61, sO62, sA62, sL62, sO63, sA63, sL63, sO64, sA64, sL64, sO65, sA65, sL65, sO66, sA66, sL66, sO67, sA67, sL67, sO68, sA68, sL68, sO69, sA69, sL69, sO70, sA70, sL70, sO71, sA71, sL71, sO72, sA72, sL72, sO73, sA73, sL73, sO74, sA74, sL74, sO75, sA75, sL75, sO76, sA76, sL76, sO77, sA77, sL77, sO78, sA78, sL78, sO79, sA79, sL79, sO80, sA80, sL80, sO81, sA81, sL81, sO82, sA82, sL82, sO83, sA83, sL83, sO84, sA84, sL84, sO85, sA85, sL85, sO86, sA86, sL86, sO87, sA87, sL87, sR0_0, sR0_1, sR0_2, sR0_3, sR0_5, sR0_6, sR0_8, sR0_10, sR0_11, sR0_12, sR0_13, sR1_0, sR6_0, sR6_1, sR6_2, sR9_0, sR9_1, sR9_2, sR13_0, sR13_1, sR13_2, sR13_3, sR13_4, sR13_5, sR20_0, sR20_1, sR20_2, sR20_3, sR25_0, sR25_1, sR25_2, sR25_4, sR25_5, sR25_6, sR25_7, sR33_2, sR33_3, sR37_2, sR37_3, sR41_2, sR41_3, sR45_0, sR45_1, sR45_3, sR45_4, sR45_5, sR45_6, sR45_7, sR45_8, sR45_9, sR45_10, sR45_12, sR45_13, sR45_14, sR45_15, sR45_16, sR45_17, sR45_18, sR45_19, sR45_20, sR45_21, sR45_22, sR45_25, sR45_26, sR45_27, sR45_28, sR45_29, sR45_30, sR45_31, sR45_32, sR45_33, sR45_34, sR45_35, sR45_36, sR45_40, sR45_41, sR45_42, sR45_43, sR45_45, sR45_46, sR45_47, sR45_48, sR45_49]
def PPm (a k : Nat) : Prop := a = 75 ∨ a = 86 ∨ (a = 45 ∧ k = 52)
/-- how the reference holds the best so far -/
def StR (l1 l2 : Int32) (hh : Hp) (n : Nat) (b : Nat × Nat × List Nat) : Prop := (b = b0P ∧ l1 = -1) ∨ (l1 = nI b.1 ∧ l2 = nI b.2.1 ∧ b.1 < 2 ^ 31 ∧ b.2.1 < 2 ^ 31 ∧ okp n b.2.2 = true ∧ ∀ k, k < n → gI hh 86 k = nI (b.2.2.getD k 0))
set_option maxRecDepth 100000 in
theorem p80 {h : Hp} (hs : SH h) {n : Nat} (hn : n ≤ 7) (e50 : gI h 45 50 = nI n) {E : Nat} (e52 : gI h 45 52 = nI E) (K : Nat → Int32 → Int32 → Int32 → Hp → Option (Int32 × Hp)) (l1 l2 l3 T : Int32) : ∃ h3, f_X10_plan_J80 K 45 l1 l2 l3 T h = (bnd (f_X10_next h3 45 (nI n)) fun v h' => K 45 T (nI E) v h') ∧ Upd h h3 (fun a _ => a = 86) ∧ ∀ k, k < n → gI h3 86 k = gI h 75 k := by
  obtain ⟨h3, q1, q2, q3⟩ := p91 hs hn e50 (fun y36 y37 y38 y39 y40 y41 h42 =>
gd (okOb h42 y36 10) <|
vl (gI h42 y36 50) fun x44 =>
bnd (f_X10_next h42 y36 x44) fun v45 h46 =>
K y36 y37 y38 v45 h46) T (nI E) l3 T
  have hs3 := q2.sh hs
  have x3 : gI h3 45 50 = nI n := by rw [q2.2 _ _ (by omega)]; exact e50
  refine ⟨h3, ?_, q2, q3⟩
  unfold f_X10_plan_J80
  rw [sO45 hs, gd_e, vl_e, e52]
  refine q1.trans ?_
  simp only [sO45 hs3, gd_e, vl_e, x3]
set_option maxRecDepth 100000 in
theorem p46_s {h : Hp} (hs : SH h) {s p d : Nat → Nat} {n : Nat} (hn : n ≤ 7) (e50 : gI h 45 50 = nI n) (jd' : JD h s p d n) (K : Nat → Int32 → Int32 → Int32 → Hp → Option (Int32 × Hp)) {r : List Nat} (fuel : Nat) {l1 l2 : Int32} {b : Nat × Nat × List Nat} {hh : Hp} (ok : okp n r = true) (u : Upd h hh PPm) (row : RowR hh idN n r) (st : StR l1 l2 hh n b) : ∃ (l1' l2' : Int32) (h3 : Hp), f_X10_plan_L46 K (fuel + 1) 45 l1 l2 1 hh = (bnd (f_X10_next h3 45 (nI n)) fun v h' => f_X10_plan_L46 K fuel 45 l1' l2' v h') ∧ Upd h h3 PPm ∧ RowR h3 idN n r ∧ StR l1' l2' h3 n (impP s p d b r) := by
  obtain ⟨hl, hr⟩ := okp_e ok
  have hsh := u.sh hs
  have e50h : gI hh 45 50 = nI n := by rw [u.2 _ _ (by unfold PPm; omega)]; exact e50
  have jdh : JD hh s p d n := jd'.fr u (fun a k w _ => by unfold PPm; omega)
  obtain ⟨h2, q1, q2, q3⟩ := late_e hsh hn hl hr e50h jdh row
  have hs2 := q2.sh hsh
  have e502 : gI h2 45 50 = nI n := by rw [q2.2 _ _ (by omega)]; exact e50h
  have u2 : Upd h h2 PPm := u.tr (q2.mono (fun a k w => by unfold PPm; omega))
  have row2 : RowR h2 idN n r := fun k hk => by rw [q2.2 _ _ (by omega)]; exact row k hk
  have hj : ∀ j, j < n → s j ≤ 50 ∧ p j ≤ 50 := fun j w => ⟨(jd' j w).1.2.2, (jd' j w).2.1.2.2⟩
  obtain ⟨b1, b2, b3⟩ := bdP_t hn hl hr hj (d := d) n (Nat.le_refl _)
  rw [List.take_of_length_le (show r.length ≤ n by omega)] at b1 b2 b3
  have E0 : f_X10_plan_L46 K (fuel + 1) 45 l1 l2 1 hh = (if l1 < 0 then f_X10_plan_J80 (f_X10_plan_L46 K fuel) 45 l1 l2 1 (nI (runP s p d r).2.2) h2 else (
    if nI (runP s p d r).2.2 < l1 then (
    f_X10_plan_J80 (f_X10_plan_L46 K fuel) 45 l1 l2 1 (nI (runP s p d r).2.2) h2) else (
    if nI (runP s p d r).2.2 = l1 then (
    if l2 ≤ nI (runP s p d r).2.1 then (
    bnd (f_X10_next h2 45 (nI n)) fun v55 h56 =>
    f_X10_plan_L46 K fuel 45 l1 l2 v55 h56) else (
    f_X10_plan_J80 (f_X10_plan_L46 K fuel) 45 l1 l2 1 (nI (runP s p d r).2.2) h2)) else (
    bnd (f_X10_next h2 45 (nI n)) fun v50 h51 =>
    f_X10_plan_L46 K fuel 45 l1 l2 v50 h51)))) := by
    rw [f_X10_plan_L46, if_neg (by decide)]
    simp only [sO45 hsh, gd_e, vl_e, q1, bnd_e, q3, e502]
  obtain ⟨h3, w1, w2, w3⟩ := p80 hs2 hn e502 q3 (f_X10_plan_L46 K fuel) l1 l2 1 (nI (runP s p d r).2.2)
  have u3 : Upd h h3 PPm := u2.tr (w2.mono (fun a k w => by unfold PPm; omega))
  have row3 : RowR h3 idN n r := fun k hk => by rw [w2.2 _ _ (by omega)]; exact row2 k hk
  have go : betP s p d r b → f_X10_plan_L46 K (fuel + 1) 45 l1 l2 1 hh = f_X10_plan_J80 (f_X10_plan_L46 K fuel) 45 l1 l2 1 (nI (runP s p d r).2.2) h2 → ∃ (l1' l2' : Int32) (h3 : Hp), f_X10_plan_L46 K (fuel + 1) 45 l1 l2 1 hh = (bnd (f_X10_next h3 45 (nI n)) fun v h' => f_X10_plan_L46 K fuel 45 l1' l2' v h') ∧ Upd h h3 PPm ∧ RowR h3 idN n r ∧ StR l1' l2' h3 n (impP s p d b r) := fun be e => by
    refine ⟨_, _, h3, e.trans w1, u3, row3, Or.inr ?_⟩
    rw [imp_lt be]
    exact ⟨rfl, rfl, by show (runP s p d r).2.2 < _; omega, by show (runP s p d r).2.1 < _; omega, ok, fun k hk => by rw [w3 k hk]; exact row2 k hk⟩
  have stay : ¬ betP s p d r b → StR l1 l2 h2 n b → f_X10_plan_L46 K (fuel + 1) 45 l1 l2 1 hh = (bnd (f_X10_next h2 45 (nI n)) fun v55 h56 => f_X10_plan_L46 K fuel 45 l1 l2 v55 h56) → ∃ (l1' l2' : Int32) (h3 : Hp), f_X10_plan_L46 K (fuel + 1) 45 l1 l2 1 hh = (bnd (f_X10_next h3 45 (nI n)) fun v h' => f_X10_plan_L46 K fuel 45 l1' l2' v h') ∧ Upd h h3 PPm ∧ RowR h3 idN n r ∧ StR l1' l2' h3 n (impP s p d b r) := fun be st' e => by
    have ei : impP s p d b r = b := by unfold impP; exact if_neg be
    rw [ei]
    exact ⟨l1, l2, h2, e, u2, row2, st'⟩
  rcases st with ⟨s1, s2⟩ | ⟨s1, s2, s3, s4, s5, s6⟩
  · refine go ?_ ?_
    · rw [s1]; left; show (runP s p d r).2.2 < 2147483647; omega
    · rw [E0, if_pos (by rw [s2]; decide)]
  · have st' : StR l1 l2 h2 n b := Or.inr ⟨s1, s2, s3, s4, s5, fun k hk => by rw [q2.2 _ _ (by omega)]; exact s6 k hk⟩
    have c0 : ¬ l1 < 0 := by rw [s1]; exact nI_pos s3
    rw [if_neg c0] at E0
    by_cases c1 : (runP s p d r).2.2 < b.1
    · exact go (Or.inl c1) (by rw [E0, if_pos (by rw [s1]; exact nI_lt c1 s3)])
    · rw [if_neg (by rw [s1]; exact nI_nlt (by omega) (by omega))] at E0
      by_cases c2 : (runP s p d r).2.2 = b.1
      · rw [if_pos (by rw [s1, c2])] at E0
        by_cases c3 : (runP s p d r).2.1 < b.2.1
        · exact go (Or.inr ⟨c2, c3⟩) (by rw [E0, if_neg (by rw [s2]; exact nI_ge c3 s4)])
        · exact stay (by unfold betP; omega) st' (by rw [E0, if_pos (by rw [s2]; exact nI_le (by omega) (by omega))])
      · rw [if_neg (by rw [s1]; exact fun w => c2 ((nI_eq (by omega) s3).mp w))] at E0
        exact stay (by unfold betP; omega) st' E0
theorem idN_le (a b : Nat) : idN a ≤ idN b ↔ a ≤ b := Iff.rfl
set_option maxRecDepth 100000 in
theorem p46 {h : Hp} (hs : SH h) {s p d : Nat → Nat} {n : Nat} (h1 : 1 ≤ n) (hn : n ≤ 7) (e50 : gI h 45 50 = nI n) (jd' : JD h s p d n) (K : Nat → Int32 → Int32 → Int32 → Hp → Option (Int32 × Hp)) : ∀ (L : List (List Nat)) (r : List Nat) (fuel : Nat) (l1 l2 : Int32) (b : Nat × Nat × List Nat) (hh : Hp), chk n (r :: L) = true → L.length + 1 < fuel → Upd h hh PPm → RowR hh idN n r → StR l1 l2 hh n b → ∃ (l1' l2' : Int32) (h2 : Hp), f_X10_plan_L46 K fuel 45 l1 l2 1 hh = K 45 l1' l2' 0 h2 ∧ Upd h h2 PPm ∧ StR l1' l2' h2 n ((r :: L).foldl (impP s p d) b) := by
  intro L
  induction L with
  | nil =>
    intro r fuel l1 l2 b hh hc hf u row st
    obtain ⟨ok, hc⟩ := chk_s hc
    match fuel, hf with
    | fuel + 2, _ =>
      obtain ⟨l1', l2', h3, w1, w2, w3, w4⟩ := p46_s hs hn e50 jd' K (fuel + 1) ok u row st
      obtain ⟨hl, hr⟩ := okp_e ok
      rcases hc with ⟨-, hc⟩ | ⟨q, L', e, -⟩
      · rcases next_e idN_le h1 hn (w2.sh hs) w3 hl (fun k hk => by have := hr k hk; unfold idN; omega) with ⟨-, q2⟩ | ⟨p', h', q1, -⟩
        · refine ⟨l1', l2', h3, ?_, w2, w4⟩
          rw [w1, q2, bnd_e, f_X10_plan_L46, if_pos rfl]
        · rw [hc] at q1; cases q1
      · cases e
  | cons q L ih =>
    intro r fuel l1 l2 b hh hc hf u row st
    obtain ⟨ok, hc⟩ := chk_s hc
    match fuel, hf with
    | fuel + 1, hf =>
      obtain ⟨l1', l2', h3, w1, w2, w3, w4⟩ := p46_s hs hn e50 jd' K fuel ok u row st
      obtain ⟨hl, hr⟩ := okp_e ok
      rcases hc with ⟨e, -⟩ | ⟨q', L', e, e2, e3⟩
      · cases e
      · cases e
        rcases next_e idN_le h1 hn (w2.sh hs) w3 hl (fun k hk => by have := hr k hk; unfold idN; omega) with ⟨q1, -⟩ | ⟨p', h', q1, q2, q3, q4⟩
        · rw [e2] at q1; cases q1
        · rw [e2] at q1
          cases q1
          rw [w1, q2, bnd_e, List.foldl_cons]
          refine ih q fuel l1' l2' _ h' e3 (by rw [List.length_cons] at hf; omega) (w2.tr (q4.mono (fun a k w => by unfold PPm; omega))) q3 ?_
          rcases w4 with w4 | ⟨v1, v2, v3, v4, v5, v6⟩
          · exact Or.inl w4
          · exact Or.inr ⟨v1, v2, v3, v4, v5, fun k hk => by rw [q4.2 _ _ (by omega)]; exact v6 k hk⟩
/-- the best is one of them -/
theorem StR_no {s p d : Nat → Nat} {l1 l2 : Int32} {hh : Hp} {n : Nat} : ∀ (L : List (List Nat)) (b : Nat × Nat × List Nat), b.2.2 ≠ [] → chk n L = true ∨ L = [] → 1 ≤ n → (L.foldl (impP s p d) b).2.2 ≠ [] := by
  intro L
  induction L with
  | nil => intro b h _ _; exact h
  | cons r L ih =>
    intro b h hc h1
    rw [List.foldl_cons]
    rcases hc with hc | hc
    · obtain ⟨ok, hc⟩ := chk_s hc
      refine ih _ ?_ ?_ h1
      · unfold impP
        by_cases c : (runP s p d r).2.2 < b.1 ∨ ((runP s p d r).2.2 = b.1 ∧ (runP s p d r).2.1 < b.2.1)
        · rw [if_pos c]
          intro w
          have := (okp_e ok).1
          have w : r = [] := w
          rw [w] at this
          have : 0 = n := this
          omega
        · rw [if_neg c]; exact h
      · rcases hc with ⟨e, -⟩ | ⟨q, L', e, -, e3⟩
        · exact Or.inr e
        · exact Or.inl e3
    · cases hc
set_option maxRecDepth 100000 in
theorem p141 {h : Hp} (hs : SH h) {s p d : Nat → Nat} {n : Nat} {r : List Nat} (hn : n ≤ 7) (hl : r.length = n) (hr : ∀ k, k < n → r.getD k 0 < n) (e50 : gI h 45 50 = nI n) (jd' : JD h s p d n) (e86 : ∀ k, k < n → gI h 86 k = nI (r.getD k 0)) (x y z : Int32) : ∃ h2, f_X10_plan_L141 6000 45 x y z 0 0 0 h = some (x, h2) ∧ Upd h h2 (fun a _ => a = 87) ∧ ∀ k, k < n → gI h2 87 k = nI (endP s p d r k) := by
  have hj : ∀ j, j < n → s j ≤ 50 ∧ p j ≤ 50 := fun j w => ⟨(jd' j w).1.2.2, (jd' j w).2.1.2.2⟩
  refine forL n (fun m k (hh : Hp) => f_X10_plan_L141 m 45 x y z (nI (runP s p d (r.take k)).1) (nI (runP s p d (r.take k)).2.1) (nI k) hh) (fun k hh => Upd h hh (fun a _ => a = 87) ∧ ∀ j, j < k → gI hh 87 j = nI (endP s p d r j)) (fun w => ∃ h2, w = some (x, h2) ∧ Upd h h2 (fun a _ => a = 87) ∧ ∀ k, k < n → gI h2 87 k = nI (endP s p d r k)) ?_ ?_ n 6000 0 h (by omega) (by omega) ⟨Upd_rf _ _, fun j hj => absurd hj (Nat.not_lt_zero j)⟩
  · intro m k hh hk ⟨I1, I2⟩
    have hsh := I1.sh hs
    have x3 : gI hh 45 50 = nI n := by rw [I1.2 _ _ (by omega)]; exact e50
    have x0 : ¬ nI n ≤ nI k := nI_ge hk (by omega)
    have jdh : JD hh s p d n := jd'.fr I1 (fun a k w _ => by omega)
    have f86 : gI hh 86 k = nI (r.getD k 0) := by rw [I1.2 _ _ (by omega)]; exact e86 k hk
    have hrk := hr k hk
    obtain ⟨⟨-, g1, g2⟩, ⟨-, g3, g4⟩, -⟩ := jdh _ hrk
    obtain ⟨b1, b2, b3⟩ := bdP_t hn hl hr hj (d := d) k (by omega)
    rw [List.length_take] at b1 b2 b3
    have z1 : (nI (r.getD k 0)).toNatClampNeg = r.getD k 0 := nI_clamp (by omega)
    have z2 : inB (nI (r.getD k 0)) 7 = true := inB_nI (by omega) (by decide)
    have z3 : (nI k).toNatClampNeg = k := nI_clamp (by omega)
    have z4 : inB (nI k) 7 = true := inB_nI (by omega) (by decide)
    have J : ∀ M : Nat, f_X10_plan_J181 (f_X10_plan_L141 m) 45 x y z (nI ((runP s p d (r.take k)).1 + s (r.getD k 0))) (nI (runP s p d (r.take k)).2.1) (nI k) (nI M) hh = f_X10_plan_L141 m 45 x y z (nI ((runP s p d (r.take k)).1 + s (r.getD k 0))) (nI (M + p (r.getD k 0))) (nI (k + 1)) (sI hh 87 k (nI (M + p (r.getD k 0)))) := fun M => by
      simp only [f_X10_plan_J181, z1, z2, z3, z4, f86, g3, nI_add, nI_1, hsh, and_self, if_true, if_false, n_1_0, n_0_0, okOb_sI, okAb_sI, okOb_sW, okAb_sW, vl_e, un_e, nl_s, nl_n, bnd_e, gd_e, SH_sI, SH_sW, xI_sI, xR_sI, xL_sI, xK_sI, xN_sI, gI_sW, xR_sW, xL_sW, xK_sW, xN_sW, sO0, sO1, sO2, sA2, sL2, sO3, sA3, sL3, sO4, sA4, sL4, sO5, sA5, sL5, sO6, sA6, sL6, sO7, sA7, sL7, sO8, sA8, sL8, sO9, sO10, sA10, sL10, sO11, sA11, sL11, sO12, sA12, sL12, sO13, sO14, sA14, sL14, sO15, sA15, sL15, sO16, sA16, sL16, sO17, sA17, sL17, sO18, sA18, sL18, sO19, sA19, sL19, sO20, sO21, sA21, sL21, sO22, sA22, sL22, sO23, sA23, sL23, sO24, sA24, sL24, sO25, sO26, sA26, sL26, sO27, sA27, sL27, sO28, sA28, sL28, sO29, sA29, sL29, sO30, sA30, sL30, sO31, sA31, sL31, sO32, sA32, sL32, sO33, sO34, sA34, sL34, sO35, sA35, sL35, sO36, sA36, sL36, sO37, sO38, sA38, sL38, sO39, sA39, sL39, sO40, sA40, sL40, sO41, sO42, sA42, sL42, sO43, sA43, sL43, sO44, sA44, sL44, sO45, sO46, sA46, sL46, sO47, sA47, sL47, sO48, sA48, sL48, sO49, sA49, sL49, sO50, sA50, sL50, sO51, sA51, sL51, sO52, sA52, sL52, sO53, sA53, sL53, sO54, sA54, sL54, sO55, sA55, sL55, sO56, sA56, sL56, sO57, sA57, sL57, sO58, sA58, sL58, sO59, sA59, sL59, sO60, sA60, sL60, sO61, sA61, sL61, sO62, sA62, sL62, sO63, sA63, sL63, sO64, sA64, sL64, sO65, sA65, sL65, sO66, sA66, sL66, sO67, sA67, sL67, sO68, sA68, sL68, sO69, sA69, sL69, sO70, sA70, sL70, sO71, sA71, sL71, sO72, sA72, sL72, sO73, sA73, sL73, sO74, sA74, sL74, sO75, sA75, sL75, sO76, sA76, sL76, sO77, sA77, sL77, sO78, sA78, sL78, sO79, sA79, sL79, sO80, sA80, sL80, sO81, sA81, sL81, sO82, sA82, sL82, sO83, sA83, sL83, sO84, sA84, sL84, sO85, sA85, sL85, sO86, sA86, sL86, sO87, sA87, sL87, sR0_0, sR0_1, sR0_2, sR0_3, sR0_5, sR0_6, sR0_8, sR0_10, sR0_11, sR0_12, sR0_13, sR1_0, sR6_0, sR6_1, sR6_2, sR9_0, sR9_1, sR9_2, sR13_0, sR13_1, sR13_2, sR13_3, sR13_4, sR13_5, sR20_0, sR20_1, sR20_2, sR20_3, sR25_0, sR25_1, sR25_2, sR25_4, sR25_5, sR25_6, sR25_7, sR33_2, sR33_3, sR37_2, sR37_3, sR41_2, sR41_3, sR45_0, sR45_1, sR45_3, sR45_4, sR45_5, sR45_6, sR45_7, sR45_8, sR45_9, sR45_10, sR45_12, sR45_13, sR45_14, sR45_15, sR45_16, sR45_17, sR45_18, sR45_19, sR45_20, sR45_21, sR45_22, sR45_25, sR45_26, sR45_27, sR45_28, sR45_29, sR45_30, sR45_31, sR45_32, sR45_33, sR45_34, sR45_35, sR45_36, sR45_40, sR45_41, sR45_42, sR45_43, sR45_45, sR45_46, sR45_47, sR45_48, sR45_49]
    right
    refine ⟨sI hh 87 k (nI (max ((runP s p d (r.take k)).1 + s (r.getD k 0)) (runP s p d (r.take k)).2.1 + p (r.getD k 0))), ?_, I1.tr (Upd_sI rfl), fun j hj => ?_⟩
    · rw [take_s (by omega), runP_s, f_X10_plan_L141]
      simp only [x3, x0, f86, z1, z2, z3, z4, g1, nI_add, hsh, J, and_self, if_true, if_false, n_1_0, n_0_0, okOb_sI, okAb_sI, okOb_sW, okAb_sW, vl_e, un_e, nl_s, nl_n, bnd_e, gd_e, SH_sI, SH_sW, xI_sI, xR_sI, xL_sI, xK_sI, xN_sI, gI_sW, xR_sW, xL_sW, xK_sW, xN_sW, sO0, sO1, sO2, sA2, sL2, sO3, sA3, sL3, sO4, sA4, sL4, sO5, sA5, sL5, sO6, sA6, sL6, sO7, sA7, sL7, sO8, sA8, sL8, sO9, sO10, sA10, sL10, sO11, sA11, sL11, sO12, sA12, sL12, sO13, sO14, sA14, sL14, sO15, sA15, sL15, sO16, sA16, sL16, sO17, sA17, sL17, sO18, sA18, sL18, sO19, sA19, sL19, sO20, sO21, sA21, sL21, sO22, sA22, sL22, sO23, sA23, sL23, sO24, sA24, sL24, sO25, sO26, sA26, sL26, sO27, sA27, sL27, sO28, sA28, sL28, sO29, sA29, sL29, sO30, sA30, sL30, sO31, sA31, sL31, sO32, sA32, sL32, sO33, sO34, sA34, sL34, sO35, sA35, sL35, sO36, sA36, sL36, sO37, sO38, sA38, sL38, sO39, sA39, sL39, sO40, sA40, sL40, sO41, sO42, sA42, sL42, sO43, sA43, sL43, sO44, sA44, sL44, sO45, sO46, sA46, sL46, sO47, sA47, sL47, sO48, sA48, sL48, sO49, sA49, sL49, sO50, sA50, sL50, sO51, sA51, sL51, sO52, sA52, sL52, sO53, sA53, sL53, sO54, sA54, sL54, sO55, sA55, sL55, sO56, sA56, sL56, sO57, sA57, sL57, sO58, sA58, sL58, sO59, sA59, sL59, sO60, sA60, sL60, sO61, sA61, sL61, sO62, sA62, sL62, sO63, sA63, sL63, sO64, sA64, sL64, sO65, sA65, sL65, sO66, sA66, sL66, sO67, sA67, sL67, sO68, sA68, sL68, sO69, sA69, sL69, sO70, sA70, sL70, sO71, sA71, sL71, sO72, sA72, sL72, sO73, sA73, sL73, sO74, sA74, sL74, sO75, sA75, sL75, sO76, sA76, sL76, sO77, sA77, sL77, sO78, sA78, sL78, sO79, sA79, sL79, sO80, sA80, sL80, sO81, sA81, sL81, sO82, sA82, sL82, sO83, sA83, sL83, sO84, sA84, sL84, sO85, sA85, sL85, sO86, sA86, sL86, sO87, sA87, sL87, sR0_0, sR0_1, sR0_2, sR0_3, sR0_5, sR0_6, sR0_8, sR0_10, sR0_11, sR0_12, sR0_13, sR1_0, sR6_0, sR6_1, sR6_2, sR9_0, sR9_1, sR9_2, sR13_0, sR13_1, sR13_2, sR13_3, sR13_4, sR13_5, sR20_0, sR20_1, sR20_2, sR20_3, sR25_0, sR25_1, sR25_2, sR25_4, sR25_5, sR25_6, sR25_7, sR33_2, sR33_3, sR37_2, sR37_3, sR41_2, sR41_3, sR45_0, sR45_1, sR45_3, sR45_4, sR45_5, sR45_6, sR45_7, sR45_8, sR45_9, sR45_10, sR45_12, sR45_13, sR45_14, sR45_15, sR45_16, sR45_17, sR45_18, sR45_19, sR45_20, sR45_21, sR45_22, sR45_25, sR45_26, sR45_27, sR45_28, sR45_29, sR45_30, sR45_31, sR45_32, sR45_33, sR45_34, sR45_35, sR45_36, sR45_40, sR45_41, sR45_42, sR45_43, sR45_45, sR45_46, sR45_47, sR45_48, sR45_49]
      by_cases c : (runP s p d (r.take k)).1 + s (r.getD k 0) ≤ (runP s p d (r.take k)).2.1
      · rw [if_pos (nI_le c (by omega))]
        show _ = f_X10_plan_L141 m 45 x y z (nI ((runP s p d (r.take k)).1 + s (r.getD k 0))) (nI (max ((runP s p d (r.take k)).1 + s (r.getD k 0)) (runP s p d (r.take k)).2.1 + p (r.getD k 0))) (nI (k + 1)) _
        rw [Nat.max_eq_right c]
      · rw [if_neg (nI_ge (by omega) (by omega))]
        show _ = f_X10_plan_L141 m 45 x y z (nI ((runP s p d (r.take k)).1 + s (r.getD k 0))) (nI (max ((runP s p d (r.take k)).1 + s (r.getD k 0)) (runP s p d (r.take k)).2.1 + p (r.getD k 0))) (nI (k + 1)) _
        rw [Nat.max_eq_left (by omega)]
    · rw [xI_sI]
      by_cases cj : j = k
      · rw [if_pos ⟨rfl, cj⟩, cj]
        unfold endP
        rw [take_s (by omega), runP_s]
        rfl
      · rw [if_neg (fun w => cj w.2)]; exact I2 j (by omega)
  · intro m hh ⟨I1, I2⟩
    have hsh := I1.sh hs
    have x3 : gI hh 45 50 = nI n := by rw [I1.2 _ _ (by omega)]; exact e50
    have x0 : nI n ≤ nI n := nI_le (Nat.le_refl _) (by omega)
    refine ⟨hh, ?_, I1, I2⟩
    show f_X10_plan_L141 (m + 1) 45 _ _ _ _ _ _ hh = _
    rw [f_X10_plan_L141]
    simp only [x3, x0, hsh, and_self, if_true, if_false, n_1_0, n_0_0, okOb_sI, okAb_sI, okOb_sW, okAb_sW, vl_e, un_e, nl_s, nl_n, bnd_e, gd_e, SH_sI, SH_sW, xI_sI, xR_sI, xL_sI, xK_sI, xN_sI, gI_sW, xR_sW, xL_sW, xK_sW, xN_sW, sO0, sO1, sO2, sA2, sL2, sO3, sA3, sL3, sO4, sA4, sL4, sO5, sA5, sL5, sO6, sA6, sL6, sO7, sA7, sL7, sO8, sA8, sL8, sO9, sO10, sA10, sL10, sO11, sA11, sL11, sO12, sA12, sL12, sO13, sO14, sA14, sL14, sO15, sA15, sL15, sO16, sA16, sL16, sO17, sA17, sL17, sO18, sA18, sL18, sO19, sA19, sL19, sO20, sO21, sA21, sL21, sO22, sA22, sL22, sO23, sA23, sL23, sO24, sA24, sL24, sO25, sO26, sA26, sL26, sO27, sA27, sL27, sO28, sA28, sL28, sO29, sA29, sL29, sO30, sA30, sL30, sO31, sA31, sL31, sO32, sA32, sL32, sO33, sO34, sA34, sL34, sO35, sA35, sL35, sO36, sA36, sL36, sO37, sO38, sA38, sL38, sO39, sA39, sL39, sO40, sA40, sL40, sO41, sO42, sA42, sL42, sO43, sA43, sL43, sO44, sA44, sL44, sO45, sO46, sA46, sL46, sO47, sA47, sL47, sO48, sA48, sL48, sO49, sA49, sL49, sO50, sA50, sL50, sO51, sA51, sL51, sO52, sA52, sL52, sO53, sA53, sL53, sO54, sA54, sL54, sO55, sA55, sL55, sO56, sA56, sL56, sO57, sA57, sL57, sO58, sA58, sL58, sO59, sA59, sL59, sO60, sA60, sL60, sO61, sA61, sL61, sO62, sA62, sL62, sO63, sA63, sL63, sO64, sA64, sL64, sO65, sA65, sL65, sO66, sA66, sL66, sO67, sA67, sL67, sO68, sA68, sL68, sO69, sA69, sL69, sO70, sA70, sL70, sO71, sA71, sL71, sO72, sA72, sL72, sO73, sA73, sL73, sO74, sA74, sL74, sO75, sA75, sL75, sO76, sA76, sL76, sO77, sA77, sL77, sO78, sA78, sL78, sO79, sA79, sL79, sO80, sA80, sL80, sO81, sA81, sL81, sO82, sA82, sL82, sO83, sA83, sL83, sO84, sA84, sL84, sO85, sA85, sL85, sO86, sA86, sL86, sO87, sA87, sL87, sR0_0, sR0_1, sR0_2, sR0_3, sR0_5, sR0_6, sR0_8, sR0_10, sR0_11, sR0_12, sR0_13, sR1_0, sR6_0, sR6_1, sR6_2, sR9_0, sR9_1, sR9_2, sR13_0, sR13_1, sR13_2, sR13_3, sR13_4, sR13_5, sR20_0, sR20_1, sR20_2, sR20_3, sR25_0, sR25_1, sR25_2, sR25_4, sR25_5, sR25_6, sR25_7, sR33_2, sR33_3, sR37_2, sR37_3, sR41_2, sR41_3, sR45_0, sR45_1, sR45_3, sR45_4, sR45_5, sR45_6, sR45_7, sR45_8, sR45_9, sR45_10, sR45_12, sR45_13, sR45_14, sR45_15, sR45_16, sR45_17, sR45_18, sR45_19, sR45_20, sR45_21, sR45_22, sR45_25, sR45_26, sR45_27, sR45_28, sR45_29, sR45_30, sR45_31, sR45_32, sR45_33, sR45_34, sR45_35, sR45_36, sR45_40, sR45_41, sR45_42, sR45_43, sR45_45, sR45_46, sR45_47, sR45_48, sR45_49]
set_option maxRecDepth 100000 in
theorem p19 {h : Hp} (hs : SH h) {n : Nat} (hn : n ≤ 7) (e50 : gI h 45 50 = nI n) (K : Nat → Int32 → Hp → Option (Int32 × Hp)) : ∃ h2, f_X10_plan_L19 K 6000 45 0 h = K 45 (nI n) h2 ∧ Upd h h2 (fun a _ => a = 75) ∧ RowR h2 idN n (List.range n) := by
  refine forL n (fun m k (hh : Hp) => f_X10_plan_L19 K m 45 (nI k) hh) (fun k hh => Upd h hh (fun a _ => a = 75) ∧ ∀ j, j < k → gI hh 75 j = nI j) (fun x => ∃ h2, x = K 45 (nI n) h2 ∧ Upd h h2 (fun a _ => a = 75) ∧ RowR h2 idN n (List.range n)) ?_ ?_ n 6000 0 h (by omega) (by omega) ⟨Upd_rf _ _, fun j hj => absurd hj (Nat.not_lt_zero j)⟩
  · intro m k hh hk ⟨I1, I2⟩
    have hsh := I1.sh hs
    have x3 : gI hh 45 50 = nI n := by rw [I1.2 _ _ (by omega)]; exact e50
    have x0 : ¬ nI n ≤ nI k := nI_ge hk (by omega)
    have z3 : (nI k).toNatClampNeg = k := nI_clamp (by omega)
    have z4 : inB (nI k) 7 = true := inB_nI (by omega) (by decide)
    refine Or.inr ⟨sI hh 75 k (nI k), ?_, I1.tr (Upd_sI rfl), fun j hj => ?_⟩
    · rw [f_X10_plan_L19]
      simp only [x3, x0, z3, z4, nI_1, hsh, and_self, if_true, if_false, n_1_0, n_0_0, okOb_sI, okAb_sI, okOb_sW, okAb_sW, vl_e, un_e, nl_s, nl_n, bnd_e, gd_e, SH_sI, SH_sW, xI_sI, xR_sI, xL_sI, xK_sI, xN_sI, gI_sW, xR_sW, xL_sW, xK_sW, xN_sW, sO0, sO1, sO2, sA2, sL2, sO3, sA3, sL3, sO4, sA4, sL4, sO5, sA5, sL5, sO6, sA6, sL6, sO7, sA7, sL7, sO8, sA8, sL8, sO9, sO10, sA10, sL10, sO11, sA11, sL11, sO12, sA12, sL12, sO13, sO14, sA14, sL14, sO15, sA15, sL15, sO16, sA16, sL16, sO17, sA17, sL17, sO18, sA18, sL18, sO19, sA19, sL19, sO20, sO21, sA21, sL21, sO22, sA22, sL22, sO23, sA23, sL23, sO24, sA24, sL24, sO25, sO26, sA26, sL26, sO27, sA27, sL27, sO28, sA28, sL28, sO29, sA29, sL29, sO30, sA30, sL30, sO31, sA31, sL31, sO32, sA32, sL32, sO33, sO34, sA34, sL34, sO35, sA35, sL35, sO36, sA36, sL36, sO37, sO38, sA38, sL38, sO39, sA39, sL39, sO40, sA40, sL40, sO41, sO42, sA42, sL42, sO43, sA43, sL43, sO44, sA44, sL44, sO45, sO46, sA46, sL46, sO47, sA47, sL47, sO48, sA48, sL48, sO49, sA49, sL49, sO50, sA50, sL50, sO51, sA51, sL51, sO52, sA52, sL52, sO53, sA53, sL53, sO54, sA54, sL54, sO55, sA55, sL55, sO56, sA56, sL56, sO57, sA57, sL57, sO58, sA58, sL58, sO59, sA59, sL59, sO60, sA60, sL60, sO61, sA61, sL61, sO62, sA62, sL62, sO63, sA63, sL63, sO64, sA64, sL64, sO65, sA65, sL65, sO66, sA66, sL66, sO67, sA67, sL67, sO68, sA68, sL68, sO69, sA69, sL69, sO70, sA70, sL70, sO71, sA71, sL71, sO72, sA72, sL72, sO73, sA73, sL73, sO74, sA74, sL74, sO75, sA75, sL75, sO76, sA76, sL76, sO77, sA77, sL77, sO78, sA78, sL78, sO79, sA79, sL79, sO80, sA80, sL80, sO81, sA81, sL81, sO82, sA82, sL82, sO83, sA83, sL83, sO84, sA84, sL84, sO85, sA85, sL85, sO86, sA86, sL86, sO87, sA87, sL87, sR0_0, sR0_1, sR0_2, sR0_3, sR0_5, sR0_6, sR0_8, sR0_10, sR0_11, sR0_12, sR0_13, sR1_0, sR6_0, sR6_1, sR6_2, sR9_0, sR9_1, sR9_2, sR13_0, sR13_1, sR13_2, sR13_3, sR13_4, sR13_5, sR20_0, sR20_1, sR20_2, sR20_3, sR25_0, sR25_1, sR25_2, sR25_4, sR25_5, sR25_6, sR25_7, sR33_2, sR33_3, sR37_2, sR37_3, sR41_2, sR41_3, sR45_0, sR45_1, sR45_3, sR45_4, sR45_5, sR45_6, sR45_7, sR45_8, sR45_9, sR45_10, sR45_12, sR45_13, sR45_14, sR45_15, sR45_16, sR45_17, sR45_18, sR45_19, sR45_20, sR45_21, sR45_22, sR45_25, sR45_26, sR45_27, sR45_28, sR45_29, sR45_30, sR45_31, sR45_32, sR45_33, sR45_34, sR45_35, sR45_36, sR45_40, sR45_41, sR45_42, sR45_43, sR45_45, sR45_46, sR45_47, sR45_48, sR45_49]
    · rw [xI_sI]
      by_cases cj : j = k
      · rw [if_pos ⟨rfl, cj⟩, cj]
      · rw [if_neg (fun w => cj w.2)]; exact I2 j (by omega)
  · intro m hh ⟨I1, I2⟩
    have hsh := I1.sh hs
    have x3 : gI hh 45 50 = nI n := by rw [I1.2 _ _ (by omega)]; exact e50
    have x0 : nI n ≤ nI n := nI_le (Nat.le_refl _) (by omega)
    refine ⟨hh, ?_, I1, fun k hk => ?_⟩
    · rw [f_X10_plan_L19]
      simp only [x3, x0, hsh, and_self, if_true, if_false, n_1_0, n_0_0, okOb_sI, okAb_sI, okOb_sW, okAb_sW, vl_e, un_e, nl_s, nl_n, bnd_e, gd_e, SH_sI, SH_sW, xI_sI, xR_sI, xL_sI, xK_sI, xN_sI, gI_sW, xR_sW, xL_sW, xK_sW, xN_sW, sO0, sO1, sO2, sA2, sL2, sO3, sA3, sL3, sO4, sA4, sL4, sO5, sA5, sL5, sO6, sA6, sL6, sO7, sA7, sL7, sO8, sA8, sL8, sO9, sO10, sA10, sL10, sO11, sA11, sL11, sO12, sA12, sL12, sO13, sO14, sA14, sL14, sO15, sA15, sL15, sO16, sA16, sL16, sO17, sA17, sL17, sO18, sA18, sL18, sO19, sA19, sL19, sO20, sO21, sA21, sL21, sO22, sA22, sL22, sO23, sA23, sL23, sO24, sA24, sL24, sO25, sO26, sA26, sL26, sO27, sA27, sL27, sO28, sA28, sL28, sO29, sA29, sL29, sO30, sA30, sL30, sO31, sA31, sL31, sO32, sA32, sL32, sO33, sO34, sA34, sL34, sO35, sA35, sL35, sO36, sA36, sL36, sO37, sO38, sA38, sL38, sO39, sA39, sL39, sO40, sA40, sL40, sO41, sO42, sA42, sL42, sO43, sA43, sL43, sO44, sA44, sL44, sO45, sO46, sA46, sL46, sO47, sA47, sL47, sO48, sA48, sL48, sO49, sA49, sL49, sO50, sA50, sL50, sO51, sA51, sL51, sO52, sA52, sL52, sO53, sA53, sL53, sO54, sA54, sL54, sO55, sA55, sL55, sO56, sA56, sL56, sO57, sA57, sL57, sO58, sA58, sL58, sO59, sA59, sL59, sO60, sA60, sL60, sO61, sA61, sL61, sO62, sA62, sL62, sO63, sA63, sL63, sO64, sA64, sL64, sO65, sA65, sL65, sO66, sA66, sL66, sO67, sA67, sL67, sO68, sA68, sL68, sO69, sA69, sL69, sO70, sA70, sL70, sO71, sA71, sL71, sO72, sA72, sL72, sO73, sA73, sL73, sO74, sA74, sL74, sO75, sA75, sL75, sO76, sA76, sL76, sO77, sA77, sL77, sO78, sA78, sL78, sO79, sA79, sL79, sO80, sA80, sL80, sO81, sA81, sL81, sO82, sA82, sL82, sO83, sA83, sL83, sO84, sA84, sL84, sO85, sA85, sL85, sO86, sA86, sL86, sO87, sA87, sL87, sR0_0, sR0_1, sR0_2, sR0_3, sR0_5, sR0_6, sR0_8, sR0_10, sR0_11, sR0_12, sR0_13, sR1_0, sR6_0, sR6_1, sR6_2, sR9_0, sR9_1, sR9_2, sR13_0, sR13_1, sR13_2, sR13_3, sR13_4, sR13_5, sR20_0, sR20_1, sR20_2, sR20_3, sR25_0, sR25_1, sR25_2, sR25_4, sR25_5, sR25_6, sR25_7, sR33_2, sR33_3, sR37_2, sR37_3, sR41_2, sR41_3, sR45_0, sR45_1, sR45_3, sR45_4, sR45_5, sR45_6, sR45_7, sR45_8, sR45_9, sR45_10, sR45_12, sR45_13, sR45_14, sR45_15, sR45_16, sR45_17, sR45_18, sR45_19, sR45_20, sR45_21, sR45_22, sR45_25, sR45_26, sR45_27, sR45_28, sR45_29, sR45_30, sR45_31, sR45_32, sR45_33, sR45_34, sR45_35, sR45_36, sR45_40, sR45_41, sR45_42, sR45_43, sR45_45, sR45_46, sR45_47, sR45_48, sR45_49]
    · rw [I2 k hk]
      unfold idN
      rw [List.getD_eq_getElem?_getD, List.getElem?_range hk]
      rfl
def PPl (a k : Nat) : Prop := a = 75 ∨ a = 86 ∨ a = 87 ∨ (a = 45 ∧ (k = 51 ∨ k = 52)) ∨ (29 ≤ a ∧ a ≤ 32) ∨ (a = 25 ∧ (k = 8 ∨ k = 9 ∨ k = 10))
set_option maxRecDepth 100000 in
theorem planM_e {h : Hp} (hs : SH h) {s p d : Nat → Nat} {n : Nat} (h1 : 1 ≤ n) (hn : n ≤ 7) (e50 : gI h 45 50 = nI n) (jd' : JD h s p d n) : ∃ h2, f_X10_plan h 45 = some (nI (bstP s p d n).1, h2) ∧ Upd h h2 (fun a k => a = 75 ∨ a = 86 ∨ a = 87 ∨ (a = 45 ∧ (k = 51 ∨ k = 52))) ∧ gI h2 45 51 = nI n ∧ (bstP s p d n).2.2 ≠ [] ∧ ∀ k, k < n → gI h2 86 k = nI ((bstP s p d n).2.2.getD k 0) ∧ gI h2 87 k = nI (endP s p d (bstP s p d n).2.2 k) := by
  obtain ⟨L, e1, e2, e3⟩ := pm_c h1 hn
  have hsA : SH (sI h 45 51 (nI n)) := hs
  have uA : Upd h (sI h 45 51 (nI n)) (fun a k => a = 45 ∧ k = 51) := Upd_sI ⟨rfl, rfl⟩
  have e50A : gI (sI h 45 51 (nI n)) 45 50 = nI n := by rw [uA.2 _ _ (by omega)]; exact e50
  have jdA : JD (sI h 45 51 (nI n)) s p d n := jd'.fr uA (fun a k w _ => by omega)
  have e51A : gI (sI h 45 51 (nI n)) 45 51 = nI n := by rw [xI_sI, if_pos ⟨rfl, rfl⟩]
  have E0 : f_X10_plan h 45 = f_X10_plan_L19 (fun y14 y15 h16 =>
f_X10_plan_L46 (fun y57 y58 y59 y60 h61 =>
f_X10_plan_L141 6000 y57 y58 y59 y60 (0 : Int32) (0 : Int32) (0 : Int32) h61) 6000 y14 (-1 : Int32) (0 : Int32) (1 : Int32) h16) 6000 45 0 (sI h 45 51 (nI n)) := by
    unfold f_X10_plan
    simp only [sO45 hs, gd_e, vl_e, e50, e50A]
    rw [if_neg (nI_ne0 (by omega) (by omega))]
  rw [E0]
  generalize sI h 45 51 (nI n) = hA at *
  obtain ⟨hB, B1, B2, B3⟩ := p19 hsA hn e50A (fun y14 y15 h16 =>
f_X10_plan_L46 (fun y57 y58 y59 y60 h61 =>
f_X10_plan_L141 6000 y57 y58 y59 y60 (0 : Int32) (0 : Int32) (0 : Int32) h61) 6000 y14 (-1 : Int32) (0 : Int32) (1 : Int32) h16)
  rw [B1]
  have hsB := B2.sh hsA
  obtain ⟨l1, l2, hC, C1, C2, C3⟩ := p46 hsA h1 hn e50A jdA (fun y57 y58 y59 y60 h61 =>
f_X10_plan_L141 6000 y57 y58 y59 y60 (0 : Int32) (0 : Int32) (0 : Int32) h61) L (List.range n) 6000 (-1) 0 b0P hB e2 (by omega) (B2.mono (fun a k w => Or.inl w)) B3 (Or.inl ⟨rfl, rfl⟩)
  have eb : (List.range n :: L).foldl (impP s p d) b0P = bstP s p d n := by unfold bstP; rw [e1]
  rw [eb] at C3
  have hj : ∀ j, j < n → s j ≤ 50 ∧ p j ≤ 50 := fun j w => ⟨(jd' j w).1.2.2, (jd' j w).2.1.2.2⟩
  have nn : (bstP s p d n).2.2 ≠ [] := by
    rw [← eb, List.foldl_cons]
    obtain ⟨ok, hc⟩ := chk_s e2
    obtain ⟨hl, hr⟩ := okp_e ok
    obtain ⟨b1, b2, b3⟩ := bdP_t hn hl hr hj (d := d) n (Nat.le_refl _)
    rw [List.take_of_length_le (show (List.range n).length ≤ n by omega)] at b1 b2 b3
    refine StR_no (l1 := 0) (l2 := 0) (hh := h) (n := n) L _ ?_ ?_ h1
    · rw [imp_lt (by left; show (runP s p d (List.range n)).2.2 < 2147483647; omega)]
      intro w
      have w : List.range n = [] := w
      rw [w] at hl
      have hl : 0 = n := hl
      omega
    · rcases hc with ⟨e, -⟩ | ⟨q, L', e, -, e3⟩
      · exact Or.inr e
      · exact Or.inl e3
  rcases C3 with ⟨c1, -⟩ | ⟨c1, c2, c3, c4, c5, c6⟩
  · rw [c1] at nn; exact absurd rfl nn
  · obtain ⟨hl, hr⟩ := okp_e c5
    have hsC := C2.sh hsA
    obtain ⟨hD, D1, D2, D3⟩ := p141 hsC hn hl hr (by rw [C2.2 _ _ (by unfold PPm; omega)]; exact e50A) (jdA.fr C2 (fun a k w _ => by unfold PPm; omega)) c6 l1 l2 0
    refine ⟨hD, ?_, ((uA.mono (fun a k w => by omega)).tr (C2.mono (fun a k w => by unfold PPm at w; omega))).tr (D2.mono (fun a k w => by omega)), ?_, nn, fun k hk => ⟨?_, D3 k hk⟩⟩
    · rw [C1, D1, c1]
    · rw [D2.2 _ _ (by omega), C2.2 _ _ (by unfold PPm; omega)]; exact e51A
    · rw [D2.2 _ _ (by omega)]; exact c6 k hk
set_option maxRecDepth 100000 in
theorem planC_e {h : Hp} (hs : SH h) {s p d : Nat → Nat} {n z : Nat} (h1 : 1 ≤ n) (hn : n ≤ 7) (hz : z ≤ 7) (hne : z ≠ n) (e3 : gI h 25 3 = nI n) (e8 : gI h 25 8 = nI z) (jd' : JD h s p d n) : ∃ h2, f_X9_plan h 0 = some (nI (bstP s p d n).1, h2) ∧ Upd h h2 (fun a k => (29 ≤ a ∧ a ≤ 32) ∨ (a = 25 ∧ (k = 8 ∨ k = 9 ∨ k = 10))) ∧ gI h2 25 8 = nI n ∧ gI h2 25 9 = nI (bstP s p d n).1 ∧ ((bstP s p d n).2.2 ≠ [] → ∀ k, k < n → gI h2 31 k = nI ((bstP s p d n).2.2.getD k 0) ∧ gI h2 32 k = nI (endP s p d (bstP s p d n).2.2 k)) := by
  let hA : Hp := sI (sI h 25 9 (2147483647 : Int32)) 25 10 (2147483647 : Int32)
  have hsA : SH hA := hs
  have uA : Upd h hA (fun a k => a = 25 ∧ (k = 9 ∨ k = 10)) := (Upd_sI (by omega)).tr (Upd_sI (by omega))
  obtain ⟨hB, B1, B2, -, B4⟩ := dfs hn (s := s) (p := p) (d := d) n 9 hA 0 [] b0P hsA (by rw [uA.2 _ _ (by omega)]; exact e3) (jd'.fr uA (fun a k w _ => by omega)) (by simp) (by omega) (by decide) (fun k hk => absurd hk (Nat.not_lt_zero k)) ⟨by simp [hA, xI_sI, b0P]; rfl, by simp [hA, xI_sI, b0P]; rfl, by decide, by decide, fun w => absurd rfl w⟩ ⟨Nat.le_refl _, Nat.le_refl _, Nat.le_refl _⟩
  have eb : (cmps n n [] 0).foldl (impP s p d) b0P = bstP s p d n := by
    unfold cmps bstP
    rw [SU_0]
    simp
  rw [eb] at B4
  obtain ⟨r1, r2, r3, r4, r5⟩ := B4
  have hsB := B2.sh hsA
  have x3 : gI hB 25 3 = nI n := by rw [B2.2 _ _ (by unfold PDf; omega), uA.2 _ _ (by omega)]; exact e3
  have xn : ¬ nI z = nI n := fun w => hne ((nI_eq (by omega) (by omega)).mp w)
  have B1' : f_X4_tryFrom 9 (sI (sI h 25 9 (2147483647 : Int32)) 25 10 (2147483647 : Int32)) 25 0 0 0 0 0 = some ((), hB) := B1
  refine ⟨sI hB 25 8 (nI n), ?_, ((uA.mono (fun a k w => by omega)).tr (B2.mono (fun a k w => by unfold PDf at w; omega))).tr (Upd_sI (by omega)), by rw [xI_sI, if_pos ⟨rfl, rfl⟩], by rw [xI_sI, if_neg (by omega)]; exact r1, fun w k hk => ?_⟩
  · simp only [f_X9_plan, f_X4_findPlan, e8, e3, xn, B1', x3, r1, hs, hsB, and_self, if_true, if_false, n_1_0, n_0_0, okOb_sI, okAb_sI, okOb_sW, okAb_sW, vl_e, un_e, nl_s, nl_n, bnd_e, gd_e, SH_sI, SH_sW, xI_sI, xR_sI, xL_sI, xK_sI, xN_sI, gI_sW, xR_sW, xL_sW, xK_sW, xN_sW, sO0, sO1, sO2, sA2, sL2, sO3, sA3, sL3, sO4, sA4, sL4, sO5, sA5, sL5, sO6, sA6, sL6, sO7, sA7, sL7, sO8, sA8, sL8, sO9, sO10, sA10, sL10, sO11, sA11, sL11, sO12, sA12, sL12, sO13, sO14, sA14, sL14, sO15, sA15, sL15, sO16, sA16, sL16, sO17, sA17, sL17, sO18, sA18, sL18, sO19, sA19, sL19, sO20, sO21, sA21, sL21, sO22, sA22, sL22, sO23, sA23, sL23, sO24, sA24, sL24, sO25, sO26, sA26, sL26, sO27, sA27, sL27, sO28, sA28, sL28, sO29, sA29, sL29, sO30, sA30, sL30, sO31, sA31, sL31, sO32, sA32, sL32, sO33, sO34, sA34, sL34, sO35, sA35, sL35, sO36, sA36, sL36, sO37, sO38, sA38, sL38, sO39, sA39, sL39, sO40, sA40, sL40, sO41, sO42, sA42, sL42, sO43, sA43, sL43, sO44, sA44, sL44, sO45, sO46, sA46, sL46, sO47, sA47, sL47, sO48, sA48, sL48, sO49, sA49, sL49, sO50, sA50, sL50, sO51, sA51, sL51, sO52, sA52, sL52, sO53, sA53, sL53, sO54, sA54, sL54, sO55, sA55, sL55, sO56, sA56, sL56, sO57, sA57, sL57, sO58, sA58, sL58, sO59, sA59, sL59, sO60, sA60, sL60, sO61, sA61, sL61, sO62, sA62, sL62, sO63, sA63, sL63, sO64, sA64, sL64, sO65, sA65, sL65, sO66, sA66, sL66, sO67, sA67, sL67, sO68, sA68, sL68, sO69, sA69, sL69, sO70, sA70, sL70, sO71, sA71, sL71, sO72, sA72, sL72, sO73, sA73, sL73, sO74, sA74, sL74, sO75, sA75, sL75, sO76, sA76, sL76, sO77, sA77, sL77, sO78, sA78, sL78, sO79, sA79, sL79, sO80, sA80, sL80, sO81, sA81, sL81, sO82, sA82, sL82, sO83, sA83, sL83, sO84, sA84, sL84, sO85, sA85, sL85, sO86, sA86, sL86, sO87, sA87, sL87, sR0_0, sR0_1, sR0_2, sR0_3, sR0_5, sR0_6, sR0_8, sR0_10, sR0_11, sR0_12, sR0_13, sR1_0, sR6_0, sR6_1, sR6_2, sR9_0, sR9_1, sR9_2, sR13_0, sR13_1, sR13_2, sR13_3, sR13_4, sR13_5, sR20_0, sR20_1, sR20_2, sR20_3, sR25_0, sR25_1, sR25_2, sR25_4, sR25_5, sR25_6, sR25_7, sR33_2, sR33_3, sR37_2, sR37_3, sR41_2, sR41_3, sR45_0, sR45_1, sR45_3, sR45_4, sR45_5, sR45_6, sR45_7, sR45_8, sR45_9, sR45_10, sR45_12, sR45_13, sR45_14, sR45_15, sR45_16, sR45_17, sR45_18, sR45_19, sR45_20, sR45_21, sR45_22, sR45_25, sR45_26, sR45_27, sR45_28, sR45_29, sR45_30, sR45_31, sR45_32, sR45_33, sR45_34, sR45_35, sR45_36, sR45_40, sR45_41, sR45_42, sR45_43, sR45_45, sR45_46, sR45_47, sR45_48, sR45_49]
    simp only [Nat.reduceEqDiff, and_false, if_false, r1]
  · rw [xI_sI, if_neg (by omega), xI_sI, if_neg (by omega)]
    exact r5 w k hk
set_option maxRecDepth 100000 in
theorem plan_ok {h : Hp} (hs : SH h) (ij : IJ h) (il : IPl h) : Out h PPl (fun h2 => IJ h2 ∧ IPl h2) (f_X9_plan h 0) (fun h1 => f_X10_plan h1 45) := by
  obtain ⟨b1, b2, b3, b4⟩ := id ij
  obtain ⟨s, p, d, z, i1, i2, i3, i4, i5, i6⟩ := il
  by_cases c0 : nJ h = 0
  · have ez : z = 0 := by omega
    rw [c0] at b1 b2
    rw [ez] at i3 i4
    have e9 := i5 ez
    have u : Upd h (sI h 45 51 (nI 0)) (fun a k => a = 45 ∧ k = 51) := Upd_sI ⟨rfl, rfl⟩
    refine ⟨0, h, sI h 45 51 (nI 0), ?_, hs, ?_, ⟨ij.fr u (fun a k w => by omega) (by omega), s, p, d, 0, ?_⟩, u.mono (fun a k w => by unfold PPl; omega)⟩
    · simp only [f_X9_plan, f_X4_findPlan, i3, b1, e9, hs, and_self, if_true, if_false, n_1_0, n_0_0, okOb_sI, okAb_sI, okOb_sW, okAb_sW, vl_e, un_e, nl_s, nl_n, bnd_e, gd_e, SH_sI, SH_sW, xI_sI, xR_sI, xL_sI, xK_sI, xN_sI, gI_sW, xR_sW, xL_sW, xK_sW, xN_sW, sO0, sO1, sO2, sA2, sL2, sO3, sA3, sL3, sO4, sA4, sL4, sO5, sA5, sL5, sO6, sA6, sL6, sO7, sA7, sL7, sO8, sA8, sL8, sO9, sO10, sA10, sL10, sO11, sA11, sL11, sO12, sA12, sL12, sO13, sO14, sA14, sL14, sO15, sA15, sL15, sO16, sA16, sL16, sO17, sA17, sL17, sO18, sA18, sL18, sO19, sA19, sL19, sO20, sO21, sA21, sL21, sO22, sA22, sL22, sO23, sA23, sL23, sO24, sA24, sL24, sO25, sO26, sA26, sL26, sO27, sA27, sL27, sO28, sA28, sL28, sO29, sA29, sL29, sO30, sA30, sL30, sO31, sA31, sL31, sO32, sA32, sL32, sO33, sO34, sA34, sL34, sO35, sA35, sL35, sO36, sA36, sL36, sO37, sO38, sA38, sL38, sO39, sA39, sL39, sO40, sA40, sL40, sO41, sO42, sA42, sL42, sO43, sA43, sL43, sO44, sA44, sL44, sO45, sO46, sA46, sL46, sO47, sA47, sL47, sO48, sA48, sL48, sO49, sA49, sL49, sO50, sA50, sL50, sO51, sA51, sL51, sO52, sA52, sL52, sO53, sA53, sL53, sO54, sA54, sL54, sO55, sA55, sL55, sO56, sA56, sL56, sO57, sA57, sL57, sO58, sA58, sL58, sO59, sA59, sL59, sO60, sA60, sL60, sO61, sA61, sL61, sO62, sA62, sL62, sO63, sA63, sL63, sO64, sA64, sL64, sO65, sA65, sL65, sO66, sA66, sL66, sO67, sA67, sL67, sO68, sA68, sL68, sO69, sA69, sL69, sO70, sA70, sL70, sO71, sA71, sL71, sO72, sA72, sL72, sO73, sA73, sL73, sO74, sA74, sL74, sO75, sA75, sL75, sO76, sA76, sL76, sO77, sA77, sL77, sO78, sA78, sL78, sO79, sA79, sL79, sO80, sA80, sL80, sO81, sA81, sL81, sO82, sA82, sL82, sO83, sA83, sL83, sO84, sA84, sL84, sO85, sA85, sL85, sO86, sA86, sL86, sO87, sA87, sL87, sR0_0, sR0_1, sR0_2, sR0_3, sR0_5, sR0_6, sR0_8, sR0_10, sR0_11, sR0_12, sR0_13, sR1_0, sR6_0, sR6_1, sR6_2, sR9_0, sR9_1, sR9_2, sR13_0, sR13_1, sR13_2, sR13_3, sR13_4, sR13_5, sR20_0, sR20_1, sR20_2, sR20_3, sR25_0, sR25_1, sR25_2, sR25_4, sR25_5, sR25_6, sR25_7, sR33_2, sR33_3, sR37_2, sR37_3, sR41_2, sR41_3, sR45_0, sR45_1, sR45_3, sR45_4, sR45_5, sR45_6, sR45_7, sR45_8, sR45_9, sR45_10, sR45_12, sR45_13, sR45_14, sR45_15, sR45_16, sR45_17, sR45_18, sR45_19, sR45_20, sR45_21, sR45_22, sR45_25, sR45_26, sR45_27, sR45_28, sR45_29, sR45_30, sR45_31, sR45_32, sR45_33, sR45_34, sR45_35, sR45_36, sR45_40, sR45_41, sR45_42, sR45_43, sR45_45, sR45_46, sR45_47, sR45_48, sR45_49]
    · simp only [f_X10_plan, b2, hs, and_self, if_true, if_false, n_1_0, n_0_0, okOb_sI, okAb_sI, okOb_sW, okAb_sW, vl_e, un_e, nl_s, nl_n, bnd_e, gd_e, SH_sI, SH_sW, xI_sI, xR_sI, xL_sI, xK_sI, xN_sI, gI_sW, xR_sW, xL_sW, xK_sW, xN_sW, sO0, sO1, sO2, sA2, sL2, sO3, sA3, sL3, sO4, sA4, sL4, sO5, sA5, sL5, sO6, sA6, sL6, sO7, sA7, sL7, sO8, sA8, sL8, sO9, sO10, sA10, sL10, sO11, sA11, sL11, sO12, sA12, sL12, sO13, sO14, sA14, sL14, sO15, sA15, sL15, sO16, sA16, sL16, sO17, sA17, sL17, sO18, sA18, sL18, sO19, sA19, sL19, sO20, sO21, sA21, sL21, sO22, sA22, sL22, sO23, sA23, sL23, sO24, sA24, sL24, sO25, sO26, sA26, sL26, sO27, sA27, sL27, sO28, sA28, sL28, sO29, sA29, sL29, sO30, sA30, sL30, sO31, sA31, sL31, sO32, sA32, sL32, sO33, sO34, sA34, sL34, sO35, sA35, sL35, sO36, sA36, sL36, sO37, sO38, sA38, sL38, sO39, sA39, sL39, sO40, sA40, sL40, sO41, sO42, sA42, sL42, sO43, sA43, sL43, sO44, sA44, sL44, sO45, sO46, sA46, sL46, sO47, sA47, sL47, sO48, sA48, sL48, sO49, sA49, sL49, sO50, sA50, sL50, sO51, sA51, sL51, sO52, sA52, sL52, sO53, sA53, sL53, sO54, sA54, sL54, sO55, sA55, sL55, sO56, sA56, sL56, sO57, sA57, sL57, sO58, sA58, sL58, sO59, sA59, sL59, sO60, sA60, sL60, sO61, sA61, sL61, sO62, sA62, sL62, sO63, sA63, sL63, sO64, sA64, sL64, sO65, sA65, sL65, sO66, sA66, sL66, sO67, sA67, sL67, sO68, sA68, sL68, sO69, sA69, sL69, sO70, sA70, sL70, sO71, sA71, sL71, sO72, sA72, sL72, sO73, sA73, sL73, sO74, sA74, sL74, sO75, sA75, sL75, sO76, sA76, sL76, sO77, sA77, sL77, sO78, sA78, sL78, sO79, sA79, sL79, sO80, sA80, sL80, sO81, sA81, sL81, sO82, sA82, sL82, sO83, sA83, sL83, sO84, sA84, sL84, sO85, sA85, sL85, sO86, sA86, sL86, sO87, sA87, sL87, sR0_0, sR0_1, sR0_2, sR0_3, sR0_5, sR0_6, sR0_8, sR0_10, sR0_11, sR0_12, sR0_13, sR1_0, sR6_0, sR6_1, sR6_2, sR9_0, sR9_1, sR9_2, sR13_0, sR13_1, sR13_2, sR13_3, sR13_4, sR13_5, sR20_0, sR20_1, sR20_2, sR20_3, sR25_0, sR25_1, sR25_2, sR25_4, sR25_5, sR25_6, sR25_7, sR33_2, sR33_3, sR37_2, sR37_3, sR41_2, sR41_3, sR45_0, sR45_1, sR45_3, sR45_4, sR45_5, sR45_6, sR45_7, sR45_8, sR45_9, sR45_10, sR45_12, sR45_13, sR45_14, sR45_15, sR45_16, sR45_17, sR45_18, sR45_19, sR45_20, sR45_21, sR45_22, sR45_25, sR45_26, sR45_27, sR45_28, sR45_29, sR45_30, sR45_31, sR45_32, sR45_33, sR45_34, sR45_35, sR45_36, sR45_40, sR45_41, sR45_42, sR45_43, sR45_45, sR45_46, sR45_47, sR45_48, sR45_49]
      simp only [Nat.reduceEqDiff, and_false, if_false, b2, nI_0, if_true]
    · refine ⟨Nat.zero_le _, fun j hj => absurd hj (Nat.not_lt_zero j), by rw [u.2 _ _ (by omega)]; exact i3, by rw [xI_sI, if_pos ⟨rfl, rfl⟩], fun _ => by rw [u.2 _ _ (by omega)]; exact e9, fun w => absurd w (by decide)⟩
  · by_cases c1 : z = nJ h
    · obtain ⟨i7, i8⟩ := i6 (by omega)
      rw [c1] at i2 i3 i4 i7 i8
      obtain ⟨h2, q1, q2, q3, q4, q5⟩ := planM_e hs (by omega) b3 b2 i2
      refine ⟨_, h, h2, ?_, hs, q1, ⟨ij.fr q2 (fun a k w => by omega) (by omega), s, p, d, nJ h, ?_⟩, q2.mono (fun a k w => by unfold PPl; omega)⟩
      · simp only [f_X9_plan, f_X4_findPlan, i3, b1, i7, hs, and_self, if_true, if_false, n_1_0, n_0_0, okOb_sI, okAb_sI, okOb_sW, okAb_sW, vl_e, un_e, nl_s, nl_n, bnd_e, gd_e, SH_sI, SH_sW, xI_sI, xR_sI, xL_sI, xK_sI, xN_sI, gI_sW, xR_sW, xL_sW, xK_sW, xN_sW, sO0, sO1, sO2, sA2, sL2, sO3, sA3, sL3, sO4, sA4, sL4, sO5, sA5, sL5, sO6, sA6, sL6, sO7, sA7, sL7, sO8, sA8, sL8, sO9, sO10, sA10, sL10, sO11, sA11, sL11, sO12, sA12, sL12, sO13, sO14, sA14, sL14, sO15, sA15, sL15, sO16, sA16, sL16, sO17, sA17, sL17, sO18, sA18, sL18, sO19, sA19, sL19, sO20, sO21, sA21, sL21, sO22, sA22, sL22, sO23, sA23, sL23, sO24, sA24, sL24, sO25, sO26, sA26, sL26, sO27, sA27, sL27, sO28, sA28, sL28, sO29, sA29, sL29, sO30, sA30, sL30, sO31, sA31, sL31, sO32, sA32, sL32, sO33, sO34, sA34, sL34, sO35, sA35, sL35, sO36, sA36, sL36, sO37, sO38, sA38, sL38, sO39, sA39, sL39, sO40, sA40, sL40, sO41, sO42, sA42, sL42, sO43, sA43, sL43, sO44, sA44, sL44, sO45, sO46, sA46, sL46, sO47, sA47, sL47, sO48, sA48, sL48, sO49, sA49, sL49, sO50, sA50, sL50, sO51, sA51, sL51, sO52, sA52, sL52, sO53, sA53, sL53, sO54, sA54, sL54, sO55, sA55, sL55, sO56, sA56, sL56, sO57, sA57, sL57, sO58, sA58, sL58, sO59, sA59, sL59, sO60, sA60, sL60, sO61, sA61, sL61, sO62, sA62, sL62, sO63, sA63, sL63, sO64, sA64, sL64, sO65, sA65, sL65, sO66, sA66, sL66, sO67, sA67, sL67, sO68, sA68, sL68, sO69, sA69, sL69, sO70, sA70, sL70, sO71, sA71, sL71, sO72, sA72, sL72, sO73, sA73, sL73, sO74, sA74, sL74, sO75, sA75, sL75, sO76, sA76, sL76, sO77, sA77, sL77, sO78, sA78, sL78, sO79, sA79, sL79, sO80, sA80, sL80, sO81, sA81, sL81, sO82, sA82, sL82, sO83, sA83, sL83, sO84, sA84, sL84, sO85, sA85, sL85, sO86, sA86, sL86, sO87, sA87, sL87, sR0_0, sR0_1, sR0_2, sR0_3, sR0_5, sR0_6, sR0_8, sR0_10, sR0_11, sR0_12, sR0_13, sR1_0, sR6_0, sR6_1, sR6_2, sR9_0, sR9_1, sR9_2, sR13_0, sR13_1, sR13_2, sR13_3, sR13_4, sR13_5, sR20_0, sR20_1, sR20_2, sR20_3, sR25_0, sR25_1, sR25_2, sR25_4, sR25_5, sR25_6, sR25_7, sR33_2, sR33_3, sR37_2, sR37_3, sR41_2, sR41_3, sR45_0, sR45_1, sR45_3, sR45_4, sR45_5, sR45_6, sR45_7, sR45_8, sR45_9, sR45_10, sR45_12, sR45_13, sR45_14, sR45_15, sR45_16, sR45_17, sR45_18, sR45_19, sR45_20, sR45_21, sR45_22, sR45_25, sR45_26, sR45_27, sR45_28, sR45_29, sR45_30, sR45_31, sR45_32, sR45_33, sR45_34, sR45_35, sR45_36, sR45_40, sR45_41, sR45_42, sR45_43, sR45_45, sR45_46, sR45_47, sR45_48, sR45_49]
      · refine ⟨?_, i2.fr q2 (fun a k w _ => by omega), by rw [q2.2 _ _ (by omega)]; exact i3, q3, fun w => absurd w c0, fun _ => ⟨by rw [q2.2 _ _ (by omega)]; exact i7, fun k hk => ⟨⟨?_, (q5 k hk).1⟩, ?_, (q5 k hk).2⟩⟩⟩
        · rw [(IJ.eqs q2 (fun a k w => by omega) (by omega)).1]; exact Nat.le_refl _
        · rw [q2.2 _ _ (by omega)]; exact (i8 k hk).1.1
        · rw [q2.2 _ _ (by omega)]; exact (i8 k hk).2.1
    · have jd0 : JD h (js h) (jp h) (jd h) (nJ h) := b4
      obtain ⟨hA, A1, A2, A3, A4, A5⟩ := planC_e hs (z := z) (n := nJ h) (by omega) b3 (by omega) c1 b1 i3 jd0
      have hsA := A2.sh hs
      obtain ⟨h2, q1, q2, q3, q4, q5⟩ := planM_e hsA (n := nJ h) (by omega) b3 (by rw [A2.2 _ _ (by omega)]; exact b2) (jd0.fr A2 (fun a k w _ => by omega))
      have u : Upd h h2 PPl := (A2.mono (fun a k w => by unfold PPl; omega)).tr (q2.mono (fun a k w => by unfold PPl; omega))
      refine ⟨_, hA, h2, A1, hsA, q1, ⟨ij.fr u (fun a k w => by unfold PPl; omega) (by unfold PPl; omega), js h, jp h, jd h, nJ h, ?_⟩, u⟩
      refine ⟨?_, jd0.fr u (fun a k w _ => by unfold PPl; omega), by rw [q2.2 _ _ (by omega)]; exact A3, q3, fun w => absurd w c0, fun _ => ⟨by rw [q2.2 _ _ (by omega)]; exact A4, fun k hk => ⟨⟨?_, (q5 k hk).1⟩, ?_, (q5 k hk).2⟩⟩⟩
      · rw [(IJ.eqs u (fun a k w => by unfold PPl; omega) (by unfold PPl; omega)).1]; exact Nat.le_refl _
      · rw [q2.2 _ _ (by omega)]; exact (A5 q4 k hk).1
      · rw [q2.2 _ _ (by omega)]; exact (A5 q4 k hk).2
