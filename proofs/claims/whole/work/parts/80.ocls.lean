def oS (Q : Nat → Nat → Nat) (n U : Nat) : Nat × Nat × List Nat := smr Q (pms (crd n U) (SS n U))
def yO (Q : Nat → Nat → Nat) (n U j : Nat) : Nat × Nat × List Nat := hdO (smN (bf (Q j) (rst U j)) n) j (oS Q n (rst U j))
def chn (Q : Nat → Nat → Nat) (n U : Nat) : Nat → Nat × Nat × List Nat
  | 0 => e0O
  | j + 1 => if U.testBit j = true then cmb (chn Q n U j) (yO Q n U j) else chn Q n U j
theorem fold_1 {Q : Nat → Nat → Nat} : ∀ (L : List (List Nat)) (x : Nat × Nat × List Nat), (L.foldl (stO Q) x).1 ≤ x.1
  | [], _ => Nat.le_refl _
  | r :: L, x => by
    rw [List.foldl_cons]
    refine Nat.le_trans (fold_1 L _) ?_
    unfold stO
    by_cases c : cst Q r < x.1
    · rw [if_pos c]; show cst Q r ≤ _; omega
    · rw [if_neg c]
      by_cases c2 : cst Q r = x.1
      · rw [if_pos c2]; exact Nat.le_refl _
      · rw [if_neg c2]; exact Nat.le_refl _
theorem smr_lt {Q : Nat → Nat → Nat} {b : Nat} {L : List (List Nat)} (hb : b ≤ 1000000) (h : ∀ r ∈ L, cst Q r < b) (hL : L ≠ []) : (smr Q L).1 < b := by
  cases L with
  | nil => exact absurd rfl hL
  | cons r L =>
    have hr := h r List.mem_cons_self
    unfold smr
    rw [List.foldl_cons]
    refine Nat.lt_of_le_of_lt (fold_1 L _) ?_
    have e2 : stO Q e0O r = (cst Q r, 1, r) := if_pos (by show cst Q r < 1000000; omega)
    rw [e2]; exact hr
theorem crd_le {n U : Nat} : crd n U ≤ n := by
  unfold crd SS
  refine Nat.le_trans (List.length_filter_le _ _) ?_
  rw [List.length_range]; exact Nat.le_refl _
theorem oS_lt {Q : Nat → Nat → Nat} (hQ : ∀ a k, Q a k ≤ 6) {n U : Nat} (hn : n ≤ 7) (hU : U < 128) : (oS Q n U).1 < 1000 := by
  refine smr_lt (by decide) (fun r hr => ?_) (pms_ne hn hU rfl)
  have l := pms_len hr
  have c := crd_le (n := n) (U := U)
  have := cst_le hQ r 7 (by omega) (by omega)
  omega
theorem smN_bf {f : Nat → Nat} (h : ∀ k, f k ≤ 6) (U n : Nat) : smN (bf f U) n ≤ 6 * n := smN_le (fun k => by unfold bf; split; exact h k; omega) n
theorem yO_lt {Q : Nat → Nat → Nat} (hQ : ∀ a k, Q a k ≤ 6) {n U j : Nat} (hn : n ≤ 7) (hU : U < 128) : (yO Q n U j).1 < 2000 := by
  have a := oS_lt hQ (n := n) (U := rst U j) hn (Nat.lt_of_le_of_lt Nat.and_le_left hU)
  have b := smN_bf (hQ j) (rst U j) n
  show smN (bf (Q j) (rst U j)) n + (oS Q n (rst U j)).1 < 2000
  omega
theorem rst_lt {U j : Nat} (hU : U < 128) : rst U j < 128 := Nat.lt_of_le_of_lt Nat.and_le_left hU
theorem oS_chn {Q : Nat → Nat → Nat} (hQ : ∀ a k, Q a k ≤ 6) {n U : Nat} (hn : n ≤ 7) (hU : U < 128) (hc : crd n U ≠ 0) : oS Q n U = chn Q n U n := by
  obtain ⟨m, hm⟩ : ∃ m, crd n U = m + 1 := ⟨crd n U - 1, by omega⟩
  unfold oS smr
  rw [hm, pms]
  unfold SS
  rw [flat_filter]
  have key : ∀ j, j ≤ n → ((List.range j).flatMap (fun j => if U.testBit j = true then (pms m (List.filter (fun x => !Nat.beq x j) (List.filter (fun j => U.testBit j) (List.range n)))).map (fun l => j :: l) else [])).foldl (stO Q) e0O = chn Q n U j := by
    intro j
    induction j with
    | zero => intro _; rfl
    | succ j ih =>
      intro hj
      rw [flat_s, ih (by omega), chn]
      by_cases b : U.testBit j = true
      · rw [if_pos b, if_pos b]
        have e := SS_rst hn hU (j := j) (by omega)
        unfold SS at e
        rw [e]
        have c1 := Nat.eq_of_beq_eq_true (crd_s n (by omega) U hU j (by omega) (by simp [b]; omega))
        have hcr : crd n (rst U j) = m := by omega
        have hne := pms_ne hn (rst_lt (j := j) hU) hcr
        have hsum : ∀ r ∈ pms m (SS n (rst U j)), lsm (Q j) r = smN (bf (Q j) (rst U j)) n := fun r hr => pms_sum hn (rst_lt hU) hcr hr
        have hbd : ∀ r ∈ pms m (SS n (rst U j)), smN (bf (Q j) (rst U j)) n + cst Q r < 1000000 := fun r hr => by
          have l := pms_len hr
          have c := crd_le (n := n) (U := U)
          have := cst_le hQ r 7 (by omega) (by omega)
          have := smN_bf (hQ j) (rst U j) n
          omega
        have x1 : (chn Q n U j).1 ≤ 1000000 := by rw [← ih (by omega)]; exact fold_1 _ _
        rw [fold_c _ _ ?_ x1]
        · congr 1
          have := smr_h hsum hbd hne
          unfold SS at this
          rw [this]
          unfold yO oS SS
          rw [hcr]
        · intro r hr
          rw [List.mem_map] at hr
          obtain ⟨q, hq, rfl⟩ := hr
          have hq' : q ∈ pms m (SS n (rst U j)) := hq
          rw [cst, hsum q hq']
          exact hbd q hq'
      · rw [if_neg b, if_neg b, List.foldl_nil]
  exact key n (Nat.le_refl _)
theorem chn_sp {Q : Nat → Nat → Nat} (hQ : ∀ a k, Q a k ≤ 6) {n U : Nat} (hn : n ≤ 7) (hU : U < 128) : ∀ j, (chn Q n U j = e0O ∧ ∀ k, k < j → U.testBit k = false) ∨ ∃ j0, j0 < j ∧ U.testBit j0 = true ∧ (chn Q n U j).1 = (yO Q n U j0).1 ∧ (chn Q n U j).2.2 = (yO Q n U j0).2.2 ∧ (∀ k, k < j0 → U.testBit k = true → (chn Q n U j).1 < (yO Q n U k).1) ∧ ∀ k, k < j → U.testBit k = true → (chn Q n U j).1 ≤ (yO Q n U k).1
  | 0 => Or.inl ⟨rfl, fun k hk => absurd hk (Nat.not_lt_zero k)⟩
  | j + 1 => by
    have ih := chn_sp hQ hn hU (n := n) j
    rw [chn]
    cases b : U.testBit j with
    | false =>
      rw [if_neg (by decide)]
      rcases ih with ⟨i1, i2⟩ | ⟨j0, i1, i2, i3, i4, i5, i6⟩
      · refine Or.inl ⟨i1, fun k hk => ?_⟩
        by_cases c : k = j
        · rw [c]; exact b
        · exact i2 k (by omega)
      · refine Or.inr ⟨j0, by omega, i2, i3, i4, i5, fun k hk hb => ?_⟩
        by_cases c : k = j
        · rw [c, b] at hb; exact absurd hb (by decide)
        · exact i6 k (by omega) hb
    | true =>
      rw [if_pos rfl]
      have hy := yO_lt hQ (n := n) (U := U) (j := j) hn hU
      right
      rcases ih with ⟨i1, i2⟩ | ⟨j0, i1, i2, i3, i4, i5, i6⟩
      · rw [i1, cmb_lt (by show (yO Q n U j).1 < 1000000; omega)]
        refine ⟨j, by omega, b, rfl, rfl, fun k hk hb => ?_, fun k hk hb => ?_⟩
        · rw [i2 k hk] at hb; exact absurd hb (by decide)
        · by_cases c : k = j
          · rw [c]; exact Nat.le_refl _
          · rw [i2 k (by omega)] at hb; exact absurd hb (by decide)
      · rcases Nat.lt_trichotomy (yO Q n U j).1 (chn Q n U j).1 with c | c | c
        · rw [cmb_lt c]
          refine ⟨j, by omega, b, rfl, rfl, fun k hk hb => ?_, fun k hk hb => ?_⟩
          · have := i6 k hk hb; omega
          · by_cases ck : k = j
            · rw [ck]; exact Nat.le_refl _
            · have := i6 k (by omega) hb; omega
        · rw [cmb_eq c]
          refine ⟨j0, by omega, i2, i3, i4, i5, fun k hk hb => ?_⟩
          by_cases ck : k = j
          · rw [ck]; show (chn Q n U j).1 ≤ _; omega
          · exact i6 k (by omega) hb
        · rw [cmb_gt c]
          refine ⟨j0, by omega, i2, i3, i4, i5, fun k hk hb => ?_⟩
          by_cases ck : k = j
          · rw [ck]; omega
          · exact i6 k (by omega) hb
theorem mul7 (n : Nat) : nI n * (7 : Int32) = nI (n * 7) := by rw [show (7 : Int32) = nI 7 from rfl, pk_mul]
/-- what the class's table holds -/
def TB (h : Hp) (Q : Nat → Nat → Nat) (n b : Nat) : Prop := gI h 13 6 = nI n ∧ (∀ a k, a < n → k < n → gI h 16 (a * 7 + k) = nI (Q a k)) ∧ ∀ S, S < b → gI h 17 S = nI (oS Q n S).1 ∧ gI h 18 S = nI (oS Q n S).2.1
set_option maxRecDepth 100000 in
theorem withHead_e {h : Hp} (hs : SH h) {Q : Nat → Nat → Nat} {n U j b : Nat} (hn : n ≤ 7) (hU : U < 128) (hj : j < n) (hb : rst U j < b) (t : TB h Q n b) : f_X0_withHead h 13 (nI j) (nI U) = some (nI (yO Q n U j).1, h) := by
  obtain ⟨t1, t2, t3⟩ := t
  have hr := rst_lt (j := j) hU
  have x1 : (nI (rst U j)).toNatClampNeg = rst U j := nI_clamp (by omega)
  have x2 : inB (nI (rst U j)) 128 = true := inB_nI hr (by decide)
  have E : f_X0_withHead h 13 (nI j) (nI U) = f_X0_withHead_L19 6000 13 (nI j) (nI U) (nI (rst U j)) (nI ((oS Q n (rst U j)).1 + smN (bf (Q j) (rst U j)) 0)) (nI 0) h := by
    simp only [f_X0_withHead, rst_i U hU j (by omega), x1, x2, (t3 _ hb).1, hs, and_self, if_true, if_false, n_1_0, n_0_0, okOb_sI, okAb_sI, okOb_sW, okAb_sW, vl_e, un_e, nl_s, nl_n, bnd_e, gd_e, SH_sI, SH_sW, xI_sI, xR_sI, xL_sI, xK_sI, xN_sI, gI_sW, xR_sW, xL_sW, xK_sW, xN_sW, sO0, sO1, sO2, sA2, sL2, sO3, sA3, sL3, sO4, sA4, sL4, sO5, sA5, sL5, sO6, sA6, sL6, sO7, sA7, sL7, sO8, sA8, sL8, sO9, sO10, sA10, sL10, sO11, sA11, sL11, sO12, sA12, sL12, sO13, sO14, sA14, sL14, sO15, sA15, sL15, sO16, sA16, sL16, sO17, sA17, sL17, sO18, sA18, sL18, sO19, sA19, sL19, sO20, sO21, sA21, sL21, sO22, sA22, sL22, sO23, sA23, sL23, sO24, sA24, sL24, sO25, sO26, sA26, sL26, sO27, sA27, sL27, sO28, sA28, sL28, sO29, sA29, sL29, sO30, sA30, sL30, sO31, sA31, sL31, sO32, sA32, sL32, sO33, sO34, sA34, sL34, sO35, sA35, sL35, sO36, sA36, sL36, sO37, sO38, sA38, sL38, sO39, sA39, sL39, sO40, sA40, sL40, sO41, sO42, sA42, sL42, sO43, sA43, sL43, sO44, sA44, sL44, sO45, sO46, sA46, sL46, sO47, sA47, sL47, sO48, sA48, sL48, sO49, sA49, sL49, sO50, sA50, sL50, sO51, sA51, sL51, sO52, sA52, sL52, sO53, sA53, sL53, sO54, sA54, sL54, sO55, sA55, sL55, sO56, sA56, sL56, sO57, sA57, sL57, sO58, sA58, sL58, sO59, sA59, sL59, sO60, sA60, sL60, sO61, sA61, sL61, sO62, sA62, sL62, sO63, sA63, sL63, sO64, sA64, sL64, sO65, sA65, sL65, sO66, sA66, sL66, sO67, sA67, sL67, sO68, sA68, sL68, sO69, sA69, sL69, sO70, sA70, sL70, sO71, sA71, sL71, sO72, sA72, sL72, sO73, sA73, sL73, sO74, sA74, sL74, sO75, sA75, sL75, sO76, sA76, sL76, sO77, sA77, sL77, sO78, sA78, sL78, sO79, sA79, sL79, sO80, sA80, sL80, sO81, sA81, sL81, sO82, sA82, sL82, sO83, sA83, sL83, sO84, sA84, sL84, sO85, sA85, sL85, sO86, sA86, sL86, sO87, sA87, sL87, sR0_0, sR0_1, sR0_2, sR0_3, sR0_5, sR0_6, sR0_8, sR0_10, sR0_11, sR0_12, sR0_13, sR1_0, sR6_0, sR6_1, sR6_2, sR9_0, sR9_1, sR9_2, sR13_0, sR13_1, sR13_2, sR13_3, sR13_4, sR13_5, sR20_0, sR20_1, sR20_2, sR20_3, sR25_0, sR25_1, sR25_2, sR25_4, sR25_5, sR25_6, sR25_7, sR33_2, sR33_3, sR37_2, sR37_3, sR41_2, sR41_3, sR45_0, sR45_1, sR45_3, sR45_4, sR45_5, sR45_6, sR45_7, sR45_8, sR45_9, sR45_10, sR45_12, sR45_13, sR45_14, sR45_15, sR45_16, sR45_17, sR45_18, sR45_19, sR45_20, sR45_21, sR45_22, sR45_25, sR45_26, sR45_27, sR45_28, sR45_29, sR45_30, sR45_31, sR45_32, sR45_33, sR45_34, sR45_35, sR45_36, sR45_40, sR45_41, sR45_42, sR45_43, sR45_45, sR45_46, sR45_47, sR45_48, sR45_49]
    rfl
  rw [E, show (yO Q n U j).1 = (oS Q n (rst U j)).1 + smN (bf (Q j) (rst U j)) n from Nat.add_comm _ _]
  refine forU n (fun m k => f_X0_withHead_L19 m 13 (nI j) (nI U) (nI (rst U j)) (nI ((oS Q n (rst U j)).1 + smN (bf (Q j) (rst U j)) k)) (nI k) h) _ ?_ ?_ n 6000 0 (by omega) (by omega)
  · intro m k hk
    have x0 : ¬ nI n ≤ nI k := nI_ge hk (by omega)
    have x3 : (nI (j * 7 + k)).toNatClampNeg = j * 7 + k := nI_clamp (by omega)
    have x4 : inB (nI (j * 7 + k)) 49 = true := inB_nI (by omega) (by decide)
    have e : smN (bf (Q j) (rst U j)) (k + 1) = smN (bf (Q j) (rst U j)) k + (if (rst U j).testBit k = true then Q j k else 0) := rfl
    rw [f_X0_withHead_L19, e]
    cases cb : (rst U j).testBit k with
    | true =>
      have y1 : ¬ ((nI (rst U j) >>> (nI k &&& 31)) &&& (1 : Int32)) = 0 := fun w => by
        have := (bit_t _ hr k (by omega)).mp w
        rw [cb] at this; exact absurd this (by decide)
      simp only [t1, x0, y1, mul7, nI_add, x3, x4, t2 j k hj hk, nI_1, Nat.add_assoc, hs, and_self, if_true, if_false, n_1_0, n_0_0, okOb_sI, okAb_sI, okOb_sW, okAb_sW, vl_e, un_e, nl_s, nl_n, bnd_e, gd_e, SH_sI, SH_sW, xI_sI, xR_sI, xL_sI, xK_sI, xN_sI, gI_sW, xR_sW, xL_sW, xK_sW, xN_sW, sO0, sO1, sO2, sA2, sL2, sO3, sA3, sL3, sO4, sA4, sL4, sO5, sA5, sL5, sO6, sA6, sL6, sO7, sA7, sL7, sO8, sA8, sL8, sO9, sO10, sA10, sL10, sO11, sA11, sL11, sO12, sA12, sL12, sO13, sO14, sA14, sL14, sO15, sA15, sL15, sO16, sA16, sL16, sO17, sA17, sL17, sO18, sA18, sL18, sO19, sA19, sL19, sO20, sO21, sA21, sL21, sO22, sA22, sL22, sO23, sA23, sL23, sO24, sA24, sL24, sO25, sO26, sA26, sL26, sO27, sA27, sL27, sO28, sA28, sL28, sO29, sA29, sL29, sO30, sA30, sL30, sO31, sA31, sL31, sO32, sA32, sL32, sO33, sO34, sA34, sL34, sO35, sA35, sL35, sO36, sA36, sL36, sO37, sO38, sA38, sL38, sO39, sA39, sL39, sO40, sA40, sL40, sO41, sO42, sA42, sL42, sO43, sA43, sL43, sO44, sA44, sL44, sO45, sO46, sA46, sL46, sO47, sA47, sL47, sO48, sA48, sL48, sO49, sA49, sL49, sO50, sA50, sL50, sO51, sA51, sL51, sO52, sA52, sL52, sO53, sA53, sL53, sO54, sA54, sL54, sO55, sA55, sL55, sO56, sA56, sL56, sO57, sA57, sL57, sO58, sA58, sL58, sO59, sA59, sL59, sO60, sA60, sL60, sO61, sA61, sL61, sO62, sA62, sL62, sO63, sA63, sL63, sO64, sA64, sL64, sO65, sA65, sL65, sO66, sA66, sL66, sO67, sA67, sL67, sO68, sA68, sL68, sO69, sA69, sL69, sO70, sA70, sL70, sO71, sA71, sL71, sO72, sA72, sL72, sO73, sA73, sL73, sO74, sA74, sL74, sO75, sA75, sL75, sO76, sA76, sL76, sO77, sA77, sL77, sO78, sA78, sL78, sO79, sA79, sL79, sO80, sA80, sL80, sO81, sA81, sL81, sO82, sA82, sL82, sO83, sA83, sL83, sO84, sA84, sL84, sO85, sA85, sL85, sO86, sA86, sL86, sO87, sA87, sL87, sR0_0, sR0_1, sR0_2, sR0_3, sR0_5, sR0_6, sR0_8, sR0_10, sR0_11, sR0_12, sR0_13, sR1_0, sR6_0, sR6_1, sR6_2, sR9_0, sR9_1, sR9_2, sR13_0, sR13_1, sR13_2, sR13_3, sR13_4, sR13_5, sR20_0, sR20_1, sR20_2, sR20_3, sR25_0, sR25_1, sR25_2, sR25_4, sR25_5, sR25_6, sR25_7, sR33_2, sR33_3, sR37_2, sR37_3, sR41_2, sR41_3, sR45_0, sR45_1, sR45_3, sR45_4, sR45_5, sR45_6, sR45_7, sR45_8, sR45_9, sR45_10, sR45_12, sR45_13, sR45_14, sR45_15, sR45_16, sR45_17, sR45_18, sR45_19, sR45_20, sR45_21, sR45_22, sR45_25, sR45_26, sR45_27, sR45_28, sR45_29, sR45_30, sR45_31, sR45_32, sR45_33, sR45_34, sR45_35, sR45_36, sR45_40, sR45_41, sR45_42, sR45_43, sR45_45, sR45_46, sR45_47, sR45_48, sR45_49]
    | false =>
      have y1 : ((nI (rst U j) >>> (nI k &&& 31)) &&& (1 : Int32)) = 0 := (bit_t _ hr k (by omega)).mpr cb
      simp only [t1, x0, y1, nI_1, Bool.false_eq_true, Nat.add_zero, hs, and_self, if_true, if_false, n_1_0, n_0_0, okOb_sI, okAb_sI, okOb_sW, okAb_sW, vl_e, un_e, nl_s, nl_n, bnd_e, gd_e, SH_sI, SH_sW, xI_sI, xR_sI, xL_sI, xK_sI, xN_sI, gI_sW, xR_sW, xL_sW, xK_sW, xN_sW, sO0, sO1, sO2, sA2, sL2, sO3, sA3, sL3, sO4, sA4, sL4, sO5, sA5, sL5, sO6, sA6, sL6, sO7, sA7, sL7, sO8, sA8, sL8, sO9, sO10, sA10, sL10, sO11, sA11, sL11, sO12, sA12, sL12, sO13, sO14, sA14, sL14, sO15, sA15, sL15, sO16, sA16, sL16, sO17, sA17, sL17, sO18, sA18, sL18, sO19, sA19, sL19, sO20, sO21, sA21, sL21, sO22, sA22, sL22, sO23, sA23, sL23, sO24, sA24, sL24, sO25, sO26, sA26, sL26, sO27, sA27, sL27, sO28, sA28, sL28, sO29, sA29, sL29, sO30, sA30, sL30, sO31, sA31, sL31, sO32, sA32, sL32, sO33, sO34, sA34, sL34, sO35, sA35, sL35, sO36, sA36, sL36, sO37, sO38, sA38, sL38, sO39, sA39, sL39, sO40, sA40, sL40, sO41, sO42, sA42, sL42, sO43, sA43, sL43, sO44, sA44, sL44, sO45, sO46, sA46, sL46, sO47, sA47, sL47, sO48, sA48, sL48, sO49, sA49, sL49, sO50, sA50, sL50, sO51, sA51, sL51, sO52, sA52, sL52, sO53, sA53, sL53, sO54, sA54, sL54, sO55, sA55, sL55, sO56, sA56, sL56, sO57, sA57, sL57, sO58, sA58, sL58, sO59, sA59, sL59, sO60, sA60, sL60, sO61, sA61, sL61, sO62, sA62, sL62, sO63, sA63, sL63, sO64, sA64, sL64, sO65, sA65, sL65, sO66, sA66, sL66, sO67, sA67, sL67, sO68, sA68, sL68, sO69, sA69, sL69, sO70, sA70, sL70, sO71, sA71, sL71, sO72, sA72, sL72, sO73, sA73, sL73, sO74, sA74, sL74, sO75, sA75, sL75, sO76, sA76, sL76, sO77, sA77, sL77, sO78, sA78, sL78, sO79, sA79, sL79, sO80, sA80, sL80, sO81, sA81, sL81, sO82, sA82, sL82, sO83, sA83, sL83, sO84, sA84, sL84, sO85, sA85, sL85, sO86, sA86, sL86, sO87, sA87, sL87, sR0_0, sR0_1, sR0_2, sR0_3, sR0_5, sR0_6, sR0_8, sR0_10, sR0_11, sR0_12, sR0_13, sR1_0, sR6_0, sR6_1, sR6_2, sR9_0, sR9_1, sR9_2, sR13_0, sR13_1, sR13_2, sR13_3, sR13_4, sR13_5, sR20_0, sR20_1, sR20_2, sR20_3, sR25_0, sR25_1, sR25_2, sR25_4, sR25_5, sR25_6, sR25_7, sR33_2, sR33_3, sR37_2, sR37_3, sR41_2, sR41_3, sR45_0, sR45_1, sR45_3, sR45_4, sR45_5, sR45_6, sR45_7, sR45_8, sR45_9, sR45_10, sR45_12, sR45_13, sR45_14, sR45_15, sR45_16, sR45_17, sR45_18, sR45_19, sR45_20, sR45_21, sR45_22, sR45_25, sR45_26, sR45_27, sR45_28, sR45_29, sR45_30, sR45_31, sR45_32, sR45_33, sR45_34, sR45_35, sR45_36, sR45_40, sR45_41, sR45_42, sR45_43, sR45_45, sR45_46, sR45_47, sR45_48, sR45_49]
  · intro m
    have x0 : nI n ≤ nI n := nI_le (Nat.le_refl _) (by omega)
    rw [f_X0_withHead_L19]
    simp only [t1, x0, hs, and_self, if_true, if_false, n_1_0, n_0_0, okOb_sI, okAb_sI, okOb_sW, okAb_sW, vl_e, un_e, nl_s, nl_n, bnd_e, gd_e, SH_sI, SH_sW, xI_sI, xR_sI, xL_sI, xK_sI, xN_sI, gI_sW, xR_sW, xL_sW, xK_sW, xN_sW, sO0, sO1, sO2, sA2, sL2, sO3, sA3, sL3, sO4, sA4, sL4, sO5, sA5, sL5, sO6, sA6, sL6, sO7, sA7, sL7, sO8, sA8, sL8, sO9, sO10, sA10, sL10, sO11, sA11, sL11, sO12, sA12, sL12, sO13, sO14, sA14, sL14, sO15, sA15, sL15, sO16, sA16, sL16, sO17, sA17, sL17, sO18, sA18, sL18, sO19, sA19, sL19, sO20, sO21, sA21, sL21, sO22, sA22, sL22, sO23, sA23, sL23, sO24, sA24, sL24, sO25, sO26, sA26, sL26, sO27, sA27, sL27, sO28, sA28, sL28, sO29, sA29, sL29, sO30, sA30, sL30, sO31, sA31, sL31, sO32, sA32, sL32, sO33, sO34, sA34, sL34, sO35, sA35, sL35, sO36, sA36, sL36, sO37, sO38, sA38, sL38, sO39, sA39, sL39, sO40, sA40, sL40, sO41, sO42, sA42, sL42, sO43, sA43, sL43, sO44, sA44, sL44, sO45, sO46, sA46, sL46, sO47, sA47, sL47, sO48, sA48, sL48, sO49, sA49, sL49, sO50, sA50, sL50, sO51, sA51, sL51, sO52, sA52, sL52, sO53, sA53, sL53, sO54, sA54, sL54, sO55, sA55, sL55, sO56, sA56, sL56, sO57, sA57, sL57, sO58, sA58, sL58, sO59, sA59, sL59, sO60, sA60, sL60, sO61, sA61, sL61, sO62, sA62, sL62, sO63, sA63, sL63, sO64, sA64, sL64, sO65, sA65, sL65, sO66, sA66, sL66, sO67, sA67, sL67, sO68, sA68, sL68, sO69, sA69, sL69, sO70, sA70, sL70, sO71, sA71, sL71, sO72, sA72, sL72, sO73, sA73, sL73, sO74, sA74, sL74, sO75, sA75, sL75, sO76, sA76, sL76, sO77, sA77, sL77, sO78, sA78, sL78, sO79, sA79, sL79, sO80, sA80, sL80, sO81, sA81, sL81, sO82, sA82, sL82, sO83, sA83, sL83, sO84, sA84, sL84, sO85, sA85, sL85, sO86, sA86, sL86, sO87, sA87, sL87, sR0_0, sR0_1, sR0_2, sR0_3, sR0_5, sR0_6, sR0_8, sR0_10, sR0_11, sR0_12, sR0_13, sR1_0, sR6_0, sR6_1, sR6_2, sR9_0, sR9_1, sR9_2, sR13_0, sR13_1, sR13_2, sR13_3, sR13_4, sR13_5, sR20_0, sR20_1, sR20_2, sR20_3, sR25_0, sR25_1, sR25_2, sR25_4, sR25_5, sR25_6, sR25_7, sR33_2, sR33_3, sR37_2, sR37_3, sR41_2, sR41_3, sR45_0, sR45_1, sR45_3, sR45_4, sR45_5, sR45_6, sR45_7, sR45_8, sR45_9, sR45_10, sR45_12, sR45_13, sR45_14, sR45_15, sR45_16, sR45_17, sR45_18, sR45_19, sR45_20, sR45_21, sR45_22, sR45_25, sR45_26, sR45_27, sR45_28, sR45_29, sR45_30, sR45_31, sR45_32, sR45_33, sR45_34, sR45_35, sR45_36, sR45_40, sR45_41, sR45_42, sR45_43, sR45_45, sR45_46, sR45_47, sR45_48, sR45_49]
def ClS (l2 l3 : Int32) (x : Nat × Nat × List Nat) : Prop := (x = e0O ∧ l2 = 2147483647 ∧ l3 = 0) ∨ (l2 = nI x.1 ∧ l3 = nI x.2.1 ∧ x.1 < 1000000)
theorem crd_p : ∀ n, n < 8 → ∀ U, U < 128 → (U < 2 ^ n && !Nat.beq U 0) = true → Nat.beq (crd n U) 0 = false := by decide +kernel
set_option maxRecDepth 100000 in
theorem solve_e {h : Hp} (hs : SH h) {Q : Nat → Nat → Nat} (hQ : ∀ a k, Q a k ≤ 6) {n U : Nat} (hn : n ≤ 7) (hU : U < 2 ^ n) (h0 : 1 ≤ U) (t : TB h Q n U) : f_X0_solve h 13 (nI U) = some ((), sI (sI h 17 U (nI (oS Q n U).1)) 18 U (nI (oS Q n U).2.1)) := by
  have hU7 : U < 128 := Nat.lt_of_lt_of_le hU (Nat.pow_le_pow_right (n := 2) (by decide) hn)
  have hc : crd n U ≠ 0 := fun w => by
    have e : Nat.beq U 0 = false := by
      cases e : Nat.beq U 0 with
      | false => rfl
      | true => have := Nat.eq_of_beq_eq_true e; omega
    have := crd_p n (by omega) U hU7 (by simp [hU, e])
    rw [w] at this; exact absurd this (by decide)
  have x1 : (nI U).toNatClampNeg = U := nI_clamp (by omega)
  have x2 : inB (nI U) 128 = true := inB_nI hU7 (by decide)
  rw [oS_chn hQ hn hU7 hc]
  unfold f_X0_solve
  refine forL n (fun m j (z : Int32 × Int32) => f_X0_solve_L8 m 13 (nI U) z.1 z.2 (nI j) h) (fun j z => ClS z.1 z.2 (chn Q n U j)) (fun r => r = some ((), sI (sI h 17 U (nI (chn Q n U n).1)) 18 U (nI (chn Q n U n).2.1))) ?_ ?_ n 6000 0 (2147483647, 0) (by omega) (by omega) (Or.inl ⟨rfl, rfl, rfl⟩)
  · intro m j z hj I
    have x0 : ¬ nI n ≤ nI j := nI_ge hj (by omega)
    rw [f_X0_solve_L8, chn]
    cases cb : U.testBit j with
    | false =>
      have y1 : ((nI U >>> (nI j &&& 31)) &&& (1 : Int32)) = 0 := (bit_t _ hU7 j (by omega)).mpr cb
      refine Or.inr ⟨z, ?_, ?_⟩
      · simp only [t.1, x0, y1, nI_1, hs, and_self, if_true, if_false, n_1_0, n_0_0, okOb_sI, okAb_sI, okOb_sW, okAb_sW, vl_e, un_e, nl_s, nl_n, bnd_e, gd_e, SH_sI, SH_sW, xI_sI, xR_sI, xL_sI, xK_sI, xN_sI, gI_sW, xR_sW, xL_sW, xK_sW, xN_sW, sO0, sO1, sO2, sA2, sL2, sO3, sA3, sL3, sO4, sA4, sL4, sO5, sA5, sL5, sO6, sA6, sL6, sO7, sA7, sL7, sO8, sA8, sL8, sO9, sO10, sA10, sL10, sO11, sA11, sL11, sO12, sA12, sL12, sO13, sO14, sA14, sL14, sO15, sA15, sL15, sO16, sA16, sL16, sO17, sA17, sL17, sO18, sA18, sL18, sO19, sA19, sL19, sO20, sO21, sA21, sL21, sO22, sA22, sL22, sO23, sA23, sL23, sO24, sA24, sL24, sO25, sO26, sA26, sL26, sO27, sA27, sL27, sO28, sA28, sL28, sO29, sA29, sL29, sO30, sA30, sL30, sO31, sA31, sL31, sO32, sA32, sL32, sO33, sO34, sA34, sL34, sO35, sA35, sL35, sO36, sA36, sL36, sO37, sO38, sA38, sL38, sO39, sA39, sL39, sO40, sA40, sL40, sO41, sO42, sA42, sL42, sO43, sA43, sL43, sO44, sA44, sL44, sO45, sO46, sA46, sL46, sO47, sA47, sL47, sO48, sA48, sL48, sO49, sA49, sL49, sO50, sA50, sL50, sO51, sA51, sL51, sO52, sA52, sL52, sO53, sA53, sL53, sO54, sA54, sL54, sO55, sA55, sL55, sO56, sA56, sL56, sO57, sA57, sL57, sO58, sA58, sL58, sO59, sA59, sL59, sO60, sA60, sL60, sO61, sA61, sL61, sO62, sA62, sL62, sO63, sA63, sL63, sO64, sA64, sL64, sO65, sA65, sL65, sO66, sA66, sL66, sO67, sA67, sL67, sO68, sA68, sL68, sO69, sA69, sL69, sO70, sA70, sL70, sO71, sA71, sL71, sO72, sA72, sL72, sO73, sA73, sL73, sO74, sA74, sL74, sO75, sA75, sL75, sO76, sA76, sL76, sO77, sA77, sL77, sO78, sA78, sL78, sO79, sA79, sL79, sO80, sA80, sL80, sO81, sA81, sL81, sO82, sA82, sL82, sO83, sA83, sL83, sO84, sA84, sL84, sO85, sA85, sL85, sO86, sA86, sL86, sO87, sA87, sL87, sR0_0, sR0_1, sR0_2, sR0_3, sR0_5, sR0_6, sR0_8, sR0_10, sR0_11, sR0_12, sR0_13, sR1_0, sR6_0, sR6_1, sR6_2, sR9_0, sR9_1, sR9_2, sR13_0, sR13_1, sR13_2, sR13_3, sR13_4, sR13_5, sR20_0, sR20_1, sR20_2, sR20_3, sR25_0, sR25_1, sR25_2, sR25_4, sR25_5, sR25_6, sR25_7, sR33_2, sR33_3, sR37_2, sR37_3, sR41_2, sR41_3, sR45_0, sR45_1, sR45_3, sR45_4, sR45_5, sR45_6, sR45_7, sR45_8, sR45_9, sR45_10, sR45_12, sR45_13, sR45_14, sR45_15, sR45_16, sR45_17, sR45_18, sR45_19, sR45_20, sR45_21, sR45_22, sR45_25, sR45_26, sR45_27, sR45_28, sR45_29, sR45_30, sR45_31, sR45_32, sR45_33, sR45_34, sR45_35, sR45_36, sR45_40, sR45_41, sR45_42, sR45_43, sR45_45, sR45_46, sR45_47, sR45_48, sR45_49]
      · rw [if_neg (by decide)]; exact I
    | true =>
      have y1 : ¬ ((nI U >>> (nI j &&& 31)) &&& (1 : Int32)) = 0 := fun w => by
        have := (bit_t _ hU7 j (by omega)).mp w
        rw [cb] at this; exact absurd this (by decide)
      have hr := rst_l U hU7 j (by omega) cb
      have WH := withHead_e hs hn hU7 hj hr t
      have hy := yO_lt hQ (n := n) (U := U) (j := j) hn hU7
      have x3 : (nI (rst U j)).toNatClampNeg = rst U j := nI_clamp (by omega)
      have x4 : inB (nI (rst U j)) 128 = true := inB_nI (by omega) (by decide)
      have e18 : gI h 18 (rst U j) = nI (yO Q n U j).2.1 := (t.2.2 _ hr).2
      have J1 : ∀ l3 : Int32, f_X0_solve_J49 (f_X0_solve_L8 m) 13 (nI U) (nI (yO Q n U j).1) l3 (nI j) (nI (yO Q n U j).1) h = f_X0_solve_L8 m 13 (nI U) (nI (yO Q n U j).1) (l3 + nI (yO Q n U j).2.1) (nI (j + 1)) h := fun l3 => by
        simp only [f_X0_solve_J49, rst_i U hU7 j (by omega), x3, x4, e18, nI_1, hs, and_self, if_true, if_false, n_1_0, n_0_0, okOb_sI, okAb_sI, okOb_sW, okAb_sW, vl_e, un_e, nl_s, nl_n, bnd_e, gd_e, SH_sI, SH_sW, xI_sI, xR_sI, xL_sI, xK_sI, xN_sI, gI_sW, xR_sW, xL_sW, xK_sW, xN_sW, sO0, sO1, sO2, sA2, sL2, sO3, sA3, sL3, sO4, sA4, sL4, sO5, sA5, sL5, sO6, sA6, sL6, sO7, sA7, sL7, sO8, sA8, sL8, sO9, sO10, sA10, sL10, sO11, sA11, sL11, sO12, sA12, sL12, sO13, sO14, sA14, sL14, sO15, sA15, sL15, sO16, sA16, sL16, sO17, sA17, sL17, sO18, sA18, sL18, sO19, sA19, sL19, sO20, sO21, sA21, sL21, sO22, sA22, sL22, sO23, sA23, sL23, sO24, sA24, sL24, sO25, sO26, sA26, sL26, sO27, sA27, sL27, sO28, sA28, sL28, sO29, sA29, sL29, sO30, sA30, sL30, sO31, sA31, sL31, sO32, sA32, sL32, sO33, sO34, sA34, sL34, sO35, sA35, sL35, sO36, sA36, sL36, sO37, sO38, sA38, sL38, sO39, sA39, sL39, sO40, sA40, sL40, sO41, sO42, sA42, sL42, sO43, sA43, sL43, sO44, sA44, sL44, sO45, sO46, sA46, sL46, sO47, sA47, sL47, sO48, sA48, sL48, sO49, sA49, sL49, sO50, sA50, sL50, sO51, sA51, sL51, sO52, sA52, sL52, sO53, sA53, sL53, sO54, sA54, sL54, sO55, sA55, sL55, sO56, sA56, sL56, sO57, sA57, sL57, sO58, sA58, sL58, sO59, sA59, sL59, sO60, sA60, sL60, sO61, sA61, sL61, sO62, sA62, sL62, sO63, sA63, sL63, sO64, sA64, sL64, sO65, sA65, sL65, sO66, sA66, sL66, sO67, sA67, sL67, sO68, sA68, sL68, sO69, sA69, sL69, sO70, sA70, sL70, sO71, sA71, sL71, sO72, sA72, sL72, sO73, sA73, sL73, sO74, sA74, sL74, sO75, sA75, sL75, sO76, sA76, sL76, sO77, sA77, sL77, sO78, sA78, sL78, sO79, sA79, sL79, sO80, sA80, sL80, sO81, sA81, sL81, sO82, sA82, sL82, sO83, sA83, sL83, sO84, sA84, sL84, sO85, sA85, sL85, sO86, sA86, sL86, sO87, sA87, sL87, sR0_0, sR0_1, sR0_2, sR0_3, sR0_5, sR0_6, sR0_8, sR0_10, sR0_11, sR0_12, sR0_13, sR1_0, sR6_0, sR6_1, sR6_2, sR9_0, sR9_1, sR9_2, sR13_0, sR13_1, sR13_2, sR13_3, sR13_4, sR13_5, sR20_0, sR20_1, sR20_2, sR20_3, sR25_0, sR25_1, sR25_2, sR25_4, sR25_5, sR25_6, sR25_7, sR33_2, sR33_3, sR37_2, sR37_3, sR41_2, sR41_3, sR45_0, sR45_1, sR45_3, sR45_4, sR45_5, sR45_6, sR45_7, sR45_8, sR45_9, sR45_10, sR45_12, sR45_13, sR45_14, sR45_15, sR45_16, sR45_17, sR45_18, sR45_19, sR45_20, sR45_21, sR45_22, sR45_25, sR45_26, sR45_27, sR45_28, sR45_29, sR45_30, sR45_31, sR45_32, sR45_33, sR45_34, sR45_35, sR45_36, sR45_40, sR45_41, sR45_42, sR45_43, sR45_45, sR45_46, sR45_47, sR45_48, sR45_49]
      simp only [t.1, x0, y1, WH, hs, and_self, if_true, if_false, n_1_0, n_0_0, okOb_sI, okAb_sI, okOb_sW, okAb_sW, vl_e, un_e, nl_s, nl_n, bnd_e, gd_e, SH_sI, SH_sW, xI_sI, xR_sI, xL_sI, xK_sI, xN_sI, gI_sW, xR_sW, xL_sW, xK_sW, xN_sW, sO0, sO1, sO2, sA2, sL2, sO3, sA3, sL3, sO4, sA4, sL4, sO5, sA5, sL5, sO6, sA6, sL6, sO7, sA7, sL7, sO8, sA8, sL8, sO9, sO10, sA10, sL10, sO11, sA11, sL11, sO12, sA12, sL12, sO13, sO14, sA14, sL14, sO15, sA15, sL15, sO16, sA16, sL16, sO17, sA17, sL17, sO18, sA18, sL18, sO19, sA19, sL19, sO20, sO21, sA21, sL21, sO22, sA22, sL22, sO23, sA23, sL23, sO24, sA24, sL24, sO25, sO26, sA26, sL26, sO27, sA27, sL27, sO28, sA28, sL28, sO29, sA29, sL29, sO30, sA30, sL30, sO31, sA31, sL31, sO32, sA32, sL32, sO33, sO34, sA34, sL34, sO35, sA35, sL35, sO36, sA36, sL36, sO37, sO38, sA38, sL38, sO39, sA39, sL39, sO40, sA40, sL40, sO41, sO42, sA42, sL42, sO43, sA43, sL43, sO44, sA44, sL44, sO45, sO46, sA46, sL46, sO47, sA47, sL47, sO48, sA48, sL48, sO49, sA49, sL49, sO50, sA50, sL50, sO51, sA51, sL51, sO52, sA52, sL52, sO53, sA53, sL53, sO54, sA54, sL54, sO55, sA55, sL55, sO56, sA56, sL56, sO57, sA57, sL57, sO58, sA58, sL58, sO59, sA59, sL59, sO60, sA60, sL60, sO61, sA61, sL61, sO62, sA62, sL62, sO63, sA63, sL63, sO64, sA64, sL64, sO65, sA65, sL65, sO66, sA66, sL66, sO67, sA67, sL67, sO68, sA68, sL68, sO69, sA69, sL69, sO70, sA70, sL70, sO71, sA71, sL71, sO72, sA72, sL72, sO73, sA73, sL73, sO74, sA74, sL74, sO75, sA75, sL75, sO76, sA76, sL76, sO77, sA77, sL77, sO78, sA78, sL78, sO79, sA79, sL79, sO80, sA80, sL80, sO81, sA81, sL81, sO82, sA82, sL82, sO83, sA83, sL83, sO84, sA84, sL84, sO85, sA85, sL85, sO86, sA86, sL86, sO87, sA87, sL87, sR0_0, sR0_1, sR0_2, sR0_3, sR0_5, sR0_6, sR0_8, sR0_10, sR0_11, sR0_12, sR0_13, sR1_0, sR6_0, sR6_1, sR6_2, sR9_0, sR9_1, sR9_2, sR13_0, sR13_1, sR13_2, sR13_3, sR13_4, sR13_5, sR20_0, sR20_1, sR20_2, sR20_3, sR25_0, sR25_1, sR25_2, sR25_4, sR25_5, sR25_6, sR25_7, sR33_2, sR33_3, sR37_2, sR37_3, sR41_2, sR41_3, sR45_0, sR45_1, sR45_3, sR45_4, sR45_5, sR45_6, sR45_7, sR45_8, sR45_9, sR45_10, sR45_12, sR45_13, sR45_14, sR45_15, sR45_16, sR45_17, sR45_18, sR45_19, sR45_20, sR45_21, sR45_22, sR45_25, sR45_26, sR45_27, sR45_28, sR45_29, sR45_30, sR45_31, sR45_32, sR45_33, sR45_34, sR45_35, sR45_36, sR45_40, sR45_41, sR45_42, sR45_43, sR45_45, sR45_46, sR45_47, sR45_48, sR45_49]
      have z0 : (0 : Int32) + nI (yO Q n U j).2.1 = nI (yO Q n U j).2.1 := by rw [← nI_0, nI_add, Nat.zero_add]
      rcases I with ⟨i1, i2, i3⟩ | ⟨i1, i2, i3⟩
      · rw [i1, cmb_lt (by show (yO Q n U j).1 < 1000000; omega)]
        rw [if_neg (by rw [i2]; exact nI_ge (b := 2147483647) (by omega) (by decide)), J1, z0]
        exact Or.inr ⟨(_, _), rfl, Or.inr ⟨rfl, rfl, by omega⟩⟩
      · rcases Nat.lt_trichotomy (yO Q n U j).1 (chn Q n U j).1 with c | c | c
        · rw [cmb_lt c, if_neg (by rw [i1]; exact nI_ge c (by omega)), J1, z0]
          exact Or.inr ⟨(_, _), rfl, Or.inr ⟨rfl, rfl, by omega⟩⟩
        · rw [cmb_eq c, if_pos (by rw [i1]; exact nI_le (by omega) (by omega)), i1, ← c, J1, i2, nI_add]
          exact Or.inr ⟨(_, _), rfl, Or.inr ⟨rfl, rfl, by show (yO Q n U j).1 < _; omega⟩⟩
        · rw [cmb_gt c, if_pos (by rw [i1]; exact nI_le (by omega) (by omega))]
          unfold f_X0_solve_J49
          rw [if_neg (by rw [i1]; exact fun w => absurd ((nI_eq (by omega) (by omega)).mp w) (by omega)), vl_e, nI_1]
          exact Or.inr ⟨z, rfl, Or.inr ⟨i1, i2, i3⟩⟩
  · intro m z I
    have x0 : nI n ≤ nI n := nI_le (Nat.le_refl _) (by omega)
    have nz : chn Q n U n ≠ e0O := fun w => by
      have := oS_lt hQ (n := n) (U := U) hn hU7
      rw [oS_chn hQ hn hU7 hc, w] at this
      exact absurd this (by decide)
    rcases I with ⟨i1, -⟩ | ⟨i1, i2, i3⟩
    · exact absurd i1 nz
    · rw [f_X0_solve_L8]
      simp only [t.1, x0, x1, x2, i1, i2, hs, and_self, if_true, if_false, n_1_0, n_0_0, okOb_sI, okAb_sI, okOb_sW, okAb_sW, vl_e, un_e, nl_s, nl_n, bnd_e, gd_e, SH_sI, SH_sW, xI_sI, xR_sI, xL_sI, xK_sI, xN_sI, gI_sW, xR_sW, xL_sW, xK_sW, xN_sW, sO0, sO1, sO2, sA2, sL2, sO3, sA3, sL3, sO4, sA4, sL4, sO5, sA5, sL5, sO6, sA6, sL6, sO7, sA7, sL7, sO8, sA8, sL8, sO9, sO10, sA10, sL10, sO11, sA11, sL11, sO12, sA12, sL12, sO13, sO14, sA14, sL14, sO15, sA15, sL15, sO16, sA16, sL16, sO17, sA17, sL17, sO18, sA18, sL18, sO19, sA19, sL19, sO20, sO21, sA21, sL21, sO22, sA22, sL22, sO23, sA23, sL23, sO24, sA24, sL24, sO25, sO26, sA26, sL26, sO27, sA27, sL27, sO28, sA28, sL28, sO29, sA29, sL29, sO30, sA30, sL30, sO31, sA31, sL31, sO32, sA32, sL32, sO33, sO34, sA34, sL34, sO35, sA35, sL35, sO36, sA36, sL36, sO37, sO38, sA38, sL38, sO39, sA39, sL39, sO40, sA40, sL40, sO41, sO42, sA42, sL42, sO43, sA43, sL43, sO44, sA44, sL44, sO45, sO46, sA46, sL46, sO47, sA47, sL47, sO48, sA48, sL48, sO49, sA49, sL49, sO50, sA50, sL50, sO51, sA51, sL51, sO52, sA52, sL52, sO53, sA53, sL53, sO54, sA54, sL54, sO55, sA55, sL55, sO56, sA56, sL56, sO57, sA57, sL57, sO58, sA58, sL58, sO59, sA59, sL59, sO60, sA60, sL60, sO61, sA61, sL61, sO62, sA62, sL62, sO63, sA63, sL63, sO64, sA64, sL64, sO65, sA65, sL65, sO66, sA66, sL66, sO67, sA67, sL67, sO68, sA68, sL68, sO69, sA69, sL69, sO70, sA70, sL70, sO71, sA71, sL71, sO72, sA72, sL72, sO73, sA73, sL73, sO74, sA74, sL74, sO75, sA75, sL75, sO76, sA76, sL76, sO77, sA77, sL77, sO78, sA78, sL78, sO79, sA79, sL79, sO80, sA80, sL80, sO81, sA81, sL81, sO82, sA82, sL82, sO83, sA83, sL83, sO84, sA84, sL84, sO85, sA85, sL85, sO86, sA86, sL86, sO87, sA87, sL87, sR0_0, sR0_1, sR0_2, sR0_3, sR0_5, sR0_6, sR0_8, sR0_10, sR0_11, sR0_12, sR0_13, sR1_0, sR6_0, sR6_1, sR6_2, sR9_0, sR9_1, sR9_2, sR13_0, sR13_1, sR13_2, sR13_3, sR13_4, sR13_5, sR20_0, sR20_1, sR20_2, sR20_3, sR25_0, sR25_1, sR25_2, sR25_4, sR25_5, sR25_6, sR25_7, sR33_2, sR33_3, sR37_2, sR37_3, sR41_2, sR41_3, sR45_0, sR45_1, sR45_3, sR45_4, sR45_5, sR45_6, sR45_7, sR45_8, sR45_9, sR45_10, sR45_12, sR45_13, sR45_14, sR45_15, sR45_16, sR45_17, sR45_18, sR45_19, sR45_20, sR45_21, sR45_22, sR45_25, sR45_26, sR45_27, sR45_28, sR45_29, sR45_30, sR45_31, sR45_32, sR45_33, sR45_34, sR45_35, sR45_36, sR45_40, sR45_41, sR45_42, sR45_43, sR45_45, sR45_46, sR45_47, sR45_48, sR45_49]
