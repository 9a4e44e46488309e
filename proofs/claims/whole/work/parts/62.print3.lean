def PcD (h : Hp) (f : Nat) (a k : Nat) : Prop := (a = 0 ∧ k = 9) ∨ a = 11 ∨ (a = sb h (f / 2) ∧ k = 5) ∨ Pim h f a k
/-- what the class did in a run of R -/
def RunC (h hD : Hp) (f d R pp : Nat) : Prop := Upd h hD (PcD h f) ∧ (gI hD 0 9 = if fsB h f = true then nI (pp - R) else nI pp) ∧ (gI hD (sb h (f / 2)) 5 = if fsB h f = true then nI (f % 2) else gI h 66 (f / 2)) ∧ gI hD (fb h f) 3 = nI (nM h f + R) ∧ (∀ j, gI hD (fb h f + 5) j = if npo (fsB h f) (nM h f) (cp h (f / 2)) R j = true then nI (nC h f) else gI h (fb h f + 5) j) ∧ gI hD (fb h f) 6 = nI (nC h f) ∧ gI hD (fb h f) 5 = (if gI h (fb h f) 6 = nI (nC h f) then gI h (fb h f) 5 else gI h (fb h f) 5 + 1) ∧ (nM h f = 0 → ∀ j, j < lv h (f / 2) → ∀ y, y < pl h (pgF h f j) → gI hD (pb h (pgF h f j) + 3) y = gI h (pb h (pgF h f j) + 2) y) ∧ (0 < nM h f → ∀ p, p < nP h → ∀ y, gI hD (pb h p + 3) y = gI h (pb h p + 3) y) ∧ (∀ p, p < nP h → (∀ j, j < lv h (f / 2) → p ≠ pgF h f j) → ∀ y, gI hD (pb h p + 3) y = gI h (pb h p + 3) y) ∧ gI hD 11 d = gI h 11 d + nI R ∧ (∀ e, e ≠ d → gI hD 11 e = gI h 11 e)
theorem Pim_no {h : Hp} (i : IGeo h) {f a k : Nat} (hf : f < 2 * nS h) (h1 : a < 88) : ¬ Pim h f a k := by
  rintro (⟨z, -⟩ | z | ⟨p, hp, z⟩)
  · have := lo_f i hf; omega
  · have := lo_f i hf; omega
  · have := lo_p i hp; omega
theorem Pim_sb {h : Hp} (i : IGeo h) {f s k : Nat} (hf : f < 2 * nS h) (hs : s < nS h) : ¬ Pim h f (sb h s) k := by
  rintro (⟨z, -⟩ | z | ⟨p, hp, z⟩)
  · exact geo_fs i hf hs (o := 0) (o' := 0) (by decide) (Or.inl rfl) z.symm
  · exact geo_fs i hf hs (o := 5) (o' := 0) (by decide) (Or.inl rfl) z.symm
  · exact geo_ps i hp hs (o := 3) (o' := 0) (by decide) (by decide) z.symm
/-- from the start of the run on -/
theorem RunC_of {h hB hC : Hp} (i : IGeo h) (q : ISh h) {f d R pp : Nat} (hf : f < 2 * nS h) (hR : 1 ≤ R) (uB : Upd h hB (fun a k => (a = 0 ∧ k = 9) ∨ (a = sb h (f / 2) ∧ k = 5))) (b1 : gI hB 0 9 = if fsB h f = true then nI (pp - R) else nI pp) (b2 : gI hB (sb h (f / 2)) 5 = if fsB h f = true then nI (f % 2) else gI h 66 (f / 2)) (I : ImC h hB hC f (fsB h f) (nM h f) (nC h f) R) : RunC h (sI hC 11 d (gI h 11 d + nI R)) f d R pp := by
  obtain ⟨I1, I2, I3, -, I5⟩ := I
  obtain ⟨J1, J2, J3, J4, J5⟩ := I5 (by omega)
  have hs : f / 2 < nS h := by omega
  have ls := lo_s i hs
  have lf := lo_f i hf
  have nB : ∀ o k, o < 6 → ¬ ((fb h f + o = 0 ∧ k = 9) ∨ (fb h f + o = sb h (f / 2) ∧ k = 5)) := fun o k ho => by
    have := geo_fs i hf hs (o := o) (o' := 0) ho (Or.inl rfl)
    omega
  have nQ : ∀ p o k, p < nP h → o < 4 → ¬ ((pb h p + o = 0 ∧ k = 9) ∨ (pb h p + o = sb h (f / 2) ∧ k = 5)) := fun p o k hp ho => by
    have := lo_p i hp
    have := geo_ps i hp hs (o := o) (o' := 0) ho (by decide)
    omega
  refine ⟨((uB.mono (fun a k z => ?_)).tr (I1.mono (fun a k z => Or.inr (Or.inr (Or.inr z))))).tr (Upd_sI (Or.inr (Or.inl rfl))), ?_, ?_, ?_, fun j => ?_, ?_, ?_, fun z j hj y hy => ?_, fun z p hp y => ?_, fun p hp hne y => ?_, ?_, fun e he => ?_⟩
  · rcases z with z | z
    · exact Or.inl z
    · exact Or.inr (Or.inr (Or.inl z))
  · rw [xI_sI, if_neg (by omega), I1.2 _ _ (Pim_no i hf (by decide))]; exact b1
  · rw [xI_sI, if_neg (by omega), I1.2 _ _ (Pim_sb i hf hs)]; exact b2
  · rw [xI_sI, if_neg (by omega)]; exact I2
  · rw [xI_sI, if_neg (by omega), I3, uB.2 _ _ (nB 5 j (by decide))]
  · rw [xI_sI, if_neg (by omega)]; exact J1
  · rw [xI_sI, if_neg (by omega), J2, uB.2 (fb h f) 6 (nB 0 6 (by decide)), uB.2 (fb h f) 5 (nB 0 5 (by decide))]
  · have hp := pgF_lt q hf hj
    have := lo_p i hp
    rw [xI_sI, if_neg (by omega), J3 z j hj y hy, uB.2 _ _ (nQ _ 2 y hp (by decide))]
  · have := lo_p i hp
    rw [xI_sI, if_neg (by omega), J4 z p hp y, uB.2 _ _ (nQ _ 3 y hp (by decide))]
  · have := lo_p i hp
    rw [xI_sI, if_neg (by omega), J5 p hp hne y, uB.2 _ _ (nQ _ 3 y hp (by decide))]
  · rw [xI_sI, if_pos ⟨rfl, rfl⟩]
  · rw [xI_sI, if_neg (by omega), I1.2 _ _ (Pim_no i hf (by decide)), uB.2 _ _ (by omega)]
theorem k60' : (60 : Int32).toInt = 60 := by decide
set_option maxRecDepth 100000 in
theorem print_c {h : Hp} (hs : SH h) (i : IGeo h) (q : ISh h) (o : IFo h) (k : ISk h) (z : IFs h) {f d n R pp : Nat} (hf : f < 2 * nS h) (hd : d < 6) (hn1 : 1 ≤ n) (hn : n ≤ 60) (hpp : pp ≤ 10000) (epp : gI h 0 9 = nI pp) (im : gI h 67 f ≠ -1) (mb : fsB h f = true ∨ nM h (2 * (f / 2) + (1 - f % 2)) = cp h (f / 2)) (hR : 1 ≤ R) (eR : R = if fsB h f = true then min pp (min (cp h (f / 2) - nM h f) n) else min (cp h (f / 2) - nM h f) n) : ∃ hD, f_X9_print h 0 (nI f) (nI d) (nI n) = some (nI R, hD) ∧ SH hD ∧ RunC h hD f d R pp := by
  have hnS := i.2.2.2.1
  obtain ⟨r1, r2, -⟩ := sh_rules i (s := f / 2) (by omega)
  obtain ⟨f1, f2, f3, -⟩ := fo_rules i hf
  have hcp := (sh_at i (s := f / 2) (by omega)).2.2.2.2.2.2.2.2.2.1
  obtain ⟨⟨d1, d2, d3, d4, d5, d6⟩, -⟩ := id (o.1 f hf)
  have x3 : inB (nI (f / 2)) 6 = true := inB_nI (by omega) (by decide)
  have x4 : (nI (f / 2)).toNatClampNeg = f / 2 := nI_clamp (by omega)
  have x5 : (nI d).toNatClampNeg = d := nI_clamp (by omega)
  have x6 : inB (nI d) 6 = true := inB_nI (by omega) (by decide)
  have ch : 0 ≤ (nI d).toInt ∧ (nI d).toInt < 6 := by rw [nI_toInt (by omega)]; omega
  have cn : 1 ≤ (nI n).toInt ∧ (nI n).toInt ≤ 60 := by rw [nI_toInt (by omega)]; omega
  have e1 := (q.2.1 (f / 2) (by omega)).2.2.2.2.2.2.2.2.1
  have e5 := (z (f / 2) (by omega)).1
  have e67 := (k.1 f hf).1
  have ls := lo_s i (s := f / 2) (by omega)
  have lf := lo_f i hf
  have s1 : nI (cp h (f / 2)) - nI (nM h f) = nI (cp h (f / 2) - nM h f) := pk_sub d3
  have s2 := minI (a := cp h (f / 2) - nM h f) (b := n) (by omega) (by omega)
  have s3 := minI (a := pp) (b := min (cp h (f / 2) - nM h f) n) (by omega) (by omega)
  have c1 : (1 : Int32) ≤ nI R := nI_le (a := 1) hR (by rw [eR]; split <;> omega)
  have im' : ¬ gI h 67 f = -1 := im
  have hRm : nM h f + R ≤ cp h (f / 2) := by rw [eR]; split <;> omega
  have fo0 : f_X7_formeOn h (sb h (f / 2)) (nI (f % 2)) = some (some (fb h f), h) := by
    have := formeOn_e i (s := f / 2) (d := f % 2) (by omega) (by omega)
    rw [fo_dm] at this; exact this
  have mb' := mayBe_e i z o hf
  rw [if_pos mb] at mb'
  have fst' := isFirst_e i z hf
  have FO : ∀ hB, Upd h hB (fun a k => (a = 0 ∧ k = 9) ∨ (a = sb h (f / 2) ∧ k = 5)) → f_X7_formeOn hB (sb h (f / 2)) (nI (f % 2)) = some (some (fb h f), hB) := fun hB uB => by
    have iB := i.fr uB (by omega)
    obtain ⟨w1, w2, w3, w4, w5, w6, w7, w8, w9⟩ := uB.geo (by omega)
    have := formeOn_e iB (s := f / 2) (d := f % 2) (by rw [w2]; omega) (by omega)
    rw [fo_dm, w4, w8] at this; exact this
  have RN : ∀ hB, Upd h hB (fun a k => (a = 0 ∧ k = 9) ∨ (a = sb h (f / 2) ∧ k = 5)) → gI hB (sb h (f / 2)) 5 = (if fsB h f = true then nI (f % 2) else gI h 66 (f / 2)) → ∃ hC, f_X7_printRun_L22 6000 (sb h (f / 2)) (nI (f % 2)) (nI R) (some (fb h f)) 0 hB = some ((), hC) ∧ ImC h hB hC f (fsB h f) (nM h f) (nC h f) R := fun hB uB b2 => by
    have nf := geo_fs i hf (s := f / 2) (by omega) (o := 0) (o' := 0) (by decide) (Or.inl rfl)
    refine run_e i q uB hf (by rw [uB.2 _ _ (by omega)]; exact d1) (by rw [uB.2 _ _ (by omega)]; exact d4) (fun w => by rw [b2, if_pos w]) (fun w => ?_) (by rw [uB.2 _ _ (by omega)]; exact e1) hRm
    rw [b2, w, if_neg (by decide)]
    unfold fsB at w
    rw [Bool.or_eq_false_iff, decide_eq_false_iff_not, decide_eq_false_iff_not] at w
    exact w.2
  have SC : ∀ hB hC, Upd h hB (fun a k => (a = 0 ∧ k = 9) ∨ (a = sb h (f / 2) ∧ k = 5)) → ImC h hB hC f (fsB h f) (nM h f) (nC h f) R → SH hC ∧ gI hC 11 d = gI h 11 d := fun hB hC uB I => ⟨I.1.sh (uB.sh hs), by rw [I.1.2 _ _ (Pim_no i hf (by decide)), uB.2 _ _ (by omega)]⟩
  cases c : fsB h f with
  | false =>
    have cc := c
    unfold fsB at cc
    rw [Bool.or_eq_false_iff, decide_eq_false_iff_not, decide_eq_false_iff_not] at cc
    rw [c, if_neg (by decide)] at eR fst'
    obtain ⟨hC, p1, p2⟩ := RN h (Upd_rf _ _) (by rw [c, if_neg (by decide)]; exact e5)
    obtain ⟨hsC, g11⟩ := SC h hC (Upd_rf _ _) p2
    refine ⟨sI hC 11 d (gI h 11 d + nI R), ?_, hsC, RunC_of i q hf hR (Upd_rf _ _) (by rw [c, if_neg (by decide)]; exact epp) (by rw [c, if_neg (by decide)]; exact e5) p2⟩
    simp only [f_X9_print, f_X9_print_J113, f_X9_print_J138, f_X7_printRun, f_X7_printRun_J13, f_X2_isImposed, findForme_t hs i hf, handC_i, ch, rng1, k1, k60, cn, shr1 (show f < 2 ^ 31 by omega), and1 (show f < 2 ^ 31 by omega), x3, x4, r1, r2, f1, e67, im', mb', e1, d1, s1, s2, ← eR, fst', c1, e5, cc.1, fo0, p1, x5, x6, g11, hsC, hs, and_self, if_true, if_false, n_1_0, n_0_0, okOb_sI, okAb_sI, okOb_sW, okAb_sW, vl_e, un_e, nl_s, nl_n, bnd_e, gd_e, SH_sI, SH_sW, xI_sI, xR_sI, xL_sI, xK_sI, xN_sI, gI_sW, xR_sW, xL_sW, xK_sW, xN_sW, sO0, sO1, sO2, sA2, sL2, sO3, sA3, sL3, sO4, sA4, sL4, sO5, sA5, sL5, sO6, sA6, sL6, sO7, sA7, sL7, sO8, sA8, sL8, sO9, sO10, sA10, sL10, sO11, sA11, sL11, sO12, sA12, sL12, sO13, sO14, sA14, sL14, sO15, sA15, sL15, sO16, sA16, sL16, sO17, sA17, sL17, sO18, sA18, sL18, sO19, sA19, sL19, sO20, sO21, sA21, sL21, sO22, sA22, sL22, sO23, sA23, sL23, sO24, sA24, sL24, sO25, sO26, sA26, sL26, sO27, sA27, sL27, sO28, sA28, sL28, sO29, sA29, sL29, sO30, sA30, sL30, sO31, sA31, sL31, sO32, sA32, sL32, sO33, sO34, sA34, sL34, sO35, sA35, sL35, sO36, sA36, sL36, sO37, sO38, sA38, sL38, sO39, sA39, sL39, sO40, sA40, sL40, sO41, sO42, sA42, sL42, sO43, sA43, sL43, sO44, sA44, sL44, sO45, sO46, sA46, sL46, sO47, sA47, sL47, sO48, sA48, sL48, sO49, sA49, sL49, sO50, sA50, sL50, sO51, sA51, sL51, sO52, sA52, sL52, sO53, sA53, sL53, sO54, sA54, sL54, sO55, sA55, sL55, sO56, sA56, sL56, sO57, sA57, sL57, sO58, sA58, sL58, sO59, sA59, sL59, sO60, sA60, sL60, sO61, sA61, sL61, sO62, sA62, sL62, sO63, sA63, sL63, sO64, sA64, sL64, sO65, sA65, sL65, sO66, sA66, sL66, sO67, sA67, sL67, sO68, sA68, sL68, sO69, sA69, sL69, sO70, sA70, sL70, sO71, sA71, sL71, sO72, sA72, sL72, sO73, sA73, sL73, sO74, sA74, sL74, sO75, sA75, sL75, sO76, sA76, sL76, sO77, sA77, sL77, sO78, sA78, sL78, sO79, sA79, sL79, sO80, sA80, sL80, sO81, sA81, sL81, sO82, sA82, sL82, sO83, sA83, sL83, sO84, sA84, sL84, sO85, sA85, sL85, sO86, sA86, sL86, sO87, sA87, sL87, sR0_0, sR0_1, sR0_2, sR0_3, sR0_5, sR0_6, sR0_8, sR0_10, sR0_11, sR0_12, sR0_13, sR1_0, sR6_0, sR6_1, sR6_2, sR9_0, sR9_1, sR9_2, sR13_0, sR13_1, sR13_2, sR13_3, sR13_4, sR13_5, sR20_0, sR20_1, sR20_2, sR20_3, sR25_0, sR25_1, sR25_2, sR25_4, sR25_5, sR25_6, sR25_7, sR33_2, sR33_3, sR37_2, sR37_3, sR41_2, sR41_3, sR45_0, sR45_1, sR45_3, sR45_4, sR45_5, sR45_6, sR45_7, sR45_8, sR45_9, sR45_10, sR45_12, sR45_13, sR45_14, sR45_15, sR45_16, sR45_17, sR45_18, sR45_19, sR45_20, sR45_21, sR45_22, sR45_25, sR45_26, sR45_27, sR45_28, sR45_29, sR45_30, sR45_31, sR45_32, sR45_33, sR45_34, sR45_35, sR45_36, sR45_40, sR45_41, sR45_42, sR45_43, sR45_45, sR45_46, sR45_47, sR45_48, sR45_49]
  | true =>
    rw [c, if_pos rfl] at eR fst'
    have s4 : nI pp - nI R = nI (pp - R) := pk_sub (by omega)
    have u0 : Upd h (sI h 0 9 (nI (pp - R))) (fun a k => (a = 0 ∧ k = 9) ∨ (a = sb h (f / 2) ∧ k = 5)) := Upd_sI (Or.inl ⟨rfl, rfl⟩)
    have ns : (sb h (f / 2) = 0) = False := by simp; omega
    by_cases cf : gI h 66 (f / 2) = -1
    · have uB : Upd h (sI (sI h 0 9 (nI (pp - R))) (sb h (f / 2)) 5 (nI (f % 2))) (fun a k => (a = 0 ∧ k = 9) ∨ (a = sb h (f / 2) ∧ k = 5)) := u0.tr (Upd_sI (Or.inr ⟨rfl, rfl⟩))
      have b2 : gI (sI (sI h 0 9 (nI (pp - R))) (sb h (f / 2)) 5 (nI (f % 2))) (sb h (f / 2)) 5 = (if fsB h f = true then nI (f % 2) else gI h 66 (f / 2)) := by
        rw [xI_sI, if_pos ⟨rfl, rfl⟩, c, if_pos rfl]
      obtain ⟨hC, p1, p2⟩ := RN _ uB b2
      obtain ⟨hsC, g11⟩ := SC _ hC uB p2
      refine ⟨sI hC 11 d (gI h 11 d + nI R), ?_, hsC, RunC_of i q hf hR uB (by rw [xI_sI, if_neg (by omega), xI_sI, if_pos ⟨rfl, rfl⟩, c, if_pos rfl]) b2 p2⟩
      simp only [f_X9_print, f_X9_print_J113, f_X9_print_J138, f_X7_printRun, f_X7_printRun_J13, f_X2_isImposed, findForme_t hs i hf, handC_i, ch, rng1, k1, k60, cn, shr1 (show f < 2 ^ 31 by omega), and1 (show f < 2 ^ 31 by omega), x3, x4, r1, r2, f1, e67, im', mb', e1, d1, s1, s2, epp, s3, ← eR, fst', c1, s4, ns, false_and, e5, cf, FO _ uB, p1, x5, x6, g11, hsC, hs, and_self, if_true, if_false, n_1_0, n_0_0, okOb_sI, okAb_sI, okOb_sW, okAb_sW, vl_e, un_e, nl_s, nl_n, bnd_e, gd_e, SH_sI, SH_sW, xI_sI, xR_sI, xL_sI, xK_sI, xN_sI, gI_sW, xR_sW, xL_sW, xK_sW, xN_sW, sO0, sO1, sO2, sA2, sL2, sO3, sA3, sL3, sO4, sA4, sL4, sO5, sA5, sL5, sO6, sA6, sL6, sO7, sA7, sL7, sO8, sA8, sL8, sO9, sO10, sA10, sL10, sO11, sA11, sL11, sO12, sA12, sL12, sO13, sO14, sA14, sL14, sO15, sA15, sL15, sO16, sA16, sL16, sO17, sA17, sL17, sO18, sA18, sL18, sO19, sA19, sL19, sO20, sO21, sA21, sL21, sO22, sA22, sL22, sO23, sA23, sL23, sO24, sA24, sL24, sO25, sO26, sA26, sL26, sO27, sA27, sL27, sO28, sA28, sL28, sO29, sA29, sL29, sO30, sA30, sL30, sO31, sA31, sL31, sO32, sA32, sL32, sO33, sO34, sA34, sL34, sO35, sA35, sL35, sO36, sA36, sL36, sO37, sO38, sA38, sL38, sO39, sA39, sL39, sO40, sA40, sL40, sO41, sO42, sA42, sL42, sO43, sA43, sL43, sO44, sA44, sL44, sO45, sO46, sA46, sL46, sO47, sA47, sL47, sO48, sA48, sL48, sO49, sA49, sL49, sO50, sA50, sL50, sO51, sA51, sL51, sO52, sA52, sL52, sO53, sA53, sL53, sO54, sA54, sL54, sO55, sA55, sL55, sO56, sA56, sL56, sO57, sA57, sL57, sO58, sA58, sL58, sO59, sA59, sL59, sO60, sA60, sL60, sO61, sA61, sL61, sO62, sA62, sL62, sO63, sA63, sL63, sO64, sA64, sL64, sO65, sA65, sL65, sO66, sA66, sL66, sO67, sA67, sL67, sO68, sA68, sL68, sO69, sA69, sL69, sO70, sA70, sL70, sO71, sA71, sL71, sO72, sA72, sL72, sO73, sA73, sL73, sO74, sA74, sL74, sO75, sA75, sL75, sO76, sA76, sL76, sO77, sA77, sL77, sO78, sA78, sL78, sO79, sA79, sL79, sO80, sA80, sL80, sO81, sA81, sL81, sO82, sA82, sL82, sO83, sA83, sL83, sO84, sA84, sL84, sO85, sA85, sL85, sO86, sA86, sL86, sO87, sA87, sL87, sR0_0, sR0_1, sR0_2, sR0_3, sR0_5, sR0_6, sR0_8, sR0_10, sR0_11, sR0_12, sR0_13, sR1_0, sR6_0, sR6_1, sR6_2, sR9_0, sR9_1, sR9_2, sR13_0, sR13_1, sR13_2, sR13_3, sR13_4, sR13_5, sR20_0, sR20_1, sR20_2, sR20_3, sR25_0, sR25_1, sR25_2, sR25_4, sR25_5, sR25_6, sR25_7, sR33_2, sR33_3, sR37_2, sR37_3, sR41_2, sR41_3, sR45_0, sR45_1, sR45_3, sR45_4, sR45_5, sR45_6, sR45_7, sR45_8, sR45_9, sR45_10, sR45_12, sR45_13, sR45_14, sR45_15, sR45_16, sR45_17, sR45_18, sR45_19, sR45_20, sR45_21, sR45_22, sR45_25, sR45_26, sR45_27, sR45_28, sR45_29, sR45_30, sR45_31, sR45_32, sR45_33, sR45_34, sR45_35, sR45_36, sR45_40, sR45_41, sR45_42, sR45_43, sR45_45, sR45_46, sR45_47, sR45_48, sR45_49]
    · have cf2 : gI h 66 (f / 2) = nI (f % 2) := by
        unfold fsB at c
        simp only [Bool.or_eq_true, decide_eq_true_eq] at c
        rcases c with c | c
        · exact absurd c cf
        · exact c
      have b2 : gI (sI h 0 9 (nI (pp - R))) (sb h (f / 2)) 5 = (if fsB h f = true then nI (f % 2) else gI h 66 (f / 2)) := by
        rw [xI_sI, if_neg (by omega), c, if_pos rfl, e5, cf2]
      obtain ⟨hC, p1, p2⟩ := RN _ u0 b2
      obtain ⟨hsC, g11⟩ := SC _ hC u0 p2
      refine ⟨sI hC 11 d (gI h 11 d + nI R), ?_, hsC, RunC_of i q hf hR u0 (by rw [xI_sI, if_pos ⟨rfl, rfl⟩, c, if_pos rfl]) b2 p2⟩
      simp only [f_X9_print, f_X9_print_J113, f_X9_print_J138, f_X7_printRun, f_X7_printRun_J13, f_X2_isImposed, findForme_t hs i hf, handC_i, ch, rng1, k1, k60, cn, shr1 (show f < 2 ^ 31 by omega), and1 (show f < 2 ^ 31 by omega), x3, x4, r1, r2, f1, e67, im', mb', e1, d1, s1, s2, epp, s3, ← eR, fst', c1, s4, ns, false_and, e5, cf, FO _ u0, p1, x5, x6, g11, hsC, hs, and_self, if_true, if_false, n_1_0, n_0_0, okOb_sI, okAb_sI, okOb_sW, okAb_sW, vl_e, un_e, nl_s, nl_n, bnd_e, gd_e, SH_sI, SH_sW, xI_sI, xR_sI, xL_sI, xK_sI, xN_sI, gI_sW, xR_sW, xL_sW, xK_sW, xN_sW, sO0, sO1, sO2, sA2, sL2, sO3, sA3, sL3, sO4, sA4, sL4, sO5, sA5, sL5, sO6, sA6, sL6, sO7, sA7, sL7, sO8, sA8, sL8, sO9, sO10, sA10, sL10, sO11, sA11, sL11, sO12, sA12, sL12, sO13, sO14, sA14, sL14, sO15, sA15, sL15, sO16, sA16, sL16, sO17, sA17, sL17, sO18, sA18, sL18, sO19, sA19, sL19, sO20, sO21, sA21, sL21, sO22, sA22, sL22, sO23, sA23, sL23, sO24, sA24, sL24, sO25, sO26, sA26, sL26, sO27, sA27, sL27, sO28, sA28, sL28, sO29, sA29, sL29, sO30, sA30, sL30, sO31, sA31, sL31, sO32, sA32, sL32, sO33, sO34, sA34, sL34, sO35, sA35, sL35, sO36, sA36, sL36, sO37, sO38, sA38, sL38, sO39, sA39, sL39, sO40, sA40, sL40, sO41, sO42, sA42, sL42, sO43, sA43, sL43, sO44, sA44, sL44, sO45, sO46, sA46, sL46, sO47, sA47, sL47, sO48, sA48, sL48, sO49, sA49, sL49, sO50, sA50, sL50, sO51, sA51, sL51, sO52, sA52, sL52, sO53, sA53, sL53, sO54, sA54, sL54, sO55, sA55, sL55, sO56, sA56, sL56, sO57, sA57, sL57, sO58, sA58, sL58, sO59, sA59, sL59, sO60, sA60, sL60, sO61, sA61, sL61, sO62, sA62, sL62, sO63, sA63, sL63, sO64, sA64, sL64, sO65, sA65, sL65, sO66, sA66, sL66, sO67, sA67, sL67, sO68, sA68, sL68, sO69, sA69, sL69, sO70, sA70, sL70, sO71, sA71, sL71, sO72, sA72, sL72, sO73, sA73, sL73, sO74, sA74, sL74, sO75, sA75, sL75, sO76, sA76, sL76, sO77, sA77, sL77, sO78, sA78, sL78, sO79, sA79, sL79, sO80, sA80, sL80, sO81, sA81, sL81, sO82, sA82, sL82, sO83, sA83, sL83, sO84, sA84, sL84, sO85, sA85, sL85, sO86, sA86, sL86, sO87, sA87, sL87, sR0_0, sR0_1, sR0_2, sR0_3, sR0_5, sR0_6, sR0_8, sR0_10, sR0_11, sR0_12, sR0_13, sR1_0, sR6_0, sR6_1, sR6_2, sR9_0, sR9_1, sR9_2, sR13_0, sR13_1, sR13_2, sR13_3, sR13_4, sR13_5, sR20_0, sR20_1, sR20_2, sR20_3, sR25_0, sR25_1, sR25_2, sR25_4, sR25_5, sR25_6, sR25_7, sR33_2, sR33_3, sR37_2, sR37_3, sR41_2, sR41_3, sR45_0, sR45_1, sR45_3, sR45_4, sR45_5, sR45_6, sR45_7, sR45_8, sR45_9, sR45_10, sR45_12, sR45_13, sR45_14, sR45_15, sR45_16, sR45_17, sR45_18, sR45_19, sR45_20, sR45_21, sR45_22, sR45_25, sR45_26, sR45_27, sR45_28, sR45_29, sR45_30, sR45_31, sR45_32, sR45_33, sR45_34, sR45_35, sR45_36, sR45_40, sR45_41, sR45_42, sR45_43, sR45_45, sR45_46, sR45_47, sR45_48, sR45_49]
/-- what the reference did in a run of R; h is where the run began -/
def RunM (h hD h2 : Hp) (f d R pp : Nat) : Prop := Upd hD h2 (fun a k => a = 51 ∨ a = 66 ∨ a = 68 ∨ a = 70 ∨ (a = 45 ∧ k = 24) ∨ a = 57) ∧ (gI h2 66 (f / 2) = if fsB h f = true then nI (f % 2) else gI h 66 (f / 2)) ∧ (∀ s, s ≠ f / 2 → gI h2 66 s = gI h 66 s) ∧ gI h2 68 f = nI (nM h f + R) ∧ (∀ g, g ≠ f → gI h2 68 g = gI h 68 g) ∧ (∀ j, j < 60 → gI h2 70 (60 * f + j) = if npo (fsB h f) (nM h f) (cp h (f / 2)) R j = true then nI (nC h f) else gI h 70 (60 * f + j)) ∧ (∀ x, (x < 60 * f ∨ 60 * f + 60 ≤ x) → gI h2 70 x = gI h 70 x) ∧ (gI h2 45 24 = if fsB h f = true then nI (pp - R) else nI pp) ∧ gI h2 57 d = gI h 57 d + nI R ∧ (∀ e, e ≠ d → gI h2 57 e = gI h 57 e) ∧ (nM h f = 0 → ∀ j, j < lv h (f / 2) → ∀ y, y < pl h (pgF h f j) → gI h2 51 (120 * pgF h f j + y) = gI h 50 (120 * pgF h f j + y)) ∧ (0 < nM h f → ∀ x, gI h2 51 x = gI h 51 x) ∧ ∀ p, (∀ j, j < lv h (f / 2) → p ≠ pgF h f j) → ∀ y, y < 120 → gI h2 51 (120 * p + y) = gI h 51 (120 * p + y)
theorem PcD_no {h : Hp} (i : IGeo h) {f a k : Nat} (hf : f < 2 * nS h) (h1 : a < 88) (h2 : a ≠ 11) (h3 : a ≠ 0 ∨ k ≠ 9) : ¬ PcD h f a k := by
  have := lo_s i (s := f / 2) (by omega)
  rintro (z | z | z | z)
  · omega
  · omega
  · omega
  · exact Pim_no i hf h1 z
set_option maxRecDepth 100000 in
theorem print_j {h hD : Hp} (hs : SH hD) (i : IGeo h) (x : IFix h) (q : ISh h) (dd : IPd h) (o : IFo h) {f d n R pp : Nat} (hf : f < 2 * nS h) (hd : d < 6) (hn1 : 1 ≤ n) (hn : n ≤ 60) (hpp : pp ≤ 10000) (epp : gI h 45 24 = nI pp) (u : Upd h hD (PcD h f)) (hR : 1 ≤ R) (eR : R = if fsB h f = true then min pp (min (cp h (f / 2) - nM h f) n) else min (cp h (f / 2) - nM h f) n) : ∃ h2, f_X10_print_J140 45 (nI f) (nI d) (nI n) (nI (f / 2)) (if fsB h f = true then 1 else 0) hD = some (nI R, h2) ∧ RunM h hD h2 f d R pp := by
  have hnS := i.2.2.2.1
  have hcp := (sh_at i (s := f / 2) (by omega)).2.2.2.2.2.2.2.2.2.1
  obtain ⟨⟨d1, d2, d3, d4, d5, d6⟩, -⟩ := id (o.1 f hf)
  have x1 : (nI f).toNatClampNeg = f := nI_clamp (by omega)
  have x2 : inB (nI f) 12 = true := inB_nI (by omega) (by decide)
  have x3 : inB (nI (f / 2)) 6 = true := inB_nI (by omega) (by decide)
  have x4 : (nI (f / 2)).toNatClampNeg = f / 2 := nI_clamp (by omega)
  have g0 : ∀ a k, a < 88 → a ≠ 11 → a ≠ 0 → gI hD a k = gI h a k := fun a k z1 z2 z3 => u.2 _ _ (PcD_no i hf z1 z2 (Or.inl z3))
  have e65 := (q.2.1 (f / 2) (by omega)).2.2.2.2.2.2.2.1
  obtain ⟨hE, p1, p2, p3, p4, p5⟩ : ∃ hE, (if nM h f = 0 then f_X10_shows hD 45 (nI f) else some ((), hD)) = some ((), hE) ∧ Upd hD hE (fun a _ => a = 51) ∧ (nM h f = 0 → ∀ j, j < lv h (f / 2) → ∀ y, y < pl h (pgF h f j) → gI hE 51 (120 * pgF h f j + y) = gI h 50 (120 * pgF h f j + y)) ∧ (0 < nM h f → ∀ x, gI hE 51 x = gI h 51 x) ∧ ∀ p, (∀ j, j < lv h (f / 2) → p ≠ pgF h f j) → ∀ y, y < 120 → gI hE 51 (120 * p + y) = gI h 51 (120 * p + y) := by
    by_cases c : nM h f = 0
    · obtain ⟨hE, s1, s2, s3, s4⟩ := shows_e hs i x q dd u (fun a k w => PcD_no i hf (by omega) (by omega) (by omega)) hf
      refine ⟨hE, by rw [if_pos c]; exact s1, s2, fun _ j hj y hy => ?_, fun w => by omega, fun p hp y hy => ?_⟩
      · rw [s3 j hj y hy, g0 _ _ (by decide) (by decide) (by decide)]
      · rw [s4 p hp y hy, g0 _ _ (by decide) (by decide) (by decide)]
    · exact ⟨hD, by rw [if_neg c], Upd_rf _ _, fun w => absurd w c, fun _ x => g0 _ _ (by decide) (by decide) (by decide), fun p hp y hy => g0 _ _ (by decide) (by decide) (by decide)⟩
  have hsE := p2.sh hs
  obtain ⟨hF, r1, r2, r3, r4⟩ : ∃ hF, (if fsB h f = true then sI hE 66 (f / 2) (nI (f % 2)) else hE) = hF ∧ Upd hE hF (fun a _ => a = 66) ∧ (gI hF 66 (f / 2) = if fsB h f = true then nI (f % 2) else gI h 66 (f / 2)) ∧ ∀ s, s ≠ f / 2 → gI hF 66 s = gI h 66 s := by
    have g66 : ∀ s, gI hE 66 s = gI h 66 s := fun s => by rw [p2.2 _ _ (show ¬ (66 = 51) by decide), g0 _ _ (by decide) (by decide) (by decide)]
    by_cases c : fsB h f = true
    · refine ⟨_, rfl, ?_, ?_, fun s hs => ?_⟩
      · rw [if_pos c]; exact Upd_sI rfl
      · rw [if_pos c, if_pos c, xI_sI, if_pos ⟨rfl, rfl⟩]
      · rw [if_pos c, xI_sI, if_neg (by omega)]; exact g66 s
    · refine ⟨_, rfl, ?_, ?_, fun s hs => ?_⟩
      · rw [if_neg c]; exact Upd_rf _ _
      · rw [if_neg c, if_neg c]; exact g66 _
      · rw [if_neg c]; exact g66 s
  have hsF := r2.sh hsE
  have gF : ∀ a k, a < 88 → a ≠ 11 → a ≠ 0 → a ≠ 51 → a ≠ 66 → gI hF a k = gI h a k := fun a k z1 z2 z3 z4 z5 => by
    rw [r2.2 _ _ z5, p2.2 _ _ z4, g0 _ _ z1 z2 z3]
  obtain ⟨hG, t1, t2⟩ := runM_e hsF (fs := fsB h f) (f := f) (m := nM h f) (c := cp h (f / 2)) (C := nC h f) (R := R) (n := n) (d := d) (pp := pp) (by omega) hd hcp hn hpp (by rw [gF _ _ (by decide) (by decide) (by decide) (by decide) (by decide)]; exact d2) (by rw [gF _ _ (by decide) (by decide) (by decide) (by decide) (by decide)]; exact d5) (by rw [gF _ _ (by decide) (by decide) (by decide) (by decide) (by decide)]; exact e65) (by rw [gF _ _ (by decide) (by decide) (by decide) (by decide) (by decide)]; exact epp) (by rw [eR]; split <;> omega) (by rw [eR]; split <;> omega) (fun w => by rw [eR, if_pos w]; omega) (by
    by_cases c : fsB h f = true
    · rw [if_pos c] at eR; simp only [c, true_and]; omega
    · rw [if_neg c] at eR; omega)
  obtain ⟨q1, q2, q3, q4, q5, q6⟩ := t2
  rw [gF _ _ (by decide) (by decide) (by decide) (by decide) (by decide)] at t1
  refine ⟨sI hG 57 d (gI h 57 d + nI R), ?_, ?_⟩
  · have hJ : f_X10_print_J140 45 (nI f) (nI d) (nI n) (nI (f / 2)) (if fsB h f = true then 1 else 0) hD = f_X10_print_J154 45 (nI f) (nI d) (nI n) (nI (f / 2)) (if fsB h f = true then 1 else 0) hE := by
      by_cases c : nM h f = 0
      · rw [if_pos c] at p1
        rw [c, nI_0] at d2
        simp only [f_X10_print_J140, x1, x2, g0 68 _ (by decide) (by decide) (by decide), d2, p1, hs, and_self, if_true, if_false, n_1_0, n_0_0, okOb_sI, okAb_sI, okOb_sW, okAb_sW, vl_e, un_e, nl_s, nl_n, bnd_e, gd_e, SH_sI, SH_sW, xI_sI, xR_sI, xL_sI, xK_sI, xN_sI, gI_sW, xR_sW, xL_sW, xK_sW, xN_sW, sO0, sO1, sO2, sA2, sL2, sO3, sA3, sL3, sO4, sA4, sL4, sO5, sA5, sL5, sO6, sA6, sL6, sO7, sA7, sL7, sO8, sA8, sL8, sO9, sO10, sA10, sL10, sO11, sA11, sL11, sO12, sA12, sL12, sO13, sO14, sA14, sL14, sO15, sA15, sL15, sO16, sA16, sL16, sO17, sA17, sL17, sO18, sA18, sL18, sO19, sA19, sL19, sO20, sO21, sA21, sL21, sO22, sA22, sL22, sO23, sA23, sL23, sO24, sA24, sL24, sO25, sO26, sA26, sL26, sO27, sA27, sL27, sO28, sA28, sL28, sO29, sA29, sL29, sO30, sA30, sL30, sO31, sA31, sL31, sO32, sA32, sL32, sO33, sO34, sA34, sL34, sO35, sA35, sL35, sO36, sA36, sL36, sO37, sO38, sA38, sL38, sO39, sA39, sL39, sO40, sA40, sL40, sO41, sO42, sA42, sL42, sO43, sA43, sL43, sO44, sA44, sL44, sO45, sO46, sA46, sL46, sO47, sA47, sL47, sO48, sA48, sL48, sO49, sA49, sL49, sO50, sA50, sL50, sO51, sA51, sL51, sO52, sA52, sL52, sO53, sA53, sL53, sO54, sA54, sL54, sO55, sA55, sL55, sO56, sA56, sL56, sO57, sA57, sL57, sO58, sA58, sL58, sO59, sA59, sL59, sO60, sA60, sL60, sO61, sA61, sL61, sO62, sA62, sL62, sO63, sA63, sL63, sO64, sA64, sL64, sO65, sA65, sL65, sO66, sA66, sL66, sO67, sA67, sL67, sO68, sA68, sL68, sO69, sA69, sL69, sO70, sA70, sL70, sO71, sA71, sL71, sO72, sA72, sL72, sO73, sA73, sL73, sO74, sA74, sL74, sO75, sA75, sL75, sO76, sA76, sL76, sO77, sA77, sL77, sO78, sA78, sL78, sO79, sA79, sL79, sO80, sA80, sL80, sO81, sA81, sL81, sO82, sA82, sL82, sO83, sA83, sL83, sO84, sA84, sL84, sO85, sA85, sL85, sO86, sA86, sL86, sO87, sA87, sL87, sR0_0, sR0_1, sR0_2, sR0_3, sR0_5, sR0_6, sR0_8, sR0_10, sR0_11, sR0_12, sR0_13, sR1_0, sR6_0, sR6_1, sR6_2, sR9_0, sR9_1, sR9_2, sR13_0, sR13_1, sR13_2, sR13_3, sR13_4, sR13_5, sR20_0, sR20_1, sR20_2, sR20_3, sR25_0, sR25_1, sR25_2, sR25_4, sR25_5, sR25_6, sR25_7, sR33_2, sR33_3, sR37_2, sR37_3, sR41_2, sR41_3, sR45_0, sR45_1, sR45_3, sR45_4, sR45_5, sR45_6, sR45_7, sR45_8, sR45_9, sR45_10, sR45_12, sR45_13, sR45_14, sR45_15, sR45_16, sR45_17, sR45_18, sR45_19, sR45_20, sR45_21, sR45_22, sR45_25, sR45_26, sR45_27, sR45_28, sR45_29, sR45_30, sR45_31, sR45_32, sR45_33, sR45_34, sR45_35, sR45_36, sR45_40, sR45_41, sR45_42, sR45_43, sR45_45, sR45_46, sR45_47, sR45_48, sR45_49]
      · rw [if_neg c] at p1
        have e : hD = hE := by injection p1 with p1; injection p1
        rw [← e]
        have c1 : ¬ nI (nM h f) = 0 := nI_ne0 (by omega) (by omega)
        simp only [f_X10_print_J140, x1, x2, g0 68 _ (by decide) (by decide) (by decide), d2, c1, hs, and_self, if_true, if_false, n_1_0, n_0_0, okOb_sI, okAb_sI, okOb_sW, okAb_sW, vl_e, un_e, nl_s, nl_n, bnd_e, gd_e, SH_sI, SH_sW, xI_sI, xR_sI, xL_sI, xK_sI, xN_sI, gI_sW, xR_sW, xL_sW, xK_sW, xN_sW, sO0, sO1, sO2, sA2, sL2, sO3, sA3, sL3, sO4, sA4, sL4, sO5, sA5, sL5, sO6, sA6, sL6, sO7, sA7, sL7, sO8, sA8, sL8, sO9, sO10, sA10, sL10, sO11, sA11, sL11, sO12, sA12, sL12, sO13, sO14, sA14, sL14, sO15, sA15, sL15, sO16, sA16, sL16, sO17, sA17, sL17, sO18, sA18, sL18, sO19, sA19, sL19, sO20, sO21, sA21, sL21, sO22, sA22, sL22, sO23, sA23, sL23, sO24, sA24, sL24, sO25, sO26, sA26, sL26, sO27, sA27, sL27, sO28, sA28, sL28, sO29, sA29, sL29, sO30, sA30, sL30, sO31, sA31, sL31, sO32, sA32, sL32, sO33, sO34, sA34, sL34, sO35, sA35, sL35, sO36, sA36, sL36, sO37, sO38, sA38, sL38, sO39, sA39, sL39, sO40, sA40, sL40, sO41, sO42, sA42, sL42, sO43, sA43, sL43, sO44, sA44, sL44, sO45, sO46, sA46, sL46, sO47, sA47, sL47, sO48, sA48, sL48, sO49, sA49, sL49, sO50, sA50, sL50, sO51, sA51, sL51, sO52, sA52, sL52, sO53, sA53, sL53, sO54, sA54, sL54, sO55, sA55, sL55, sO56, sA56, sL56, sO57, sA57, sL57, sO58, sA58, sL58, sO59, sA59, sL59, sO60, sA60, sL60, sO61, sA61, sL61, sO62, sA62, sL62, sO63, sA63, sL63, sO64, sA64, sL64, sO65, sA65, sL65, sO66, sA66, sL66, sO67, sA67, sL67, sO68, sA68, sL68, sO69, sA69, sL69, sO70, sA70, sL70, sO71, sA71, sL71, sO72, sA72, sL72, sO73, sA73, sL73, sO74, sA74, sL74, sO75, sA75, sL75, sO76, sA76, sL76, sO77, sA77, sL77, sO78, sA78, sL78, sO79, sA79, sL79, sO80, sA80, sL80, sO81, sA81, sL81, sO82, sA82, sL82, sO83, sA83, sL83, sO84, sA84, sL84, sO85, sA85, sL85, sO86, sA86, sL86, sO87, sA87, sL87, sR0_0, sR0_1, sR0_2, sR0_3, sR0_5, sR0_6, sR0_8, sR0_10, sR0_11, sR0_12, sR0_13, sR1_0, sR6_0, sR6_1, sR6_2, sR9_0, sR9_1, sR9_2, sR13_0, sR13_1, sR13_2, sR13_3, sR13_4, sR13_5, sR20_0, sR20_1, sR20_2, sR20_3, sR25_0, sR25_1, sR25_2, sR25_4, sR25_5, sR25_6, sR25_7, sR33_2, sR33_3, sR37_2, sR37_3, sR41_2, sR41_3, sR45_0, sR45_1, sR45_3, sR45_4, sR45_5, sR45_6, sR45_7, sR45_8, sR45_9, sR45_10, sR45_12, sR45_13, sR45_14, sR45_15, sR45_16, sR45_17, sR45_18, sR45_19, sR45_20, sR45_21, sR45_22, sR45_25, sR45_26, sR45_27, sR45_28, sR45_29, sR45_30, sR45_31, sR45_32, sR45_33, sR45_34, sR45_35, sR45_36, sR45_40, sR45_41, sR45_42, sR45_43, sR45_45, sR45_46, sR45_47, sR45_48, sR45_49]
    rw [hJ]
    by_cases c : fsB h f = true
    · rw [if_pos c] at r1 t1 ⊢
      subst r1
      simp only [f_X10_print_J154, f_X10_print_J169, div2 (show f < 2 ^ 31 by omega), rem2 (show f < 2 ^ 31 by omega), x3, x4, hsE, t1, and_self, if_true, if_false, n_1_0, n_0_0, okOb_sI, okAb_sI, okOb_sW, okAb_sW, vl_e, un_e, nl_s, nl_n, bnd_e, gd_e, SH_sI, SH_sW, xI_sI, xR_sI, xL_sI, xK_sI, xN_sI, gI_sW, xR_sW, xL_sW, xK_sW, xN_sW, sO0, sO1, sO2, sA2, sL2, sO3, sA3, sL3, sO4, sA4, sL4, sO5, sA5, sL5, sO6, sA6, sL6, sO7, sA7, sL7, sO8, sA8, sL8, sO9, sO10, sA10, sL10, sO11, sA11, sL11, sO12, sA12, sL12, sO13, sO14, sA14, sL14, sO15, sA15, sL15, sO16, sA16, sL16, sO17, sA17, sL17, sO18, sA18, sL18, sO19, sA19, sL19, sO20, sO21, sA21, sL21, sO22, sA22, sL22, sO23, sA23, sL23, sO24, sA24, sL24, sO25, sO26, sA26, sL26, sO27, sA27, sL27, sO28, sA28, sL28, sO29, sA29, sL29, sO30, sA30, sL30, sO31, sA31, sL31, sO32, sA32, sL32, sO33, sO34, sA34, sL34, sO35, sA35, sL35, sO36, sA36, sL36, sO37, sO38, sA38, sL38, sO39, sA39, sL39, sO40, sA40, sL40, sO41, sO42, sA42, sL42, sO43, sA43, sL43, sO44, sA44, sL44, sO45, sO46, sA46, sL46, sO47, sA47, sL47, sO48, sA48, sL48, sO49, sA49, sL49, sO50, sA50, sL50, sO51, sA51, sL51, sO52, sA52, sL52, sO53, sA53, sL53, sO54, sA54, sL54, sO55, sA55, sL55, sO56, sA56, sL56, sO57, sA57, sL57, sO58, sA58, sL58, sO59, sA59, sL59, sO60, sA60, sL60, sO61, sA61, sL61, sO62, sA62, sL62, sO63, sA63, sL63, sO64, sA64, sL64, sO65, sA65, sL65, sO66, sA66, sL66, sO67, sA67, sL67, sO68, sA68, sL68, sO69, sA69, sL69, sO70, sA70, sL70, sO71, sA71, sL71, sO72, sA72, sL72, sO73, sA73, sL73, sO74, sA74, sL74, sO75, sA75, sL75, sO76, sA76, sL76, sO77, sA77, sL77, sO78, sA78, sL78, sO79, sA79, sL79, sO80, sA80, sL80, sO81, sA81, sL81, sO82, sA82, sL82, sO83, sA83, sL83, sO84, sA84, sL84, sO85, sA85, sL85, sO86, sA86, sL86, sO87, sA87, sL87, sR0_0, sR0_1, sR0_2, sR0_3, sR0_5, sR0_6, sR0_8, sR0_10, sR0_11, sR0_12, sR0_13, sR1_0, sR6_0, sR6_1, sR6_2, sR9_0, sR9_1, sR9_2, sR13_0, sR13_1, sR13_2, sR13_3, sR13_4, sR13_5, sR20_0, sR20_1, sR20_2, sR20_3, sR25_0, sR25_1, sR25_2, sR25_4, sR25_5, sR25_6, sR25_7, sR33_2, sR33_3, sR37_2, sR37_3, sR41_2, sR41_3, sR45_0, sR45_1, sR45_3, sR45_4, sR45_5, sR45_6, sR45_7, sR45_8, sR45_9, sR45_10, sR45_12, sR45_13, sR45_14, sR45_15, sR45_16, sR45_17, sR45_18, sR45_19, sR45_20, sR45_21, sR45_22, sR45_25, sR45_26, sR45_27, sR45_28, sR45_29, sR45_30, sR45_31, sR45_32, sR45_33, sR45_34, sR45_35, sR45_36, sR45_40, sR45_41, sR45_42, sR45_43, sR45_45, sR45_46, sR45_47, sR45_48, sR45_49]
    · rw [if_neg c] at r1 t1 ⊢
      subst r1
      simp only [f_X10_print_J154, f_X10_print_J169, t1, and_self, if_true, if_false, n_1_0, n_0_0, okOb_sI, okAb_sI, okOb_sW, okAb_sW, vl_e, un_e, nl_s, nl_n, bnd_e, gd_e, SH_sI, SH_sW, xI_sI, xR_sI, xL_sI, xK_sI, xN_sI, gI_sW, xR_sW, xL_sW, xK_sW, xN_sW, sO0, sO1, sO2, sA2, sL2, sO3, sA3, sL3, sO4, sA4, sL4, sO5, sA5, sL5, sO6, sA6, sL6, sO7, sA7, sL7, sO8, sA8, sL8, sO9, sO10, sA10, sL10, sO11, sA11, sL11, sO12, sA12, sL12, sO13, sO14, sA14, sL14, sO15, sA15, sL15, sO16, sA16, sL16, sO17, sA17, sL17, sO18, sA18, sL18, sO19, sA19, sL19, sO20, sO21, sA21, sL21, sO22, sA22, sL22, sO23, sA23, sL23, sO24, sA24, sL24, sO25, sO26, sA26, sL26, sO27, sA27, sL27, sO28, sA28, sL28, sO29, sA29, sL29, sO30, sA30, sL30, sO31, sA31, sL31, sO32, sA32, sL32, sO33, sO34, sA34, sL34, sO35, sA35, sL35, sO36, sA36, sL36, sO37, sO38, sA38, sL38, sO39, sA39, sL39, sO40, sA40, sL40, sO41, sO42, sA42, sL42, sO43, sA43, sL43, sO44, sA44, sL44, sO45, sO46, sA46, sL46, sO47, sA47, sL47, sO48, sA48, sL48, sO49, sA49, sL49, sO50, sA50, sL50, sO51, sA51, sL51, sO52, sA52, sL52, sO53, sA53, sL53, sO54, sA54, sL54, sO55, sA55, sL55, sO56, sA56, sL56, sO57, sA57, sL57, sO58, sA58, sL58, sO59, sA59, sL59, sO60, sA60, sL60, sO61, sA61, sL61, sO62, sA62, sL62, sO63, sA63, sL63, sO64, sA64, sL64, sO65, sA65, sL65, sO66, sA66, sL66, sO67, sA67, sL67, sO68, sA68, sL68, sO69, sA69, sL69, sO70, sA70, sL70, sO71, sA71, sL71, sO72, sA72, sL72, sO73, sA73, sL73, sO74, sA74, sL74, sO75, sA75, sL75, sO76, sA76, sL76, sO77, sA77, sL77, sO78, sA78, sL78, sO79, sA79, sL79, sO80, sA80, sL80, sO81, sA81, sL81, sO82, sA82, sL82, sO83, sA83, sL83, sO84, sA84, sL84, sO85, sA85, sL85, sO86, sA86, sL86, sO87, sA87, sL87, sR0_0, sR0_1, sR0_2, sR0_3, sR0_5, sR0_6, sR0_8, sR0_10, sR0_11, sR0_12, sR0_13, sR1_0, sR6_0, sR6_1, sR6_2, sR9_0, sR9_1, sR9_2, sR13_0, sR13_1, sR13_2, sR13_3, sR13_4, sR13_5, sR20_0, sR20_1, sR20_2, sR20_3, sR25_0, sR25_1, sR25_2, sR25_4, sR25_5, sR25_6, sR25_7, sR33_2, sR33_3, sR37_2, sR37_3, sR41_2, sR41_3, sR45_0, sR45_1, sR45_3, sR45_4, sR45_5, sR45_6, sR45_7, sR45_8, sR45_9, sR45_10, sR45_12, sR45_13, sR45_14, sR45_15, sR45_16, sR45_17, sR45_18, sR45_19, sR45_20, sR45_21, sR45_22, sR45_25, sR45_26, sR45_27, sR45_28, sR45_29, sR45_30, sR45_31, sR45_32, sR45_33, sR45_34, sR45_35, sR45_36, sR45_40, sR45_41, sR45_42, sR45_43, sR45_45, sR45_46, sR45_47, sR45_48, sR45_49]
  · have G : ∀ a k, a ≠ 57 → gI (sI hG 57 d (gI h 57 d + nI R)) a k = gI hG a k := fun a k w => by rw [xI_sI, if_neg (by omega)]
    refine ⟨?_, ?_, fun s hs => ?_, ?_, fun g hg => ?_, fun j hj => ?_, fun x hx => ?_, ?_, ?_, fun e he => ?_, fun w j hj y hy => ?_, fun w x => ?_, fun p hp y hy => ?_⟩
    · refine (((p2.mono (fun a k w => ?_)).tr (r2.mono (fun a k w => ?_))).tr (q1.mono (fun a k w => ?_))).tr (Upd_sI ?_)
      · exact Or.inl w
      · exact Or.inr (Or.inl w)
      · omega
      · omega
    · rw [G _ _ (by decide), q1.2 _ _ (by omega)]; exact r3
    · rw [G _ _ (by decide), q1.2 _ _ (by omega)]; exact r4 s hs
    · rw [G _ _ (by decide)]; exact q2
    · rw [G _ _ (by decide), q3 g hg, gF _ _ (by decide) (by decide) (by decide) (by decide) (by decide)]
    · rw [G _ _ (by decide), q4 j hj, gF _ _ (by decide) (by decide) (by decide) (by decide) (by decide)]
    · rw [G _ _ (by decide), q5 x hx, gF _ _ (by decide) (by decide) (by decide) (by decide) (by decide)]
    · rw [G _ _ (by decide)]; exact q6
    · rw [xI_sI, if_pos ⟨rfl, rfl⟩]
    · rw [xI_sI, if_neg (by omega), q1.2 _ _ (by omega), gF _ _ (by decide) (by decide) (by decide) (by decide) (by decide)]
    · rw [G _ _ (by decide), q1.2 _ _ (by omega), r2.2 _ _ (show ¬ (51 = 66) by decide)]; exact p3 w j hj y hy
    · rw [G _ _ (by decide), q1.2 _ _ (by omega), r2.2 _ _ (show ¬ (51 = 66) by decide)]; exact p4 w x
    · rw [G _ _ (by decide), q1.2 _ _ (by omega), r2.2 _ _ (show ¬ (51 = 66) by decide)]; exact p5 p hp y hy
