theorem geo_pp {h : Hp} (i : IGeo h) {p q o o' : Nat} (hp : p < nP h) (hq : q < nP h) (ho : o < 4) (ho' : o' < 4) (e : pb h p + o = pb h q + o') : p = q ∧ o = o' := by
  have g := i.2.2.2.2.2.2.1
  rcases Nat.lt_trichotomy p q with c | c | c
  · have := g p q c hq; omega
  · subst c; exact ⟨rfl, by omega⟩
  · have := g q p c hp; omega
theorem geo_ss {h : Hp} (i : IGeo h) {s t o o' : Nat} (hs : s < nS h) (ht : t < nS h) (ho : o < 14) (ho' : o' < 14) (e : sb h s + o = sb h t + o') : s = t ∧ o = o' := by
  have g := i.2.2.2.2.2.2.2.1
  rcases Nat.lt_trichotomy s t with c | c | c
  · have := g s t c ht; omega
  · subst c; exact ⟨rfl, by omega⟩
  · have := g t s c hs; omega
theorem geo_ps {h : Hp} (i : IGeo h) {p s o o' : Nat} (hp : p < nP h) (hs : s < nS h) (ho : o < 4) (ho' : o' < 14) : pb h p + o ≠ sb h s + o' := by
  have := i.2.2.2.2.2.2.2.2 p s hp hs
  omega
theorem geo_ff {h : Hp} (i : IGeo h) {f g o o' : Nat} (hf : f < 2 * nS h) (hg : g < 2 * nS h) (ho : o < 6) (ho' : o' < 6) (e : fb h f + o = fb h g + o') : f = g ∧ o = o' := by
  unfold fb at e
  have := geo_ss i (s := f / 2) (t := g / 2) (o := 1 + 6 * (f % 2) + o) (o' := 1 + 6 * (g % 2) + o') (by omega) (by omega) (by omega) (by omega) (by omega)
  omega
theorem geo_fp {h : Hp} (i : IGeo h) {f p o o' : Nat} (hf : f < 2 * nS h) (hp : p < nP h) (ho : o < 6) (ho' : o' < 4) : fb h f + o ≠ pb h p + o' := by
  intro e
  unfold fb at e
  exact geo_ps i (p := p) (s := f / 2) (o := o') (o' := 1 + 6 * (f % 2) + o) hp (by omega) ho' (by omega) (by omega)
theorem geo_fs {h : Hp} (i : IGeo h) {f s o o' : Nat} (hf : f < 2 * nS h) (hs : s < nS h) (ho : o < 6) (ho' : o' = 0 ∨ o' = 13) : fb h f + o ≠ sb h s + o' := by
  intro e
  unfold fb at e
  have := geo_ss i (s := f / 2) (t := s) (o := 1 + 6 * (f % 2) + o) (o' := o') (by omega) hs (by omega) (by omega) (by omega)
  omega
theorem lo_p {h : Hp} (i : IGeo h) {p : Nat} (hp : p < nP h) : 88 ≤ pb h p := (i.2.2.2.2.1 p hp).2.1
theorem lo_s {h : Hp} (i : IGeo h) {s : Nat} (hs : s < nS h) : 88 ≤ sb h s := (sh_at i hs).2.1
theorem lo_f {h : Hp} (i : IGeo h) {f : Nat} (hf : f < 2 * nS h) : 88 ≤ fb h f := (fo_at i hf).2.2
theorem lv_le {h : Hp} (q : ISh h) {s : Nat} (hs : s < nS h) : 1 ≤ lv h s ∧ lv h s ≤ 8 := by
  obtain ⟨-, l1, l2, l3, -⟩ := q.2.1 s hs
  rw [l3]; rcases m3 l1 l2 with z | z | z <;> rw [z] <;> decide
/-- page on leaf j of forme f -/
def pgF (h : Hp) (f j : Nat) : Nat := pgS h (f / 2) (2 * j + f % 2)
theorem pgF_lt {h : Hp} (q : ISh h) {f j : Nat} (hf : f < 2 * nS h) (hj : j < lv h (f / 2)) : pgF h f j < nP h := (pgS_lt q (s := f / 2) (k := 2 * j + f % 2) (by omega) (by omega)).1
theorem pgF_at {h : Hp} (q : ISh h) {f j : Nat} (hf : f < 2 * nS h) (hj : j < lv h (f / 2)) : gR h (fb h f + 4) j = some (pb h (pgF h f j)) ∧ gI h 54 (pgF h f j) = nI (f / 2) ∧ gI h 55 (pgF h f j) = nI (2 * j + f % 2) ∧ gR h (pb h (pgF h f j)) 7 = some (fb h f) := by
  have := (q.2.1 (f / 2) (by omega)).2.2.2.2.2.2.2.2.2.2 (2 * j + f % 2) (by omega)
  rw [show (2 * j + f % 2) % 2 = f % 2 by omega, show (2 * j + f % 2) / 2 = j by omega, fo_dm] at this
  exact this
theorem pgF_inj {h : Hp} (i : IGeo h) (q : ISh h) {f g j k : Nat} (hf : f < 2 * nS h) (hg : g < 2 * nS h) (hj : j < lv h (f / 2)) (hk : k < lv h (g / 2)) (e : pgF h f j = pgF h g k) : f = g ∧ j = k := by
  have := pgS_sh i q (s := f / 2) (s' := g / 2) (by omega) (by omega) (by omega) (by omega) e
  omega
theorem pgF_S {h : Hp} {s k : Nat} : pgS h s k = pgF h (2 * s + k % 2) (k / 2) := by
  unfold pgF
  rw [show (2 * s + k % 2) / 2 = s by omega, show 2 * (k / 2) + (2 * s + k % 2) % 2 = k by omega]
set_option maxRecDepth 100000 in
theorem pageIn_x {h : Hp} (hs : SH h) {f j F m T : Nat} (hf : f < 12) (hj : j < 8) (hm : m ≤ 3) (hx : 2 * j + f % 2 < 16) (e1 : gI h 64 (f / 2) = nI F) (e2 : gI h 63 (f / 2) = nI m) (e3 : gI h 59 (16 * m + (2 * j + f % 2)) = nI T) : f_X10_pageIn h 45 (nI f) (nI j) = some (nI (F + T), h) := by
  have c3 : inB (nI (f / 2)) 6 = true := inB_nI (by omega) (by decide)
  have c4 : (nI (f / 2)).toNatClampNeg = f / 2 := nI_clamp (by omega)
  have c5 : inB (nI (16 * m + 2 * j + f % 2)) 64 = true := inB_nI (by omega) (by decide)
  have c6 : (nI (16 * m + 2 * j + f % 2)).toNatClampNeg = 16 * m + (2 * j + f % 2) := by rw [nI_clamp (by omega)]; omega
  simp only [f_X10_pageIn, div2 (show f < 2 ^ 31 by omega), rem2 (show f < 2 ^ 31 by omega), c3, c4, e1, e2, mul16, mul2, nI_add, c5, c6, e3, hs, and_self, if_true, if_false, n_1_0, n_0_0, okOb_sI, okAb_sI, okOb_sW, okAb_sW, vl_e, un_e, nl_s, nl_n, bnd_e, gd_e, SH_sI, SH_sW, xI_sI, xR_sI, xL_sI, xK_sI, xN_sI, gI_sW, xR_sW, xL_sW, xK_sW, xN_sW, sO0, sO1, sO2, sA2, sL2, sO3, sA3, sL3, sO4, sA4, sL4, sO5, sA5, sL5, sO6, sA6, sL6, sO7, sA7, sL7, sO8, sA8, sL8, sO9, sO10, sA10, sL10, sO11, sA11, sL11, sO12, sA12, sL12, sO13, sO14, sA14, sL14, sO15, sA15, sL15, sO16, sA16, sL16, sO17, sA17, sL17, sO18, sA18, sL18, sO19, sA19, sL19, sO20, sO21, sA21, sL21, sO22, sA22, sL22, sO23, sA23, sL23, sO24, sA24, sL24, sO25, sO26, sA26, sL26, sO27, sA27, sL27, sO28, sA28, sL28, sO29, sA29, sL29, sO30, sA30, sL30, sO31, sA31, sL31, sO32, sA32, sL32, sO33, sO34, sA34, sL34, sO35, sA35, sL35, sO36, sA36, sL36, sO37, sO38, sA38, sL38, sO39, sA39, sL39, sO40, sA40, sL40, sO41, sO42, sA42, sL42, sO43, sA43, sL43, sO44, sA44, sL44, sO45, sO46, sA46, sL46, sO47, sA47, sL47, sO48, sA48, sL48, sO49, sA49, sL49, sO50, sA50, sL50, sO51, sA51, sL51, sO52, sA52, sL52, sO53, sA53, sL53, sO54, sA54, sL54, sO55, sA55, sL55, sO56, sA56, sL56, sO57, sA57, sL57, sO58, sA58, sL58, sO59, sA59, sL59, sO60, sA60, sL60, sO61, sA61, sL61, sO62, sA62, sL62, sO63, sA63, sL63, sO64, sA64, sL64, sO65, sA65, sL65, sO66, sA66, sL66, sO67, sA67, sL67, sO68, sA68, sL68, sO69, sA69, sL69, sO70, sA70, sL70, sO71, sA71, sL71, sO72, sA72, sL72, sO73, sA73, sL73, sO74, sA74, sL74, sO75, sA75, sL75, sO76, sA76, sL76, sO77, sA77, sL77, sO78, sA78, sL78, sO79, sA79, sL79, sO80, sA80, sL80, sO81, sA81, sL81, sO82, sA82, sL82, sO83, sA83, sL83, sO84, sA84, sL84, sO85, sA85, sL85, sO86, sA86, sL86, sO87, sA87, sL87, sR0_0, sR0_1, sR0_2, sR0_3, sR0_5, sR0_6, sR0_8, sR0_10, sR0_11, sR0_12, sR0_13, sR1_0, sR6_0, sR6_1, sR6_2, sR9_0, sR9_1, sR9_2, sR13_0, sR13_1, sR13_2, sR13_3, sR13_4, sR13_5, sR20_0, sR20_1, sR20_2, sR20_3, sR25_0, sR25_1, sR25_2, sR25_4, sR25_5, sR25_6, sR25_7, sR33_2, sR33_3, sR37_2, sR37_3, sR41_2, sR41_3, sR45_0, sR45_1, sR45_3, sR45_4, sR45_5, sR45_6, sR45_7, sR45_8, sR45_9, sR45_10, sR45_12, sR45_13, sR45_14, sR45_15, sR45_16, sR45_17, sR45_18, sR45_19, sR45_20, sR45_21, sR45_22, sR45_25, sR45_26, sR45_27, sR45_28, sR45_29, sR45_30, sR45_31, sR45_32, sR45_33, sR45_34, sR45_35, sR45_36, sR45_40, sR45_41, sR45_42, sR45_43, sR45_45, sR45_46, sR45_47, sR45_48, sR45_49]
theorem pageIn_u {h h' : Hp} (hs : SH h') (i : IGeo h) (x : IFix h) (q : ISh h) {P : Nat → Nat → Prop} (u : Upd h h' P) (hP : ∀ a k, (a = 59 ∨ a = 63 ∨ a = 64) → ¬ P a k) {f j : Nat} (hf : f < 2 * nS h) (hj : j < lv h (f / 2)) : f_X10_pageIn h' 45 (nI f) (nI j) = some (nI (pgF h f j), h') := by
  have hn := i.2.2.2.1
  obtain ⟨e1, e2, e3, e4, e5, -⟩ := q.2.1 (f / 2) (by omega)
  have hl := lv_le q (s := f / 2) (by omega)
  refine pageIn_x hs (f := f) (j := j) (m := fm h (f / 2)) (by omega) (by omega) e3 (by omega) ?_ ?_ ?_
  · rw [u.2 _ _ (hP _ _ (by omega))]; exact e5
  · rw [u.2 _ _ (hP _ _ (by omega))]; exact e1
  · rw [u.2 _ _ (hP _ _ (by omega))]; exact ((x _ e2 e3).2.2.1 _ (by rw [← e4]; omega)).2
theorem pageIn_e {h : Hp} (hs : SH h) (i : IGeo h) (x : IFix h) (q : ISh h) {f j : Nat} (hf : f < 2 * nS h) (hj : j < lv h (f / 2)) : f_X10_pageIn h 45 (nI f) (nI j) = some (nI (pgF h f j), h) := pageIn_u hs i x q (Upd_rf h (fun _ _ => False)) (fun _ _ _ z => z) hf hj
set_option maxRecDepth 100000 in
theorem allSet_loop {h : Hp} (i : IGeo h) (q : ISh h) (d : IPd h) {f : Nat} (hf : f < 2 * nS h) : f_X2_allPagesSet h (fb h f) = some (1, h) ∧ (∀ j, j < lv h (f / 2) → gI h (pb h (pgF h f j)) 5 = 1) ∨ f_X2_allPagesSet h (fb h f) = some (0, h) ∧ ∃ j, j < lv h (f / 2) ∧ gI h (pb h (pgF h f j)) 5 = 0 := by
  have hl := lv_le q (s := f / 2) (by omega)
  obtain ⟨f1, f2, f3, f4, f5, f6, f7, f8, f9, -⟩ := fo_rules i hf
  unfold f_X2_allPagesSet
  refine forL (lv h (f / 2)) (fun n k (_ : Unit) => f_X2_allPagesSet_L2 n (fb h f) (nI k) h) (fun k _ => ∀ j, j < k → gI h (pb h (pgF h f j)) 5 = 1) (fun r => r = some (1, h) ∧ (∀ j, j < lv h (f / 2) → gI h (pb h (pgF h f j)) 5 = 1) ∨ r = some (0, h) ∧ ∃ j, j < lv h (f / 2) ∧ gI h (pb h (pgF h f j)) 5 = 0) ?_ ?_ (lv h (f / 2)) 6000 0 () (by omega) (by omega) (fun j hj => absurd hj (Nat.not_lt_zero j))
  · intro n k _ hk I
    have e1 : (nI k).toNatClampNeg = k := nI_clamp (by omega)
    have e2 : inB (nI k) (lv h (f / 2)) = true := inB_nI hk (by omega)
    have e3 : ¬ nI (lv h (f / 2)) ≤ nI k := nI_ge hk (by omega)
    have e4 := (pgF_at q hf hk).1
    obtain ⟨-, g2, -⟩ := pg_rules i (pgF_lt q hf hk)
    rw [f_X2_allPagesSet_L2]
    simp only [f1, f2, f7, f8, f9, toI, e1, e2, e3, e4, g2, nI_1, and_self, if_true, if_false, n_1_0, n_0_0, okOb_sI, okAb_sI, okOb_sW, okAb_sW, vl_e, un_e, nl_s, nl_n, bnd_e, gd_e, SH_sI, SH_sW, xI_sI, xR_sI, xL_sI, xK_sI, xN_sI, gI_sW, xR_sW, xL_sW, xK_sW, xN_sW, sO0, sO1, sO2, sA2, sL2, sO3, sA3, sL3, sO4, sA4, sL4, sO5, sA5, sL5, sO6, sA6, sL6, sO7, sA7, sL7, sO8, sA8, sL8, sO9, sO10, sA10, sL10, sO11, sA11, sL11, sO12, sA12, sL12, sO13, sO14, sA14, sL14, sO15, sA15, sL15, sO16, sA16, sL16, sO17, sA17, sL17, sO18, sA18, sL18, sO19, sA19, sL19, sO20, sO21, sA21, sL21, sO22, sA22, sL22, sO23, sA23, sL23, sO24, sA24, sL24, sO25, sO26, sA26, sL26, sO27, sA27, sL27, sO28, sA28, sL28, sO29, sA29, sL29, sO30, sA30, sL30, sO31, sA31, sL31, sO32, sA32, sL32, sO33, sO34, sA34, sL34, sO35, sA35, sL35, sO36, sA36, sL36, sO37, sO38, sA38, sL38, sO39, sA39, sL39, sO40, sA40, sL40, sO41, sO42, sA42, sL42, sO43, sA43, sL43, sO44, sA44, sL44, sO45, sO46, sA46, sL46, sO47, sA47, sL47, sO48, sA48, sL48, sO49, sA49, sL49, sO50, sA50, sL50, sO51, sA51, sL51, sO52, sA52, sL52, sO53, sA53, sL53, sO54, sA54, sL54, sO55, sA55, sL55, sO56, sA56, sL56, sO57, sA57, sL57, sO58, sA58, sL58, sO59, sA59, sL59, sO60, sA60, sL60, sO61, sA61, sL61, sO62, sA62, sL62, sO63, sA63, sL63, sO64, sA64, sL64, sO65, sA65, sL65, sO66, sA66, sL66, sO67, sA67, sL67, sO68, sA68, sL68, sO69, sA69, sL69, sO70, sA70, sL70, sO71, sA71, sL71, sO72, sA72, sL72, sO73, sA73, sL73, sO74, sA74, sL74, sO75, sA75, sL75, sO76, sA76, sL76, sO77, sA77, sL77, sO78, sA78, sL78, sO79, sA79, sL79, sO80, sA80, sL80, sO81, sA81, sL81, sO82, sA82, sL82, sO83, sA83, sL83, sO84, sA84, sL84, sO85, sA85, sL85, sO86, sA86, sL86, sO87, sA87, sL87, sR0_0, sR0_1, sR0_2, sR0_3, sR0_5, sR0_6, sR0_8, sR0_10, sR0_11, sR0_12, sR0_13, sR1_0, sR6_0, sR6_1, sR6_2, sR9_0, sR9_1, sR9_2, sR13_0, sR13_1, sR13_2, sR13_3, sR13_4, sR13_5, sR20_0, sR20_1, sR20_2, sR20_3, sR25_0, sR25_1, sR25_2, sR25_4, sR25_5, sR25_6, sR25_7, sR33_2, sR33_3, sR37_2, sR37_3, sR41_2, sR41_3, sR45_0, sR45_1, sR45_3, sR45_4, sR45_5, sR45_6, sR45_7, sR45_8, sR45_9, sR45_10, sR45_12, sR45_13, sR45_14, sR45_15, sR45_16, sR45_17, sR45_18, sR45_19, sR45_20, sR45_21, sR45_22, sR45_25, sR45_26, sR45_27, sR45_28, sR45_29, sR45_30, sR45_31, sR45_32, sR45_33, sR45_34, sR45_35, sR45_36, sR45_40, sR45_41, sR45_42, sR45_43, sR45_45, sR45_46, sR45_47, sR45_48, sR45_49]
    rcases (d.2 _ (pgF_lt q hf hk)).2.2.2.2 with ⟨z, -⟩ | ⟨z, -⟩
    · exact Or.inl (Or.inr ⟨by rw [z, if_pos rfl], k, hk, z⟩)
    · refine Or.inr ⟨(), by rw [z, if_neg (by decide)], fun j hj => ?_⟩
      by_cases c : j = k
      · rw [c]; exact z
      · exact I j (by omega)
  · intro n _ I
    refine Or.inl ⟨?_, I⟩
    have e3 : nI (lv h (f / 2)) ≤ nI (lv h (f / 2)) := nI_le (Nat.le_refl _) (by omega)
    rw [f_X2_allPagesSet_L2]
    simp only [f1, f2, f7, f9, toI, e3, and_self, if_true, if_false, n_1_0, n_0_0, okOb_sI, okAb_sI, okOb_sW, okAb_sW, vl_e, un_e, nl_s, nl_n, bnd_e, gd_e, SH_sI, SH_sW, xI_sI, xR_sI, xL_sI, xK_sI, xN_sI, gI_sW, xR_sW, xL_sW, xK_sW, xN_sW, sO0, sO1, sO2, sA2, sL2, sO3, sA3, sL3, sO4, sA4, sL4, sO5, sA5, sL5, sO6, sA6, sL6, sO7, sA7, sL7, sO8, sA8, sL8, sO9, sO10, sA10, sL10, sO11, sA11, sL11, sO12, sA12, sL12, sO13, sO14, sA14, sL14, sO15, sA15, sL15, sO16, sA16, sL16, sO17, sA17, sL17, sO18, sA18, sL18, sO19, sA19, sL19, sO20, sO21, sA21, sL21, sO22, sA22, sL22, sO23, sA23, sL23, sO24, sA24, sL24, sO25, sO26, sA26, sL26, sO27, sA27, sL27, sO28, sA28, sL28, sO29, sA29, sL29, sO30, sA30, sL30, sO31, sA31, sL31, sO32, sA32, sL32, sO33, sO34, sA34, sL34, sO35, sA35, sL35, sO36, sA36, sL36, sO37, sO38, sA38, sL38, sO39, sA39, sL39, sO40, sA40, sL40, sO41, sO42, sA42, sL42, sO43, sA43, sL43, sO44, sA44, sL44, sO45, sO46, sA46, sL46, sO47, sA47, sL47, sO48, sA48, sL48, sO49, sA49, sL49, sO50, sA50, sL50, sO51, sA51, sL51, sO52, sA52, sL52, sO53, sA53, sL53, sO54, sA54, sL54, sO55, sA55, sL55, sO56, sA56, sL56, sO57, sA57, sL57, sO58, sA58, sL58, sO59, sA59, sL59, sO60, sA60, sL60, sO61, sA61, sL61, sO62, sA62, sL62, sO63, sA63, sL63, sO64, sA64, sL64, sO65, sA65, sL65, sO66, sA66, sL66, sO67, sA67, sL67, sO68, sA68, sL68, sO69, sA69, sL69, sO70, sA70, sL70, sO71, sA71, sL71, sO72, sA72, sL72, sO73, sA73, sL73, sO74, sA74, sL74, sO75, sA75, sL75, sO76, sA76, sL76, sO77, sA77, sL77, sO78, sA78, sL78, sO79, sA79, sL79, sO80, sA80, sL80, sO81, sA81, sL81, sO82, sA82, sL82, sO83, sA83, sL83, sO84, sA84, sL84, sO85, sA85, sL85, sO86, sA86, sL86, sO87, sA87, sL87, sR0_0, sR0_1, sR0_2, sR0_3, sR0_5, sR0_6, sR0_8, sR0_10, sR0_11, sR0_12, sR0_13, sR1_0, sR6_0, sR6_1, sR6_2, sR9_0, sR9_1, sR9_2, sR13_0, sR13_1, sR13_2, sR13_3, sR13_4, sR13_5, sR20_0, sR20_1, sR20_2, sR20_3, sR25_0, sR25_1, sR25_2, sR25_4, sR25_5, sR25_6, sR25_7, sR33_2, sR33_3, sR37_2, sR37_3, sR41_2, sR41_3, sR45_0, sR45_1, sR45_3, sR45_4, sR45_5, sR45_6, sR45_7, sR45_8, sR45_9, sR45_10, sR45_12, sR45_13, sR45_14, sR45_15, sR45_16, sR45_17, sR45_18, sR45_19, sR45_20, sR45_21, sR45_22, sR45_25, sR45_26, sR45_27, sR45_28, sR45_29, sR45_30, sR45_31, sR45_32, sR45_33, sR45_34, sR45_35, sR45_36, sR45_40, sR45_41, sR45_42, sR45_43, sR45_45, sR45_46, sR45_47, sR45_48, sR45_49]
set_option maxRecDepth 100000 in
theorem im45 {h : Hp} (hs : SH h) (K : Nat → Int32 → Int32 → Int32 → Hp → Option (Int32 × Hp)) (f k0 : Int32) : (∀ g, g < 12 → gI h 67 g ≠ k0) ∧ f_X10_impose_L45 K 6000 45 f k0 0 h = K 45 f k0 (nI 12) h ∨ (∃ g, g < 12 ∧ gI h 67 g = k0) ∧ f_X10_impose_L45 K 6000 45 f k0 0 h = some (-3, h) := by
  refine forL 12 (fun n k (_ : Unit) => f_X10_impose_L45 K n 45 f k0 (nI k) h) (fun k _ => ∀ g, g < k → gI h 67 g ≠ k0) (fun r => (∀ g, g < 12 → gI h 67 g ≠ k0) ∧ r = K 45 f k0 (nI 12) h ∨ (∃ g, g < 12 ∧ gI h 67 g = k0) ∧ r = some (-3, h)) ?_ ?_ 12 6000 0 () (by decide) (by decide) (fun j hj => absurd hj (Nat.not_lt_zero j))
  · intro n k _ hk I
    have e1 : (nI k).toNatClampNeg = k := nI_clamp (by omega)
    have e2 : inB (nI k) 12 = true := inB_nI hk (by omega)
    have e3 : ¬ (12 : Int32) ≤ nI k := nI_ge (b := 12) hk (by omega)
    rw [f_X10_impose_L45]
    simp only [e1, e2, e3, hs, nI_1, and_self, if_true, if_false, n_1_0, n_0_0, okOb_sI, okAb_sI, okOb_sW, okAb_sW, vl_e, un_e, nl_s, nl_n, bnd_e, gd_e, SH_sI, SH_sW, xI_sI, xR_sI, xL_sI, xK_sI, xN_sI, gI_sW, xR_sW, xL_sW, xK_sW, xN_sW, sO0, sO1, sO2, sA2, sL2, sO3, sA3, sL3, sO4, sA4, sL4, sO5, sA5, sL5, sO6, sA6, sL6, sO7, sA7, sL7, sO8, sA8, sL8, sO9, sO10, sA10, sL10, sO11, sA11, sL11, sO12, sA12, sL12, sO13, sO14, sA14, sL14, sO15, sA15, sL15, sO16, sA16, sL16, sO17, sA17, sL17, sO18, sA18, sL18, sO19, sA19, sL19, sO20, sO21, sA21, sL21, sO22, sA22, sL22, sO23, sA23, sL23, sO24, sA24, sL24, sO25, sO26, sA26, sL26, sO27, sA27, sL27, sO28, sA28, sL28, sO29, sA29, sL29, sO30, sA30, sL30, sO31, sA31, sL31, sO32, sA32, sL32, sO33, sO34, sA34, sL34, sO35, sA35, sL35, sO36, sA36, sL36, sO37, sO38, sA38, sL38, sO39, sA39, sL39, sO40, sA40, sL40, sO41, sO42, sA42, sL42, sO43, sA43, sL43, sO44, sA44, sL44, sO45, sO46, sA46, sL46, sO47, sA47, sL47, sO48, sA48, sL48, sO49, sA49, sL49, sO50, sA50, sL50, sO51, sA51, sL51, sO52, sA52, sL52, sO53, sA53, sL53, sO54, sA54, sL54, sO55, sA55, sL55, sO56, sA56, sL56, sO57, sA57, sL57, sO58, sA58, sL58, sO59, sA59, sL59, sO60, sA60, sL60, sO61, sA61, sL61, sO62, sA62, sL62, sO63, sA63, sL63, sO64, sA64, sL64, sO65, sA65, sL65, sO66, sA66, sL66, sO67, sA67, sL67, sO68, sA68, sL68, sO69, sA69, sL69, sO70, sA70, sL70, sO71, sA71, sL71, sO72, sA72, sL72, sO73, sA73, sL73, sO74, sA74, sL74, sO75, sA75, sL75, sO76, sA76, sL76, sO77, sA77, sL77, sO78, sA78, sL78, sO79, sA79, sL79, sO80, sA80, sL80, sO81, sA81, sL81, sO82, sA82, sL82, sO83, sA83, sL83, sO84, sA84, sL84, sO85, sA85, sL85, sO86, sA86, sL86, sO87, sA87, sL87, sR0_0, sR0_1, sR0_2, sR0_3, sR0_5, sR0_6, sR0_8, sR0_10, sR0_11, sR0_12, sR0_13, sR1_0, sR6_0, sR6_1, sR6_2, sR9_0, sR9_1, sR9_2, sR13_0, sR13_1, sR13_2, sR13_3, sR13_4, sR13_5, sR20_0, sR20_1, sR20_2, sR20_3, sR25_0, sR25_1, sR25_2, sR25_4, sR25_5, sR25_6, sR25_7, sR33_2, sR33_3, sR37_2, sR37_3, sR41_2, sR41_3, sR45_0, sR45_1, sR45_3, sR45_4, sR45_5, sR45_6, sR45_7, sR45_8, sR45_9, sR45_10, sR45_12, sR45_13, sR45_14, sR45_15, sR45_16, sR45_17, sR45_18, sR45_19, sR45_20, sR45_21, sR45_22, sR45_25, sR45_26, sR45_27, sR45_28, sR45_29, sR45_30, sR45_31, sR45_32, sR45_33, sR45_34, sR45_35, sR45_36, sR45_40, sR45_41, sR45_42, sR45_43, sR45_45, sR45_46, sR45_47, sR45_48, sR45_49]
    by_cases c : gI h 67 k = k0
    · exact Or.inl (Or.inr ⟨⟨k, hk, c⟩, by rw [if_pos c]⟩)
    · refine Or.inr ⟨(), by rw [if_neg c], fun j hj => ?_⟩
      by_cases c2 : j = k
      · rw [c2]; exact c
      · exact I j (by omega)
  · intro n _ I
    refine Or.inl ⟨I, ?_⟩
    rw [f_X10_impose_L45, if_pos (by decide)]
set_option maxRecDepth 100000 in
theorem im85 {h : Hp} (hs : SH h) (i : IGeo h) (x : IFix h) (q : ISh h) (d : IPd h) {f : Nat} (hf : f < 2 * nS h) (hu : ∀ j, j < lv h (f / 2) → gI h 53 (pgF h f j) = -1) (K : Nat → Int32 → Int32 → Int32 → Int32 → Hp → Option (Int32 × Hp)) (k0 : Int32) : (∀ j, j < lv h (f / 2) → gI h (pb h (pgF h f j)) 5 = 1) ∧ f_X10_impose_L85 K 6000 45 (nI f) k0 (nI (lv h (f / 2))) 0 h = K 45 (nI f) k0 (nI (lv h (f / 2))) (nI (lv h (f / 2))) h ∨ (∃ j, j < lv h (f / 2) ∧ gI h (pb h (pgF h f j)) 5 = 0) ∧ f_X10_impose_L85 K 6000 45 (nI f) k0 (nI (lv h (f / 2))) 0 h = some (-3, h) := by
  have hl := lv_le q (s := f / 2) (by omega)
  have hnp := i.2.1
  refine forL (lv h (f / 2)) (fun n k (_ : Unit) => f_X10_impose_L85 K n 45 (nI f) k0 (nI (lv h (f / 2))) (nI k) h) (fun k _ => ∀ j, j < k → gI h (pb h (pgF h f j)) 5 = 1) (fun r => (∀ j, j < lv h (f / 2) → gI h (pb h (pgF h f j)) 5 = 1) ∧ r = K 45 (nI f) k0 (nI (lv h (f / 2))) (nI (lv h (f / 2))) h ∨ (∃ j, j < lv h (f / 2) ∧ gI h (pb h (pgF h f j)) 5 = 0) ∧ r = some (-3, h)) ?_ ?_ (lv h (f / 2)) 6000 0 () (by omega) (by omega) (fun j hj => absurd hj (Nat.not_lt_zero j))
  · intro n k _ hk I
    have hp := pgF_lt q hf hk
    have e1 : (nI (pgF h f k)).toNatClampNeg = pgF h f k := nI_clamp (by omega)
    have e2 : inB (nI (pgF h f k)) 48 = true := inB_nI (by omega) (by omega)
    have e3 : ¬ nI (lv h (f / 2)) ≤ nI k := nI_ge hk (by omega)
    rw [f_X10_impose_L85]
    simp only [e1, e2, e3, hs, pageIn_e hs i x q hf hk, hu k hk, lt_m1, nI_1, and_self, if_true, if_false, n_1_0, n_0_0, okOb_sI, okAb_sI, okOb_sW, okAb_sW, vl_e, un_e, nl_s, nl_n, bnd_e, gd_e, SH_sI, SH_sW, xI_sI, xR_sI, xL_sI, xK_sI, xN_sI, gI_sW, xR_sW, xL_sW, xK_sW, xN_sW, sO0, sO1, sO2, sA2, sL2, sO3, sA3, sL3, sO4, sA4, sL4, sO5, sA5, sL5, sO6, sA6, sL6, sO7, sA7, sL7, sO8, sA8, sL8, sO9, sO10, sA10, sL10, sO11, sA11, sL11, sO12, sA12, sL12, sO13, sO14, sA14, sL14, sO15, sA15, sL15, sO16, sA16, sL16, sO17, sA17, sL17, sO18, sA18, sL18, sO19, sA19, sL19, sO20, sO21, sA21, sL21, sO22, sA22, sL22, sO23, sA23, sL23, sO24, sA24, sL24, sO25, sO26, sA26, sL26, sO27, sA27, sL27, sO28, sA28, sL28, sO29, sA29, sL29, sO30, sA30, sL30, sO31, sA31, sL31, sO32, sA32, sL32, sO33, sO34, sA34, sL34, sO35, sA35, sL35, sO36, sA36, sL36, sO37, sO38, sA38, sL38, sO39, sA39, sL39, sO40, sA40, sL40, sO41, sO42, sA42, sL42, sO43, sA43, sL43, sO44, sA44, sL44, sO45, sO46, sA46, sL46, sO47, sA47, sL47, sO48, sA48, sL48, sO49, sA49, sL49, sO50, sA50, sL50, sO51, sA51, sL51, sO52, sA52, sL52, sO53, sA53, sL53, sO54, sA54, sL54, sO55, sA55, sL55, sO56, sA56, sL56, sO57, sA57, sL57, sO58, sA58, sL58, sO59, sA59, sL59, sO60, sA60, sL60, sO61, sA61, sL61, sO62, sA62, sL62, sO63, sA63, sL63, sO64, sA64, sL64, sO65, sA65, sL65, sO66, sA66, sL66, sO67, sA67, sL67, sO68, sA68, sL68, sO69, sA69, sL69, sO70, sA70, sL70, sO71, sA71, sL71, sO72, sA72, sL72, sO73, sA73, sL73, sO74, sA74, sL74, sO75, sA75, sL75, sO76, sA76, sL76, sO77, sA77, sL77, sO78, sA78, sL78, sO79, sA79, sL79, sO80, sA80, sL80, sO81, sA81, sL81, sO82, sA82, sL82, sO83, sA83, sL83, sO84, sA84, sL84, sO85, sA85, sL85, sO86, sA86, sL86, sO87, sA87, sL87, sR0_0, sR0_1, sR0_2, sR0_3, sR0_5, sR0_6, sR0_8, sR0_10, sR0_11, sR0_12, sR0_13, sR1_0, sR6_0, sR6_1, sR6_2, sR9_0, sR9_1, sR9_2, sR13_0, sR13_1, sR13_2, sR13_3, sR13_4, sR13_5, sR20_0, sR20_1, sR20_2, sR20_3, sR25_0, sR25_1, sR25_2, sR25_4, sR25_5, sR25_6, sR25_7, sR33_2, sR33_3, sR37_2, sR37_3, sR41_2, sR41_3, sR45_0, sR45_1, sR45_3, sR45_4, sR45_5, sR45_6, sR45_7, sR45_8, sR45_9, sR45_10, sR45_12, sR45_13, sR45_14, sR45_15, sR45_16, sR45_17, sR45_18, sR45_19, sR45_20, sR45_21, sR45_22, sR45_25, sR45_26, sR45_27, sR45_28, sR45_29, sR45_30, sR45_31, sR45_32, sR45_33, sR45_34, sR45_35, sR45_36, sR45_40, sR45_41, sR45_42, sR45_43, sR45_45, sR45_46, sR45_47, sR45_48, sR45_49]
    rcases (d.2 _ hp).2.2.2.2 with ⟨z, z2⟩ | ⟨z, -, ⟨v, hv, z2⟩, -⟩
    · exact Or.inl (Or.inr ⟨⟨k, hk, z⟩, by rw [z2, if_pos (by decide)]⟩)
    · refine Or.inr ⟨(), by rw [z2, if_neg (nI_pos (by omega))], fun j hj => ?_⟩
      by_cases c : j = k
      · rw [c]; exact z
      · exact I j (by omega)
  · intro n _ I
    refine Or.inl ⟨I, ?_⟩
    rw [f_X10_impose_L85, if_pos (nI_le (Nat.le_refl _) (by omega))]
/-- the pages of a forme get a mark in 53 -/
def Mk (h h2 : Hp) (f k : Nat) (y : Int32) : Prop := Upd h h2 (fun a _ => a = 53) ∧ (∀ j, j < k → gI h2 53 (pgF h f j) = y) ∧ ∀ p, (∀ j, j < k → p ≠ pgF h f j) → gI h2 53 p = gI h 53 p
theorem Mk_0 (h : Hp) (f : Nat) (y : Int32) : Mk h h f 0 y := ⟨Upd_rf _ _, fun j hj => absurd hj (Nat.not_lt_zero j), fun _ _ => rfl⟩
theorem Mk_s {h h2 : Hp} {f k : Nat} {y : Int32} (m : Mk h h2 f k y) : Mk h (sI h2 53 (pgF h f k) y) f (k + 1) y := by
  refine ⟨m.1.tr (Upd_sI rfl), fun j hj => ?_, fun p hp => ?_⟩
  · rw [xI_sI]
    by_cases c : pgF h f j = pgF h f k
    · rw [if_pos ⟨rfl, c⟩]
    · rw [if_neg (fun z => c z.2)]
      have : j ≠ k := fun z => c (by rw [z])
      exact m.2.1 j (by omega)
  · rw [xI_sI, if_neg (fun z => hp k (by omega) z.2)]
    exact m.2.2 p (fun j hj => hp j (by omega))
set_option maxRecDepth 100000 in
theorem im132 {h h0 : Hp} (hs : SH h0) (i : IGeo h) (x : IFix h) (q : ISh h) {P : Nat → Nat → Prop} (u : Upd h h0 P) (hP : ∀ a k, (a = 59 ∨ a = 63 ∨ a = 64) → ¬ P a k) {f : Nat} (hf : f < 2 * nS h) (hpg : ∀ j, pgF h0 f j = pgF h f j) (k0 : Int32) : ∃ h2, f_X10_impose_L132 6000 45 (nI f) k0 (nI (lv h (f / 2))) 0 h0 = some (nI (lv h (f / 2)), sI h2 67 f k0) ∧ Mk h0 h2 f (lv h (f / 2)) (nI f) := by
  have hl := lv_le q (s := f / 2) (by omega)
  have hnp := i.2.1
  have hn := i.2.2.2.1
  refine forL (lv h (f / 2)) (fun n k (h3 : Hp) => f_X10_impose_L132 n 45 (nI f) k0 (nI (lv h (f / 2))) (nI k) h3) (fun k h3 => Mk h0 h3 f k (nI f)) (fun r => ∃ h2, r = some (nI (lv h (f / 2)), sI h2 67 f k0) ∧ Mk h0 h2 f (lv h (f / 2)) (nI f)) ?_ ?_ (lv h (f / 2)) 6000 0 h0 (by omega) (by omega) (Mk_0 _ _ _)
  · intro n k h3 hk I
    have hp := pgF_lt q hf hk
    have hs3 := I.1.sh hs
    have e1 : (nI (pgF h f k)).toNatClampNeg = pgF h f k := nI_clamp (by omega)
    have e2 : inB (nI (pgF h f k)) 48 = true := inB_nI (by omega) (by omega)
    have e3 : ¬ nI (lv h (f / 2)) ≤ nI k := nI_ge hk (by omega)
    have e4 := pageIn_u hs3 i x q (P := fun a k => P a k ∨ a = 53) ((u.mono (fun a k z => Or.inl z)).tr (I.1.mono (fun a k z => Or.inr z))) (fun a k z w => by rcases w with w | w; exact hP a k z w; omega) hf hk
    rw [f_X10_impose_L132]
    simp only [e1, e2, e3, hs3, e4, nI_1, and_self, if_true, if_false, n_1_0, n_0_0, okOb_sI, okAb_sI, okOb_sW, okAb_sW, vl_e, un_e, nl_s, nl_n, bnd_e, gd_e, SH_sI, SH_sW, xI_sI, xR_sI, xL_sI, xK_sI, xN_sI, gI_sW, xR_sW, xL_sW, xK_sW, xN_sW, sO0, sO1, sO2, sA2, sL2, sO3, sA3, sL3, sO4, sA4, sL4, sO5, sA5, sL5, sO6, sA6, sL6, sO7, sA7, sL7, sO8, sA8, sL8, sO9, sO10, sA10, sL10, sO11, sA11, sL11, sO12, sA12, sL12, sO13, sO14, sA14, sL14, sO15, sA15, sL15, sO16, sA16, sL16, sO17, sA17, sL17, sO18, sA18, sL18, sO19, sA19, sL19, sO20, sO21, sA21, sL21, sO22, sA22, sL22, sO23, sA23, sL23, sO24, sA24, sL24, sO25, sO26, sA26, sL26, sO27, sA27, sL27, sO28, sA28, sL28, sO29, sA29, sL29, sO30, sA30, sL30, sO31, sA31, sL31, sO32, sA32, sL32, sO33, sO34, sA34, sL34, sO35, sA35, sL35, sO36, sA36, sL36, sO37, sO38, sA38, sL38, sO39, sA39, sL39, sO40, sA40, sL40, sO41, sO42, sA42, sL42, sO43, sA43, sL43, sO44, sA44, sL44, sO45, sO46, sA46, sL46, sO47, sA47, sL47, sO48, sA48, sL48, sO49, sA49, sL49, sO50, sA50, sL50, sO51, sA51, sL51, sO52, sA52, sL52, sO53, sA53, sL53, sO54, sA54, sL54, sO55, sA55, sL55, sO56, sA56, sL56, sO57, sA57, sL57, sO58, sA58, sL58, sO59, sA59, sL59, sO60, sA60, sL60, sO61, sA61, sL61, sO62, sA62, sL62, sO63, sA63, sL63, sO64, sA64, sL64, sO65, sA65, sL65, sO66, sA66, sL66, sO67, sA67, sL67, sO68, sA68, sL68, sO69, sA69, sL69, sO70, sA70, sL70, sO71, sA71, sL71, sO72, sA72, sL72, sO73, sA73, sL73, sO74, sA74, sL74, sO75, sA75, sL75, sO76, sA76, sL76, sO77, sA77, sL77, sO78, sA78, sL78, sO79, sA79, sL79, sO80, sA80, sL80, sO81, sA81, sL81, sO82, sA82, sL82, sO83, sA83, sL83, sO84, sA84, sL84, sO85, sA85, sL85, sO86, sA86, sL86, sO87, sA87, sL87, sR0_0, sR0_1, sR0_2, sR0_3, sR0_5, sR0_6, sR0_8, sR0_10, sR0_11, sR0_12, sR0_13, sR1_0, sR6_0, sR6_1, sR6_2, sR9_0, sR9_1, sR9_2, sR13_0, sR13_1, sR13_2, sR13_3, sR13_4, sR13_5, sR20_0, sR20_1, sR20_2, sR20_3, sR25_0, sR25_1, sR25_2, sR25_4, sR25_5, sR25_6, sR25_7, sR33_2, sR33_3, sR37_2, sR37_3, sR41_2, sR41_3, sR45_0, sR45_1, sR45_3, sR45_4, sR45_5, sR45_6, sR45_7, sR45_8, sR45_9, sR45_10, sR45_12, sR45_13, sR45_14, sR45_15, sR45_16, sR45_17, sR45_18, sR45_19, sR45_20, sR45_21, sR45_22, sR45_25, sR45_26, sR45_27, sR45_28, sR45_29, sR45_30, sR45_31, sR45_32, sR45_33, sR45_34, sR45_35, sR45_36, sR45_40, sR45_41, sR45_42, sR45_43, sR45_45, sR45_46, sR45_47, sR45_48, sR45_49]
    have := Mk_s I
    rw [hpg] at this
    exact Or.inr ⟨_, rfl, this⟩
  · intro n h3 I
    have hs3 := I.1.sh hs
    have e1 : (nI f).toNatClampNeg = f := nI_clamp (by omega)
    have e2 : inB (nI f) 12 = true := inB_nI (by omega) (by omega)
    refine ⟨h3, ?_, I⟩
    rw [f_X10_impose_L132, if_pos (nI_le (Nat.le_refl _) (by omega))]
    simp only [hs3, e1, e2, and_self, if_true, if_false, n_1_0, n_0_0, okOb_sI, okAb_sI, okOb_sW, okAb_sW, vl_e, un_e, nl_s, nl_n, bnd_e, gd_e, SH_sI, SH_sW, xI_sI, xR_sI, xL_sI, xK_sI, xN_sI, gI_sW, xR_sW, xL_sW, xK_sW, xN_sW, sO0, sO1, sO2, sA2, sL2, sO3, sA3, sL3, sO4, sA4, sL4, sO5, sA5, sL5, sO6, sA6, sL6, sO7, sA7, sL7, sO8, sA8, sL8, sO9, sO10, sA10, sL10, sO11, sA11, sL11, sO12, sA12, sL12, sO13, sO14, sA14, sL14, sO15, sA15, sL15, sO16, sA16, sL16, sO17, sA17, sL17, sO18, sA18, sL18, sO19, sA19, sL19, sO20, sO21, sA21, sL21, sO22, sA22, sL22, sO23, sA23, sL23, sO24, sA24, sL24, sO25, sO26, sA26, sL26, sO27, sA27, sL27, sO28, sA28, sL28, sO29, sA29, sL29, sO30, sA30, sL30, sO31, sA31, sL31, sO32, sA32, sL32, sO33, sO34, sA34, sL34, sO35, sA35, sL35, sO36, sA36, sL36, sO37, sO38, sA38, sL38, sO39, sA39, sL39, sO40, sA40, sL40, sO41, sO42, sA42, sL42, sO43, sA43, sL43, sO44, sA44, sL44, sO45, sO46, sA46, sL46, sO47, sA47, sL47, sO48, sA48, sL48, sO49, sA49, sL49, sO50, sA50, sL50, sO51, sA51, sL51, sO52, sA52, sL52, sO53, sA53, sL53, sO54, sA54, sL54, sO55, sA55, sL55, sO56, sA56, sL56, sO57, sA57, sL57, sO58, sA58, sL58, sO59, sA59, sL59, sO60, sA60, sL60, sO61, sA61, sL61, sO62, sA62, sL62, sO63, sA63, sL63, sO64, sA64, sL64, sO65, sA65, sL65, sO66, sA66, sL66, sO67, sA67, sL67, sO68, sA68, sL68, sO69, sA69, sL69, sO70, sA70, sL70, sO71, sA71, sL71, sO72, sA72, sL72, sO73, sA73, sL73, sO74, sA74, sL74, sO75, sA75, sL75, sO76, sA76, sL76, sO77, sA77, sL77, sO78, sA78, sL78, sO79, sA79, sL79, sO80, sA80, sL80, sO81, sA81, sL81, sO82, sA82, sL82, sO83, sA83, sL83, sO84, sA84, sL84, sO85, sA85, sL85, sO86, sA86, sL86, sO87, sA87, sL87, sR0_0, sR0_1, sR0_2, sR0_3, sR0_5, sR0_6, sR0_8, sR0_10, sR0_11, sR0_12, sR0_13, sR1_0, sR6_0, sR6_1, sR6_2, sR9_0, sR9_1, sR9_2, sR13_0, sR13_1, sR13_2, sR13_3, sR13_4, sR13_5, sR20_0, sR20_1, sR20_2, sR20_3, sR25_0, sR25_1, sR25_2, sR25_4, sR25_5, sR25_6, sR25_7, sR33_2, sR33_3, sR37_2, sR37_3, sR41_2, sR41_3, sR45_0, sR45_1, sR45_3, sR45_4, sR45_5, sR45_6, sR45_7, sR45_8, sR45_9, sR45_10, sR45_12, sR45_13, sR45_14, sR45_15, sR45_16, sR45_17, sR45_18, sR45_19, sR45_20, sR45_21, sR45_22, sR45_25, sR45_26, sR45_27, sR45_28, sR45_29, sR45_30, sR45_31, sR45_32, sR45_33, sR45_34, sR45_35, sR45_36, sR45_40, sR45_41, sR45_42, sR45_43, sR45_45, sR45_46, sR45_47, sR45_48, sR45_49]
def PK (h : Hp) (f : Nat) (a k : Nat) : Prop := (a = fb h f ∧ k = 2) ∨ a = 8 ∨ a = 67 ∨ a = 53
theorem PK_geo {h : Hp} {f : Nat} (i : IGeo h) (hf : f < 2 * nS h) : ¬ PK h f 0 4 ∧ ¬ PK h f 0 7 := by
  have := lo_f i hf
  unfold PK; omega
theorem Upd.pgs {h h2 : Hp} {P : Nat → Nat → Prop} (u : Upd h h2 P) (hP : ∀ a k, (a = 63 ∨ a = 64) → ¬ P a k) : pgS h2 = pgS h ∧ pgF h2 = pgF h := by
  have f1 : fm h2 = fm h := by funext s; unfold fm; rw [u.2 _ _ (hP _ _ (by omega))]
  have f2 : fst h2 = fst h := by funext s; unfold fst; rw [u.2 _ _ (hP _ _ (by omega))]
  have f3 : pgS h2 = pgS h := by funext s k; unfold pgS; rw [f1, f2]
  exact ⟨f3, by funext f j; unfold pgF; rw [f3]⟩
theorem sk_imp {h h2 : Hp} (i : IGeo h) (q : ISh h) (k : ISk h) (m : ISm h) {f k0 : Nat} (hf : f < 2 * nS h) (hk0 : k0 < 4) (u : Upd h h2 (PK h f)) (e0 : gI h 67 f = -1) (e1 : ∀ g, g < 12 → gI h 67 g ≠ nI k0) (e2 : gI h 8 k0 = 0) (al : ∀ j, j < lv h (f / 2) → gI h (pb h (pgF h f j)) 5 = 1) (v1 : gI h2 67 f = nI k0) (v2 : ∀ g, g ≠ f → gI h2 67 g = gI h 67 g) (v3 : gI h2 (fb h f) 2 = nI k0) (v4 : gI h2 8 k0 = 1) (v5 : ∀ j, j ≠ k0 → gI h2 8 j = gI h 8 j) (v6 : ∀ j, j < lv h (f / 2) → gI h2 53 (pgF h f j) = nI f) (v7 : ∀ p, (∀ j, j < lv h (f / 2) → p ≠ pgF h f j) → gI h2 53 p = gI h 53 p) : ISk h2 ∧ ISm h2 := by
  obtain ⟨g1, g2, g3, g4, g5, g6, g7, g8, g9⟩ := u.geo (PK_geo i hf)
  have hn := i.2.2.2.1
  have lf := lo_f i hf
  have f3 := (u.pgs (fun a k z w => by unfold PK at w; omega)).1
  have x54 : ∀ k, gI h2 54 k = gI h 54 k := fun k => u.2 _ _ (by unfold PK; omega)
  obtain ⟨k1, k2, k3, k4, k5, k6⟩ := k
  have nk : ∀ j, j < 4 → ¬ nI j = -1 := fun j hj => m1_ne (by omega)
  constructor
  · unfold ISk
    rw [g1, g2, g3, g7, g8, f3]
    refine ⟨fun g hg => ?_, fun g hg hg2 => ?_, fun j hj => ?_, fun g g' hg hg' hne => ?_, fun p hp => ?_, fun s j hs hj => ?_⟩
    · by_cases c : g = f
      · subst c; rw [v1, v3]; exact ⟨rfl, Or.inr ⟨k0, hk0, rfl⟩⟩
      · have lg := lo_f i hg
        rw [v2 g c, u.2 _ _ (by
          rintro (⟨z, -⟩ | z | z | z)
          · exact c (geo_ff i hg hf (o := 0) (o' := 0) (by decide) (by decide) z).1
          · omega
          · omega
          · omega)]
        exact k1 g hg
    · rw [v2 g (by omega)]; exact k2 g hg hg2
    · by_cases c : j = k0
      · subst c; exact Or.inl ⟨v4, f, hf, v1⟩
      · rw [v5 j c]
        rcases k3 j hj with ⟨z1, g, hg, z2⟩ | ⟨z1, z2⟩
        · have : g ≠ f := fun z => by rw [z, e0] at z2; exact nk j hj z2.symm
          exact Or.inl ⟨z1, g, hg, by rw [v2 g this]; exact z2⟩
        · refine Or.inr ⟨z1, fun g hg => ?_⟩
          by_cases c2 : g = f
          · rw [c2, v1]; exact fun z => c ((nI_eq (by omega) (by omega)).mp z).symm
          · rw [v2 g c2]; exact z2 g hg
    · by_cases c : g = f
      · have c2 : g' ≠ f := fun z => hne (by rw [c, z])
        rw [c, v1, v2 g' c2]
        exact fun z => absurd z.symm (e1 g' (by omega))
      · by_cases c2 : g' = f
        · rw [c2, v1, v2 g c]
          exact fun z => absurd z (e1 g (by omega))
        · rw [v2 g c, v2 g' c2]; exact k4 g g' hg hg' hne
    · rw [x54]
      intro z
      rw [v7 p (fun j hj z2 => by
        rw [z2, (pgF_at q hf hj).2.1] at z
        exact m1_ne (by omega) z)]
      exact k5 p hp z
    · have hg : 2 * s + j % 2 < 2 * nS h := by omega
      have hl : j / 2 < lv h ((2 * s + j % 2) / 2) := by rw [show (2 * s + j % 2) / 2 = s by omega]; omega
      rw [pgF_S]
      by_cases c : 2 * s + j % 2 = f
      · rw [c] at hl ⊢
        have lp := lo_p i (pgF_lt q hf hl)
        rw [v1, v6 _ hl, u.2 (pb h (pgF h f (j / 2))) 5 (by unfold PK; omega)]
        exact ⟨fun z => absurd z (nk k0 hk0), fun _ => ⟨rfl, al _ hl⟩⟩
      · have lp := lo_p i (pgF_lt q hg hl)
        have k6' := k6 s j hs hj
        rw [pgF_S] at k6'
        rw [v2 _ c, v7 _ (fun j' hj' z => c (pgF_inj i q hg hf hl hj' z).1), u.2 (pb h (pgF h (2 * s + j % 2) (j / 2))) 5 (by unfold PK; omega)]
        exact k6'
  · obtain ⟨m1, m2, m3⟩ := m
    have x : ∀ a, (a = 11 ∨ a = 12 ∨ a = 68 ∨ a = 74) → gI h2 a = gI h a := fun a ha => funext fun k => u.2 _ _ (by unfold PK; omega)
    unfold ISm us
    rw [x 11 (by omega), x 12 (by omega), x 68 (by omega), x 74 (by omega)]
    refine ⟨m1, m2, ?_⟩
    have a1 := cnt_add (P := fun k => decide (gI h 8 k = 1)) (Q := fun k => decide (gI h2 8 k = 1)) (j := k0) hk0 (by rw [e2]; rfl) (by rw [v4]; rfl) (fun j _ hj => by rw [v5 j hj])
    have a2 := cnt_add (P := fun f => !decide (gI h 67 f = -1)) (Q := fun f => !decide (gI h2 67 f = -1)) (j := f) (n := 12) (by omega) (by rw [e0]; rfl) (by rw [v1]; simp [nk k0 hk0]) (fun j _ hj => by rw [v2 j hj])
    omega
theorem sk_brk {h h2 : Hp} (i : IGeo h) (q : ISh h) (k : ISk h) (m : ISm h) {f k0 : Nat} (hf : f < 2 * nS h) (hk0 : k0 < 4) (u : Upd h h2 (PK h f)) (e0 : gI h 67 f = nI k0) (v1 : gI h2 67 f = -1) (v2 : ∀ g, g ≠ f → gI h2 67 g = gI h 67 g) (v3 : gI h2 (fb h f) 2 = -1) (v4 : gI h2 8 k0 = 0) (v5 : ∀ j, j ≠ k0 → gI h2 8 j = gI h 8 j) (v6 : ∀ j, j < lv h (f / 2) → gI h2 53 (pgF h f j) = -1) (v7 : ∀ p, (∀ j, j < lv h (f / 2) → p ≠ pgF h f j) → gI h2 53 p = gI h 53 p) : ISk h2 ∧ ISm h2 := by
  obtain ⟨g1, g2, g3, g4, g5, g6, g7, g8, g9⟩ := u.geo (PK_geo i hf)
  have hn := i.2.2.2.1
  have lf := lo_f i hf
  have f3 := (u.pgs (fun a k z w => by unfold PK at w; omega)).1
  have x54 : ∀ k, gI h2 54 k = gI h 54 k := fun k => u.2 _ _ (by unfold PK; omega)
  obtain ⟨k1, k2, k3, k4, k5, k6⟩ := k
  have nk : ∀ j, j < 4 → ¬ nI j = -1 := fun j hj => m1_ne (by omega)
  constructor
  · unfold ISk
    rw [g1, g2, g3, g7, g8, f3]
    refine ⟨fun g hg => ?_, fun g hg hg2 => ?_, fun j hj => ?_, fun g g' hg hg' hne => ?_, fun p hp => ?_, fun s j hs hj => ?_⟩
    · by_cases c : g = f
      · subst c; rw [v1, v3]; exact ⟨rfl, Or.inl rfl⟩
      · have lg := lo_f i hg
        rw [v2 g c, u.2 _ _ (by
          rintro (⟨z, -⟩ | z | z | z)
          · exact c (geo_ff i hg hf (o := 0) (o' := 0) (by decide) (by decide) z).1
          · omega
          · omega
          · omega)]
        exact k1 g hg
    · rw [v2 g (by omega)]; exact k2 g hg hg2
    · by_cases c : j = k0
      · subst c
        refine Or.inr ⟨v4, fun g hg z => ?_⟩
        by_cases c2 : g = f
        · rw [c2, v1] at z; exact nk j hj z.symm
        · rw [v2 g c2] at z
          by_cases c3 : g < 2 * nS h
          · have := k4 g f c3 hf c2 (z.trans e0.symm)
            rw [this] at z; exact nk j hj z.symm
          · rw [k2 g (by omega) hg] at z; exact nk j hj z.symm
      · rw [v5 j c]
        rcases k3 j hj with ⟨z1, g, hg, z2⟩ | ⟨z1, z2⟩
        · have : g ≠ f := fun z => by
            rw [z, e0] at z2
            exact c ((nI_eq (by omega) (by omega)).mp z2).symm
          exact Or.inl ⟨z1, g, hg, by rw [v2 g this]; exact z2⟩
        · refine Or.inr ⟨z1, fun g hg => ?_⟩
          by_cases c2 : g = f
          · rw [c2, v1]; exact fun z => nk j hj z.symm
          · rw [v2 g c2]; exact z2 g hg
    · by_cases c : g = f
      · rw [c, v1]; exact fun _ => rfl
      · by_cases c2 : g' = f
        · rw [c2, v1, v2 g c]
          exact fun z => z
        · rw [v2 g c, v2 g' c2]; exact k4 g g' hg hg' hne
    · rw [x54]
      intro z
      rw [v7 p (fun j hj z2 => by
        rw [z2, (pgF_at q hf hj).2.1] at z
        exact m1_ne (by omega) z)]
      exact k5 p hp z
    · have hg : 2 * s + j % 2 < 2 * nS h := by omega
      have hl : j / 2 < lv h ((2 * s + j % 2) / 2) := by rw [show (2 * s + j % 2) / 2 = s by omega]; omega
      rw [pgF_S]
      by_cases c : 2 * s + j % 2 = f
      · rw [c] at hl ⊢
        rw [v1, v6 _ hl]
        exact ⟨fun _ => rfl, fun z => absurd rfl z⟩
      · have lp := lo_p i (pgF_lt q hg hl)
        have k6' := k6 s j hs hj
        rw [pgF_S] at k6'
        rw [v2 _ c, v7 _ (fun j' hj' z => c (pgF_inj i q hg hf hl hj' z).1), u.2 (pb h (pgF h (2 * s + j % 2) (j / 2))) 5 (by unfold PK; omega)]
        exact k6'
  · obtain ⟨m1, m2, m3⟩ := m
    have x : ∀ a, (a = 11 ∨ a = 12 ∨ a = 68 ∨ a = 74) → gI h2 a = gI h a := fun a ha => funext fun k => u.2 _ _ (by unfold PK; omega)
    have e8 : gI h 8 k0 = 1 := by
      rcases k3 k0 hk0 with ⟨z, -⟩ | ⟨-, z⟩
      · exact z
      · exact absurd e0 (z f (by omega))
    unfold ISm us
    rw [x 11 (by omega), x 12 (by omega), x 68 (by omega), x 74 (by omega)]
    refine ⟨m1, m2, ?_⟩
    have a1 := cnt_add (P := fun k => decide (gI h2 8 k = 1)) (Q := fun k => decide (gI h 8 k = 1)) (j := k0) hk0 (by rw [v4]; rfl) (by rw [e8]; rfl) (fun j _ hj => by rw [v5 j hj])
    have a2 := cnt_add (P := fun f => !decide (gI h2 67 f = -1)) (Q := fun f => !decide (gI h 67 f = -1)) (j := f) (n := 12) (by omega) (by rw [v1]; rfl) (by rw [e0]; simp [nk k0 hk0]) (fun j _ hj => by rw [v2 j hj])
    omega
theorem l4m1 : (3 : Int64).toInt = 3 := by decide
theorem k4 : (4 : Int32).toInt = 4 := by decide
theorem n_gt0 {n : Nat} (h0 : 0 < n) (h : n < 2 ^ 31) : ((0 : Int32) < nI n) = True := by
  have := nI_lt h0 h
  rw [nI_0] at this
  simp [this]
theorem n_le0 {n : Nat} (h0 : 0 < n) (h : n < 2 ^ 31) : (nI n ≤ (0 : Int32)) = False := by
  have := nI_nle h0 h
  simp [this]
theorem o_lt0 : ((0 : Int32) < 0) = False := by decide
theorem o_le0 : ((0 : Int32) ≤ 0) = True := by decide
theorem im45_t {h : Hp} (hs : SH h) {k0 : Int32} (e : ∀ g, g < 12 → gI h 67 g ≠ k0) (K : Nat → Int32 → Int32 → Int32 → Hp → Option (Int32 × Hp)) (f : Int32) : f_X10_impose_L45 K 6000 45 f k0 0 h = K 45 f k0 (nI 12) h := by
  rcases im45 hs K f k0 with ⟨-, z⟩ | ⟨⟨g, hg, z⟩, -⟩
  · exact z
  · exact absurd z (e g hg)
theorem im45_f {h : Hp} (hs : SH h) {k0 : Int32} (e : ∃ g, g < 12 ∧ gI h 67 g = k0) (K : Nat → Int32 → Int32 → Int32 → Hp → Option (Int32 × Hp)) (f : Int32) : f_X10_impose_L45 K 6000 45 f k0 0 h = some (-3, h) := by
  obtain ⟨g, hg, e⟩ := e
  rcases im45 hs K f k0 with ⟨z, -⟩ | ⟨-, z⟩
  · exact absurd e (z g hg)
  · exact z
theorem im85_t {h : Hp} (hs : SH h) (i : IGeo h) (x : IFix h) (q : ISh h) (d : IPd h) {f : Nat} (hf : f < 2 * nS h) (hu : ∀ j, j < lv h (f / 2) → gI h 53 (pgF h f j) = -1) (e : ∀ j, j < lv h (f / 2) → gI h (pb h (pgF h f j)) 5 = 1) (K : Nat → Int32 → Int32 → Int32 → Int32 → Hp → Option (Int32 × Hp)) (k0 : Int32) : f_X10_impose_L85 K 6000 45 (nI f) k0 (nI (lv h (f / 2))) 0 h = K 45 (nI f) k0 (nI (lv h (f / 2))) (nI (lv h (f / 2))) h := by
  rcases im85 hs i x q d hf hu K k0 with ⟨-, z⟩ | ⟨⟨g, hg, z⟩, -⟩
  · exact z
  · rw [e g hg] at z; exact absurd z (by decide)
theorem im85_f {h : Hp} (hs : SH h) (i : IGeo h) (x : IFix h) (q : ISh h) (d : IPd h) {f : Nat} (hf : f < 2 * nS h) (hu : ∀ j, j < lv h (f / 2) → gI h 53 (pgF h f j) = -1) (e : ∃ j, j < lv h (f / 2) ∧ gI h (pb h (pgF h f j)) 5 = 0) (K : Nat → Int32 → Int32 → Int32 → Int32 → Hp → Option (Int32 × Hp)) (k0 : Int32) : f_X10_impose_L85 K 6000 45 (nI f) k0 (nI (lv h (f / 2))) 0 h = some (-3, h) := by
  obtain ⟨g, hg, e⟩ := e
  rcases im85 hs i x q d hf hu K k0 with ⟨z, -⟩ | ⟨-, z⟩
  · rw [z g hg] at e; exact absurd e (by decide)
  · exact z
set_option maxRecDepth 100000 in
theorem impose_ok {h : Hp} (hs : SH h) (i : IGeo h) (x : IFix h) (q : ISh h) (d : IPd h) (o : IFo h) (k : ISk h) (m : ISm h) (a1 a2 : Int32) : Out h (fun a j => ∃ f, f < 2 * nS h ∧ PK h f a j) (fun h2 => ISk h2 ∧ ISm h2) (f_X9_impose h 0 a1 a2) (fun h1 => f_X10_impose h1 45 a1 a2) := by
  have hn := i.2.2.2.1
  by_cases c1 : ∃ f, f < 2 * nS h ∧ a1 = nI f
  · obtain ⟨f, hf, rfl⟩ := c1
    have lf := lo_f i hf
    have hl := lv_le q (s := f / 2) (by omega)
    obtain ⟨f1, f2, f3, f4, f5, f6, f7, f8, f9, -⟩ := fo_rules i hf
    have x1 : (nI f).toNatClampNeg = f := nI_clamp (by omega)
    have x2 : inB (nI f) 12 = true := inB_nI (by omega) (by decide)
    have x3 : inB (nI (f / 2)) 6 = true := inB_nI (by omega) (by decide)
    have x4 : (nI (f / 2)).toNatClampNeg = f / 2 := nI_clamp (by omega)
    have x5 := (k.1 f hf).1
    obtain ⟨⟨d1, d2, d3, -⟩, -⟩ := id (o.1 f hf)
    have hcp := (sh_at i (s := f / 2) (by omega)).2.2.2.2.2.2.2.2.2.1
    by_cases c2 : 0 ≤ a2.toInt ∧ a2.toInt < 4
    · have c2' : 0 ≤ a2.toInt ∧ a2.toInt ≤ 3 := by omega
      obtain ⟨K, hK, rfl⟩ := of_rng (x := a2) (b := 4) (by decide) c2.1 (by omega)
      have y1 : (nI K).toNatClampNeg = K := nI_clamp (by omega)
      have y2 : inB (nI K) 4 = true := inB_nI hK (by decide)
      rcases (k.1 f hf).2 with e0 | ⟨j, hj, e0⟩
      · by_cases c3 : nM h f = 0
        · rw [c3, nI_0] at d1 d2
          have hu : ∀ j, j < lv h (f / 2) → gI h 53 (pgF h f j) = -1 := fun j hj => by
            have := (k.2.2.2.2.2 (f / 2) (2 * j + f % 2) (by omega) (by omega)).1
            rw [show (2 * j + f % 2) % 2 = f % 2 by omega, fo_dm] at this
            exact this e0
          obtain ⟨fe1, fe2, fe3, fe4, -⟩ := q.2.1 (f / 2) (by omega)
          rcases k.2.2.1 K hK with ⟨e8, g, hg, e9⟩ | ⟨e8, e9⟩
          · refine Out.same (-3) hs ?_ ?_ ⟨k, m⟩
            · simp only [f_X9_impose, f_X2_isImposed, findForme_t hs i hf, rng4, k0, k4, c2, f1, x5, e0, d1, o_lt0, y1, y2, e8, hs, and_self, if_true, if_false, n_1_0, n_0_0, okOb_sI, okAb_sI, okOb_sW, okAb_sW, vl_e, un_e, nl_s, nl_n, bnd_e, gd_e, SH_sI, SH_sW, xI_sI, xR_sI, xL_sI, xK_sI, xN_sI, gI_sW, xR_sW, xL_sW, xK_sW, xN_sW, sO0, sO1, sO2, sA2, sL2, sO3, sA3, sL3, sO4, sA4, sL4, sO5, sA5, sL5, sO6, sA6, sL6, sO7, sA7, sL7, sO8, sA8, sL8, sO9, sO10, sA10, sL10, sO11, sA11, sL11, sO12, sA12, sL12, sO13, sO14, sA14, sL14, sO15, sA15, sL15, sO16, sA16, sL16, sO17, sA17, sL17, sO18, sA18, sL18, sO19, sA19, sL19, sO20, sO21, sA21, sL21, sO22, sA22, sL22, sO23, sA23, sL23, sO24, sA24, sL24, sO25, sO26, sA26, sL26, sO27, sA27, sL27, sO28, sA28, sL28, sO29, sA29, sL29, sO30, sA30, sL30, sO31, sA31, sL31, sO32, sA32, sL32, sO33, sO34, sA34, sL34, sO35, sA35, sL35, sO36, sA36, sL36, sO37, sO38, sA38, sL38, sO39, sA39, sL39, sO40, sA40, sL40, sO41, sO42, sA42, sL42, sO43, sA43, sL43, sO44, sA44, sL44, sO45, sO46, sA46, sL46, sO47, sA47, sL47, sO48, sA48, sL48, sO49, sA49, sL49, sO50, sA50, sL50, sO51, sA51, sL51, sO52, sA52, sL52, sO53, sA53, sL53, sO54, sA54, sL54, sO55, sA55, sL55, sO56, sA56, sL56, sO57, sA57, sL57, sO58, sA58, sL58, sO59, sA59, sL59, sO60, sA60, sL60, sO61, sA61, sL61, sO62, sA62, sL62, sO63, sA63, sL63, sO64, sA64, sL64, sO65, sA65, sL65, sO66, sA66, sL66, sO67, sA67, sL67, sO68, sA68, sL68, sO69, sA69, sL69, sO70, sA70, sL70, sO71, sA71, sL71, sO72, sA72, sL72, sO73, sA73, sL73, sO74, sA74, sL74, sO75, sA75, sL75, sO76, sA76, sL76, sO77, sA77, sL77, sO78, sA78, sL78, sO79, sA79, sL79, sO80, sA80, sL80, sO81, sA81, sL81, sO82, sA82, sL82, sO83, sA83, sL83, sO84, sA84, sL84, sO85, sA85, sL85, sO86, sA86, sL86, sO87, sA87, sL87, sR0_0, sR0_1, sR0_2, sR0_3, sR0_5, sR0_6, sR0_8, sR0_10, sR0_11, sR0_12, sR0_13, sR1_0, sR6_0, sR6_1, sR6_2, sR9_0, sR9_1, sR9_2, sR13_0, sR13_1, sR13_2, sR13_3, sR13_4, sR13_5, sR20_0, sR20_1, sR20_2, sR20_3, sR25_0, sR25_1, sR25_2, sR25_4, sR25_5, sR25_6, sR25_7, sR33_2, sR33_3, sR37_2, sR37_3, sR41_2, sR41_3, sR45_0, sR45_1, sR45_3, sR45_4, sR45_5, sR45_6, sR45_7, sR45_8, sR45_9, sR45_10, sR45_12, sR45_13, sR45_14, sR45_15, sR45_16, sR45_17, sR45_18, sR45_19, sR45_20, sR45_21, sR45_22, sR45_25, sR45_26, sR45_27, sR45_28, sR45_29, sR45_30, sR45_31, sR45_32, sR45_33, sR45_34, sR45_35, sR45_36, sR45_40, sR45_41, sR45_42, sR45_43, sR45_45, sR45_46, sR45_47, sR45_48, sR45_49]
            · simp only [f_X10_impose, isForme_t hs i q.1 hf, isIn_i, l0', l3, c2', x1, x2, e0, le_0_m1, d2, o_le0, im45_f hs ⟨g, by omega, e9⟩, hs, and_self, if_true, if_false, n_1_0, n_0_0, okOb_sI, okAb_sI, okOb_sW, okAb_sW, vl_e, un_e, nl_s, nl_n, bnd_e, gd_e, SH_sI, SH_sW, xI_sI, xR_sI, xL_sI, xK_sI, xN_sI, gI_sW, xR_sW, xL_sW, xK_sW, xN_sW, sO0, sO1, sO2, sA2, sL2, sO3, sA3, sL3, sO4, sA4, sL4, sO5, sA5, sL5, sO6, sA6, sL6, sO7, sA7, sL7, sO8, sA8, sL8, sO9, sO10, sA10, sL10, sO11, sA11, sL11, sO12, sA12, sL12, sO13, sO14, sA14, sL14, sO15, sA15, sL15, sO16, sA16, sL16, sO17, sA17, sL17, sO18, sA18, sL18, sO19, sA19, sL19, sO20, sO21, sA21, sL21, sO22, sA22, sL22, sO23, sA23, sL23, sO24, sA24, sL24, sO25, sO26, sA26, sL26, sO27, sA27, sL27, sO28, sA28, sL28, sO29, sA29, sL29, sO30, sA30, sL30, sO31, sA31, sL31, sO32, sA32, sL32, sO33, sO34, sA34, sL34, sO35, sA35, sL35, sO36, sA36, sL36, sO37, sO38, sA38, sL38, sO39, sA39, sL39, sO40, sA40, sL40, sO41, sO42, sA42, sL42, sO43, sA43, sL43, sO44, sA44, sL44, sO45, sO46, sA46, sL46, sO47, sA47, sL47, sO48, sA48, sL48, sO49, sA49, sL49, sO50, sA50, sL50, sO51, sA51, sL51, sO52, sA52, sL52, sO53, sA53, sL53, sO54, sA54, sL54, sO55, sA55, sL55, sO56, sA56, sL56, sO57, sA57, sL57, sO58, sA58, sL58, sO59, sA59, sL59, sO60, sA60, sL60, sO61, sA61, sL61, sO62, sA62, sL62, sO63, sA63, sL63, sO64, sA64, sL64, sO65, sA65, sL65, sO66, sA66, sL66, sO67, sA67, sL67, sO68, sA68, sL68, sO69, sA69, sL69, sO70, sA70, sL70, sO71, sA71, sL71, sO72, sA72, sL72, sO73, sA73, sL73, sO74, sA74, sL74, sO75, sA75, sL75, sO76, sA76, sL76, sO77, sA77, sL77, sO78, sA78, sL78, sO79, sA79, sL79, sO80, sA80, sL80, sO81, sA81, sL81, sO82, sA82, sL82, sO83, sA83, sL83, sO84, sA84, sL84, sO85, sA85, sL85, sO86, sA86, sL86, sO87, sA87, sL87, sR0_0, sR0_1, sR0_2, sR0_3, sR0_5, sR0_6, sR0_8, sR0_10, sR0_11, sR0_12, sR0_13, sR1_0, sR6_0, sR6_1, sR6_2, sR9_0, sR9_1, sR9_2, sR13_0, sR13_1, sR13_2, sR13_3, sR13_4, sR13_5, sR20_0, sR20_1, sR20_2, sR20_3, sR25_0, sR25_1, sR25_2, sR25_4, sR25_5, sR25_6, sR25_7, sR33_2, sR33_3, sR37_2, sR37_3, sR41_2, sR41_3, sR45_0, sR45_1, sR45_3, sR45_4, sR45_5, sR45_6, sR45_7, sR45_8, sR45_9, sR45_10, sR45_12, sR45_13, sR45_14, sR45_15, sR45_16, sR45_17, sR45_18, sR45_19, sR45_20, sR45_21, sR45_22, sR45_25, sR45_26, sR45_27, sR45_28, sR45_29, sR45_30, sR45_31, sR45_32, sR45_33, sR45_34, sR45_35, sR45_36, sR45_40, sR45_41, sR45_42, sR45_43, sR45_45, sR45_46, sR45_47, sR45_48, sR45_49]
          · have le := leaves_e h fe2 fe3
            rw [← fe4] at le
            rcases allSet_loop i q d hf with ⟨al, e10⟩ | ⟨al, e10⟩
            · have u1 : Upd h (sI (sI h (fb h f) 2 (nI K)) 8 K 1) (PK h f) := (Upd_sI (Or.inl ⟨rfl, rfl⟩)).tr (Upd_sI (Or.inr (Or.inl rfl)))
              have E1 : f_X9_impose h 0 (nI f) (nI K) = some (nI (lv h (f / 2)), sI (sI h (fb h f) 2 (nI K)) 8 K 1) := by
                simp only [f_X9_impose, f_X2_isImposed, findForme_t hs i hf, rng4, k0, k4, c2, f1, f2, f7, f9, toI, x5, e0, d1, o_lt0, y1, y2, e8, al, hs, and_self, if_true, if_false, n_1_0, n_0_0, okOb_sI, okAb_sI, okOb_sW, okAb_sW, vl_e, un_e, nl_s, nl_n, bnd_e, gd_e, SH_sI, SH_sW, xI_sI, xR_sI, xL_sI, xK_sI, xN_sI, gI_sW, xR_sW, xL_sW, xK_sW, xN_sW, sO0, sO1, sO2, sA2, sL2, sO3, sA3, sL3, sO4, sA4, sL4, sO5, sA5, sL5, sO6, sA6, sL6, sO7, sA7, sL7, sO8, sA8, sL8, sO9, sO10, sA10, sL10, sO11, sA11, sL11, sO12, sA12, sL12, sO13, sO14, sA14, sL14, sO15, sA15, sL15, sO16, sA16, sL16, sO17, sA17, sL17, sO18, sA18, sL18, sO19, sA19, sL19, sO20, sO21, sA21, sL21, sO22, sA22, sL22, sO23, sA23, sL23, sO24, sA24, sL24, sO25, sO26, sA26, sL26, sO27, sA27, sL27, sO28, sA28, sL28, sO29, sA29, sL29, sO30, sA30, sL30, sO31, sA31, sL31, sO32, sA32, sL32, sO33, sO34, sA34, sL34, sO35, sA35, sL35, sO36, sA36, sL36, sO37, sO38, sA38, sL38, sO39, sA39, sL39, sO40, sA40, sL40, sO41, sO42, sA42, sL42, sO43, sA43, sL43, sO44, sA44, sL44, sO45, sO46, sA46, sL46, sO47, sA47, sL47, sO48, sA48, sL48, sO49, sA49, sL49, sO50, sA50, sL50, sO51, sA51, sL51, sO52, sA52, sL52, sO53, sA53, sL53, sO54, sA54, sL54, sO55, sA55, sL55, sO56, sA56, sL56, sO57, sA57, sL57, sO58, sA58, sL58, sO59, sA59, sL59, sO60, sA60, sL60, sO61, sA61, sL61, sO62, sA62, sL62, sO63, sA63, sL63, sO64, sA64, sL64, sO65, sA65, sL65, sO66, sA66, sL66, sO67, sA67, sL67, sO68, sA68, sL68, sO69, sA69, sL69, sO70, sA70, sL70, sO71, sA71, sL71, sO72, sA72, sL72, sO73, sA73, sL73, sO74, sA74, sL74, sO75, sA75, sL75, sO76, sA76, sL76, sO77, sA77, sL77, sO78, sA78, sL78, sO79, sA79, sL79, sO80, sA80, sL80, sO81, sA81, sL81, sO82, sA82, sL82, sO83, sA83, sL83, sO84, sA84, sL84, sO85, sA85, sL85, sO86, sA86, sL86, sO87, sA87, sL87, sR0_0, sR0_1, sR0_2, sR0_3, sR0_5, sR0_6, sR0_8, sR0_10, sR0_11, sR0_12, sR0_13, sR1_0, sR6_0, sR6_1, sR6_2, sR9_0, sR9_1, sR9_2, sR13_0, sR13_1, sR13_2, sR13_3, sR13_4, sR13_5, sR20_0, sR20_1, sR20_2, sR20_3, sR25_0, sR25_1, sR25_2, sR25_4, sR25_5, sR25_6, sR25_7, sR33_2, sR33_3, sR37_2, sR37_3, sR41_2, sR41_3, sR45_0, sR45_1, sR45_3, sR45_4, sR45_5, sR45_6, sR45_7, sR45_8, sR45_9, sR45_10, sR45_12, sR45_13, sR45_14, sR45_15, sR45_16, sR45_17, sR45_18, sR45_19, sR45_20, sR45_21, sR45_22, sR45_25, sR45_26, sR45_27, sR45_28, sR45_29, sR45_30, sR45_31, sR45_32, sR45_33, sR45_34, sR45_35, sR45_36, sR45_40, sR45_41, sR45_42, sR45_43, sR45_45, sR45_46, sR45_47, sR45_48, sR45_49]
              have j0 : ∀ a g, a ≠ 8 → a < 88 → gI (sI (sI h (fb h f) 2 (nI K)) 8 K 1) a g = gI h a g := fun a g z1 z2 => by
                rw [xI_sI, if_neg (by omega), xI_sI, if_neg (by omega)]
              have j8 : gI (sI (sI h (fb h f) 2 (nI K)) 8 K 1) 8 K = 1 := by rw [xI_sI, if_pos ⟨rfl, rfl⟩]
              have j8' : ∀ g, g ≠ K → gI (sI (sI h (fb h f) 2 (nI K)) 8 K 1) 8 g = gI h 8 g := fun g z => by rw [xI_sI, if_neg (by omega), xI_sI, if_neg (by omega)]
              have jf : gI (sI (sI h (fb h f) 2 (nI K)) 8 K 1) (fb h f) 2 = nI K := by rw [xI_sI, if_neg (by omega), xI_sI, if_pos ⟨rfl, rfl⟩]
              generalize sI (sI h (fb h f) 2 (nI K)) 8 K 1 = h1 at *
              have hs1 := u1.sh hs
              obtain ⟨w1, w2, w3, w4, w5, w6, w7, w8, w9⟩ := u1.geo (PK_geo i hf)
              have w10 := (u1.pgs (fun a k z w => by unfold PK at w; omega)).2
              have nP0 : ∀ a k, a < 88 → a ≠ 8 → a ≠ 67 → a ≠ 53 → ¬ PK h f a k := fun a k z z2 z3 z4 => by unfold PK; omega
              have i1 := i.fr u1 (PK_geo i hf)
              have z1 := x.fr u1 (fun a k z => nP0 a k (by omega) (by omega) (by omega) (by omega))
              have q1 : ISh h1 := q.fr u1 ⟨(PK_geo i hf).1, (PK_geo i hf).2, nP0 _ _ (by omega) (by omega) (by omega) (by omega)⟩ (fun a k z => nP0 a k (by omega) (by omega) (by omega) (by omega)) (fun s k hs _ => by
                have := lo_s i hs
                have := geo_fs i hf hs (o := 0) (o' := 0) (by decide) (Or.inl rfl)
                unfold PK; omega)
              have dd1 : IPd h1 := d.fr u1 ⟨(PK_geo i hf).1, (PK_geo i hf).2, nP0 _ _ (by omega) (by omega) (by omega) (by omega)⟩ (fun a k z => nP0 a k (by omega) (by omega) (by omega) (by omega)) (fun p k hp => by
                have := lo_p i hp
                have t0 := geo_fp i hf hp (o := 0) (o' := 0) (by decide) (by decide)
                have t1 := geo_fp i hf hp (o := 0) (o' := 1) (by decide) (by decide)
                have t2 := geo_fp i hf hp (o := 0) (o' := 2) (by decide) (by decide)
                unfold PK
                exact ⟨fun _ => by omega, by omega, by omega⟩)
              have hf1 : f < 2 * nS h1 := by rw [w2]; exact hf
              have A := im85_t hs1 i1 z1 q1 dd1 hf1 (fun j hj => by rw [w10, j0 _ _ (by decide) (by decide)]; rw [w7] at hj; exact hu j hj) (fun j hj => by
                rw [w7] at hj
                have := lo_p i (pgF_lt q hf hj)
                rw [w10, w3, u1.2 _ _ (by unfold PK; omega)]; exact e10 j hj)
              rw [w7] at A
              obtain ⟨h2, p1, p2⟩ := im132 hs1 i x q u1 (fun a k z => nP0 a k (by omega) (by omega) (by omega) (by omega)) hf (fun j => by rw [w10]) (nI K)
              have le1 := leaves_e h1 fe2 fe3
              rw [← fe4] at le1
              have u2 : Upd h (sI h2 67 f (nI K)) (PK h f) := (u1.tr (p2.1.mono (fun a k z => Or.inr (Or.inr (Or.inr z))))).tr (Upd_sI (Or.inr (Or.inr (Or.inl rfl))))
              have P2 : ∀ a g, a ≠ 53 → a ≠ 67 → gI (sI h2 67 f (nI K)) a g = gI h1 a g := fun a g z1 z2 => by
                rw [xI_sI, if_neg (by omega), p2.1.2 _ _ z1]
              refine ⟨nI (lv h (f / 2)), h1, sI h2 67 f (nI K), E1, hs1, ?_, ?_, u2.mono (fun a j z => ⟨f, hf, z⟩)⟩
              · simp only [f_X10_impose, isForme_t hs1 i1 q1.1 hf1, isIn_i, l0', l3, c2', x1, x2, j0 67 _ (by decide) (by decide), j0 68 _ (by decide) (by decide), j0 63 _ (by decide) (by decide), e0, le_0_m1, d2, o_le0, im45_t hs1 (fun g hg => by rw [j0 67 _ (by decide) (by decide)]; exact e9 g hg), div2 (show f < 2 ^ 31 by omega), x3, x4, fe1, le1, A, p1, hs1, and_self, if_true, if_false, n_1_0, n_0_0, okOb_sI, okAb_sI, okOb_sW, okAb_sW, vl_e, un_e, nl_s, nl_n, bnd_e, gd_e, SH_sI, SH_sW, xI_sI, xR_sI, xL_sI, xK_sI, xN_sI, gI_sW, xR_sW, xL_sW, xK_sW, xN_sW, sO0, sO1, sO2, sA2, sL2, sO3, sA3, sL3, sO4, sA4, sL4, sO5, sA5, sL5, sO6, sA6, sL6, sO7, sA7, sL7, sO8, sA8, sL8, sO9, sO10, sA10, sL10, sO11, sA11, sL11, sO12, sA12, sL12, sO13, sO14, sA14, sL14, sO15, sA15, sL15, sO16, sA16, sL16, sO17, sA17, sL17, sO18, sA18, sL18, sO19, sA19, sL19, sO20, sO21, sA21, sL21, sO22, sA22, sL22, sO23, sA23, sL23, sO24, sA24, sL24, sO25, sO26, sA26, sL26, sO27, sA27, sL27, sO28, sA28, sL28, sO29, sA29, sL29, sO30, sA30, sL30, sO31, sA31, sL31, sO32, sA32, sL32, sO33, sO34, sA34, sL34, sO35, sA35, sL35, sO36, sA36, sL36, sO37, sO38, sA38, sL38, sO39, sA39, sL39, sO40, sA40, sL40, sO41, sO42, sA42, sL42, sO43, sA43, sL43, sO44, sA44, sL44, sO45, sO46, sA46, sL46, sO47, sA47, sL47, sO48, sA48, sL48, sO49, sA49, sL49, sO50, sA50, sL50, sO51, sA51, sL51, sO52, sA52, sL52, sO53, sA53, sL53, sO54, sA54, sL54, sO55, sA55, sL55, sO56, sA56, sL56, sO57, sA57, sL57, sO58, sA58, sL58, sO59, sA59, sL59, sO60, sA60, sL60, sO61, sA61, sL61, sO62, sA62, sL62, sO63, sA63, sL63, sO64, sA64, sL64, sO65, sA65, sL65, sO66, sA66, sL66, sO67, sA67, sL67, sO68, sA68, sL68, sO69, sA69, sL69, sO70, sA70, sL70, sO71, sA71, sL71, sO72, sA72, sL72, sO73, sA73, sL73, sO74, sA74, sL74, sO75, sA75, sL75, sO76, sA76, sL76, sO77, sA77, sL77, sO78, sA78, sL78, sO79, sA79, sL79, sO80, sA80, sL80, sO81, sA81, sL81, sO82, sA82, sL82, sO83, sA83, sL83, sO84, sA84, sL84, sO85, sA85, sL85, sO86, sA86, sL86, sO87, sA87, sL87, sR0_0, sR0_1, sR0_2, sR0_3, sR0_5, sR0_6, sR0_8, sR0_10, sR0_11, sR0_12, sR0_13, sR1_0, sR6_0, sR6_1, sR6_2, sR9_0, sR9_1, sR9_2, sR13_0, sR13_1, sR13_2, sR13_3, sR13_4, sR13_5, sR20_0, sR20_1, sR20_2, sR20_3, sR25_0, sR25_1, sR25_2, sR25_4, sR25_5, sR25_6, sR25_7, sR33_2, sR33_3, sR37_2, sR37_3, sR41_2, sR41_3, sR45_0, sR45_1, sR45_3, sR45_4, sR45_5, sR45_6, sR45_7, sR45_8, sR45_9, sR45_10, sR45_12, sR45_13, sR45_14, sR45_15, sR45_16, sR45_17, sR45_18, sR45_19, sR45_20, sR45_21, sR45_22, sR45_25, sR45_26, sR45_27, sR45_28, sR45_29, sR45_30, sR45_31, sR45_32, sR45_33, sR45_34, sR45_35, sR45_36, sR45_40, sR45_41, sR45_42, sR45_43, sR45_45, sR45_46, sR45_47, sR45_48, sR45_49]
              · refine sk_imp i q k m hf hK u2 e0 e9 e8 e10 (by rw [xI_sI, if_pos ⟨rfl, rfl⟩]) (fun g hg => by rw [xI_sI, if_neg (fun z => hg z.2), p2.1.2 _ _ (show ¬ (67 = 53) by decide), j0 _ _ (by decide) (by decide)]) (by rw [P2 _ _ (by omega) (by omega)]; exact jf) (by rw [P2 _ _ (by omega) (by omega)]; exact j8) (fun g hg => by rw [P2 _ _ (by omega) (by omega)]; exact j8' g hg) (fun j hj => ?_) (fun p hp => ?_)
                · rw [xI_sI, if_neg (by omega)]
                  have := p2.2.1 j hj
                  rw [w10] at this; exact this
                · rw [xI_sI, if_neg (by omega), p2.2.2 p (fun j hj => by rw [w10]; exact hp j hj), j0 _ _ (by decide) (by decide)]
            · refine Out.same (-3) hs ?_ ?_ ⟨k, m⟩
              · simp only [f_X9_impose, f_X2_isImposed, findForme_t hs i hf, rng4, k0, k4, c2, f1, x5, e0, d1, o_lt0, y1, y2, e8, al, hs, and_self, if_true, if_false, n_1_0, n_0_0, okOb_sI, okAb_sI, okOb_sW, okAb_sW, vl_e, un_e, nl_s, nl_n, bnd_e, gd_e, SH_sI, SH_sW, xI_sI, xR_sI, xL_sI, xK_sI, xN_sI, gI_sW, xR_sW, xL_sW, xK_sW, xN_sW, sO0, sO1, sO2, sA2, sL2, sO3, sA3, sL3, sO4, sA4, sL4, sO5, sA5, sL5, sO6, sA6, sL6, sO7, sA7, sL7, sO8, sA8, sL8, sO9, sO10, sA10, sL10, sO11, sA11, sL11, sO12, sA12, sL12, sO13, sO14, sA14, sL14, sO15, sA15, sL15, sO16, sA16, sL16, sO17, sA17, sL17, sO18, sA18, sL18, sO19, sA19, sL19, sO20, sO21, sA21, sL21, sO22, sA22, sL22, sO23, sA23, sL23, sO24, sA24, sL24, sO25, sO26, sA26, sL26, sO27, sA27, sL27, sO28, sA28, sL28, sO29, sA29, sL29, sO30, sA30, sL30, sO31, sA31, sL31, sO32, sA32, sL32, sO33, sO34, sA34, sL34, sO35, sA35, sL35, sO36, sA36, sL36, sO37, sO38, sA38, sL38, sO39, sA39, sL39, sO40, sA40, sL40, sO41, sO42, sA42, sL42, sO43, sA43, sL43, sO44, sA44, sL44, sO45, sO46, sA46, sL46, sO47, sA47, sL47, sO48, sA48, sL48, sO49, sA49, sL49, sO50, sA50, sL50, sO51, sA51, sL51, sO52, sA52, sL52, sO53, sA53, sL53, sO54, sA54, sL54, sO55, sA55, sL55, sO56, sA56, sL56, sO57, sA57, sL57, sO58, sA58, sL58, sO59, sA59, sL59, sO60, sA60, sL60, sO61, sA61, sL61, sO62, sA62, sL62, sO63, sA63, sL63, sO64, sA64, sL64, sO65, sA65, sL65, sO66, sA66, sL66, sO67, sA67, sL67, sO68, sA68, sL68, sO69, sA69, sL69, sO70, sA70, sL70, sO71, sA71, sL71, sO72, sA72, sL72, sO73, sA73, sL73, sO74, sA74, sL74, sO75, sA75, sL75, sO76, sA76, sL76, sO77, sA77, sL77, sO78, sA78, sL78, sO79, sA79, sL79, sO80, sA80, sL80, sO81, sA81, sL81, sO82, sA82, sL82, sO83, sA83, sL83, sO84, sA84, sL84, sO85, sA85, sL85, sO86, sA86, sL86, sO87, sA87, sL87, sR0_0, sR0_1, sR0_2, sR0_3, sR0_5, sR0_6, sR0_8, sR0_10, sR0_11, sR0_12, sR0_13, sR1_0, sR6_0, sR6_1, sR6_2, sR9_0, sR9_1, sR9_2, sR13_0, sR13_1, sR13_2, sR13_3, sR13_4, sR13_5, sR20_0, sR20_1, sR20_2, sR20_3, sR25_0, sR25_1, sR25_2, sR25_4, sR25_5, sR25_6, sR25_7, sR33_2, sR33_3, sR37_2, sR37_3, sR41_2, sR41_3, sR45_0, sR45_1, sR45_3, sR45_4, sR45_5, sR45_6, sR45_7, sR45_8, sR45_9, sR45_10, sR45_12, sR45_13, sR45_14, sR45_15, sR45_16, sR45_17, sR45_18, sR45_19, sR45_20, sR45_21, sR45_22, sR45_25, sR45_26, sR45_27, sR45_28, sR45_29, sR45_30, sR45_31, sR45_32, sR45_33, sR45_34, sR45_35, sR45_36, sR45_40, sR45_41, sR45_42, sR45_43, sR45_45, sR45_46, sR45_47, sR45_48, sR45_49]
              · simp only [f_X10_impose, isForme_t hs i q.1 hf, isIn_i, l0', l3, c2', x1, x2, e0, le_0_m1, d2, o_le0, im45_t hs e9, div2 (show f < 2 ^ 31 by omega), x3, x4, fe1, le, im85_f hs i x q d hf hu e10, hs, and_self, if_true, if_false, n_1_0, n_0_0, okOb_sI, okAb_sI, okOb_sW, okAb_sW, vl_e, un_e, nl_s, nl_n, bnd_e, gd_e, SH_sI, SH_sW, xI_sI, xR_sI, xL_sI, xK_sI, xN_sI, gI_sW, xR_sW, xL_sW, xK_sW, xN_sW, sO0, sO1, sO2, sA2, sL2, sO3, sA3, sL3, sO4, sA4, sL4, sO5, sA5, sL5, sO6, sA6, sL6, sO7, sA7, sL7, sO8, sA8, sL8, sO9, sO10, sA10, sL10, sO11, sA11, sL11, sO12, sA12, sL12, sO13, sO14, sA14, sL14, sO15, sA15, sL15, sO16, sA16, sL16, sO17, sA17, sL17, sO18, sA18, sL18, sO19, sA19, sL19, sO20, sO21, sA21, sL21, sO22, sA22, sL22, sO23, sA23, sL23, sO24, sA24, sL24, sO25, sO26, sA26, sL26, sO27, sA27, sL27, sO28, sA28, sL28, sO29, sA29, sL29, sO30, sA30, sL30, sO31, sA31, sL31, sO32, sA32, sL32, sO33, sO34, sA34, sL34, sO35, sA35, sL35, sO36, sA36, sL36, sO37, sO38, sA38, sL38, sO39, sA39, sL39, sO40, sA40, sL40, sO41, sO42, sA42, sL42, sO43, sA43, sL43, sO44, sA44, sL44, sO45, sO46, sA46, sL46, sO47, sA47, sL47, sO48, sA48, sL48, sO49, sA49, sL49, sO50, sA50, sL50, sO51, sA51, sL51, sO52, sA52, sL52, sO53, sA53, sL53, sO54, sA54, sL54, sO55, sA55, sL55, sO56, sA56, sL56, sO57, sA57, sL57, sO58, sA58, sL58, sO59, sA59, sL59, sO60, sA60, sL60, sO61, sA61, sL61, sO62, sA62, sL62, sO63, sA63, sL63, sO64, sA64, sL64, sO65, sA65, sL65, sO66, sA66, sL66, sO67, sA67, sL67, sO68, sA68, sL68, sO69, sA69, sL69, sO70, sA70, sL70, sO71, sA71, sL71, sO72, sA72, sL72, sO73, sA73, sL73, sO74, sA74, sL74, sO75, sA75, sL75, sO76, sA76, sL76, sO77, sA77, sL77, sO78, sA78, sL78, sO79, sA79, sL79, sO80, sA80, sL80, sO81, sA81, sL81, sO82, sA82, sL82, sO83, sA83, sL83, sO84, sA84, sL84, sO85, sA85, sL85, sO86, sA86, sL86, sO87, sA87, sL87, sR0_0, sR0_1, sR0_2, sR0_3, sR0_5, sR0_6, sR0_8, sR0_10, sR0_11, sR0_12, sR0_13, sR1_0, sR6_0, sR6_1, sR6_2, sR9_0, sR9_1, sR9_2, sR13_0, sR13_1, sR13_2, sR13_3, sR13_4, sR13_5, sR20_0, sR20_1, sR20_2, sR20_3, sR25_0, sR25_1, sR25_2, sR25_4, sR25_5, sR25_6, sR25_7, sR33_2, sR33_3, sR37_2, sR37_3, sR41_2, sR41_3, sR45_0, sR45_1, sR45_3, sR45_4, sR45_5, sR45_6, sR45_7, sR45_8, sR45_9, sR45_10, sR45_12, sR45_13, sR45_14, sR45_15, sR45_16, sR45_17, sR45_18, sR45_19, sR45_20, sR45_21, sR45_22, sR45_25, sR45_26, sR45_27, sR45_28, sR45_29, sR45_30, sR45_31, sR45_32, sR45_33, sR45_34, sR45_35, sR45_36, sR45_40, sR45_41, sR45_42, sR45_43, sR45_45, sR45_46, sR45_47, sR45_48, sR45_49]
        · have e9 : 0 < nM h f := by omega
          refine Out.same (-3) hs ?_ ?_ ⟨k, m⟩
          · simp only [f_X9_impose, f_X2_isImposed, findForme_t hs i hf, rng4, k0, k4, c2, f1, x5, e0, d1, n_gt0 e9 (by omega), hs, and_self, if_true, if_false, n_1_0, n_0_0, okOb_sI, okAb_sI, okOb_sW, okAb_sW, vl_e, un_e, nl_s, nl_n, bnd_e, gd_e, SH_sI, SH_sW, xI_sI, xR_sI, xL_sI, xK_sI, xN_sI, gI_sW, xR_sW, xL_sW, xK_sW, xN_sW, sO0, sO1, sO2, sA2, sL2, sO3, sA3, sL3, sO4, sA4, sL4, sO5, sA5, sL5, sO6, sA6, sL6, sO7, sA7, sL7, sO8, sA8, sL8, sO9, sO10, sA10, sL10, sO11, sA11, sL11, sO12, sA12, sL12, sO13, sO14, sA14, sL14, sO15, sA15, sL15, sO16, sA16, sL16, sO17, sA17, sL17, sO18, sA18, sL18, sO19, sA19, sL19, sO20, sO21, sA21, sL21, sO22, sA22, sL22, sO23, sA23, sL23, sO24, sA24, sL24, sO25, sO26, sA26, sL26, sO27, sA27, sL27, sO28, sA28, sL28, sO29, sA29, sL29, sO30, sA30, sL30, sO31, sA31, sL31, sO32, sA32, sL32, sO33, sO34, sA34, sL34, sO35, sA35, sL35, sO36, sA36, sL36, sO37, sO38, sA38, sL38, sO39, sA39, sL39, sO40, sA40, sL40, sO41, sO42, sA42, sL42, sO43, sA43, sL43, sO44, sA44, sL44, sO45, sO46, sA46, sL46, sO47, sA47, sL47, sO48, sA48, sL48, sO49, sA49, sL49, sO50, sA50, sL50, sO51, sA51, sL51, sO52, sA52, sL52, sO53, sA53, sL53, sO54, sA54, sL54, sO55, sA55, sL55, sO56, sA56, sL56, sO57, sA57, sL57, sO58, sA58, sL58, sO59, sA59, sL59, sO60, sA60, sL60, sO61, sA61, sL61, sO62, sA62, sL62, sO63, sA63, sL63, sO64, sA64, sL64, sO65, sA65, sL65, sO66, sA66, sL66, sO67, sA67, sL67, sO68, sA68, sL68, sO69, sA69, sL69, sO70, sA70, sL70, sO71, sA71, sL71, sO72, sA72, sL72, sO73, sA73, sL73, sO74, sA74, sL74, sO75, sA75, sL75, sO76, sA76, sL76, sO77, sA77, sL77, sO78, sA78, sL78, sO79, sA79, sL79, sO80, sA80, sL80, sO81, sA81, sL81, sO82, sA82, sL82, sO83, sA83, sL83, sO84, sA84, sL84, sO85, sA85, sL85, sO86, sA86, sL86, sO87, sA87, sL87, sR0_0, sR0_1, sR0_2, sR0_3, sR0_5, sR0_6, sR0_8, sR0_10, sR0_11, sR0_12, sR0_13, sR1_0, sR6_0, sR6_1, sR6_2, sR9_0, sR9_1, sR9_2, sR13_0, sR13_1, sR13_2, sR13_3, sR13_4, sR13_5, sR20_0, sR20_1, sR20_2, sR20_3, sR25_0, sR25_1, sR25_2, sR25_4, sR25_5, sR25_6, sR25_7, sR33_2, sR33_3, sR37_2, sR37_3, sR41_2, sR41_3, sR45_0, sR45_1, sR45_3, sR45_4, sR45_5, sR45_6, sR45_7, sR45_8, sR45_9, sR45_10, sR45_12, sR45_13, sR45_14, sR45_15, sR45_16, sR45_17, sR45_18, sR45_19, sR45_20, sR45_21, sR45_22, sR45_25, sR45_26, sR45_27, sR45_28, sR45_29, sR45_30, sR45_31, sR45_32, sR45_33, sR45_34, sR45_35, sR45_36, sR45_40, sR45_41, sR45_42, sR45_43, sR45_45, sR45_46, sR45_47, sR45_48, sR45_49]
          · simp only [f_X10_impose, isForme_t hs i q.1 hf, isIn_i, l0', l3, c2', x1, x2, e0, le_0_m1, d2, n_le0 e9 (by omega), hs, and_self, if_true, if_false, n_1_0, n_0_0, okOb_sI, okAb_sI, okOb_sW, okAb_sW, vl_e, un_e, nl_s, nl_n, bnd_e, gd_e, SH_sI, SH_sW, xI_sI, xR_sI, xL_sI, xK_sI, xN_sI, gI_sW, xR_sW, xL_sW, xK_sW, xN_sW, sO0, sO1, sO2, sA2, sL2, sO3, sA3, sL3, sO4, sA4, sL4, sO5, sA5, sL5, sO6, sA6, sL6, sO7, sA7, sL7, sO8, sA8, sL8, sO9, sO10, sA10, sL10, sO11, sA11, sL11, sO12, sA12, sL12, sO13, sO14, sA14, sL14, sO15, sA15, sL15, sO16, sA16, sL16, sO17, sA17, sL17, sO18, sA18, sL18, sO19, sA19, sL19, sO20, sO21, sA21, sL21, sO22, sA22, sL22, sO23, sA23, sL23, sO24, sA24, sL24, sO25, sO26, sA26, sL26, sO27, sA27, sL27, sO28, sA28, sL28, sO29, sA29, sL29, sO30, sA30, sL30, sO31, sA31, sL31, sO32, sA32, sL32, sO33, sO34, sA34, sL34, sO35, sA35, sL35, sO36, sA36, sL36, sO37, sO38, sA38, sL38, sO39, sA39, sL39, sO40, sA40, sL40, sO41, sO42, sA42, sL42, sO43, sA43, sL43, sO44, sA44, sL44, sO45, sO46, sA46, sL46, sO47, sA47, sL47, sO48, sA48, sL48, sO49, sA49, sL49, sO50, sA50, sL50, sO51, sA51, sL51, sO52, sA52, sL52, sO53, sA53, sL53, sO54, sA54, sL54, sO55, sA55, sL55, sO56, sA56, sL56, sO57, sA57, sL57, sO58, sA58, sL58, sO59, sA59, sL59, sO60, sA60, sL60, sO61, sA61, sL61, sO62, sA62, sL62, sO63, sA63, sL63, sO64, sA64, sL64, sO65, sA65, sL65, sO66, sA66, sL66, sO67, sA67, sL67, sO68, sA68, sL68, sO69, sA69, sL69, sO70, sA70, sL70, sO71, sA71, sL71, sO72, sA72, sL72, sO73, sA73, sL73, sO74, sA74, sL74, sO75, sA75, sL75, sO76, sA76, sL76, sO77, sA77, sL77, sO78, sA78, sL78, sO79, sA79, sL79, sO80, sA80, sL80, sO81, sA81, sL81, sO82, sA82, sL82, sO83, sA83, sL83, sO84, sA84, sL84, sO85, sA85, sL85, sO86, sA86, sL86, sO87, sA87, sL87, sR0_0, sR0_1, sR0_2, sR0_3, sR0_5, sR0_6, sR0_8, sR0_10, sR0_11, sR0_12, sR0_13, sR1_0, sR6_0, sR6_1, sR6_2, sR9_0, sR9_1, sR9_2, sR13_0, sR13_1, sR13_2, sR13_3, sR13_4, sR13_5, sR20_0, sR20_1, sR20_2, sR20_3, sR25_0, sR25_1, sR25_2, sR25_4, sR25_5, sR25_6, sR25_7, sR33_2, sR33_3, sR37_2, sR37_3, sR41_2, sR41_3, sR45_0, sR45_1, sR45_3, sR45_4, sR45_5, sR45_6, sR45_7, sR45_8, sR45_9, sR45_10, sR45_12, sR45_13, sR45_14, sR45_15, sR45_16, sR45_17, sR45_18, sR45_19, sR45_20, sR45_21, sR45_22, sR45_25, sR45_26, sR45_27, sR45_28, sR45_29, sR45_30, sR45_31, sR45_32, sR45_33, sR45_34, sR45_35, sR45_36, sR45_40, sR45_41, sR45_42, sR45_43, sR45_45, sR45_46, sR45_47, sR45_48, sR45_49]
      · refine Out.same (-3) hs ?_ ?_ ⟨k, m⟩
        · simp only [f_X9_impose, f_X2_isImposed, findForme_t hs i hf, rng4, k0, k4, c2, f1, x5, e0, km1_le (show j < 2 ^ 31 by omega), hs, and_self, if_true, if_false, n_1_0, n_0_0, okOb_sI, okAb_sI, okOb_sW, okAb_sW, vl_e, un_e, nl_s, nl_n, bnd_e, gd_e, SH_sI, SH_sW, xI_sI, xR_sI, xL_sI, xK_sI, xN_sI, gI_sW, xR_sW, xL_sW, xK_sW, xN_sW, sO0, sO1, sO2, sA2, sL2, sO3, sA3, sL3, sO4, sA4, sL4, sO5, sA5, sL5, sO6, sA6, sL6, sO7, sA7, sL7, sO8, sA8, sL8, sO9, sO10, sA10, sL10, sO11, sA11, sL11, sO12, sA12, sL12, sO13, sO14, sA14, sL14, sO15, sA15, sL15, sO16, sA16, sL16, sO17, sA17, sL17, sO18, sA18, sL18, sO19, sA19, sL19, sO20, sO21, sA21, sL21, sO22, sA22, sL22, sO23, sA23, sL23, sO24, sA24, sL24, sO25, sO26, sA26, sL26, sO27, sA27, sL27, sO28, sA28, sL28, sO29, sA29, sL29, sO30, sA30, sL30, sO31, sA31, sL31, sO32, sA32, sL32, sO33, sO34, sA34, sL34, sO35, sA35, sL35, sO36, sA36, sL36, sO37, sO38, sA38, sL38, sO39, sA39, sL39, sO40, sA40, sL40, sO41, sO42, sA42, sL42, sO43, sA43, sL43, sO44, sA44, sL44, sO45, sO46, sA46, sL46, sO47, sA47, sL47, sO48, sA48, sL48, sO49, sA49, sL49, sO50, sA50, sL50, sO51, sA51, sL51, sO52, sA52, sL52, sO53, sA53, sL53, sO54, sA54, sL54, sO55, sA55, sL55, sO56, sA56, sL56, sO57, sA57, sL57, sO58, sA58, sL58, sO59, sA59, sL59, sO60, sA60, sL60, sO61, sA61, sL61, sO62, sA62, sL62, sO63, sA63, sL63, sO64, sA64, sL64, sO65, sA65, sL65, sO66, sA66, sL66, sO67, sA67, sL67, sO68, sA68, sL68, sO69, sA69, sL69, sO70, sA70, sL70, sO71, sA71, sL71, sO72, sA72, sL72, sO73, sA73, sL73, sO74, sA74, sL74, sO75, sA75, sL75, sO76, sA76, sL76, sO77, sA77, sL77, sO78, sA78, sL78, sO79, sA79, sL79, sO80, sA80, sL80, sO81, sA81, sL81, sO82, sA82, sL82, sO83, sA83, sL83, sO84, sA84, sL84, sO85, sA85, sL85, sO86, sA86, sL86, sO87, sA87, sL87, sR0_0, sR0_1, sR0_2, sR0_3, sR0_5, sR0_6, sR0_8, sR0_10, sR0_11, sR0_12, sR0_13, sR1_0, sR6_0, sR6_1, sR6_2, sR9_0, sR9_1, sR9_2, sR13_0, sR13_1, sR13_2, sR13_3, sR13_4, sR13_5, sR20_0, sR20_1, sR20_2, sR20_3, sR25_0, sR25_1, sR25_2, sR25_4, sR25_5, sR25_6, sR25_7, sR33_2, sR33_3, sR37_2, sR37_3, sR41_2, sR41_3, sR45_0, sR45_1, sR45_3, sR45_4, sR45_5, sR45_6, sR45_7, sR45_8, sR45_9, sR45_10, sR45_12, sR45_13, sR45_14, sR45_15, sR45_16, sR45_17, sR45_18, sR45_19, sR45_20, sR45_21, sR45_22, sR45_25, sR45_26, sR45_27, sR45_28, sR45_29, sR45_30, sR45_31, sR45_32, sR45_33, sR45_34, sR45_35, sR45_36, sR45_40, sR45_41, sR45_42, sR45_43, sR45_45, sR45_46, sR45_47, sR45_48, sR45_49]
        · simp only [f_X10_impose, isForme_t hs i q.1 hf, isIn_i, l0', l3, c2', x1, x2, e0, k_ge0 (show j < 2 ^ 31 by omega), hs, and_self, if_true, if_false, n_1_0, n_0_0, okOb_sI, okAb_sI, okOb_sW, okAb_sW, vl_e, un_e, nl_s, nl_n, bnd_e, gd_e, SH_sI, SH_sW, xI_sI, xR_sI, xL_sI, xK_sI, xN_sI, gI_sW, xR_sW, xL_sW, xK_sW, xN_sW, sO0, sO1, sO2, sA2, sL2, sO3, sA3, sL3, sO4, sA4, sL4, sO5, sA5, sL5, sO6, sA6, sL6, sO7, sA7, sL7, sO8, sA8, sL8, sO9, sO10, sA10, sL10, sO11, sA11, sL11, sO12, sA12, sL12, sO13, sO14, sA14, sL14, sO15, sA15, sL15, sO16, sA16, sL16, sO17, sA17, sL17, sO18, sA18, sL18, sO19, sA19, sL19, sO20, sO21, sA21, sL21, sO22, sA22, sL22, sO23, sA23, sL23, sO24, sA24, sL24, sO25, sO26, sA26, sL26, sO27, sA27, sL27, sO28, sA28, sL28, sO29, sA29, sL29, sO30, sA30, sL30, sO31, sA31, sL31, sO32, sA32, sL32, sO33, sO34, sA34, sL34, sO35, sA35, sL35, sO36, sA36, sL36, sO37, sO38, sA38, sL38, sO39, sA39, sL39, sO40, sA40, sL40, sO41, sO42, sA42, sL42, sO43, sA43, sL43, sO44, sA44, sL44, sO45, sO46, sA46, sL46, sO47, sA47, sL47, sO48, sA48, sL48, sO49, sA49, sL49, sO50, sA50, sL50, sO51, sA51, sL51, sO52, sA52, sL52, sO53, sA53, sL53, sO54, sA54, sL54, sO55, sA55, sL55, sO56, sA56, sL56, sO57, sA57, sL57, sO58, sA58, sL58, sO59, sA59, sL59, sO60, sA60, sL60, sO61, sA61, sL61, sO62, sA62, sL62, sO63, sA63, sL63, sO64, sA64, sL64, sO65, sA65, sL65, sO66, sA66, sL66, sO67, sA67, sL67, sO68, sA68, sL68, sO69, sA69, sL69, sO70, sA70, sL70, sO71, sA71, sL71, sO72, sA72, sL72, sO73, sA73, sL73, sO74, sA74, sL74, sO75, sA75, sL75, sO76, sA76, sL76, sO77, sA77, sL77, sO78, sA78, sL78, sO79, sA79, sL79, sO80, sA80, sL80, sO81, sA81, sL81, sO82, sA82, sL82, sO83, sA83, sL83, sO84, sA84, sL84, sO85, sA85, sL85, sO86, sA86, sL86, sO87, sA87, sL87, sR0_0, sR0_1, sR0_2, sR0_3, sR0_5, sR0_6, sR0_8, sR0_10, sR0_11, sR0_12, sR0_13, sR1_0, sR6_0, sR6_1, sR6_2, sR9_0, sR9_1, sR9_2, sR13_0, sR13_1, sR13_2, sR13_3, sR13_4, sR13_5, sR20_0, sR20_1, sR20_2, sR20_3, sR25_0, sR25_1, sR25_2, sR25_4, sR25_5, sR25_6, sR25_7, sR33_2, sR33_3, sR37_2, sR37_3, sR41_2, sR41_3, sR45_0, sR45_1, sR45_3, sR45_4, sR45_5, sR45_6, sR45_7, sR45_8, sR45_9, sR45_10, sR45_12, sR45_13, sR45_14, sR45_15, sR45_16, sR45_17, sR45_18, sR45_19, sR45_20, sR45_21, sR45_22, sR45_25, sR45_26, sR45_27, sR45_28, sR45_29, sR45_30, sR45_31, sR45_32, sR45_33, sR45_34, sR45_35, sR45_36, sR45_40, sR45_41, sR45_42, sR45_43, sR45_45, sR45_46, sR45_47, sR45_48, sR45_49]
    · have c2' : ¬ (0 ≤ a2.toInt ∧ a2.toInt ≤ 3) := by omega
      refine Out.same (-1) hs ?_ ?_ ⟨k, m⟩
      · simp only [f_X9_impose, findForme_t hs i hf, rng4, k0, k4, c2, hs, and_self, if_true, if_false, n_1_0, n_0_0, okOb_sI, okAb_sI, okOb_sW, okAb_sW, vl_e, un_e, nl_s, nl_n, bnd_e, gd_e, SH_sI, SH_sW, xI_sI, xR_sI, xL_sI, xK_sI, xN_sI, gI_sW, xR_sW, xL_sW, xK_sW, xN_sW, sO0, sO1, sO2, sA2, sL2, sO3, sA3, sL3, sO4, sA4, sL4, sO5, sA5, sL5, sO6, sA6, sL6, sO7, sA7, sL7, sO8, sA8, sL8, sO9, sO10, sA10, sL10, sO11, sA11, sL11, sO12, sA12, sL12, sO13, sO14, sA14, sL14, sO15, sA15, sL15, sO16, sA16, sL16, sO17, sA17, sL17, sO18, sA18, sL18, sO19, sA19, sL19, sO20, sO21, sA21, sL21, sO22, sA22, sL22, sO23, sA23, sL23, sO24, sA24, sL24, sO25, sO26, sA26, sL26, sO27, sA27, sL27, sO28, sA28, sL28, sO29, sA29, sL29, sO30, sA30, sL30, sO31, sA31, sL31, sO32, sA32, sL32, sO33, sO34, sA34, sL34, sO35, sA35, sL35, sO36, sA36, sL36, sO37, sO38, sA38, sL38, sO39, sA39, sL39, sO40, sA40, sL40, sO41, sO42, sA42, sL42, sO43, sA43, sL43, sO44, sA44, sL44, sO45, sO46, sA46, sL46, sO47, sA47, sL47, sO48, sA48, sL48, sO49, sA49, sL49, sO50, sA50, sL50, sO51, sA51, sL51, sO52, sA52, sL52, sO53, sA53, sL53, sO54, sA54, sL54, sO55, sA55, sL55, sO56, sA56, sL56, sO57, sA57, sL57, sO58, sA58, sL58, sO59, sA59, sL59, sO60, sA60, sL60, sO61, sA61, sL61, sO62, sA62, sL62, sO63, sA63, sL63, sO64, sA64, sL64, sO65, sA65, sL65, sO66, sA66, sL66, sO67, sA67, sL67, sO68, sA68, sL68, sO69, sA69, sL69, sO70, sA70, sL70, sO71, sA71, sL71, sO72, sA72, sL72, sO73, sA73, sL73, sO74, sA74, sL74, sO75, sA75, sL75, sO76, sA76, sL76, sO77, sA77, sL77, sO78, sA78, sL78, sO79, sA79, sL79, sO80, sA80, sL80, sO81, sA81, sL81, sO82, sA82, sL82, sO83, sA83, sL83, sO84, sA84, sL84, sO85, sA85, sL85, sO86, sA86, sL86, sO87, sA87, sL87, sR0_0, sR0_1, sR0_2, sR0_3, sR0_5, sR0_6, sR0_8, sR0_10, sR0_11, sR0_12, sR0_13, sR1_0, sR6_0, sR6_1, sR6_2, sR9_0, sR9_1, sR9_2, sR13_0, sR13_1, sR13_2, sR13_3, sR13_4, sR13_5, sR20_0, sR20_1, sR20_2, sR20_3, sR25_0, sR25_1, sR25_2, sR25_4, sR25_5, sR25_6, sR25_7, sR33_2, sR33_3, sR37_2, sR37_3, sR41_2, sR41_3, sR45_0, sR45_1, sR45_3, sR45_4, sR45_5, sR45_6, sR45_7, sR45_8, sR45_9, sR45_10, sR45_12, sR45_13, sR45_14, sR45_15, sR45_16, sR45_17, sR45_18, sR45_19, sR45_20, sR45_21, sR45_22, sR45_25, sR45_26, sR45_27, sR45_28, sR45_29, sR45_30, sR45_31, sR45_32, sR45_33, sR45_34, sR45_35, sR45_36, sR45_40, sR45_41, sR45_42, sR45_43, sR45_45, sR45_46, sR45_47, sR45_48, sR45_49]
      · simp only [f_X10_impose, isForme_t hs i q.1 hf, isIn_i, l0', l3, c2', hs, and_self, if_true, if_false, n_1_0, n_0_0, okOb_sI, okAb_sI, okOb_sW, okAb_sW, vl_e, un_e, nl_s, nl_n, bnd_e, gd_e, SH_sI, SH_sW, xI_sI, xR_sI, xL_sI, xK_sI, xN_sI, gI_sW, xR_sW, xL_sW, xK_sW, xN_sW, sO0, sO1, sO2, sA2, sL2, sO3, sA3, sL3, sO4, sA4, sL4, sO5, sA5, sL5, sO6, sA6, sL6, sO7, sA7, sL7, sO8, sA8, sL8, sO9, sO10, sA10, sL10, sO11, sA11, sL11, sO12, sA12, sL12, sO13, sO14, sA14, sL14, sO15, sA15, sL15, sO16, sA16, sL16, sO17, sA17, sL17, sO18, sA18, sL18, sO19, sA19, sL19, sO20, sO21, sA21, sL21, sO22, sA22, sL22, sO23, sA23, sL23, sO24, sA24, sL24, sO25, sO26, sA26, sL26, sO27, sA27, sL27, sO28, sA28, sL28, sO29, sA29, sL29, sO30, sA30, sL30, sO31, sA31, sL31, sO32, sA32, sL32, sO33, sO34, sA34, sL34, sO35, sA35, sL35, sO36, sA36, sL36, sO37, sO38, sA38, sL38, sO39, sA39, sL39, sO40, sA40, sL40, sO41, sO42, sA42, sL42, sO43, sA43, sL43, sO44, sA44, sL44, sO45, sO46, sA46, sL46, sO47, sA47, sL47, sO48, sA48, sL48, sO49, sA49, sL49, sO50, sA50, sL50, sO51, sA51, sL51, sO52, sA52, sL52, sO53, sA53, sL53, sO54, sA54, sL54, sO55, sA55, sL55, sO56, sA56, sL56, sO57, sA57, sL57, sO58, sA58, sL58, sO59, sA59, sL59, sO60, sA60, sL60, sO61, sA61, sL61, sO62, sA62, sL62, sO63, sA63, sL63, sO64, sA64, sL64, sO65, sA65, sL65, sO66, sA66, sL66, sO67, sA67, sL67, sO68, sA68, sL68, sO69, sA69, sL69, sO70, sA70, sL70, sO71, sA71, sL71, sO72, sA72, sL72, sO73, sA73, sL73, sO74, sA74, sL74, sO75, sA75, sL75, sO76, sA76, sL76, sO77, sA77, sL77, sO78, sA78, sL78, sO79, sA79, sL79, sO80, sA80, sL80, sO81, sA81, sL81, sO82, sA82, sL82, sO83, sA83, sL83, sO84, sA84, sL84, sO85, sA85, sL85, sO86, sA86, sL86, sO87, sA87, sL87, sR0_0, sR0_1, sR0_2, sR0_3, sR0_5, sR0_6, sR0_8, sR0_10, sR0_11, sR0_12, sR0_13, sR1_0, sR6_0, sR6_1, sR6_2, sR9_0, sR9_1, sR9_2, sR13_0, sR13_1, sR13_2, sR13_3, sR13_4, sR13_5, sR20_0, sR20_1, sR20_2, sR20_3, sR25_0, sR25_1, sR25_2, sR25_4, sR25_5, sR25_6, sR25_7, sR33_2, sR33_3, sR37_2, sR37_3, sR41_2, sR41_3, sR45_0, sR45_1, sR45_3, sR45_4, sR45_5, sR45_6, sR45_7, sR45_8, sR45_9, sR45_10, sR45_12, sR45_13, sR45_14, sR45_15, sR45_16, sR45_17, sR45_18, sR45_19, sR45_20, sR45_21, sR45_22, sR45_25, sR45_26, sR45_27, sR45_28, sR45_29, sR45_30, sR45_31, sR45_32, sR45_33, sR45_34, sR45_35, sR45_36, sR45_40, sR45_41, sR45_42, sR45_43, sR45_45, sR45_46, sR45_47, sR45_48, sR45_49]
  · refine Out.same (-1) hs ?_ ?_ ⟨k, m⟩
    · simp only [f_X9_impose, findForme_f hs i c1, hs, and_self, if_true, if_false, n_1_0, n_0_0, okOb_sI, okAb_sI, okOb_sW, okAb_sW, vl_e, un_e, nl_s, nl_n, bnd_e, gd_e, SH_sI, SH_sW, xI_sI, xR_sI, xL_sI, xK_sI, xN_sI, gI_sW, xR_sW, xL_sW, xK_sW, xN_sW, sO0, sO1, sO2, sA2, sL2, sO3, sA3, sL3, sO4, sA4, sL4, sO5, sA5, sL5, sO6, sA6, sL6, sO7, sA7, sL7, sO8, sA8, sL8, sO9, sO10, sA10, sL10, sO11, sA11, sL11, sO12, sA12, sL12, sO13, sO14, sA14, sL14, sO15, sA15, sL15, sO16, sA16, sL16, sO17, sA17, sL17, sO18, sA18, sL18, sO19, sA19, sL19, sO20, sO21, sA21, sL21, sO22, sA22, sL22, sO23, sA23, sL23, sO24, sA24, sL24, sO25, sO26, sA26, sL26, sO27, sA27, sL27, sO28, sA28, sL28, sO29, sA29, sL29, sO30, sA30, sL30, sO31, sA31, sL31, sO32, sA32, sL32, sO33, sO34, sA34, sL34, sO35, sA35, sL35, sO36, sA36, sL36, sO37, sO38, sA38, sL38, sO39, sA39, sL39, sO40, sA40, sL40, sO41, sO42, sA42, sL42, sO43, sA43, sL43, sO44, sA44, sL44, sO45, sO46, sA46, sL46, sO47, sA47, sL47, sO48, sA48, sL48, sO49, sA49, sL49, sO50, sA50, sL50, sO51, sA51, sL51, sO52, sA52, sL52, sO53, sA53, sL53, sO54, sA54, sL54, sO55, sA55, sL55, sO56, sA56, sL56, sO57, sA57, sL57, sO58, sA58, sL58, sO59, sA59, sL59, sO60, sA60, sL60, sO61, sA61, sL61, sO62, sA62, sL62, sO63, sA63, sL63, sO64, sA64, sL64, sO65, sA65, sL65, sO66, sA66, sL66, sO67, sA67, sL67, sO68, sA68, sL68, sO69, sA69, sL69, sO70, sA70, sL70, sO71, sA71, sL71, sO72, sA72, sL72, sO73, sA73, sL73, sO74, sA74, sL74, sO75, sA75, sL75, sO76, sA76, sL76, sO77, sA77, sL77, sO78, sA78, sL78, sO79, sA79, sL79, sO80, sA80, sL80, sO81, sA81, sL81, sO82, sA82, sL82, sO83, sA83, sL83, sO84, sA84, sL84, sO85, sA85, sL85, sO86, sA86, sL86, sO87, sA87, sL87, sR0_0, sR0_1, sR0_2, sR0_3, sR0_5, sR0_6, sR0_8, sR0_10, sR0_11, sR0_12, sR0_13, sR1_0, sR6_0, sR6_1, sR6_2, sR9_0, sR9_1, sR9_2, sR13_0, sR13_1, sR13_2, sR13_3, sR13_4, sR13_5, sR20_0, sR20_1, sR20_2, sR20_3, sR25_0, sR25_1, sR25_2, sR25_4, sR25_5, sR25_6, sR25_7, sR33_2, sR33_3, sR37_2, sR37_3, sR41_2, sR41_3, sR45_0, sR45_1, sR45_3, sR45_4, sR45_5, sR45_6, sR45_7, sR45_8, sR45_9, sR45_10, sR45_12, sR45_13, sR45_14, sR45_15, sR45_16, sR45_17, sR45_18, sR45_19, sR45_20, sR45_21, sR45_22, sR45_25, sR45_26, sR45_27, sR45_28, sR45_29, sR45_30, sR45_31, sR45_32, sR45_33, sR45_34, sR45_35, sR45_36, sR45_40, sR45_41, sR45_42, sR45_43, sR45_45, sR45_46, sR45_47, sR45_48, sR45_49]
    · simp only [f_X10_impose, isForme_f hs i q.1 c1, hs, and_self, if_true, if_false, n_1_0, n_0_0, okOb_sI, okAb_sI, okOb_sW, okAb_sW, vl_e, un_e, nl_s, nl_n, bnd_e, gd_e, SH_sI, SH_sW, xI_sI, xR_sI, xL_sI, xK_sI, xN_sI, gI_sW, xR_sW, xL_sW, xK_sW, xN_sW, sO0, sO1, sO2, sA2, sL2, sO3, sA3, sL3, sO4, sA4, sL4, sO5, sA5, sL5, sO6, sA6, sL6, sO7, sA7, sL7, sO8, sA8, sL8, sO9, sO10, sA10, sL10, sO11, sA11, sL11, sO12, sA12, sL12, sO13, sO14, sA14, sL14, sO15, sA15, sL15, sO16, sA16, sL16, sO17, sA17, sL17, sO18, sA18, sL18, sO19, sA19, sL19, sO20, sO21, sA21, sL21, sO22, sA22, sL22, sO23, sA23, sL23, sO24, sA24, sL24, sO25, sO26, sA26, sL26, sO27, sA27, sL27, sO28, sA28, sL28, sO29, sA29, sL29, sO30, sA30, sL30, sO31, sA31, sL31, sO32, sA32, sL32, sO33, sO34, sA34, sL34, sO35, sA35, sL35, sO36, sA36, sL36, sO37, sO38, sA38, sL38, sO39, sA39, sL39, sO40, sA40, sL40, sO41, sO42, sA42, sL42, sO43, sA43, sL43, sO44, sA44, sL44, sO45, sO46, sA46, sL46, sO47, sA47, sL47, sO48, sA48, sL48, sO49, sA49, sL49, sO50, sA50, sL50, sO51, sA51, sL51, sO52, sA52, sL52, sO53, sA53, sL53, sO54, sA54, sL54, sO55, sA55, sL55, sO56, sA56, sL56, sO57, sA57, sL57, sO58, sA58, sL58, sO59, sA59, sL59, sO60, sA60, sL60, sO61, sA61, sL61, sO62, sA62, sL62, sO63, sA63, sL63, sO64, sA64, sL64, sO65, sA65, sL65, sO66, sA66, sL66, sO67, sA67, sL67, sO68, sA68, sL68, sO69, sA69, sL69, sO70, sA70, sL70, sO71, sA71, sL71, sO72, sA72, sL72, sO73, sA73, sL73, sO74, sA74, sL74, sO75, sA75, sL75, sO76, sA76, sL76, sO77, sA77, sL77, sO78, sA78, sL78, sO79, sA79, sL79, sO80, sA80, sL80, sO81, sA81, sL81, sO82, sA82, sL82, sO83, sA83, sL83, sO84, sA84, sL84, sO85, sA85, sL85, sO86, sA86, sL86, sO87, sA87, sL87, sR0_0, sR0_1, sR0_2, sR0_3, sR0_5, sR0_6, sR0_8, sR0_10, sR0_11, sR0_12, sR0_13, sR1_0, sR6_0, sR6_1, sR6_2, sR9_0, sR9_1, sR9_2, sR13_0, sR13_1, sR13_2, sR13_3, sR13_4, sR13_5, sR20_0, sR20_1, sR20_2, sR20_3, sR25_0, sR25_1, sR25_2, sR25_4, sR25_5, sR25_6, sR25_7, sR33_2, sR33_3, sR37_2, sR37_3, sR41_2, sR41_3, sR45_0, sR45_1, sR45_3, sR45_4, sR45_5, sR45_6, sR45_7, sR45_8, sR45_9, sR45_10, sR45_12, sR45_13, sR45_14, sR45_15, sR45_16, sR45_17, sR45_18, sR45_19, sR45_20, sR45_21, sR45_22, sR45_25, sR45_26, sR45_27, sR45_28, sR45_29, sR45_30, sR45_31, sR45_32, sR45_33, sR45_34, sR45_35, sR45_36, sR45_40, sR45_41, sR45_42, sR45_43, sR45_45, sR45_46, sR45_47, sR45_48, sR45_49]
