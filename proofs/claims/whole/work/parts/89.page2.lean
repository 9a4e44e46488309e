def PPg (p a k : Nat) : Prop := (a = 0 ∧ k = 4) ∨ (a = 1 ∧ k = 1) ∨ (a = 45 ∧ (k = 2 ∨ k = 11)) ∨ (a = 48 ∧ k = p) ∨ (a = 49 ∧ 120 * p ≤ k) ∨ ((a = 52 ∨ a = 53 ∨ a = 54) ∧ k = p)
/-- what a new page leaves -/
def PgF (h h2 : Hp) (z : Nat) (cd : Nat → Int32) : Prop := (gN h2 = gN h + 4 ∧ gS h2 = gS h + 8 + 3 * z) ∧ (∀ a, a < gN h → gK h2 a = gK h a ∧ gL h2 a = gL h a) ∧ (∀ a k, a < gN h → ¬ (a = 5 ∧ k = nP h) → gR h2 a k = gR h a k) ∧ (∀ a k, a < gN h → ¬ PPg (nP h) a k → gI h2 a k = gI h a k) ∧ (gR h2 5 (nP h) = some (gN h) ∧ gK h2 (gN h) = 6 ∧ (∀ i, 1 ≤ i → i ≤ 3 → gK h2 (gN h + i) = 11 ∧ gL h2 (gN h + i) = z ∧ gR h2 (gN h) i = some (gN h + i)) ∧ gR h2 (gN h) 7 = none) ∧ (gI h2 0 4 = nI (nP h + 1) ∧ gI h2 45 11 = nI (nP h + 1) ∧ gI h2 1 1 = 0 ∧ gI h2 45 2 = 0) ∧ (gI h2 (gN h) 0 = nI (nP h) ∧ gI h2 (gN h) 4 = nI (cnt (fun k => isLet (cd k)) z) ∧ gI h2 (gN h) 5 = 0) ∧ (∀ k, k < z → gI h2 (gN h + 1) k = cd k ∧ gI h2 49 (120 * nP h + k) = cd k) ∧ gI h2 48 (nP h) = nI z ∧ gI h2 52 (nP h) = -1 ∧ gI h2 53 (nP h) = -1 ∧ gI h2 54 (nP h) = -1
set_option maxRecDepth 100000 in
theorem pageC_e {h : Hp} (hs : SH h) (g : IGeo h) {B : Nat → Int32} {z : Nat} (tp : TpC h B z) (h1 : 1 ≤ z) (hp : nP h < 48) (hb : bdF B z 0 = none) : ∃ h2, f_X9_page h 0 = some (nI (nP h), h2) ∧ SH h2 ∧ (gN h2 = gN h + 4 ∧ gS h2 = gS h + 8 + 3 * z) ∧ (∀ a, a < gN h → gK h2 a = gK h a ∧ gL h2 a = gL h a) ∧ (∀ a k, a < gN h → ¬ (a = 5 ∧ k = nP h) → gR h2 a k = gR h a k) ∧ (∀ a k, a < gN h → ¬ ((a = 0 ∧ k = 4) ∨ (a = 1 ∧ k = 1)) → gI h2 a k = gI h a k) ∧ (gR h2 5 (nP h) = some (gN h) ∧ gK h2 (gN h) = 6 ∧ (∀ i, 1 ≤ i → i ≤ 3 → gK h2 (gN h + i) = 11 ∧ gL h2 (gN h + i) = z ∧ gR h2 (gN h) i = some (gN h + i)) ∧ gR h2 (gN h) 7 = none) ∧ (gI h2 0 4 = nI (nP h + 1) ∧ gI h2 1 1 = 0) ∧ (gI h2 (gN h) 0 = nI (nP h) ∧ gI h2 (gN h) 4 = nI (cnt (fun k => isLet (sgc (B k))) z) ∧ gI h2 (gN h) 5 = 0) ∧ ∀ k, k < z → gI h2 (gN h + 1) k = sgc (B k) := by
  have h88 := hs.1
  have hz := tp.2.1
  obtain ⟨N1, N2⟩ := h7_N h (nI (nP h)) z
  obtain ⟨n1, n2, n3, n4, n5⟩ := h7_n h (nI (nP h)) z
  have o7 : ∀ {a}, a < gN h → _ := fun {a} ha => h7_o (h := h) (nI (nP h)) z (a := a) ha
  have s7 : SH (h7P h (nI (nP h)) z) := SH_ag hs (by omega) (fun a ha => ⟨(o7 (by omega)).1, (o7 (by omega)).2.1⟩) (fun a j ha _ _ => (o7 (by omega)).2.2.1 j)
  have tp7 : TpC (h7P h (nI (nP h)) z) B z := ⟨by rw [(o7 (by omega)).2.2.2]; exact tp.1, hz, fun j hj => by rw [(o7 (by omega)).2.2.2]; exact tp.2.2.1 j hj, tp.2.2.2⟩
  have pi := pgI_e hs hz tp.1 (nI (nP h))
  generalize h7P h (nI (nP h)) z = h7 at *
  obtain ⟨hL, L1, L2, L3⟩ := pgL_e s7 tp7 (b := gN h) (by omega) (by omega) (by omega) n1 (n2 1 (by omega) (by omega)).2.2 (n2 1 (by omega) (by omega)).1 (n2 1 (by omega) (by omega)).2.1 (nI (nP h))
  let hM : Hp := sI hL (gN h) 4 (nI (cnt (fun k => isLet (sgc (B k))) z))
  have uM : Upd h7 hM (fun a k => a = gN h + 1 ∨ (a = gN h ∧ k = 4)) := (L2.mono (fun a k w => Or.inl w)).tr (Upd_sI (Or.inr ⟨rfl, rfl⟩))
  have sM : SH hM := uM.sh s7
  let hF : Hp := sI (sI (sR hM 5 (nP h) (some (gN h))) 1 1 0) 0 4 (nI (nP h + 1))
  have sR1 : SH (sR hM 5 (nP h) (some (gN h))) := SH_ag sM sM.1 (fun a ha => ⟨rfl, rfl⟩) (fun a j ha q _ => by rw [xR_sR, if_neg (fun w => q w.1)])
  have sF : SH hF := sR1
  have z1 : (nI (nP h)).toNatClampNeg = nP h := nI_clamp (by omega)
  have z2 : inB (nI (nP h)) 48 = true := inB_nI hp (by decide)
  have e4 : gI h 0 4 = nI (nP h) := g.1
  have y1 : ¬ nI z = 0 := nI_ne0 (by omega) (by omega)
  have y2 : nI (nP h) < (48 : Int32) := nI_lt (b := 48) hp (by decide)
  have fn := fnoc_e hs tp
  rw [hb] at fn
  have e4M : gI hM 0 4 = nI (nP h) := by rw [uM.2 _ _ (by omega), (o7 (by omega)).2.2.2]; exact e4
  have gRM : ∀ a k, a < gN h → gR hM a k = gR h a k := fun a k ha => by rw [uM.1.2.2.2.2]; exact (o7 ha).2.2.1 k
  have gIM : ∀ a k, a < gN h → gI hM a k = gI h a k := fun a k ha => by rw [uM.2 _ _ (by omega)]; exact (o7 ha).2.2.2 k
  have vF : ∀ a k, ¬ ((a = 0 ∧ k = 4) ∨ (a = 1 ∧ k = 1)) → gI hF a k = gI hM a k := fun a k q => by
    show gI (sI (sI (sR hM 5 (nP h) (some (gN h))) 1 1 0) 0 4 (nI (nP h + 1))) a k = _
    rw [xI_sI, if_neg (by omega), xI_sI, if_neg (by omega), xI_sR]
  have vM : ∀ a k, ¬ (a = gN h + 1 ∨ (a = gN h ∧ k = 4)) → gI hM a k = gI h7 a k := fun a k q => uM.2 a k q
  have e0 : f_X9_page h 0 = some (nI (nP h), hF) := by
    have a1 : gI (nw h 6 8 0) 0 4 = nI (nP h) := by rw [gI_nw, if_neg (by omega)]; exact e4
    have a2 : gR (nw h 6 8 0) 0 0 = some 1 := by rw [gR_nw, if_neg (by omega)]; exact sR0_0 hs
    have a3 : f_X6_init (nw h 6 8 0) (gN h) (nI (nP h)) 1 = some ((), hM) := by rw [pi]; exact L1
    unfold f_X9_page
    rw [sO0 hs, gd_e, vl_e, sR0_0 hs, un_e, sO1 hs, gd_e, vl_e, tp.1, if_neg y1, vl_e, e4, if_pos y2, vl_e, un_e, sO1 hs, gd_e, fn, bnd_e, show wI none = (-1 : Int32) from rfl, if_pos rfl, vl_e, sR0_3 hs, vl_e, e4, vl_e, vl_e, vl_e, a1, vl_e, a2, un_e, a3, bnd_e, un_e, sA5 sM, z2, gd_e, z1, vl_e, vl_e, sR0_0 sR1, un_e, sO1 sR1, gd_e, vl_e, vl_e]
    have a4 : gI (sI (sR hM 5 (nP h) (some (gN h))) 1 1 0) 0 4 = nI (nP h) := by rw [xI_sI, if_neg (by omega), xI_sR]; exact e4M
    rw [a4, vl_e, nI_1, vl_e, xI_sI, if_pos ⟨rfl, rfl⟩, nI_pred]
  refine ⟨hF, e0, sF, ⟨?_, ?_⟩, fun a ha => ⟨?_, ?_⟩, fun a k ha q => ?_, fun a k ha q => ?_, ⟨?_, ?_, fun i i1 i2 => ⟨?_, ?_, ?_⟩, ?_⟩, ⟨?_, ?_⟩, ⟨?_, ?_, ?_⟩, fun k hk => ?_⟩
  · show gN hM = _; rw [uM.1.1]; exact N1
  · show gS hM = _; rw [uM.1.2.1]; exact N2
  · show gK hM a = _; rw [uM.1.2.2.1]; exact (o7 ha).1
  · show gL hM a = _; rw [uM.1.2.2.2.1]; exact (o7 ha).2.1
  · show gR (sR hM 5 (nP h) (some (gN h))) a k = _
    rw [xR_sR, if_neg q]; exact gRM a k ha
  · rw [vF a k q]; exact gIM a k ha
  · show gR (sR hM 5 (nP h) (some (gN h))) 5 (nP h) = _
    rw [xR_sR, if_pos ⟨rfl, rfl⟩]
  · show gK hM _ = _; rw [uM.1.2.2.1]; exact n1
  · show gK hM _ = _; rw [uM.1.2.2.1]; exact (n2 i i1 i2).1
  · show gL hM _ = _; rw [uM.1.2.2.2.1]; exact (n2 i i1 i2).2.1
  · show gR (sR hM 5 (nP h) (some (gN h))) (gN h) i = _
    rw [xR_sR, if_neg (by omega), uM.1.2.2.2.2]; exact (n2 i i1 i2).2.2
  · show gR (sR hM 5 (nP h) (some (gN h))) (gN h) 7 = _
    rw [xR_sR, if_neg (by omega), uM.1.2.2.2.2]; exact n3
  · show gI (sI (sI (sR hM 5 (nP h) (some (gN h))) 1 1 0) 0 4 (nI (nP h + 1))) 0 4 = _
    rw [xI_sI, if_pos ⟨rfl, rfl⟩]
  · show gI (sI (sI (sR hM 5 (nP h) (some (gN h))) 1 1 0) 0 4 (nI (nP h + 1))) 1 1 = _
    rw [xI_sI, if_neg (by omega), xI_sI, if_pos ⟨rfl, rfl⟩]
  · rw [vF _ _ (by omega), vM _ _ (by omega)]; exact n4
  · rw [vF _ _ (by omega)]
    show gI (sI hL (gN h) 4 (nI (cnt (fun k => isLet (sgc (B k))) z))) (gN h) 4 = _
    rw [xI_sI, if_pos ⟨rfl, rfl⟩]
  · rw [vF _ _ (by omega), vM _ _ (by omega)]; exact n5
  · rw [vF _ _ (by omega)]
    show gI (sI hL (gN h) 4 (nI (cnt (fun k => isLet (sgc (B k))) z))) (gN h + 1) k = _
    rw [xI_sI, if_neg (by omega)]; exact L3 k hk
set_option maxRecDepth 100000 in
theorem page_92 {h : Hp} (hs : SH h) {B : Nat → Int32} {z p : Nat} (hz : z ≤ 120) (hp : p < 48) (e46 : ∀ j, j < z → gI h 46 j = B j) (K : Nat → Int32 → Int32 → Int32 → Hp → Option (Int32 × Hp)) : ∃ h2, f_X10_page_L92 K 6000 45 (nI z) (nI p) 0 h = K 45 (nI z) (nI p) (nI z) h2 ∧ Upd h h2 (fun a k => a = 49 ∧ 120 * p ≤ k) ∧ ∀ k, k < z → gI h2 49 (120 * p + k) = sgc (B k) := by
  refine forL z (fun m k (hh : Hp) => f_X10_page_L92 K m 45 (nI z) (nI p) (nI k) hh) (fun k hh => Upd h hh (fun a k => a = 49 ∧ 120 * p ≤ k) ∧ ∀ j, j < k → gI hh 49 (120 * p + j) = sgc (B j)) (fun x => ∃ h2, x = K 45 (nI z) (nI p) (nI z) h2 ∧ Upd h h2 (fun a k => a = 49 ∧ 120 * p ≤ k) ∧ ∀ k, k < z → gI h2 49 (120 * p + k) = sgc (B k)) ?_ ?_ z 6000 0 h (by omega) (by omega) ⟨Upd_rf _ _, fun j hj => absurd hj (Nat.not_lt_zero j)⟩
  · intro m k hh hk ⟨I1, I2⟩
    have hsh := I1.sh hs
    have x0 : ¬ nI z ≤ nI k := nI_ge hk (by omega)
    have z1 : (nI k).toNatClampNeg = k := nI_clamp (by omega)
    have z2 : inB (nI k) 300 = true := inB_nI (by omega) (by decide)
    have z3 : (nI (120 * p + k)).toNatClampNeg = 120 * p + k := nI_clamp (by omega)
    have z4 : inB (nI (120 * p + k)) 5760 = true := inB_nI (by omega) (by decide)
    have f46 : gI hh 46 k = B k := by rw [I1.2 _ _ (by omega)]; exact e46 k hk
    refine Or.inr ⟨sI hh 49 (120 * p + k) (sgc (B k)), ?_, I1.tr (Upd_sI ⟨rfl, by omega⟩), fun j hj => ?_⟩
    · rw [f_X10_page_L92]
      simp only [x0, z1, z2, z3, z4, f46, signOf_e, ix120, nI_1, hsh, and_self, if_true, if_false, n_1_0, n_0_0, okOb_sI, okAb_sI, okOb_sW, okAb_sW, vl_e, un_e, nl_s, nl_n, bnd_e, gd_e, SH_sI, SH_sW, xI_sI, xR_sI, xL_sI, xK_sI, xN_sI, gI_sW, xR_sW, xL_sW, xK_sW, xN_sW, sO0, sO1, sO2, sA2, sL2, sO3, sA3, sL3, sO4, sA4, sL4, sO5, sA5, sL5, sO6, sA6, sL6, sO7, sA7, sL7, sO8, sA8, sL8, sO9, sO10, sA10, sL10, sO11, sA11, sL11, sO12, sA12, sL12, sO13, sO14, sA14, sL14, sO15, sA15, sL15, sO16, sA16, sL16, sO17, sA17, sL17, sO18, sA18, sL18, sO19, sA19, sL19, sO20, sO21, sA21, sL21, sO22, sA22, sL22, sO23, sA23, sL23, sO24, sA24, sL24, sO25, sO26, sA26, sL26, sO27, sA27, sL27, sO28, sA28, sL28, sO29, sA29, sL29, sO30, sA30, sL30, sO31, sA31, sL31, sO32, sA32, sL32, sO33, sO34, sA34, sL34, sO35, sA35, sL35, sO36, sA36, sL36, sO37, sO38, sA38, sL38, sO39, sA39, sL39, sO40, sA40, sL40, sO41, sO42, sA42, sL42, sO43, sA43, sL43, sO44, sA44, sL44, sO45, sO46, sA46, sL46, sO47, sA47, sL47, sO48, sA48, sL48, sO49, sA49, sL49, sO50, sA50, sL50, sO51, sA51, sL51, sO52, sA52, sL52, sO53, sA53, sL53, sO54, sA54, sL54, sO55, sA55, sL55, sO56, sA56, sL56, sO57, sA57, sL57, sO58, sA58, sL58, sO59, sA59, sL59, sO60, sA60, sL60, sO61, sA61, sL61, sO62, sA62, sL62, sO63, sA63, sL63, sO64, sA64, sL64, sO65, sA65, sL65, sO66, sA66, sL66, sO67, sA67, sL67, sO68, sA68, sL68, sO69, sA69, sL69, sO70, sA70, sL70, sO71, sA71, sL71, sO72, sA72, sL72, sO73, sA73, sL73, sO74, sA74, sL74, sO75, sA75, sL75, sO76, sA76, sL76, sO77, sA77, sL77, sO78, sA78, sL78, sO79, sA79, sL79, sO80, sA80, sL80, sO81, sA81, sL81, sO82, sA82, sL82, sO83, sA83, sL83, sO84, sA84, sL84, sO85, sA85, sL85, sO86, sA86, sL86, sO87, sA87, sL87, sR0_0, sR0_1, sR0_2, sR0_3, sR0_5, sR0_6, sR0_8, sR0_10, sR0_11, sR0_12, sR0_13, sR1_0, sR6_0, sR6_1, sR6_2, sR9_0, sR9_1, sR9_2, sR13_0, sR13_1, sR13_2, sR13_3, sR13_4, sR13_5, sR20_0, sR20_1, sR20_2, sR20_3, sR25_0, sR25_1, sR25_2, sR25_4, sR25_5, sR25_6, sR25_7, sR33_2, sR33_3, sR37_2, sR37_3, sR41_2, sR41_3, sR45_0, sR45_1, sR45_3, sR45_4, sR45_5, sR45_6, sR45_7, sR45_8, sR45_9, sR45_10, sR45_12, sR45_13, sR45_14, sR45_15, sR45_16, sR45_17, sR45_18, sR45_19, sR45_20, sR45_21, sR45_22, sR45_25, sR45_26, sR45_27, sR45_28, sR45_29, sR45_30, sR45_31, sR45_32, sR45_33, sR45_34, sR45_35, sR45_36, sR45_40, sR45_41, sR45_42, sR45_43, sR45_45, sR45_46, sR45_47, sR45_48, sR45_49]
    · rw [xI_sI]
      by_cases cj : j = k
      · rw [if_pos ⟨rfl, by omega⟩, cj]
      · rw [if_neg (by omega)]; exact I2 j (by omega)
  · intro m hh ⟨I1, I2⟩
    refine ⟨hh, ?_, I1, I2⟩
    show f_X10_page_L92 K (m + 1) 45 (nI z) (nI p) (nI z) hh = _
    rw [f_X10_page_L92, if_pos (nI_le (Nat.le_refl _) (by omega))]
set_option maxRecDepth 100000 in
theorem pageM_e {h : Hp} (hs : SH h) {B : Nat → Int32} {z p : Nat} (tp : TpM h B z) (h1 : 1 ≤ z) (hp : p < 48) (e11 : gI h 45 11 = nI p) (hb : bdF B z 0 = none) : ∃ h2, f_X10_page h 45 = some (nI p, h2) ∧ Upd h h2 (fun a k => (a = 45 ∧ (k = 2 ∨ k = 11)) ∨ (a = 48 ∧ k = p) ∨ (a = 49 ∧ 120 * p ≤ k) ∨ ((a = 52 ∨ a = 53 ∨ a = 54) ∧ k = p)) ∧ gI h2 45 2 = 0 ∧ gI h2 45 11 = nI (p + 1) ∧ gI h2 48 p = nI z ∧ (∀ k, k < z → gI h2 49 (120 * p + k) = sgc (B k)) ∧ gI h2 52 p = -1 ∧ gI h2 53 p = -1 ∧ gI h2 54 p = -1 := by
  have hz := tp.2.1
  have hz2 : z ≤ 120 := by
    rcases Nat.lt_or_ge 120 z with w | w
    · exact absurd rfl (bdF_n z 0 hb 120 (by omega) (by omega)).1
    · exact w
  have y1 : ¬ nI z = 0 := nI_ne0 (by omega) (by omega)
  have y2 : ¬ nI p = (48 : Int32) := fun w => absurd ((nI_eq (b := 48) (by omega) (by decide)).mp w) (by omega)
  have hsA : SH (sI h 45 2 0) := hs
  have uA : Upd h (sI h 45 2 0) (fun a k => a = 45 ∧ k = 2) := Upd_sI ⟨rfl, rfl⟩
  have z1 : (nI p).toNatClampNeg = p := nI_clamp (by omega)
  have z2 : inB (nI p) 48 = true := inB_nI hp (by decide)
  have e46A : ∀ j, j < z → gI (sI h 45 2 0) 46 j = B j := fun j hj => by rw [uA.2 _ _ (by omega)]; exact tp.2.2.1 j hj
  have e11A : gI (sI h 45 2 0) 45 11 = nI p := by rw [uA.2 _ _ (by omega)]; exact e11
  have E1 := page_34 hsA hz e46A (fun y19 y20 y21 h22 =>
gd (okOb h22 y19 10) <|
vl (gI h22 y19 11) fun x24 =>
vl (gI h22 y19 11) fun x25 =>
vl (sI h22 y19 11 (x25 + (1 : Int32))) fun h26 =>
vl (gR h26 y19 3) fun r27 =>
un r27 fun b28 =>
gd (okAb h26 b28 11 x24) <|
vl (sI h26 b28 x24.toNatClampNeg y20) fun h30 =>
f_X10_page_L92 (fun y44 y45 y46 y47 h48 =>
gd (okOb h48 y44 10) <|
vl (gR h48 y44 7) fun r50 =>
un r50 fun b51 =>
gd (okAb h48 b51 11 y46) <|
vl (sI h48 b51 y46.toNatClampNeg (-1 : Int32)) fun h53 =>
vl (gR h53 y44 8) fun r54 =>
un r54 fun b55 =>
gd (okAb h53 b55 11 y46) <|
vl (sI h53 b55 y46.toNatClampNeg (-1 : Int32)) fun h57 =>
vl (gR h57 y44 9) fun r58 =>
un r58 fun b59 =>
gd (okAb h57 b59 11 y46) <|
vl (sI h57 b59 y46.toNatClampNeg (-1 : Int32)) fun h61 =>
some (y46, h61)) 6000 y19 y20 x24 (0 : Int32) h30) z 6000 0 (by omega) (by omega)
  rw [hb] at E1
  have hsB : SH (sI (sI (sI h 45 2 0) 45 11 (nI (p + 1))) 48 p (nI z)) := hs
  have uB : Upd h (sI (sI (sI h 45 2 0) 45 11 (nI (p + 1))) 48 p (nI z)) (fun a k => (a = 45 ∧ (k = 2 ∨ k = 11)) ∨ (a = 48 ∧ k = p)) := ((Upd_sI (by omega)).tr (Upd_sI (by omega))).tr (Upd_sI (by omega))
  obtain ⟨hC, C1, C2, C3⟩ := page_92 (B := B) hsB hz2 hp (fun j hj => by rw [uB.2 _ _ (by omega)]; exact tp.2.2.1 j hj) (fun y44 y45 y46 y47 h48 =>
gd (okOb h48 y44 10) <|
vl (gR h48 y44 7) fun r50 =>
un r50 fun b51 =>
gd (okAb h48 b51 11 y46) <|
vl (sI h48 b51 y46.toNatClampNeg (-1 : Int32)) fun h53 =>
vl (gR h53 y44 8) fun r54 =>
un r54 fun b55 =>
gd (okAb h53 b55 11 y46) <|
vl (sI h53 b55 y46.toNatClampNeg (-1 : Int32)) fun h57 =>
vl (gR h57 y44 9) fun r58 =>
un r58 fun b59 =>
gd (okAb h57 b59 11 y46) <|
vl (sI h57 b59 y46.toNatClampNeg (-1 : Int32)) fun h61 =>
some (y46, h61))
  have hsC := C2.sh hsB
  have e0 : f_X10_page h 45 = some (nI p, sI (sI (sI hC 52 p (-1)) 53 p (-1)) 54 p (-1)) := by
    unfold f_X10_page
    rw [sO45 hs, gd_e, vl_e, tp.1, if_neg y1, vl_e, e11, if_neg y2, vl_e, vl_e]
    refine Eq.trans E1 ?_
    show (gd (okOb (sI h 45 2 0) 45 10) <| _) = _
    rw [sO45 hsA, gd_e, vl_e, e11A, vl_e, vl_e, nI_1]
    have hsA2 : SH (sI (sI h 45 2 0) 45 11 (nI (p + 1))) := hs
    rw [vl_e, sR45_3 hsA2, un_e, sA48 hsA2, z2, gd_e, z1, vl_e, C1]
    simp only [z1, z2, hsC, and_self, if_true, if_false, n_1_0, n_0_0, okOb_sI, okAb_sI, okOb_sW, okAb_sW, vl_e, un_e, nl_s, nl_n, bnd_e, gd_e, SH_sI, SH_sW, xI_sI, xR_sI, xL_sI, xK_sI, xN_sI, gI_sW, xR_sW, xL_sW, xK_sW, xN_sW, sO0, sO1, sO2, sA2, sL2, sO3, sA3, sL3, sO4, sA4, sL4, sO5, sA5, sL5, sO6, sA6, sL6, sO7, sA7, sL7, sO8, sA8, sL8, sO9, sO10, sA10, sL10, sO11, sA11, sL11, sO12, sA12, sL12, sO13, sO14, sA14, sL14, sO15, sA15, sL15, sO16, sA16, sL16, sO17, sA17, sL17, sO18, sA18, sL18, sO19, sA19, sL19, sO20, sO21, sA21, sL21, sO22, sA22, sL22, sO23, sA23, sL23, sO24, sA24, sL24, sO25, sO26, sA26, sL26, sO27, sA27, sL27, sO28, sA28, sL28, sO29, sA29, sL29, sO30, sA30, sL30, sO31, sA31, sL31, sO32, sA32, sL32, sO33, sO34, sA34, sL34, sO35, sA35, sL35, sO36, sA36, sL36, sO37, sO38, sA38, sL38, sO39, sA39, sL39, sO40, sA40, sL40, sO41, sO42, sA42, sL42, sO43, sA43, sL43, sO44, sA44, sL44, sO45, sO46, sA46, sL46, sO47, sA47, sL47, sO48, sA48, sL48, sO49, sA49, sL49, sO50, sA50, sL50, sO51, sA51, sL51, sO52, sA52, sL52, sO53, sA53, sL53, sO54, sA54, sL54, sO55, sA55, sL55, sO56, sA56, sL56, sO57, sA57, sL57, sO58, sA58, sL58, sO59, sA59, sL59, sO60, sA60, sL60, sO61, sA61, sL61, sO62, sA62, sL62, sO63, sA63, sL63, sO64, sA64, sL64, sO65, sA65, sL65, sO66, sA66, sL66, sO67, sA67, sL67, sO68, sA68, sL68, sO69, sA69, sL69, sO70, sA70, sL70, sO71, sA71, sL71, sO72, sA72, sL72, sO73, sA73, sL73, sO74, sA74, sL74, sO75, sA75, sL75, sO76, sA76, sL76, sO77, sA77, sL77, sO78, sA78, sL78, sO79, sA79, sL79, sO80, sA80, sL80, sO81, sA81, sL81, sO82, sA82, sL82, sO83, sA83, sL83, sO84, sA84, sL84, sO85, sA85, sL85, sO86, sA86, sL86, sO87, sA87, sL87, sR0_0, sR0_1, sR0_2, sR0_3, sR0_5, sR0_6, sR0_8, sR0_10, sR0_11, sR0_12, sR0_13, sR1_0, sR6_0, sR6_1, sR6_2, sR9_0, sR9_1, sR9_2, sR13_0, sR13_1, sR13_2, sR13_3, sR13_4, sR13_5, sR20_0, sR20_1, sR20_2, sR20_3, sR25_0, sR25_1, sR25_2, sR25_4, sR25_5, sR25_6, sR25_7, sR33_2, sR33_3, sR37_2, sR37_3, sR41_2, sR41_3, sR45_0, sR45_1, sR45_3, sR45_4, sR45_5, sR45_6, sR45_7, sR45_8, sR45_9, sR45_10, sR45_12, sR45_13, sR45_14, sR45_15, sR45_16, sR45_17, sR45_18, sR45_19, sR45_20, sR45_21, sR45_22, sR45_25, sR45_26, sR45_27, sR45_28, sR45_29, sR45_30, sR45_31, sR45_32, sR45_33, sR45_34, sR45_35, sR45_36, sR45_40, sR45_41, sR45_42, sR45_43, sR45_45, sR45_46, sR45_47, sR45_48, sR45_49]
  have uD : Upd hC (sI (sI (sI hC 52 p (-1)) 53 p (-1)) 54 p (-1)) (fun a k => (a = 52 ∨ a = 53 ∨ a = 54) ∧ k = p) := ((Upd_sI (by omega)).tr (Upd_sI (by omega))).tr (Upd_sI (by omega))
  refine ⟨_, e0, ((uB.mono (fun a k w => by omega)).tr (C2.mono (fun a k w => by omega))).tr (uD.mono (fun a k w => by omega)), ?_, ?_, ?_, fun k hk => ?_, ?_, ?_, ?_⟩
  · rw [uD.2 _ _ (by omega), C2.2 _ _ (by omega), xI_sI, if_neg (by omega), xI_sI, if_neg (by omega), xI_sI, if_pos ⟨rfl, rfl⟩]
  · rw [uD.2 _ _ (by omega), C2.2 _ _ (by omega), xI_sI, if_neg (by omega), xI_sI, if_pos ⟨rfl, rfl⟩]
  · rw [uD.2 _ _ (by omega), C2.2 _ _ (by omega), xI_sI, if_pos ⟨rfl, rfl⟩]
  · rw [uD.2 _ _ (by omega)]; exact C3 k hk
  · rw [xI_sI, if_neg (by omega), xI_sI, if_neg (by omega), xI_sI, if_pos ⟨rfl, rfl⟩]
  · rw [xI_sI, if_neg (by omega), xI_sI, if_pos ⟨rfl, rfl⟩]
  · rw [xI_sI, if_pos ⟨rfl, rfl⟩]
