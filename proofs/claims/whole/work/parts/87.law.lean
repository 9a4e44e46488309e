def clN (B : Nat → Int32) (w a q : Nat) : Option (Nat × Nat × Nat) × Nat := if B q = 47 then (match (numF B 1 (q + 1)).1 with
  | none => (none, (numF B 1 (q + 1)).2)
  | some b => (some (w, a, b), (numF B 1 (q + 1)).2)) else (some (w, a, 1), q)
def clM (B : Nat → Int32) (w q : Nat) : Option (Nat × Nat × Nat) × Nat := match (numF B 0 q).1 with
  | none => (none, (numF B 0 q).2)
  | some a => clN B w a (numF B 0 q).2
def clP (B : Nat → Int32) (p : Nat) : Option (Nat × Nat × Nat) × Nat := match (wdP B p).1 with
  | none => (none, (wdP B p).2)
  | some w => clM B w (wdP B p).2
theorem clN_y {B : Nat → Int32} {w a q b : Nat} (h : B q = 47) (e : (numF B 1 (q + 1)).1 = some b) : clN B w a q = (some (w, a, b), (numF B 1 (q + 1)).2) := by unfold clN; rw [if_pos h, e]
theorem clN_f {B : Nat → Int32} {w a q : Nat} (h : B q = 47) (e : (numF B 1 (q + 1)).1 = none) : clN B w a q = (none, (numF B 1 (q + 1)).2) := by unfold clN; rw [if_pos h, e]
theorem clN_n {B : Nat → Int32} {w a q : Nat} (h : ¬ B q = 47) : clN B w a q = (some (w, a, 1), q) := by unfold clN; rw [if_neg h]
theorem clM_f {B : Nat → Int32} {w q : Nat} (e : (numF B 0 q).1 = none) : clM B w q = (none, (numF B 0 q).2) := by unfold clM; rw [e]
theorem clM_s {B : Nat → Int32} {w q a : Nat} (e : (numF B 0 q).1 = some a) : clM B w q = clN B w a (numF B 0 q).2 := by unfold clM; rw [e]
theorem clP_f {B : Nat → Int32} {p : Nat} (e : (wdP B p).1 = none) : clP B p = (none, (wdP B p).2) := by unfold clP; rw [e]
theorem clP_s {B : Nat → Int32} {p w : Nat} (e : (wdP B p).1 = some w) : clP B p = clM B w (wdP B p).2 := by unfold clP; rw [e]
theorem lcp_z {B : Nat → Int32} {z : Nat} (hB : ∀ j, z ≤ j → B j = -1) : ∀ (l : List Int32) (p : Nat), (∀ c ∈ l, c ≠ -1) → p ≤ z → p + lcp B l p ≤ z
  | [], p, _, h => h
  | c :: r, p, hc, h => by
    unfold lcp
    by_cases q : B p = c
    · rw [if_pos q]
      have : p < z := by
        rcases Nat.lt_or_ge p z with w | w
        · exact w
        · rw [hB p w] at q
          exact absurd q.symm (hc c List.mem_cons_self)
      have := lcp_z hB r (p + 1) (fun c' h' => hc c' (List.mem_cons_of_mem c h')) (by omega)
      omega
    · rw [if_neg q]; exact h
theorem strN : ∀ w, w < 4 → ∀ c ∈ strB.getD w [], c ≠ -1 := by decide +kernel
theorem wMx_z {B : Nat → Int32} {z p : Nat} (hB : ∀ j, z ≤ j → B j = -1) (hp : p ≤ z) : p + wMx B p ≤ z := by
  have a0 := lcp_z hB (strB.getD 0 []) p (strN 0 (by decide)) hp
  have a1 := lcp_z hB (strB.getD 1 []) p (strN 1 (by decide)) hp
  have a2 := lcp_z hB (strB.getD 2 []) p (strN 2 (by decide)) hp
  have a3 := lcp_z hB (strB.getD 3 []) p (strN 3 (by decide)) hp
  unfold wMx mW
  omega
theorem lt_z {B : Nat → Int32} {z p : Nat} {c : Int32} (hB : ∀ j, z ≤ j → B j = -1) (h : B p = c) (hc : c ≠ -1) : p < z := by
  rcases Nat.lt_or_ge p z with w | w
  · exact w
  · rw [hB p w] at h; exact absurd h.symm hc
theorem wdP_b {B : Nat → Int32} {z p : Nat} (hB : ∀ j, z ≤ j → B j = -1) (hp : p ≤ z) : (wdP B p).2 ≤ z ∧ ∀ w, (wdP B p).1 = some w → w < 4 := by
  have := wMx_z hB hp
  unfold wdP
  by_cases c : B (p + wMx B p) = 61 ∧ fw B p ≠ none
  · rw [if_pos c]
    have := lt_z hB c.1 (by decide)
    refine ⟨by show p + wMx B p + 1 ≤ z; omega, fun w hw => ?_⟩
    rcases wd_c B p with ⟨w', h1, h2, -⟩ | ⟨h2, -⟩
    · have hw : fw B p = some w := hw
      rw [h2] at hw
      cases hw
      exact h1
    · exact absurd h2 c.2
  · rw [if_neg c]
    exact ⟨this, fun w hw => by cases hw⟩
theorem numF_b {B : Nat → Int32} {z p l : Nat} (hB : ∀ j, z ≤ j → B j = -1) (hp : p ≤ z) : (numF B l p).2 ≤ z ∧ ∀ v, (numF B l p).1 = some v → v < 10000 ∧ l ≤ v := by
  unfold numF
  cases e : dgt (B p) with
  | none => exact ⟨hp, fun v hv => by cases hv⟩
  | some d =>
    have hd := (dgt_t e).1
    have hp' := in_tape hB e
    by_cases c : d < l
    · simp only [c, if_true]
      exact ⟨hp, fun v hv => by cases hv⟩
    · simp only [c, if_false]
      obtain ⟨q1, q2, q3, q4⟩ := numP_b hB 3 d (p + 1) (by omega) (by omega) (by omega)
      refine ⟨q1, fun v hv => ?_⟩
      cases hv
      omega
theorem clP_b {B : Nat → Int32} {z p : Nat} (hB : ∀ j, z ≤ j → B j = -1) (hp : p ≤ z) : (clP B p).2 ≤ z ∧ ∀ w a b, (clP B p).1 = some (w, a, b) → w < 4 ∧ a < 10000 ∧ 1 ≤ b ∧ b < 10000 := by
  obtain ⟨w1, w2⟩ := wdP_b hB hp
  cases e1 : (wdP B p).1 with
  | none => rw [clP_f e1]; exact ⟨w1, fun w a b h => by cases h⟩
  | some w =>
    rw [clP_s e1]
    obtain ⟨n1, n2⟩ := numF_b (l := 0) hB w1
    cases e2 : (numF B 0 (wdP B p).2).1 with
    | none => rw [clM_f e2]; exact ⟨n1, fun w a b h => by cases h⟩
    | some a =>
      rw [clM_s e2]
      by_cases c : B (numF B 0 (wdP B p).2).2 = 47
      · have := lt_z hB c (by decide)
        obtain ⟨m1, m2⟩ := numF_b (p := (numF B 0 (wdP B p).2).2 + 1) (l := 1) hB (by omega)
        cases e3 : (numF B 1 ((numF B 0 (wdP B p).2).2 + 1)).1 with
        | none => rw [clN_f c e3]; exact ⟨m1, fun w a b h => by cases h⟩
        | some b =>
          rw [clN_y c e3]
          refine ⟨m1, fun w' a' b' h => ?_⟩
          cases h
          exact ⟨w2 w e1, (n2 a e2).1, (m2 b e3).2, (m2 b e3).1⟩
      · rw [clN_n c]
        refine ⟨n1, fun w' a' b' h => ?_⟩
        cases h
        exact ⟨w2 w e1, (n2 a e2).1, by omega, by omega⟩
theorem nm1 {v : Nat} (h : v < 2 ^ 31) : ¬ nI v = (-1 : Int32) := by
  rw [eq_iff, nI_toInt h]
  show ¬ (v : Int) = -1
  omega
theorem m1_neg : ¬ (0 : Int32) ≤ (-1 : Int32) := by decide
def PCl (a k : Nat) : Prop := a = 23 ∨ a = 24 ∨ (a = 20 ∧ k = 4)
set_option maxRecDepth 100000 in
theorem cl_put {h : Hp} (hs : SH h) {w : Nat} (hw : w < 4) (x y : Int32) : (un (gR h 20 2) fun b15 => gd (okAb h b15 11 (nI w)) <| vl (sI h b15 (nI w).toNatClampNeg x) fun h17 => vl (gR h17 20 3) fun r18 => un r18 fun b19 => gd (okAb h17 b19 11 (nI w)) <| vl (sI h17 b19 (nI w).toNatClampNeg y) fun h21 => some ((1 : Int32), h21)) = some (1, sI (sI h 23 w x) 24 w y) := by
  have z1 : (nI w).toNatClampNeg = w := nI_clamp (by omega)
  have z2 : inB (nI w) 4 = true := inB_nI hw (by decide)
  simp only [z1, z2, hs, and_self, if_true, if_false, n_1_0, n_0_0, okOb_sI, okAb_sI, okOb_sW, okAb_sW, vl_e, un_e, nl_s, nl_n, bnd_e, gd_e, SH_sI, SH_sW, xI_sI, xR_sI, xL_sI, xK_sI, xN_sI, gI_sW, xR_sW, xL_sW, xK_sW, xN_sW, sO0, sO1, sO2, sA2, sL2, sO3, sA3, sL3, sO4, sA4, sL4, sO5, sA5, sL5, sO6, sA6, sL6, sO7, sA7, sL7, sO8, sA8, sL8, sO9, sO10, sA10, sL10, sO11, sA11, sL11, sO12, sA12, sL12, sO13, sO14, sA14, sL14, sO15, sA15, sL15, sO16, sA16, sL16, sO17, sA17, sL17, sO18, sA18, sL18, sO19, sA19, sL19, sO20, sO21, sA21, sL21, sO22, sA22, sL22, sO23, sA23, sL23, sO24, sA24, sL24, sO25, sO26, sA26, sL26, sO27, sA27, sL27, sO28, sA28, sL28, sO29, sA29, sL29, sO30, sA30, sL30, sO31, sA31, sL31, sO32, sA32, sL32, sO33, sO34, sA34, sL34, sO35, sA35, sL35, sO36, sA36, sL36, sO37, sO38, sA38, sL38, sO39, sA39, sL39, sO40, sA40, sL40, sO41, sO42, sA42, sL42, sO43, sA43, sL43, sO44, sA44, sL44, sO45, sO46, sA46, sL46, sO47, sA47, sL47, sO48, sA48, sL48, sO49, sA49, sL49, sO50, sA50, sL50, sO51, sA51, sL51, sO52, sA52, sL52, sO53, sA53, sL53, sO54, sA54, sL54, sO55, sA55, sL55, sO56, sA56, sL56, sO57, sA57, sL57, sO58, sA58, sL58, sO59, sA59, sL59, sO60, sA60, sL60, sO61, sA61, sL61, sO62, sA62, sL62, sO63, sA63, sL63, sO64, sA64, sL64, sO65, sA65, sL65, sO66, sA66, sL66, sO67, sA67, sL67, sO68, sA68, sL68, sO69, sA69, sL69, sO70, sA70, sL70, sO71, sA71, sL71, sO72, sA72, sL72, sO73, sA73, sL73, sO74, sA74, sL74, sO75, sA75, sL75, sO76, sA76, sL76, sO77, sA77, sL77, sO78, sA78, sL78, sO79, sA79, sL79, sO80, sA80, sL80, sO81, sA81, sL81, sO82, sA82, sL82, sO83, sA83, sL83, sO84, sA84, sL84, sO85, sA85, sL85, sO86, sA86, sL86, sO87, sA87, sL87, sR0_0, sR0_1, sR0_2, sR0_3, sR0_5, sR0_6, sR0_8, sR0_10, sR0_11, sR0_12, sR0_13, sR1_0, sR6_0, sR6_1, sR6_2, sR9_0, sR9_1, sR9_2, sR13_0, sR13_1, sR13_2, sR13_3, sR13_4, sR13_5, sR20_0, sR20_1, sR20_2, sR20_3, sR25_0, sR25_1, sR25_2, sR25_4, sR25_5, sR25_6, sR25_7, sR33_2, sR33_3, sR37_2, sR37_3, sR41_2, sR41_3, sR45_0, sR45_1, sR45_3, sR45_4, sR45_5, sR45_6, sR45_7, sR45_8, sR45_9, sR45_10, sR45_12, sR45_13, sR45_14, sR45_15, sR45_16, sR45_17, sR45_18, sR45_19, sR45_20, sR45_21, sR45_22, sR45_25, sR45_26, sR45_27, sR45_28, sR45_29, sR45_30, sR45_31, sR45_32, sR45_33, sR45_34, sR45_35, sR45_36, sR45_40, sR45_41, sR45_42, sR45_43, sR45_45, sR45_46, sR45_47, sR45_48, sR45_49]
theorem P20_Cl {h h2 : Hp} (u : Upd h h2 P20) : Upd h h2 PCl := u.mono (fun a k w => by unfold P20 at w; unfold PCl; omega)
def ClR (B : Nat → Int32) (p : Nat) (h : Hp) (r : Option (Int32 × Hp)) : Prop := ((clP B p).1 = none ∧ ∃ h2, r = some (0, h2) ∧ Upd h h2 PCl ∧ gI h2 20 4 = nI (clP B p).2) ∨ ∃ w a b h2, (clP B p).1 = some (w, a, b) ∧ r = some (1, h2) ∧ Upd h h2 PCl ∧ gI h2 20 4 = nI (clP B p).2 ∧ ∀ v, gI h2 23 v = (if v = w then nI a else gI h 23 v) ∧ gI h2 24 v = (if v = w then nI b else gI h 24 v)
theorem ClR_put {B : Nat → Int32} {p w a b : Nat} {h hh : Hp} (u : Upd h hh P20) (e : (clP B p).1 = some (w, a, b)) (e4 : gI hh 20 4 = nI (clP B p).2) : ClR B p h (some (1, sI (sI hh 23 w (nI a)) 24 w (nI b))) := by
  refine Or.inr ⟨w, a, b, _, e, rfl, ((P20_Cl u).tr (Upd_sI (by unfold PCl; omega))).tr (Upd_sI (by unfold PCl; omega)), ?_, fun v => ⟨?_, ?_⟩⟩
  · rw [xI_sI, if_neg (by omega), xI_sI, if_neg (by omega)]; exact e4
  · rw [xI_sI, if_neg (by omega), xI_sI]
    by_cases c : v = w
    · rw [if_pos ⟨rfl, c⟩, if_pos c]
    · rw [if_neg (fun q => c q.2), if_neg c, u.2 _ _ (by unfold P20; omega)]
  · rw [xI_sI]
    by_cases c : v = w
    · rw [if_pos ⟨rfl, c⟩, if_pos c]
    · rw [if_neg (fun q => c q.2), if_neg c, xI_sI, if_neg (by omega), u.2 _ _ (by unfold P20; omega)]
set_option maxRecDepth 100000 in
theorem readClause_e {h : Hp} (hs : SH h) {B : Nat → Int32} {z p : Nat} (tp : TpC h B z) (hp : p ≤ z) (e4 : gI h 20 4 = nI p) : ClR B p h (f_X5_readClause h 20 1) := by
  have hz := tp.2.1
  have hB := tp.2.2.2
  have hM := wMx_z hB hp
  have rw1 := readWord_e hs tp (by omega) e4
  let hA : Hp := sI h 20 4 (nI (p + wMx B p))
  have uA : Upd h hA P20 := Upd_sI ⟨rfl, rfl⟩
  have hsA : SH hA := hs
  have eA : gI hA 20 4 = nI (p + wMx B p) := by rw [xI_sI, if_pos ⟨rfl, rfl⟩]
  have tpA : TpC hA B z := tp.fr uA (by unfold P20; omega) (fun k => by unfold P20; omega)
  have rw1' : f_X5_readWord h 20 1 = some (wI (fw B p), hA) := rw1
  cases f1 : fw B p with
  | none =>
    have ew : wdP B p = (none, p + wMx B p) := by unfold wdP; rw [if_neg (fun q => q.2 f1)]
    have ec : clP B p = (none, p + wMx B p) := by rw [clP_f (by rw [ew]), ew]
    rw [f1] at rw1'
    refine Or.inl ⟨by rw [ec], hA, ?_, P20_Cl uA, by rw [ec]; exact eA⟩
    simp only [f_X5_readClause, sO20 hs, gd_e, rw1', bnd_e, wI, if_true]
  | some w =>
    have hw : w < 4 := by
      rcases wd_c B p with ⟨w', h1, h2, -⟩ | ⟨h2, -⟩
      · rw [f1] at h2; cases h2; exact h1
      · rw [f1] at h2; cases h2
    rw [f1] at rw1'
    have nw1 : ¬ nI w = (-1 : Int32) := nm1 (by omega)
    have sk := skip_e hsA tpA (by omega) eA 61
    by_cases c : B (p + wMx B p) = 61
    · rw [if_pos c] at sk
      have hlt := lt_z hB c (by decide)
      have ew : wdP B p = (some w, p + wMx B p + 1) := by unfold wdP; rw [if_pos ⟨c, by rw [f1]; simp⟩, f1]
      have ec1 : clP B p = clM B w (p + wMx B p + 1) := by rw [clP_s (w := w) (by rw [ew]), ew]
      let hB' : Hp := sI hA 20 4 (nI (p + wMx B p + 1))
      have uB : Upd h hB' P20 := uA.tr (Upd_sI ⟨rfl, rfl⟩)
      have hsB : SH hB' := hs
      have eB : gI hB' 20 4 = nI (p + wMx B p + 1) := by rw [xI_sI, if_pos ⟨rfl, rfl⟩]
      have tpB : TpC hB' B z := tp.fr uB (by unfold P20; omega) (fun k => by unfold P20; omega)
      have sk' : f_X5_skip hA 20 1 61 = some (1, hB') := sk
      obtain ⟨hC, C1, C2, C3⟩ := readNumber_e hsB tpB (least := 0) (by omega) (by omega) eB
      rw [nI_0] at C1
      have E1 : f_X5_readClause h 20 1 = (if wI (numF B 0 (p + wMx B p + 1)).1 = (-1 : Int32) then (
some ((0 : Int32), hC)) else (
bnd (f_X5_skip hC 20 1 (47 : Int32)) fun v11 h12 =>
if v11 = 0 then (
vl (gR h12 20 2) fun r14 =>
un r14 fun b15 =>
gd (okAb h12 b15 11 (nI w)) <|
vl (sI h12 b15 (nI w).toNatClampNeg (wI (numF B 0 (p + wMx B p + 1)).1)) fun h17 =>
vl (gR h17 20 3) fun r18 =>
un r18 fun b19 =>
gd (okAb h17 b19 11 (nI w)) <|
vl (sI h17 b19 (nI w).toNatClampNeg (1 : Int32)) fun h21 =>
some ((1 : Int32), h21)) else (
bnd (f_X5_readNumber h12 20 1 (1 : Int32)) fun v22 h23 =>
if v22 = (-1 : Int32) then (
some ((0 : Int32), h23)) else (
vl (gR h23 20 2) fun r25 =>
un r25 fun b26 =>
gd (okAb h23 b26 11 (nI w)) <|
vl (sI h23 b26 (nI w).toNatClampNeg (wI (numF B 0 (p + wMx B p + 1)).1)) fun h28 =>
vl (gR h28 20 3) fun r29 =>
un r29 fun b30 =>
gd (okAb h28 b30 11 (nI w)) <|
vl (sI h28 b30 (nI w).toNatClampNeg v22) fun h32 =>
some ((1 : Int32), h32))))) := by
        unfold f_X5_readClause
        rw [sO20 hs, gd_e, rw1', bnd_e, show wI (some w) = nI w from rfl, if_neg nw1, sk', bnd_e, if_neg (by decide), C1, bnd_e]
      have hsC := C2.sh hsB
      have uC : Upd h hC P20 := uB.tr C2
      have tpC : TpC hC B z := tp.fr uC (by unfold P20; omega) (fun k => by unfold P20; omega)
      obtain ⟨n1, n2⟩ := numF_b (l := 0) hB (show p + wMx B p + 1 ≤ z by omega)
      rw [E1]
      cases e2 : (numF B 0 (p + wMx B p + 1)).1 with
      | none =>
        have ec : clP B p = (none, (numF B 0 (p + wMx B p + 1)).2) := by rw [ec1, clM_f e2]
        rw [show wI none = (-1 : Int32) from rfl, if_pos rfl]
        exact Or.inl ⟨by rw [ec], hC, rfl, P20_Cl uC, by rw [ec]; exact C3⟩
      | some a =>
        have ha := (n2 a e2).1
        have ec2 : clP B p = clN B w a (numF B 0 (p + wMx B p + 1)).2 := by rw [ec1, clM_s e2]
        have sk2 := skip_e hsC tpC (by omega) C3 47
        rw [show wI (some a) = nI a from rfl, if_neg (nm1 (by omega))]
        by_cases c2 : B (numF B 0 (p + wMx B p + 1)).2 = 47
        · rw [if_pos c2] at sk2
          have hlt2 := lt_z hB c2 (by decide)
          let hD : Hp := sI hC 20 4 (nI ((numF B 0 (p + wMx B p + 1)).2 + 1))
          have uD : Upd h hD P20 := uC.tr (Upd_sI ⟨rfl, rfl⟩)
          have hsD : SH hD := hsC
          have eD : gI hD 20 4 = nI ((numF B 0 (p + wMx B p + 1)).2 + 1) := by rw [xI_sI, if_pos ⟨rfl, rfl⟩]
          have tpD : TpC hD B z := tp.fr uD (by unfold P20; omega) (fun k => by unfold P20; omega)
          have sk2' : f_X5_skip hC 20 1 47 = some (1, hD) := sk2
          obtain ⟨hF, F1, F2, F3⟩ := readNumber_e hsD tpD (least := 1) (by omega) (by omega) eD
          rw [show nI 1 = (1 : Int32) from rfl] at F1
          have hsF := F2.sh hsD
          have uF : Upd h hF P20 := uD.tr F2
          obtain ⟨m1, m2⟩ := numF_b (p := (numF B 0 (p + wMx B p + 1)).2 + 1) (l := 1) hB (by omega)
          rw [sk2', bnd_e, if_neg (by decide), F1, bnd_e]
          cases e3 : (numF B 1 ((numF B 0 (p + wMx B p + 1)).2 + 1)).1 with
          | none =>
            have ec : clP B p = (none, (numF B 1 ((numF B 0 (p + wMx B p + 1)).2 + 1)).2) := by rw [ec2, clN_f c2 e3]
            rw [show wI none = (-1 : Int32) from rfl, if_pos rfl]
            exact Or.inl ⟨by rw [ec], hF, rfl, P20_Cl uF, by rw [ec]; exact F3⟩
          | some b =>
            have ec : clP B p = (some (w, a, b), (numF B 1 ((numF B 0 (p + wMx B p + 1)).2 + 1)).2) := by rw [ec2, clN_y c2 e3]
            rw [show wI (some b) = nI b from rfl, if_neg (nm1 (by have := (m2 b e3).1; omega)), vl_e, cl_put hsF hw]
            exact ClR_put uF (by rw [ec]) (by rw [ec]; exact F3)
        · rw [if_neg c2] at sk2
          have ec : clP B p = (some (w, a, 1), (numF B 0 (p + wMx B p + 1)).2) := by rw [ec2, clN_n c2]
          rw [sk2, bnd_e, if_pos rfl, vl_e, cl_put hsC hw]
          exact ClR_put (b := 1) uC (by rw [ec]) (by rw [ec]; exact C3)
    · rw [if_neg c] at sk
      have ew : wdP B p = (none, p + wMx B p) := by unfold wdP; rw [if_neg (fun q => c q.1)]
      have ec : clP B p = (none, p + wMx B p) := by rw [clP_f (by rw [ew]), ew]
      have sk' : f_X5_skip hA 20 1 61 = some (0, hA) := sk
      refine Or.inl ⟨by rw [ec], hA, ?_, P20_Cl uA, by rw [ec]; exact eA⟩
      unfold f_X5_readClause
      rw [sO20 hs, gd_e, rw1', bnd_e, show wI (some w) = nI w from rfl, if_neg nw1, sk', bnd_e, if_pos rfl]
/-- the whole law: how many clauses, or where it fails; and what it says -/
def lwP (B : Nat → Int32) (z : Nat) : Nat → Nat → Nat → (Nat → Nat) → (Nat → Nat) → Option Nat × Nat × (Nat → Nat) × (Nat → Nat)
  | 0, _, p, T, V => (none, p, T, V)
  | r + 1, k, p, T, V => match (clP B p).1 with
    | none => (none, (clP B p).2, T, V)
    | some x => if (clP B p).2 = z then (some k, (clP B p).2, u1 T x.1 x.2.1, u1 V x.1 x.2.2) else if B (clP B p).2 = 59 ∧ k < 8 then lwP B z r (k + 1) ((clP B p).2 + 1) (u1 T x.1 x.2.1) (u1 V x.1 x.2.2) else (none, (clP B p).2, u1 T x.1 x.2.1, u1 V x.1 x.2.2)
theorem lwP_f {B : Nat → Int32} {z r k p : Nat} {T V : Nat → Nat} (e : (clP B p).1 = none) : lwP B z (r + 1) k p T V = (none, (clP B p).2, T, V) := by rw [lwP, e]
theorem lwP_s {B : Nat → Int32} {z r k p w a b : Nat} {T V : Nat → Nat} (e : (clP B p).1 = some (w, a, b)) : lwP B z (r + 1) k p T V = if (clP B p).2 = z then (some k, (clP B p).2, u1 T w a, u1 V w b) else if B (clP B p).2 = 59 ∧ k < 8 then lwP B z r (k + 1) ((clP B p).2 + 1) (u1 T w a) (u1 V w b) else (none, (clP B p).2, u1 T w a, u1 V w b) := by rw [lwP, e]
theorem lwP_b {B : Nat → Int32} {z : Nat} (hB : ∀ j, z ≤ j → B j = -1) : ∀ (r k p : Nat) (T V : Nat → Nat), p ≤ z → (∀ w, 1 ≤ V w ∧ V w < 10000) → (lwP B z r k p T V).2.1 ≤ z ∧ ∀ w, 1 ≤ (lwP B z r k p T V).2.2.2 w ∧ (lwP B z r k p T V).2.2.2 w < 10000
  | 0, k, p, T, V, hp, hV => ⟨hp, hV⟩
  | r + 1, k, p, T, V, hp, hV => by
    obtain ⟨b1, b2⟩ := clP_b hB hp
    cases e : (clP B p).1 with
    | none => rw [lwP_f e]; exact ⟨b1, hV⟩
    | some x =>
      obtain ⟨w, a, b⟩ := x
      obtain ⟨c1, c2, c3, c4⟩ := b2 w a b e
      have hV' : ∀ v, 1 ≤ u1 V w b v ∧ u1 V w b v < 10000 := fun v => by
        unfold u1
        by_cases c : v = w
        · rw [if_pos c]; exact ⟨c3, c4⟩
        · rw [if_neg c]; exact hV v
      rw [lwP_s e]
      by_cases d1 : (clP B p).2 = z
      · rw [if_pos d1]; exact ⟨b1, hV'⟩
      · rw [if_neg d1]
        by_cases d2 : B (clP B p).2 = 59 ∧ k < 8
        · rw [if_pos d2]
          exact lwP_b hB r (k + 1) _ _ _ (by omega) hV'
        · rw [if_neg d2]; exact ⟨b1, hV'⟩
def lrs (x : Option Nat × Nat × (Nat → Nat) × (Nat → Nat)) : Int32 := match x.1 with
  | some k => nI k
  | none => (-10 : Int32) - nI x.2.1
def PTk (a k : Nat) : Prop := 21 ≤ a ∧ a ≤ 24 ∨ (a = 20 ∧ k = 4)
def TkR (h : Hp) (x : Option Nat × Nat × (Nat → Nat) × (Nat → Nat)) (h2 : Hp) : Prop := match x.1 with
  | some _ => ∀ w, w < 4 → gI h2 21 w = nI (x.2.2.1 w) ∧ gI h2 22 w = nI (x.2.2.2 w)
  | none => ∀ w, gI h2 21 w = gI h 21 w ∧ gI h2 22 w = gI h 22 w
set_option maxRecDepth 100000 in
theorem take_58 {h : Hp} (hs : SH h) {z q : Nat} (hz : z ≤ 300) (e1 : gI h 1 1 = nI z) (hq : q ≤ z) (e4 : gI h 20 4 = nI q) (k : Int32) : (q = z → ∃ h2, f_X5_take_J58 20 1 k h = some (k, h2) ∧ Upd h h2 (fun a _ => a = 21 ∨ a = 22) ∧ ∀ w, w < 4 → gI h2 21 w = gI h 23 w ∧ gI h2 22 w = gI h 24 w) ∧ (q ≠ z → f_X5_take_J58 20 1 k h = some ((-10 : Int32) - nI q, h)) := by
  refine ⟨fun c => ?_, fun c => ?_⟩
  · have x0 : nI z ≤ nI q := nI_le (by omega) (by omega)
    have x3 : ∀ h' : Hp, SH h' → okC h' 23 21 0 0 (4 : Int32) = true := fun h' w => okC_le (n := 4) (sO23 w) (sO21 w) (sL23 w) (sL21 w) (by omega) (by omega) (by omega)
    have x4 : ∀ h' : Hp, SH h' → okC h' 24 22 0 0 (4 : Int32) = true := fun h' w => okC_le (n := 4) (sO24 w) (sO22 w) (sL24 w) (sL22 w) (by omega) (by omega) (by omega)
    have z0 : (0 : Int32).toNatClampNeg = 0 := by decide
    have z4 : (4 : Int32).toNatClampNeg = 4 := by decide
    let hA : Hp := sW h 21 (va_cpy (gI h 23) (gI h 21) 0 0 4)
    have hsA : SH hA := hs
    refine ⟨sW hA 22 (va_cpy (gI hA 24) (gI hA 22) 0 0 4), ?_, (Upd_sW (fun _ => Or.inl rfl)).tr (Upd_sW (fun _ => Or.inr rfl)), fun w hw => ⟨?_, ?_⟩⟩
    · have : f_X5_take_J58 20 1 k h = (gd (okC hA 24 22 0 0 4) <| some (k, sW hA 22 (va_cpy (gI hA 24) (gI hA 22) 0 0 4))) := by
        simp only [f_X5_take_J58, e1, e4, x0, x3 h hs, z0, z4, hs, and_self, if_true, if_false, n_1_0, n_0_0, okOb_sI, okAb_sI, okOb_sW, okAb_sW, vl_e, un_e, nl_s, nl_n, bnd_e, gd_e, SH_sI, SH_sW, xI_sI, xR_sI, xL_sI, xK_sI, xN_sI, gI_sW, xR_sW, xL_sW, xK_sW, xN_sW, sO0, sO1, sO2, sA2, sL2, sO3, sA3, sL3, sO4, sA4, sL4, sO5, sA5, sL5, sO6, sA6, sL6, sO7, sA7, sL7, sO8, sA8, sL8, sO9, sO10, sA10, sL10, sO11, sA11, sL11, sO12, sA12, sL12, sO13, sO14, sA14, sL14, sO15, sA15, sL15, sO16, sA16, sL16, sO17, sA17, sL17, sO18, sA18, sL18, sO19, sA19, sL19, sO20, sO21, sA21, sL21, sO22, sA22, sL22, sO23, sA23, sL23, sO24, sA24, sL24, sO25, sO26, sA26, sL26, sO27, sA27, sL27, sO28, sA28, sL28, sO29, sA29, sL29, sO30, sA30, sL30, sO31, sA31, sL31, sO32, sA32, sL32, sO33, sO34, sA34, sL34, sO35, sA35, sL35, sO36, sA36, sL36, sO37, sO38, sA38, sL38, sO39, sA39, sL39, sO40, sA40, sL40, sO41, sO42, sA42, sL42, sO43, sA43, sL43, sO44, sA44, sL44, sO45, sO46, sA46, sL46, sO47, sA47, sL47, sO48, sA48, sL48, sO49, sA49, sL49, sO50, sA50, sL50, sO51, sA51, sL51, sO52, sA52, sL52, sO53, sA53, sL53, sO54, sA54, sL54, sO55, sA55, sL55, sO56, sA56, sL56, sO57, sA57, sL57, sO58, sA58, sL58, sO59, sA59, sL59, sO60, sA60, sL60, sO61, sA61, sL61, sO62, sA62, sL62, sO63, sA63, sL63, sO64, sA64, sL64, sO65, sA65, sL65, sO66, sA66, sL66, sO67, sA67, sL67, sO68, sA68, sL68, sO69, sA69, sL69, sO70, sA70, sL70, sO71, sA71, sL71, sO72, sA72, sL72, sO73, sA73, sL73, sO74, sA74, sL74, sO75, sA75, sL75, sO76, sA76, sL76, sO77, sA77, sL77, sO78, sA78, sL78, sO79, sA79, sL79, sO80, sA80, sL80, sO81, sA81, sL81, sO82, sA82, sL82, sO83, sA83, sL83, sO84, sA84, sL84, sO85, sA85, sL85, sO86, sA86, sL86, sO87, sA87, sL87, sR0_0, sR0_1, sR0_2, sR0_3, sR0_5, sR0_6, sR0_8, sR0_10, sR0_11, sR0_12, sR0_13, sR1_0, sR6_0, sR6_1, sR6_2, sR9_0, sR9_1, sR9_2, sR13_0, sR13_1, sR13_2, sR13_3, sR13_4, sR13_5, sR20_0, sR20_1, sR20_2, sR20_3, sR25_0, sR25_1, sR25_2, sR25_4, sR25_5, sR25_6, sR25_7, sR33_2, sR33_3, sR37_2, sR37_3, sR41_2, sR41_3, sR45_0, sR45_1, sR45_3, sR45_4, sR45_5, sR45_6, sR45_7, sR45_8, sR45_9, sR45_10, sR45_12, sR45_13, sR45_14, sR45_15, sR45_16, sR45_17, sR45_18, sR45_19, sR45_20, sR45_21, sR45_22, sR45_25, sR45_26, sR45_27, sR45_28, sR45_29, sR45_30, sR45_31, sR45_32, sR45_33, sR45_34, sR45_35, sR45_36, sR45_40, sR45_41, sR45_42, sR45_43, sR45_45, sR45_46, sR45_47, sR45_48, sR45_49]
        rfl
      rw [this, x4 hA hsA, gd_e]
    · rw [gI_sW, if_neg (by decide), gI_sW, if_pos rfl, pk_cpy_in (by omega) (by omega)]; congr 1; omega
    · rw [gI_sW, if_pos rfl, pk_cpy_in (by omega) (by omega), gI_sW, if_neg (by decide)]; congr 1; omega
  · have x0 : ¬ nI z ≤ nI q := nI_ge (by omega) (by omega)
    simp only [f_X5_take_J58, e1, e4, x0, hs, and_self, if_true, if_false, n_1_0, n_0_0, okOb_sI, okAb_sI, okOb_sW, okAb_sW, vl_e, un_e, nl_s, nl_n, bnd_e, gd_e, SH_sI, SH_sW, xI_sI, xR_sI, xL_sI, xK_sI, xN_sI, gI_sW, xR_sW, xL_sW, xK_sW, xN_sW, sO0, sO1, sO2, sA2, sL2, sO3, sA3, sL3, sO4, sA4, sL4, sO5, sA5, sL5, sO6, sA6, sL6, sO7, sA7, sL7, sO8, sA8, sL8, sO9, sO10, sA10, sL10, sO11, sA11, sL11, sO12, sA12, sL12, sO13, sO14, sA14, sL14, sO15, sA15, sL15, sO16, sA16, sL16, sO17, sA17, sL17, sO18, sA18, sL18, sO19, sA19, sL19, sO20, sO21, sA21, sL21, sO22, sA22, sL22, sO23, sA23, sL23, sO24, sA24, sL24, sO25, sO26, sA26, sL26, sO27, sA27, sL27, sO28, sA28, sL28, sO29, sA29, sL29, sO30, sA30, sL30, sO31, sA31, sL31, sO32, sA32, sL32, sO33, sO34, sA34, sL34, sO35, sA35, sL35, sO36, sA36, sL36, sO37, sO38, sA38, sL38, sO39, sA39, sL39, sO40, sA40, sL40, sO41, sO42, sA42, sL42, sO43, sA43, sL43, sO44, sA44, sL44, sO45, sO46, sA46, sL46, sO47, sA47, sL47, sO48, sA48, sL48, sO49, sA49, sL49, sO50, sA50, sL50, sO51, sA51, sL51, sO52, sA52, sL52, sO53, sA53, sL53, sO54, sA54, sL54, sO55, sA55, sL55, sO56, sA56, sL56, sO57, sA57, sL57, sO58, sA58, sL58, sO59, sA59, sL59, sO60, sA60, sL60, sO61, sA61, sL61, sO62, sA62, sL62, sO63, sA63, sL63, sO64, sA64, sL64, sO65, sA65, sL65, sO66, sA66, sL66, sO67, sA67, sL67, sO68, sA68, sL68, sO69, sA69, sL69, sO70, sA70, sL70, sO71, sA71, sL71, sO72, sA72, sL72, sO73, sA73, sL73, sO74, sA74, sL74, sO75, sA75, sL75, sO76, sA76, sL76, sO77, sA77, sL77, sO78, sA78, sL78, sO79, sA79, sL79, sO80, sA80, sL80, sO81, sA81, sL81, sO82, sA82, sL82, sO83, sA83, sL83, sO84, sA84, sL84, sO85, sA85, sL85, sO86, sA86, sL86, sO87, sA87, sL87, sR0_0, sR0_1, sR0_2, sR0_3, sR0_5, sR0_6, sR0_8, sR0_10, sR0_11, sR0_12, sR0_13, sR1_0, sR6_0, sR6_1, sR6_2, sR9_0, sR9_1, sR9_2, sR13_0, sR13_1, sR13_2, sR13_3, sR13_4, sR13_5, sR20_0, sR20_1, sR20_2, sR20_3, sR25_0, sR25_1, sR25_2, sR25_4, sR25_5, sR25_6, sR25_7, sR33_2, sR33_3, sR37_2, sR37_3, sR41_2, sR41_3, sR45_0, sR45_1, sR45_3, sR45_4, sR45_5, sR45_6, sR45_7, sR45_8, sR45_9, sR45_10, sR45_12, sR45_13, sR45_14, sR45_15, sR45_16, sR45_17, sR45_18, sR45_19, sR45_20, sR45_21, sR45_22, sR45_25, sR45_26, sR45_27, sR45_28, sR45_29, sR45_30, sR45_31, sR45_32, sR45_33, sR45_34, sR45_35, sR45_36, sR45_40, sR45_41, sR45_42, sR45_43, sR45_45, sR45_46, sR45_47, sR45_48, sR45_49]
set_option maxRecDepth 100000 in
theorem take_L {h : Hp} (hs : SH h) {B : Nat → Int32} {z : Nat} (tp : TpC h B z) : ∀ (r fuel k p : Nat) (T V : Nat → Nat) (hh : Hp), k + r = 9 → 1 ≤ r → 1 ≤ k → r < fuel → p ≤ z → Upd h hh PCl → gI hh 20 4 = nI p → (∀ w, w < 4 → gI hh 23 w = nI (T w) ∧ gI hh 24 w = nI (V w)) → ∃ h2, f_X5_take_L23 (fun y21 y22 y23 h24 => f_X5_take_J58 y21 y22 y23 h24) fuel 20 1 (nI (k - 1)) hh = some (lrs (lwP B z r k p T V), h2) ∧ Upd h h2 PTk ∧ TkR h (lwP B z r k p T V) h2 := by
  have hz := tp.2.1
  have hB := tp.2.2.2
  intro r
  induction r with
  | zero => intro fuel k p T V hh h1 h2; omega
  | succ r ih =>
    intro fuel k p T V hh h1 h2 h3 h4 h5 u e4 eT
    match fuel, h4 with
    | fuel + 1, h4 =>
      have hsh := u.sh hs
      have tph : TpC hh B z := tp.fr u (by unfold PCl; omega) (fun k => by unfold PCl; omega)
      have uT : ∀ {h2 : Hp}, Upd h h2 PCl → Upd h h2 PTk := fun v => v.mono (fun a k w => by unfold PCl at w; unfold PTk; omega)
      have same : ∀ {h2 : Hp}, Upd h h2 PCl → ∀ w, gI h2 21 w = gI h 21 w ∧ gI h2 22 w = gI h 22 w := fun v w => ⟨v.2 _ _ (by unfold PCl; omega), v.2 _ _ (by unfold PCl; omega)⟩
      obtain ⟨b1, b2⟩ := clP_b hB h5
      rcases readClause_e hsh tph h5 e4 with ⟨c1, h', c2, c3, c4⟩ | ⟨w, a, b, h', c1, c2, c3, c4, c5⟩
      · rw [lwP_f c1]
        refine ⟨h', ?_, uT (u.tr c3), same (u.tr c3)⟩
        rw [f_X5_take_L23, sO20 hsh, gd_e, c2, bnd_e, if_pos rfl, vl_e, c4]
        rfl
      · have hs' := c3.sh hsh
        have u' := u.tr c3
        have tp' : TpC h' B z := tp.fr u' (by unfold PCl; omega) (fun k => by unfold PCl; omega)
        obtain ⟨d1, d2, d3, d4⟩ := b2 w a b c1
        have eT' : ∀ v, v < 4 → gI h' 23 v = nI (u1 T w a v) ∧ gI h' 24 v = nI (u1 V w b v) := fun v hv => by
          rw [(c5 v).1, (c5 v).2]
          unfold u1
          by_cases c : v = w
          · rw [if_pos c, if_pos c, if_pos c, if_pos c]; exact ⟨rfl, rfl⟩
          · rw [if_neg c, if_neg c, if_neg c, if_neg c]; exact eT v hv
        have ek : nI (k - 1) + 1 = nI k := by rw [nI_1]; congr 1; omega
        have G : ∀ h3 : Hp, SH h3 → gI h3 1 1 = nI z → gI h3 20 4 = nI (clP B p).2 → Upd h h3 PCl → (∀ v, v < 4 → gI h3 23 v = nI (u1 T w a v) ∧ gI h3 24 v = nI (u1 V w b v)) → ((clP B p).2 = z ∨ ¬ (B (clP B p).2 = 59 ∧ k < 8)) → ∃ h2, f_X5_take_J58 20 1 (nI k) h3 = some (lrs (lwP B z (r + 1) k p T V), h2) ∧ Upd h h2 PTk ∧ TkR h (lwP B z (r + 1) k p T V) h2 := fun h3 g1 g2 g3 g4 g5 g6 => by
          obtain ⟨t1, t2⟩ := take_58 g1 hz g2 b1 g3 (nI k)
          rw [lwP_s c1]
          by_cases q : (clP B p).2 = z
          · obtain ⟨h2, v1, v2, v3⟩ := t1 q
            rw [if_pos q]
            refine ⟨h2, v1, (uT g4).tr (v2.mono (fun a k w => by unfold PTk; omega)), fun v hv => ?_⟩
            rw [(v3 v hv).1, (v3 v hv).2]
            exact g5 v hv
          · rw [if_neg q, if_neg (by rcases g6 with g6 | g6; exact absurd g6 q; exact g6)]
            exact ⟨h3, t2 q, uT g4, same g4⟩
        rw [f_X5_take_L23, sO20 hsh, gd_e, c2, bnd_e, if_neg (by decide), vl_e, ek]
        by_cases q8 : k < 8
        · have y8 : ¬ (8 : Int32) ≤ nI k := nI_ge (b := 8) q8 (by decide)
          rw [if_neg y8, skip_e hs' tp' (by omega) c4 59]
          by_cases q59 : B (clP B p).2 = 59
          · have hlt := lt_z hB q59 (by decide)
            rw [if_pos q59, bnd_e, if_neg (by decide), lwP_s c1, if_neg (by omega), if_pos ⟨q59, q8⟩]
            have := ih fuel (k + 1) ((clP B p).2 + 1) (u1 T w a) (u1 V w b) (sI h' 20 4 (nI ((clP B p).2 + 1))) (by omega) (by omega) (by omega) (by omega) (by omega) (u'.tr (Upd_sI (by unfold PCl; omega))) (by rw [xI_sI, if_pos ⟨rfl, rfl⟩]) (fun v hv => by rw [xI_sI, if_neg (by omega), xI_sI, if_neg (by omega)]; exact eT' v hv)
            rw [Nat.add_sub_cancel] at this
            exact this
          · rw [if_neg q59, bnd_e, if_pos rfl]
            exact G h' hs' tp'.1 c4 u' eT' (Or.inr (fun w => q59 w.1))
        · have y8 : (8 : Int32) ≤ nI k := nI_le (a := 8) (by omega) (by omega)
          rw [if_pos y8]
          exact G h' hs' tp'.1 c4 u' eT' (Or.inr (fun w => q8 w.2))
set_option maxRecDepth 100000 in
theorem takeC_e {h : Hp} (hs : SH h) {B : Nat → Int32} {z : Nat} (tp : TpC h B z) : ∃ h2, f_X9_law h 0 = some (lrs (lwP B z 8 1 0 (fun _ => 0) (fun _ => 1)), h2) ∧ Upd h h2 (fun a k => PTk a k ∨ (a = 1 ∧ k = 1)) ∧ gI h2 1 1 = 0 ∧ TkR h (lwP B z 8 1 0 (fun _ => 0) (fun _ => 1)) h2 := by
  obtain ⟨hA, A1, A2, A3⟩ := fill_e (h := h) (a := 23) (N := 4) (sO23 hs) (sA23 hs) (sL23 hs) (by decide) 0
  have hsA := A2.sh hs
  obtain ⟨hB, B1, B2, B3⟩ := fill_e (h := hA) (a := 24) (N := 4) (sO24 hsA) (sA24 hsA) (sL24 hsA) (by decide) 1
  have hsB := B2.sh hsA
  have uB : Upd h hB PCl := (A2.mono (fun a k w => by unfold PCl; omega)).tr (B2.mono (fun a k w => by unfold PCl; omega))
  have uC : Upd h (sI hB 20 4 0) PCl := uB.tr (Upd_sI (by unfold PCl; omega))
  obtain ⟨h2, q1, q2, q3⟩ := take_L hs tp 8 6000 1 0 (fun _ => 0) (fun _ => 1) (sI hB 20 4 0) (by omega) (by omega) (by omega) (by omega) (by omega) uC (by rw [xI_sI, if_pos ⟨rfl, rfl⟩]; rfl) (fun w hw => by
    rw [xI_sI, if_neg (by omega), xI_sI, if_neg (by omega), B3 w hw, B2.2 _ _ (by omega), A3 w hw]
    exact ⟨rfl, rfl⟩)
  have hs2 := q2.sh hs
  have q1' : f_X5_take_L23 (fun y21 y22 y23 h24 => f_X5_take_J58 y21 y22 y23 h24) 6000 20 1 0 (sI hB 20 4 0) = some (lrs (lwP B z 8 1 0 (fun _ => 0) (fun _ => 1)), h2) := q1
  have E : f_X5_take h 20 1 = some (lrs (lwP B z 8 1 0 (fun _ => 0) (fun _ => 1)), h2) := by
    unfold f_X5_take
    rw [sO20 hs, gd_e, vl_e, sR20_2 hs, un_e, A1, bnd_e, vl_e, sR20_3 hsA, un_e, B1, bnd_e, vl_e]
    exact q1'
  refine ⟨sI h2 1 1 0, ?_, (q2.mono (fun a k w => Or.inl w)).tr (Upd_sI (Or.inr ⟨rfl, rfl⟩)), by rw [xI_sI, if_pos ⟨rfl, rfl⟩], ?_⟩
  · simp only [f_X9_law, E, hs, hs2, and_self, if_true, if_false, n_1_0, n_0_0, okOb_sI, okAb_sI, okOb_sW, okAb_sW, vl_e, un_e, nl_s, nl_n, bnd_e, gd_e, SH_sI, SH_sW, xI_sI, xR_sI, xL_sI, xK_sI, xN_sI, gI_sW, xR_sW, xL_sW, xK_sW, xN_sW, sO0, sO1, sO2, sA2, sL2, sO3, sA3, sL3, sO4, sA4, sL4, sO5, sA5, sL5, sO6, sA6, sL6, sO7, sA7, sL7, sO8, sA8, sL8, sO9, sO10, sA10, sL10, sO11, sA11, sL11, sO12, sA12, sL12, sO13, sO14, sA14, sL14, sO15, sA15, sL15, sO16, sA16, sL16, sO17, sA17, sL17, sO18, sA18, sL18, sO19, sA19, sL19, sO20, sO21, sA21, sL21, sO22, sA22, sL22, sO23, sA23, sL23, sO24, sA24, sL24, sO25, sO26, sA26, sL26, sO27, sA27, sL27, sO28, sA28, sL28, sO29, sA29, sL29, sO30, sA30, sL30, sO31, sA31, sL31, sO32, sA32, sL32, sO33, sO34, sA34, sL34, sO35, sA35, sL35, sO36, sA36, sL36, sO37, sO38, sA38, sL38, sO39, sA39, sL39, sO40, sA40, sL40, sO41, sO42, sA42, sL42, sO43, sA43, sL43, sO44, sA44, sL44, sO45, sO46, sA46, sL46, sO47, sA47, sL47, sO48, sA48, sL48, sO49, sA49, sL49, sO50, sA50, sL50, sO51, sA51, sL51, sO52, sA52, sL52, sO53, sA53, sL53, sO54, sA54, sL54, sO55, sA55, sL55, sO56, sA56, sL56, sO57, sA57, sL57, sO58, sA58, sL58, sO59, sA59, sL59, sO60, sA60, sL60, sO61, sA61, sL61, sO62, sA62, sL62, sO63, sA63, sL63, sO64, sA64, sL64, sO65, sA65, sL65, sO66, sA66, sL66, sO67, sA67, sL67, sO68, sA68, sL68, sO69, sA69, sL69, sO70, sA70, sL70, sO71, sA71, sL71, sO72, sA72, sL72, sO73, sA73, sL73, sO74, sA74, sL74, sO75, sA75, sL75, sO76, sA76, sL76, sO77, sA77, sL77, sO78, sA78, sL78, sO79, sA79, sL79, sO80, sA80, sL80, sO81, sA81, sL81, sO82, sA82, sL82, sO83, sA83, sL83, sO84, sA84, sL84, sO85, sA85, sL85, sO86, sA86, sL86, sO87, sA87, sL87, sR0_0, sR0_1, sR0_2, sR0_3, sR0_5, sR0_6, sR0_8, sR0_10, sR0_11, sR0_12, sR0_13, sR1_0, sR6_0, sR6_1, sR6_2, sR9_0, sR9_1, sR9_2, sR13_0, sR13_1, sR13_2, sR13_3, sR13_4, sR13_5, sR20_0, sR20_1, sR20_2, sR20_3, sR25_0, sR25_1, sR25_2, sR25_4, sR25_5, sR25_6, sR25_7, sR33_2, sR33_3, sR37_2, sR37_3, sR41_2, sR41_3, sR45_0, sR45_1, sR45_3, sR45_4, sR45_5, sR45_6, sR45_7, sR45_8, sR45_9, sR45_10, sR45_12, sR45_13, sR45_14, sR45_15, sR45_16, sR45_17, sR45_18, sR45_19, sR45_20, sR45_21, sR45_22, sR45_25, sR45_26, sR45_27, sR45_28, sR45_29, sR45_30, sR45_31, sR45_32, sR45_33, sR45_34, sR45_35, sR45_36, sR45_40, sR45_41, sR45_42, sR45_43, sR45_45, sR45_46, sR45_47, sR45_48, sR45_49]
  · revert q3
    unfold TkR
    cases (lwP B z 8 1 0 (fun _ => 0) (fun _ => 1)).1 with
    | none => intro q3 w; rw [xI_sI, if_neg (by omega), xI_sI, if_neg (by omega)]; exact q3 w
    | some k => intro q3 w hw; rw [xI_sI, if_neg (by omega), xI_sI, if_neg (by omega)]; exact q3 w hw
/-- the reference -/
def PLm (a k : Nat) : Prop := a = 81 ∨ a = 82 ∨ (a = 45 ∧ k = 44)
theorem P44_L {h h2 : Hp} (u : Upd h h2 P44) : Upd h h2 PLm := u.mono (fun a k w => by unfold P44 at w; unfold PLm; omega)
set_option maxRecDepth 100000 in
theorem cls_e {h : Hp} (hs : SH h) {B : Nat → Int32} {z p : Nat} (tp : TpM h B z) (hp : p ≤ z) (e : gI h 45 44 = nI p) {k : Nat} (hk : k ≤ 8) (fuel : Nat) : ((clP B p).1 = none ∧ ∃ h2, f_X10_clauses_L34 (fuel + 1) 45 (nI k) h = some (-1, h2) ∧ Upd h h2 P44 ∧ gI h2 45 44 = nI (clP B p).2) ∨ ∃ w a b h2, (clP B p).1 = some (w, a, b) ∧ f_X10_clauses_L34 (fuel + 1) 45 (nI k) h = f_X10_clauses_J101 (f_X10_clauses_L34 fuel) 45 (nI k) (nI w) (nI a) (nI b) h2 ∧ Upd h h2 P44 ∧ gI h2 45 44 = nI (clP B p).2 := by
  have hz := tp.2.1
  have hB := tp.2.2.2
  have x0 : ¬ (8 : Int32) < nI k := nI_nlt (a := 8) hk (by decide)
  obtain ⟨hA, A1, A2, A3⟩ := word_e hs tp (by omega) e
  obtain ⟨w1, w2⟩ := wdP_b hB hp
  have hsA := A2.sh hs
  have tpA : TpM hA B z := tp.fr A2 (by unfold P44; omega) (fun k => by unfold P44; omega)
  have neg : ∀ (v : Int32) (h' : Hp), f_X10_clauses_J58 (f_X10_clauses_L34 fuel) 45 (nI k) v (-1) h' = some (-1, h') := fun v h' => by
    unfold f_X10_clauses_J58
    rw [if_neg m1_neg]
  rw [f_X10_clauses_L34, if_neg x0, sO45 hs, gd_e, A1, bnd_e]
  cases e1 : (wdP B p).1 with
  | none =>
    rw [clP_f e1, show wI none = (-1 : Int32) from rfl, if_neg m1_neg, neg]
    exact Or.inl ⟨rfl, hA, rfl, A2, A3⟩
  | some w =>
    have hw := w2 w e1
    rw [clP_s e1, show wI (some w) = nI w from rfl, if_pos (nI_pos' (by omega))]
    obtain ⟨hC, C1, C2, C3⟩ := number_e hsA tpA (least := 0) (by omega) w1 A3
    rw [nI_0] at C1
    rw [C1, bnd_e]
    have hsC := C2.sh hsA
    have uC : Upd h hC P44 := A2.tr C2
    have tpC : TpM hC B z := tp.fr uC (by unfold P44; omega) (fun k => by unfold P44; omega)
    obtain ⟨n1, n2⟩ := numF_b (l := 0) hB w1
    cases e2 : (numF B 0 (wdP B p).2).1 with
    | none =>
      rw [clM_f e2, show wI none = (-1 : Int32) from rfl, neg]
      exact Or.inl ⟨rfl, hC, rfl, uC, C3⟩
    | some a =>
      have ha := (n2 a e2).1
      rw [clM_s e2, show wI (some a) = nI a from rfl]
      unfold f_X10_clauses_J58
      rw [if_pos (nI_pos' (show a < 2 ^ 31 by omega)), sO45 hsC, gd_e, sign_e hsC tpC (by omega) C3, bnd_e]
      by_cases c2 : B (numF B 0 (wdP B p).2).2 = 47
      · have hlt2 := lt_z hB c2 (by decide)
        rw [if_pos c2, vl_e, C3, vl_e, nI_1]
        have uD : Upd h (sI hC 45 44 (nI ((numF B 0 (wdP B p).2).2 + 1))) P44 := uC.tr (Upd_sI ⟨rfl, rfl⟩)
        have hsD : SH (sI hC 45 44 (nI ((numF B 0 (wdP B p).2).2 + 1))) := hsC
        have eD : gI (sI hC 45 44 (nI ((numF B 0 (wdP B p).2).2 + 1))) 45 44 = nI ((numF B 0 (wdP B p).2).2 + 1) := by rw [xI_sI, if_pos ⟨rfl, rfl⟩]
        generalize sI hC 45 44 (nI ((numF B 0 (wdP B p).2).2 + 1)) = hD at *
        have tpD : TpM hD B z := tp.fr uD (by unfold P44; omega) (fun k => by unfold P44; omega)
        obtain ⟨hF, F1, F2, F3⟩ := number_e hsD tpD (least := 1) (by omega) (by omega) eD
        rw [show nI 1 = (1 : Int32) from rfl] at F1
        have uF : Upd h hF P44 := uD.tr F2
        obtain ⟨m1, m2⟩ := numF_b (p := (numF B 0 (wdP B p).2).2 + 1) (l := 1) hB (by omega)
        rw [F1, bnd_e]
        cases e3 : (numF B 1 ((numF B 0 (wdP B p).2).2 + 1)).1 with
        | none =>
          rw [clN_f c2 e3, show wI none = (-1 : Int32) from rfl, if_neg m1_neg]
          exact Or.inl ⟨rfl, hF, rfl, uF, F3⟩
        | some b =>
          rw [clN_y c2 e3, show wI (some b) = nI b from rfl, if_pos (nI_pos' (by have := (m2 b e3).1; omega))]
          exact Or.inr ⟨w, a, b, hF, rfl, rfl, uF, F3⟩
      · rw [if_neg c2, clN_n c2]
        exact Or.inr ⟨w, a, 1, hC, rfl, rfl, uC, C3⟩
set_option maxRecDepth 100000 in
theorem cls_L {h : Hp} (hs : SH h) {B : Nat → Int32} {z : Nat} (tp : TpM h B z) : ∀ (r fuel k p : Nat) (T V : Nat → Nat) (hh : Hp), k + r = 9 → 1 ≤ r → 1 ≤ k → r < fuel → p ≤ z → Upd h hh PLm → gI hh 45 44 = nI p → (∀ w, w < 4 → gI hh 81 w = nI (T w) ∧ gI hh 82 w = nI (V w)) → ∃ h2, f_X10_clauses_L34 fuel 45 (nI k) hh = some (wI (lwP B z r k p T V).1, h2) ∧ Upd h h2 PLm ∧ gI h2 45 44 = nI (lwP B z r k p T V).2.1 ∧ ((lwP B z r k p T V).1 ≠ none → ∀ w, w < 4 → gI h2 81 w = nI ((lwP B z r k p T V).2.2.1 w) ∧ gI h2 82 w = nI ((lwP B z r k p T V).2.2.2 w)) := by
  have hz := tp.2.1
  have hB := tp.2.2.2
  intro r
  induction r with
  | zero => intro fuel k p T V hh h1 h2; omega
  | succ r ih =>
    intro fuel k p T V hh h1 h2 h3 h4 h5 u e4 eT
    match fuel, h4 with
    | fuel + 1, h4 =>
      have hsh := u.sh hs
      have tph : TpM hh B z := tp.fr u (by unfold PLm; omega) (fun k => by unfold PLm; omega)
      obtain ⟨b1, b2⟩ := clP_b hB h5
      rcases cls_e hsh tph h5 e4 (show k ≤ 8 by omega) fuel with ⟨c1, h', c2, c3, c4⟩ | ⟨w, a, b, h', c1, c2, c3, c4⟩
      · rw [lwP_f c1]
        exact ⟨h', c2, u.tr (P44_L c3), c4, fun q => absurd rfl q⟩
      · have hs' := c3.sh hsh
        have u' := u.tr (P44_L c3)
        obtain ⟨d1, d2, d3, d4⟩ := b2 w a b c1
        have z1 : (nI w).toNatClampNeg = w := nI_clamp (by omega)
        have z2 : inB (nI w) 4 = true := inB_nI d1 (by decide)
        let hC : Hp := sI (sI h' 81 w (nI a)) 82 w (nI b)
        have hsC : SH hC := hs'
        have uC : Upd h hC PLm := (u'.tr (Upd_sI (by unfold PLm; omega))).tr (Upd_sI (by unfold PLm; omega))
        have tpC : TpM hC B z := tp.fr uC (by unfold PLm; omega) (fun k => by unfold PLm; omega)
        have eC : gI hC 45 44 = nI (clP B p).2 := by rw [xI_sI, if_neg (by omega), xI_sI, if_neg (by omega)]; exact c4
        have eT' : ∀ v, v < 4 → gI hC 81 v = nI (u1 T w a v) ∧ gI hC 82 v = nI (u1 V w b v) := fun v hv => by
          have f1 : gI h' 81 v = nI (T v) := by rw [c3.2 _ _ (by unfold P44; omega)]; exact (eT v hv).1
          have f2 : gI h' 82 v = nI (V v) := by rw [c3.2 _ _ (by unfold P44; omega)]; exact (eT v hv).2
          unfold u1
          refine ⟨?_, ?_⟩
          · rw [xI_sI, if_neg (by omega), xI_sI]
            by_cases c : v = w
            · rw [if_pos ⟨rfl, c⟩, if_pos c]
            · rw [if_neg (fun q => c q.2), if_neg c]; exact f1
          · rw [xI_sI]
            by_cases c : v = w
            · rw [if_pos ⟨rfl, c⟩, if_pos c]
            · rw [if_neg (fun q => c q.2), if_neg c, xI_sI, if_neg (by omega)]; exact f2
        have E : f_X10_clauses_J101 (f_X10_clauses_L34 fuel) 45 (nI k) (nI w) (nI a) (nI b) h' = (if nI (clP B p).2 = nI z then some (nI k, hC) else (bnd (f_X10_sign hC 45) fun v41 h42 => if v41 = (59 : Int32) then (if nI k = (8 : Int32) then some ((-1 : Int32), h42) else (vl (gI h42 45 44) fun x45 => vl (sI h42 45 44 (x45 + (1 : Int32))) fun h46 => vl (nI k + (1 : Int32)) fun x47 => f_X10_clauses_L34 fuel 45 x47 h46)) else some ((-1 : Int32), h42))) := by
          have g1 : gI hC 45 2 = nI z := tpC.1
          unfold f_X10_clauses_J101
          rw [sO45 hs', gd_e, vl_e, sR45_42 hs', un_e, sA81 hs', z2, gd_e, z1, vl_e]
          have hs'' : SH (sI h' 81 w (nI a)) := hs'
          rw [vl_e, sR45_43 hs'', un_e, sA82 hs'', z2, gd_e, vl_e]
          show (vl (gI hC 45 44) fun x38 => vl (gI hC 45 2) fun x39 => _) = _
          rw [vl_e, vl_e, eC, g1]
        rw [c2, E, lwP_s c1]
        by_cases q : (clP B p).2 = z
        · rw [if_pos (by rw [q]), if_pos q]
          exact ⟨hC, rfl, uC, eC, fun _ => eT'⟩
        · rw [if_neg (fun w => q ((nI_eq (by omega) (by omega)).mp w)), if_neg q, sign_e hsC tpC (by omega) eC, bnd_e]
          by_cases q59 : B (clP B p).2 = 59
          · rw [if_pos q59]
            by_cases q8 : k < 8
            · have y8 : ¬ nI k = (8 : Int32) := fun w => absurd ((nI_eq (b := 8) (by omega) (by decide)).mp w) (by omega)
              rw [if_neg y8, if_pos ⟨q59, q8⟩, vl_e, vl_e, vl_e, eC, nI_1, nI_1]
              exact ih fuel (k + 1) ((clP B p).2 + 1) (u1 T w a) (u1 V w b) (sI hC 45 44 (nI ((clP B p).2 + 1))) (by omega) (by omega) (by omega) (by omega) (by omega) (uC.tr (Upd_sI (by unfold PLm; omega))) (by rw [xI_sI, if_pos ⟨rfl, rfl⟩]) (fun v hv => by rw [xI_sI, if_neg (by omega), xI_sI, if_neg (by omega)]; exact eT' v hv)
            · have y8 : nI k = (8 : Int32) := by rw [show k = 8 by omega]; rfl
              rw [if_pos y8, if_neg (fun w => q8 w.2)]
              exact ⟨hC, rfl, uC, eC, fun q => absurd rfl q⟩
          · rw [if_neg q59, if_neg (fun w => q59 w.1)]
            exact ⟨hC, rfl, uC, eC, fun q => absurd rfl q⟩
set_option maxRecDepth 100000 in
theorem cls_2 {h : Hp} (hs : SH h) (K : Nat → Int32 → Hp → Option (Int32 × Hp)) : ∃ h2, f_X10_clauses_L2 K 6000 45 0 h = K 45 (nI 4) h2 ∧ Upd h h2 PLm ∧ ∀ w, w < 4 → gI h2 81 w = 0 ∧ gI h2 82 w = 1 := by
  refine forL 4 (fun m k (hh : Hp) => f_X10_clauses_L2 K m 45 (nI k) hh) (fun k hh => Upd h hh PLm ∧ ∀ w, w < k → gI hh 81 w = 0 ∧ gI hh 82 w = 1) (fun x => ∃ h2, x = K 45 (nI 4) h2 ∧ Upd h h2 PLm ∧ ∀ w, w < 4 → gI h2 81 w = 0 ∧ gI h2 82 w = 1) ?_ ?_ 4 6000 0 h (by omega) (by omega) ⟨Upd_rf _ _, fun w hw => absurd hw (Nat.not_lt_zero w)⟩
  · intro m k hh hk ⟨I1, I2⟩
    have hsh := I1.sh hs
    have x0 : ¬ (4 : Int32) ≤ nI k := nI_ge (b := 4) hk (by decide)
    have z1 : (nI k).toNatClampNeg = k := nI_clamp (by omega)
    have z2 : inB (nI k) 4 = true := inB_nI hk (by decide)
    refine Or.inr ⟨sI (sI hh 81 k 0) 82 k 1, ?_, (I1.tr (Upd_sI (by unfold PLm; omega))).tr (Upd_sI (by unfold PLm; omega)), fun w hw => ?_⟩
    · rw [f_X10_clauses_L2]
      simp only [x0, z1, z2, nI_1, hsh, and_self, if_true, if_false, n_1_0, n_0_0, okOb_sI, okAb_sI, okOb_sW, okAb_sW, vl_e, un_e, nl_s, nl_n, bnd_e, gd_e, SH_sI, SH_sW, xI_sI, xR_sI, xL_sI, xK_sI, xN_sI, gI_sW, xR_sW, xL_sW, xK_sW, xN_sW, sO0, sO1, sO2, sA2, sL2, sO3, sA3, sL3, sO4, sA4, sL4, sO5, sA5, sL5, sO6, sA6, sL6, sO7, sA7, sL7, sO8, sA8, sL8, sO9, sO10, sA10, sL10, sO11, sA11, sL11, sO12, sA12, sL12, sO13, sO14, sA14, sL14, sO15, sA15, sL15, sO16, sA16, sL16, sO17, sA17, sL17, sO18, sA18, sL18, sO19, sA19, sL19, sO20, sO21, sA21, sL21, sO22, sA22, sL22, sO23, sA23, sL23, sO24, sA24, sL24, sO25, sO26, sA26, sL26, sO27, sA27, sL27, sO28, sA28, sL28, sO29, sA29, sL29, sO30, sA30, sL30, sO31, sA31, sL31, sO32, sA32, sL32, sO33, sO34, sA34, sL34, sO35, sA35, sL35, sO36, sA36, sL36, sO37, sO38, sA38, sL38, sO39, sA39, sL39, sO40, sA40, sL40, sO41, sO42, sA42, sL42, sO43, sA43, sL43, sO44, sA44, sL44, sO45, sO46, sA46, sL46, sO47, sA47, sL47, sO48, sA48, sL48, sO49, sA49, sL49, sO50, sA50, sL50, sO51, sA51, sL51, sO52, sA52, sL52, sO53, sA53, sL53, sO54, sA54, sL54, sO55, sA55, sL55, sO56, sA56, sL56, sO57, sA57, sL57, sO58, sA58, sL58, sO59, sA59, sL59, sO60, sA60, sL60, sO61, sA61, sL61, sO62, sA62, sL62, sO63, sA63, sL63, sO64, sA64, sL64, sO65, sA65, sL65, sO66, sA66, sL66, sO67, sA67, sL67, sO68, sA68, sL68, sO69, sA69, sL69, sO70, sA70, sL70, sO71, sA71, sL71, sO72, sA72, sL72, sO73, sA73, sL73, sO74, sA74, sL74, sO75, sA75, sL75, sO76, sA76, sL76, sO77, sA77, sL77, sO78, sA78, sL78, sO79, sA79, sL79, sO80, sA80, sL80, sO81, sA81, sL81, sO82, sA82, sL82, sO83, sA83, sL83, sO84, sA84, sL84, sO85, sA85, sL85, sO86, sA86, sL86, sO87, sA87, sL87, sR0_0, sR0_1, sR0_2, sR0_3, sR0_5, sR0_6, sR0_8, sR0_10, sR0_11, sR0_12, sR0_13, sR1_0, sR6_0, sR6_1, sR6_2, sR9_0, sR9_1, sR9_2, sR13_0, sR13_1, sR13_2, sR13_3, sR13_4, sR13_5, sR20_0, sR20_1, sR20_2, sR20_3, sR25_0, sR25_1, sR25_2, sR25_4, sR25_5, sR25_6, sR25_7, sR33_2, sR33_3, sR37_2, sR37_3, sR41_2, sR41_3, sR45_0, sR45_1, sR45_3, sR45_4, sR45_5, sR45_6, sR45_7, sR45_8, sR45_9, sR45_10, sR45_12, sR45_13, sR45_14, sR45_15, sR45_16, sR45_17, sR45_18, sR45_19, sR45_20, sR45_21, sR45_22, sR45_25, sR45_26, sR45_27, sR45_28, sR45_29, sR45_30, sR45_31, sR45_32, sR45_33, sR45_34, sR45_35, sR45_36, sR45_40, sR45_41, sR45_42, sR45_43, sR45_45, sR45_46, sR45_47, sR45_48, sR45_49]
    · rw [xI_sI, if_neg (by omega), xI_sI, xI_sI]
      by_cases c : w = k
      · rw [if_pos ⟨rfl, c⟩, if_pos ⟨rfl, c⟩]; exact ⟨rfl, rfl⟩
      · rw [if_neg (fun q => c q.2), if_neg (fun q => c q.2), xI_sI, if_neg (by omega)]; exact I2 w (by omega)
  · intro m hh ⟨I1, I2⟩
    refine ⟨hh, ?_, I1, I2⟩
    show f_X10_clauses_L2 K (m + 1) 45 (nI 4) hh = _
    rw [f_X10_clauses_L2, if_pos (by decide)]
set_option maxRecDepth 100000 in
theorem law_24 {h : Hp} (hs : SH h) (x : Int32) : ∃ h2, f_X10_law_L24 6000 45 x 0 h = some (x, h2) ∧ Upd h h2 (fun a _ => a = 79 ∨ a = 80) ∧ ∀ w, w < 4 → gI h2 79 w = gI h 81 w ∧ gI h2 80 w = gI h 82 w := by
  refine forL 4 (fun m k (hh : Hp) => f_X10_law_L24 m 45 x (nI k) hh) (fun k hh => Upd h hh (fun a _ => a = 79 ∨ a = 80) ∧ ∀ w, w < k → gI hh 79 w = gI h 81 w ∧ gI hh 80 w = gI h 82 w) (fun y => ∃ h2, y = some (x, h2) ∧ Upd h h2 (fun a _ => a = 79 ∨ a = 80) ∧ ∀ w, w < 4 → gI h2 79 w = gI h 81 w ∧ gI h2 80 w = gI h 82 w) ?_ ?_ 4 6000 0 h (by omega) (by omega) ⟨Upd_rf _ _, fun w hw => absurd hw (Nat.not_lt_zero w)⟩
  · intro m k hh hk ⟨I1, I2⟩
    have hsh := I1.sh hs
    have x0 : ¬ (4 : Int32) ≤ nI k := nI_ge (b := 4) hk (by decide)
    have z1 : (nI k).toNatClampNeg = k := nI_clamp (by omega)
    have z2 : inB (nI k) 4 = true := inB_nI hk (by decide)
    have f1 : gI hh 81 k = gI h 81 k := I1.2 _ _ (by omega)
    have f2 : gI hh 82 k = gI h 82 k := I1.2 _ _ (by omega)
    refine Or.inr ⟨sI (sI hh 79 k (gI h 81 k)) 80 k (gI h 82 k), ?_, (I1.tr (Upd_sI (by omega))).tr (Upd_sI (by omega)), fun w hw => ?_⟩
    · rw [f_X10_law_L24]
      simp only [x0, z1, z2, f1, nI_1, hsh, and_self, if_true, if_false, n_1_0, n_0_0, okOb_sI, okAb_sI, okOb_sW, okAb_sW, vl_e, un_e, nl_s, nl_n, bnd_e, gd_e, SH_sI, SH_sW, xI_sI, xR_sI, xL_sI, xK_sI, xN_sI, gI_sW, xR_sW, xL_sW, xK_sW, xN_sW, sO0, sO1, sO2, sA2, sL2, sO3, sA3, sL3, sO4, sA4, sL4, sO5, sA5, sL5, sO6, sA6, sL6, sO7, sA7, sL7, sO8, sA8, sL8, sO9, sO10, sA10, sL10, sO11, sA11, sL11, sO12, sA12, sL12, sO13, sO14, sA14, sL14, sO15, sA15, sL15, sO16, sA16, sL16, sO17, sA17, sL17, sO18, sA18, sL18, sO19, sA19, sL19, sO20, sO21, sA21, sL21, sO22, sA22, sL22, sO23, sA23, sL23, sO24, sA24, sL24, sO25, sO26, sA26, sL26, sO27, sA27, sL27, sO28, sA28, sL28, sO29, sA29, sL29, sO30, sA30, sL30, sO31, sA31, sL31, sO32, sA32, sL32, sO33, sO34, sA34, sL34, sO35, sA35, sL35, sO36, sA36, sL36, sO37, sO38, sA38, sL38, sO39, sA39, sL39, sO40, sA40, sL40, sO41, sO42, sA42, sL42, sO43, sA43, sL43, sO44, sA44, sL44, sO45, sO46, sA46, sL46, sO47, sA47, sL47, sO48, sA48, sL48, sO49, sA49, sL49, sO50, sA50, sL50, sO51, sA51, sL51, sO52, sA52, sL52, sO53, sA53, sL53, sO54, sA54, sL54, sO55, sA55, sL55, sO56, sA56, sL56, sO57, sA57, sL57, sO58, sA58, sL58, sO59, sA59, sL59, sO60, sA60, sL60, sO61, sA61, sL61, sO62, sA62, sL62, sO63, sA63, sL63, sO64, sA64, sL64, sO65, sA65, sL65, sO66, sA66, sL66, sO67, sA67, sL67, sO68, sA68, sL68, sO69, sA69, sL69, sO70, sA70, sL70, sO71, sA71, sL71, sO72, sA72, sL72, sO73, sA73, sL73, sO74, sA74, sL74, sO75, sA75, sL75, sO76, sA76, sL76, sO77, sA77, sL77, sO78, sA78, sL78, sO79, sA79, sL79, sO80, sA80, sL80, sO81, sA81, sL81, sO82, sA82, sL82, sO83, sA83, sL83, sO84, sA84, sL84, sO85, sA85, sL85, sO86, sA86, sL86, sO87, sA87, sL87, sR0_0, sR0_1, sR0_2, sR0_3, sR0_5, sR0_6, sR0_8, sR0_10, sR0_11, sR0_12, sR0_13, sR1_0, sR6_0, sR6_1, sR6_2, sR9_0, sR9_1, sR9_2, sR13_0, sR13_1, sR13_2, sR13_3, sR13_4, sR13_5, sR20_0, sR20_1, sR20_2, sR20_3, sR25_0, sR25_1, sR25_2, sR25_4, sR25_5, sR25_6, sR25_7, sR33_2, sR33_3, sR37_2, sR37_3, sR41_2, sR41_3, sR45_0, sR45_1, sR45_3, sR45_4, sR45_5, sR45_6, sR45_7, sR45_8, sR45_9, sR45_10, sR45_12, sR45_13, sR45_14, sR45_15, sR45_16, sR45_17, sR45_18, sR45_19, sR45_20, sR45_21, sR45_22, sR45_25, sR45_26, sR45_27, sR45_28, sR45_29, sR45_30, sR45_31, sR45_32, sR45_33, sR45_34, sR45_35, sR45_36, sR45_40, sR45_41, sR45_42, sR45_43, sR45_45, sR45_46, sR45_47, sR45_48, sR45_49]
      simp only [Nat.reduceEqDiff, false_and, if_false, f2]
    · rw [xI_sI, if_neg (by omega), xI_sI, xI_sI]
      by_cases c : w = k
      · rw [if_pos ⟨rfl, c⟩, if_pos ⟨rfl, c⟩, c]; exact ⟨rfl, rfl⟩
      · rw [if_neg (fun q => c q.2), if_neg (fun q => c q.2), xI_sI, if_neg (by omega)]; exact I2 w (by omega)
  · intro m hh ⟨I1, I2⟩
    refine ⟨hh, ?_, I1, I2⟩
    show f_X10_law_L24 (m + 1) 45 x (nI 4) hh = _
    rw [f_X10_law_L24, if_pos (by decide)]
def PLn (a k : Nat) : Prop := 79 ≤ a ∧ a ≤ 82 ∨ (a = 45 ∧ (k = 44 ∨ k = 2))
set_option maxRecDepth 100000 in
theorem lawM_e {h : Hp} (hs : SH h) {B : Nat → Int32} {z : Nat} (tp : TpM h B z) : ∃ h2, f_X10_law h 45 = some (lrs (lwP B z 8 1 0 (fun _ => 0) (fun _ => 1)), h2) ∧ Upd h h2 PLn ∧ gI h2 45 2 = 0 ∧ (match (lwP B z 8 1 0 (fun _ => 0) (fun _ => 1)).1 with
  | some _ => ∀ w, w < 4 → gI h2 79 w = nI ((lwP B z 8 1 0 (fun _ => 0) (fun _ => 1)).2.2.1 w) ∧ gI h2 80 w = nI ((lwP B z 8 1 0 (fun _ => 0) (fun _ => 1)).2.2.2 w)
  | none => ∀ w, gI h2 79 w = gI h 79 w ∧ gI h2 80 w = gI h 80 w) := by
  obtain ⟨hA, A1, A2, A3⟩ := cls_2 hs (fun y12 y13 h14 => gd (okOb h14 y12 10) <| vl (sI h14 y12 44 (0 : Int32)) fun h16 => f_X10_clauses_L34 6000 y12 (1 : Int32) h16)
  have hsA := A2.sh hs
  have uB : Upd h (sI hA 45 44 0) PLm := A2.tr (Upd_sI (by unfold PLm; omega))
  obtain ⟨hC, C1, C2, C3, C4⟩ := cls_L hs tp 8 6000 1 0 (fun _ => 0) (fun _ => 1) (sI hA 45 44 0) (by omega) (by omega) (by omega) (by omega) (by omega) uB (by rw [xI_sI, if_pos ⟨rfl, rfl⟩]; rfl) (fun w hw => by
    rw [xI_sI, if_neg (by omega), xI_sI, if_neg (by omega), (A3 w hw).1, (A3 w hw).2]
    exact ⟨rfl, rfl⟩)
  rw [show nI 1 = (1 : Int32) from rfl] at C1
  have hsC := C2.sh hs
  have E : f_X10_clauses h 45 = some (wI (lwP B z 8 1 0 (fun _ => 0) (fun _ => 1)).1, hC) := by
    unfold f_X10_clauses
    rw [A1, sO45 hsA, gd_e, vl_e, C1]
  have bk : ∀ (r k p : Nat) (T V : Nat → Nat) (q : Nat), k + r = 9 → (lwP B z r k p T V).1 = some q → q ≤ 9 := by
    intro r
    induction r with
    | zero => intro k p T V q _ e; cases e
    | succ r ih =>
      intro k p T V q hk e
      cases c1 : (clP B p).1 with
      | none => rw [lwP_f c1] at e; cases e
      | some x =>
        obtain ⟨w, a, b⟩ := x
        rw [lwP_s c1] at e
        by_cases d1 : (clP B p).2 = z
        · rw [if_pos d1] at e; cases e; omega
        · rw [if_neg d1] at e
          by_cases d2 : B (clP B p).2 = 59 ∧ k < 8
          · rw [if_pos d2] at e; exact ih _ _ _ _ _ (by omega) e
          · rw [if_neg d2] at e; cases e
  have hsD : SH (sI hC 45 2 0) := hsC
  have uD : Upd h (sI hC 45 2 0) PLn := (C2.mono (fun a k w => by unfold PLm at w; unfold PLn; omega)).tr (Upd_sI (by unfold PLn; omega))
  have e44 : gI (sI hC 45 2 0) 45 44 = gI hC 45 44 := by rw [xI_sI, if_neg (by omega)]
  have e2 : gI (sI hC 45 2 0) 45 2 = 0 := by rw [xI_sI, if_pos ⟨rfl, rfl⟩]
  have e81 : ∀ w, gI (sI hC 45 2 0) 81 w = gI hC 81 w ∧ gI (sI hC 45 2 0) 82 w = gI hC 82 w := fun w => by rw [xI_sI, if_neg (by omega), xI_sI, if_neg (by omega)]; exact ⟨rfl, rfl⟩
  have e79 : ∀ w, gI (sI hC 45 2 0) 79 w = gI h 79 w ∧ gI (sI hC 45 2 0) 80 w = gI h 80 w := fun w => by rw [xI_sI, if_neg (by omega), xI_sI, if_neg (by omega), C2.2 _ _ (by unfold PLm; omega), C2.2 _ _ (by unfold PLm; omega)]; exact ⟨rfl, rfl⟩
  have E2 : f_X10_law h 45 = (if 0 ≤ wI (lwP B z 8 1 0 (fun _ => 0) (fun _ => 1)).1 then f_X10_law_L24 6000 45 (wI (lwP B z 8 1 0 (fun _ => 0) (fun _ => 1)).1) 0 (sI hC 45 2 0) else (vl (gI (sI hC 45 2 0) 45 44) fun x25 => some ((-10 : Int32) - x25, sI hC 45 2 0))) := by
    unfold f_X10_law
    rw [sO45 hs, gd_e, E, bnd_e, vl_e]
  rw [E2]
  generalize sI hC 45 2 0 = hD at *
  have bk1 := bk 8 1 0 (fun _ => 0) (fun _ => 1)
  unfold lrs
  cases e1 : (lwP B z 8 1 0 (fun _ => 0) (fun _ => 1)).1 with
  | none =>
    rw [show wI none = (-1 : Int32) from rfl, if_neg m1_neg, vl_e, e44, C3]
    exact ⟨hD, rfl, uD, e2, e79⟩
  | some k =>
    have hk := bk1 k (by omega) e1
    rw [show wI (some k) = nI k from rfl, if_pos (nI_pos' (by omega))]
    obtain ⟨h2, q1, q2, q3⟩ := law_24 hsD (nI k)
    refine ⟨h2, q1, uD.tr (q2.mono (fun a k w => by unfold PLn; omega)), by rw [q2.2 _ _ (by omega)]; exact e2, fun w hw => ?_⟩
    rw [(q3 w hw).1, (q3 w hw).2, (e81 w).1, (e81 w).2]
    exact C4 (by rw [e1]; simp) w hw
def PLw (a k : Nat) : Prop := PTk a k ∨ (a = 1 ∧ k = 1) ∨ PLn a k
set_option maxRecDepth 100000 in
theorem law_ok {h : Hp} (hs : SH h) (it : IT h) (lw : ILw h) : Out h PLw (fun h2 => IT h2 ∧ ILw h2) (f_X9_law h 0) (fun h1 => f_X10_law h1 45) := by
  obtain ⟨z, q1, q2, q3, q4⟩ := it
  let B : Nat → Int32 := fun j => if j < z then gI h 2 j else -1
  have b1 : ∀ j, j < z → gI h 2 j = B j := fun j hj => (if_pos hj).symm
  have b2 : ∀ j, z ≤ j → B j = -1 := fun j hj => if_neg (by omega)
  have tpc : TpC h B z := ⟨q2, q1, b1, b2⟩
  have tpm : TpM h B z := ⟨q3, q1, fun j hj => by rw [← (q4 j hj).1]; exact b1 j hj, b2⟩
  obtain ⟨hA, A1, A2, A3, A4⟩ := takeC_e hs tpc
  have hsA := A2.sh hs
  have tpA : TpM hA B z := tpm.fr A2 (by unfold PTk; omega) (fun k => by unfold PTk; omega)
  obtain ⟨hC, C1, C2, C3, C4⟩ := lawM_e hsA tpA
  obtain ⟨-, vb⟩ := lwP_b b2 8 1 0 (fun _ => 0) (fun _ => 1) (Nat.zero_le _) (fun w => ⟨Nat.le_refl _, by decide⟩)
  refine ⟨_, hA, hC, A1, hsA, C1, ⟨⟨0, by omega, by rw [C2.2 _ _ (by unfold PLn; omega)]; exact A3, C3, fun j hj => absurd hj (Nat.not_lt_zero j)⟩, fun w hw => ?_⟩, (A2.mono (fun a k w => by unfold PLw; rcases w with w | w; exact Or.inl w; exact Or.inr (Or.inl w))).tr (C2.mono (fun a k w => Or.inr (Or.inr w)))⟩
  rw [C2.2 21 _ (by unfold PLn; omega), C2.2 22 _ (by unfold PLn; omega)]
  revert A4 C4
  unfold TkR
  cases e1 : (lwP B z 8 1 0 (fun _ => 0) (fun _ => 1)).1 with
  | none =>
    intro A4 C4
    rw [(A4 w).1, (A4 w).2, (C4 w).1, (C4 w).2, A2.2 79 _ (by unfold PTk; omega), A2.2 80 _ (by unfold PTk; omega)]
    exact lw w hw
  | some k =>
    intro A4 C4
    rw [(A4 w hw).1, (A4 w hw).2, (C4 w hw).1, (C4 w hw).2]
    exact ⟨rfl, rfl, _, (vb w).1, (vb w).2, rfl⟩
