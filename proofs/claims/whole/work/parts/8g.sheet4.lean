theorem ShN_ag {h h2 : Hp} {b l c : Nat} {F : Int32} (d : ShN h b l c F) (hb : b + 14 ≤ gN h) (k : ∀ a, a < gN h → gK h2 a = gK h a ∧ gL h2 a = gL h a) (r : ∀ a j, (a = b ∨ a = b + 1 ∨ a = b + 7) → gR h2 a j = gR h a j) (i : ∀ a k, b ≤ a → a < b + 14 → gI h2 a k = gI h a k) : ShN h2 b l c F := by
  obtain ⟨⟨d1, d2, d3, d4, d5, d6⟩, ⟨d7, d8⟩, ⟨d9, d10, d11, d12, d13⟩, d14, d15⟩ := d
  refine ⟨⟨by rw [(k _ (by omega)).1]; exact d1, by rw [r _ _ (by omega)]; exact d2, by rw [r _ _ (by omega)]; exact d3, by rw [r _ _ (by omega)]; exact d4, by rw [(k _ (by omega)).1]; exact d5, by rw [(k _ (by omega)).2]; exact d6⟩, ⟨FoOK_ag d7 (by omega) k (fun j => r _ _ (by omega)), FoOK_ag d8 (by omega) k (fun j => r _ _ (by omega))⟩, ⟨by rw [i _ _ (by omega) (by omega)]; exact d9, by rw [i _ _ (by omega) (by omega)]; exact d10, by rw [i _ _ (by omega) (by omega)]; exact d11, by rw [i _ _ (by omega) (by omega)]; exact d12, by rw [i _ _ (by omega) (by omega)]; exact d13⟩, fun s hs => ⟨⟨?_, ?_, fun q h1 h3 => ?_⟩, fun j hj => ?_⟩, fun q hq => ?_⟩
  · rw [i _ _ (by omega) (by omega)]; exact (d14 s hs).1.1
  · rw [i _ _ (by omega) (by omega)]; exact (d14 s hs).1.2.1
  · rw [i _ _ (by omega) (by omega)]; exact (d14 s hs).1.2.2 q h1 h3
  · rw [i _ _ (by omega) (by omega)]; exact (d14 s hs).2 j hj
  · rw [i _ _ (by omega) (by omega)]; exact d15 q hq
theorem fmt_e (h : Hp) {m : Nat} (h1 : 1 ≤ m) (h2 : m ≤ 3) : f_X9_isFormat h (nI m) = some (1, h) := by
  have c1 : ¬ nI m < (1 : Int32) := nI_nlt (b := 1) h1 (by omega)
  have c2 : ¬ (3 : Int32) < nI m := nI_nlt (a := 3) h2 (by decide)
  unfold f_X9_isFormat
  rw [if_neg c1, if_neg c2]
def ShK (h : Hp) (y32 : Nat) (y34 y35 : Int32) (y36 : Nat) (h38 : Hp) : Option (Int32 × Hp) :=
gd (okOb h38 y32 9) <|
vl (gI h38 y32 7) fun x40 =>
if x40 < (6 : Int32) then (
vl (gR h38 y32 6) fun r42 =>
vl (gI h38 y32 7) fun x43 =>
vl (gN h38) fun b44 =>
vl (nw h38 7 8 0) fun h45 =>
gd (okOb h45 y36 1) <|
bnd (f_X1_faces h45 y36) fun v47 h48 =>
bnd (f_X7_init h48 b44 y34 y35 v47) fun u49 h50 =>
un r42 fun b51 =>
gd (okAb h50 b51 15 x43) <|
vl (sR h50 b51 x43.toNatClampNeg (some b44)) fun h53 =>
vl (gR h53 y32 6) fun r54 =>
vl (gI h53 y32 7) fun x55 =>
un r54 fun b56 =>
gd (okAb h53 b56 15 x55) <|
vl (gR h53 b56 x55.toNatClampNeg) fun r58 =>
vl (gR h53 y32 3) fun r59 =>
un r59 fun b60 =>
un r58 fun b61 =>
gd (okOb h53 b61 7) <|
bnd (f_X7_takePages h53 b61 y36 b60) fun u63 h64 =>
vl (gI h64 y32 7) fun x65 =>
vl (sI h64 y32 7 (x65 + (1 : Int32))) fun h66 =>
vl (gI h66 y32 7) fun x67 =>
some (x67 - (1 : Int32), h66)) else (
some ((-4 : Int32), h38))
set_option maxRecDepth 100000 in
theorem sheetC_0 {h : Hp} (hs : SH h) (g : IGeo h) {m c : Nat} (h1 : 1 ≤ m) (h2 : m ≤ 3) (c1 : 1 ≤ c) (c2 : c ≤ 60) (a : Int32) : f_X9_sheet h 0 (nI m) a (nI c) = if a < 0 then some (-1, h) else if a ≤ nI (nP h) - nI (2 * 2 ^ m) then f_X9_sheet_L54 (fun y32 y33 y34 y35 y36 y37 h38 => ShK h y32 y34 y35 y36 h38) 6000 0 (nI m) a (nI c) (29 + 4 * m) 0 h else some (-1, h) := by
  obtain ⟨y1, -, -, -, -, y6⟩ := fold_f hs h1 h2
  have d1 : ¬ nI c < (1 : Int32) := nI_nlt (b := 1) c1 (by omega)
  have d2 : nI c ≤ (60 : Int32) := nI_le (b := 60) c2 (by decide)
  have e1 : nI m - (1 : Int32) = nI (m - 1) := by
    have := nI_pred (m - 1)
    rw [show m - 1 + 1 = m by omega] at this
    exact this
  have z1 : (nI (m - 1)).toNatClampNeg = m - 1 := nI_clamp (by omega)
  have z2 : inB (nI (m - 1)) 3 = true := inB_nI (by omega) (by decide)
  unfold f_X9_sheet
  rw [fmt_e h h1 h2, bnd_e, if_neg (by decide), if_neg d1, if_pos d2, sO0 hs, gd_e, vl_e, sR0_5 hs, un_e, e1, sA6 hs, z2, gd_e, vl_e, z1, y6]
  by_cases c0 : a < 0
  · rw [if_pos c0, if_pos c0]
  · rw [if_neg c0, if_neg c0, vl_e, g.1, un_e, y1, gd_e, faces_e hs h1 h2, bnd_e]
    rfl
def ShP (s first n : Nat) (a k : Nat) : Prop := (a = 0 ∧ k = 7) ∨ (a = 45 ∧ k = 23) ∨ ((a = 63 ∨ a = 64 ∨ a = 65 ∨ a = 66) ∧ k = s) ∨ ((a = 54 ∨ a = 55) ∧ first ≤ k ∧ k < first + n) ∨ (a = 70 ∧ 120 * s ≤ k ∧ k < 120 * s + 120)
set_option maxRecDepth 100000 in
theorem sheetC_e {h : Hp} (hs : SH h) (g : IGeo h) (x : IFix h) {m first c : Nat} (h1 : 1 ≤ m) (h2 : m ≤ 3) (c2 : c ≤ 60) (hf : first + 2 * 2 ^ m ≤ nP h) (h6 : nS h < 6) : ∃ hA, ShK h 0 (nI first) (nI c) (29 + 4 * m) h = some (nI (nS h), hA) ∧ SH hA ∧ (gN hA = gN h + 14 ∧ gS hA ≤ gS h + 2000) ∧ (∀ a, a < gN h → gK hA a = gK h a ∧ gL hA a = gL h a) ∧ (∀ a k, a < gN h → ¬ (a = 7 ∧ k = nS h) → ¬ (∃ j, j < 2 * 2 ^ m ∧ a = pb h (first + j) ∧ k = 7) → gR hA a k = gR h a k) ∧ (∀ a k, a < gN h → ¬ (a = 0 ∧ k = 7) → gI hA a k = gI h a k) ∧ gR hA 7 (nS h) = some (gN h) ∧ ShN hA (gN h) (2 ^ m) c (nI first) ∧ (∀ k, k < 2 * 2 ^ m → gR hA (gN h + 1 + 6 * (k % 2) + 4) (k / 2) = some (pb h (first + tab m k)) ∧ gR hA (pb h (first + tab m k)) 7 = some (gN h + 1 + 6 * (k % 2))) ∧ gI hA 0 7 = nI (nS h + 1) := by
  have h88 := hs.1
  have hP := g.2.1
  have e7 := g.2.2.1
  obtain ⟨p2, p8⟩ := p2m h1 h2
  obtain ⟨y1, -, -, -, -, -⟩ := fold_f hs h1 h2
  have hsN : SH (nw h 7 8 0) := SH_ag hs (by rw [xN_nw]; omega) (fun a ha => by rw [xK_nw, if_neg (by omega), xL_nw, if_neg (by omega)]; exact ⟨rfl, rfl⟩) (fun a j ha _ _ => by rw [gR_nw, if_neg (by omega)])
  obtain ⟨hB, B1, ⟨B2, B3⟩, B4, B5, B6⟩ := x7_e (h := h) (l := 2 ^ m) p8 c2 (nI first)
  have hsB : SH hB := SH_ag hs (by omega) (fun a ha => B4 a (by omega)) (fun a j ha _ _ => (B5 a j (by omega)).1)
  obtain ⟨hC, eC⟩ : ∃ y, y = sR hB 7 (nS h) (some (gN h)) := ⟨_, rfl⟩
  have nC' : gN hC = gN h + 14 := by rw [eC, xN_sR, B2]
  have kC : ∀ a, gK hC a = gK hB a ∧ gL hC a = gL hB a := fun a => by rw [eC, xK_sR, xL_sR]; exact ⟨rfl, rfl⟩
  have rC : ∀ a k, ¬ (a = 7 ∧ k = nS h) → gR hC a k = gR hB a k := fun a k q => by rw [eC, xR_sR, if_neg q]
  have rC7 : gR hC 7 (nS h) = some (gN h) := by rw [eC, xR_sR, if_pos ⟨rfl, rfl⟩]
  have iC : ∀ a k, gI hC a k = gI hB a k := fun a k => by rw [eC, xI_sR]
  have hsC : SH hC := SH_ag hsB (by omega) (fun a _ => kC a) (fun a j _ _ q => rC a j (by omega))
  have snC : ShN hC (gN h) (2 ^ m) c (nI first) := ShN_ag B6 (by omega) (fun a _ => kC a) (fun a j ha => rC a j (by omega)) (fun a k _ _ => iC a k)
  have pgC : ∀ j, j < 2 * 2 ^ m → gR hC 5 (first + j) = some (pb h (first + j)) ∧ gK hC (pb h (first + j)) = 6 ∧ 88 ≤ pb h (first + j) ∧ pb h (first + j) + 4 ≤ gN h := fun j hj => by
    obtain ⟨q1, q2, q3, q4, -⟩ := g.2.2.2.2.1 (first + j) (by omega)
    exact ⟨by rw [rC _ _ (by omega), (B5 _ _ (by omega)).1]; exact q1, by rw [(kC _).1, (B4 _ (by omega)).1]; exact q4, q2, q3⟩
  have pinj : ∀ u v, u < 2 * 2 ^ m → v < 2 * 2 ^ m → pb h (first + u) = pb h (first + v) → u = v := fun u v hu hv e => by
    rcases dPP g (p := first + u) (r := first + v) (by omega) (by omega) with w | w | w
    · omega
    · omega
    · omega
  obtain ⟨hD, D1, D2, D3⟩ := tkP_e hsC (P := pb h) (first := first) (b := gN h) (c := c) h1 h2 h88 (by omega) (by omega) snC.1.1 snC.1.2.1 snC.1.2.2.1 snC.2.1.1 snC.2.1.2 snC.2.2.1.1 snC.2.2.1.2.2.1 (fun k hk => by rw [iC, (B5 _ _ (by omega)).2]; exact ((x m h1 h2).2.2.1 k hk).1) pgC pinj
  have lowD : ∀ a j, a < 88 → gR hD a j = gR hC a j := fun a j ha => D2.2 a j (fun w => by
    rcases w with ⟨y, y1, y2, -⟩ | w | w
    · have := (pgC y y1).2.2.1; omega
    · omega
    · omega)
  have hsD : SH hD := SH_ag hsC (by rw [D2.1.1]; omega) (fun a _ => ⟨D2.1.2.2.1 a, D2.1.2.2.2.1 a⟩) (fun a j ha _ _ => lowD a j ha)
  have e7C : gI hC 0 7 = nI (nS h) := by rw [iC, (B5 _ _ (by omega)).2]; exact e7
  have e7D : gI hD 0 7 = nI (nS h) := by rw [D2.1.2.2.2.2]; exact e7C
  have uE : Upd hD (sI hD 0 7 (nI (nS h + 1))) (fun a k => a = 0 ∧ k = 7) := Upd_sI ⟨rfl, rfl⟩
  refine ⟨sI hD 0 7 (nI (nS h + 1)), ?_, hsD, ⟨by rw [xN_sI, D2.1.1]; exact nC', by rw [xS_sI, D2.1.2.1, eC, xS_sR]; exact B3⟩, fun a ha => ?_, fun a k ha q1 q2 => ?_, fun a k ha q1 => ?_, ?_, ?_, fun k hk => ?_, by rw [xI_sI, if_pos ⟨rfl, rfl⟩]⟩
  · have z1 : (nI (nS h)).toNatClampNeg = nS h := nI_clamp (by omega)
    have z2 : inB (nI (nS h)) 6 = true := inB_nI h6 (by decide)
    have y7 : nI (nS h) < (6 : Int32) := nI_lt (b := 6) h6 (by decide)
    have ob : okOb hC (gN h) 7 = true := okO_of (by omega) snC.1.1
    unfold ShK
    rw [sO0 hs, gd_e, vl_e, e7, if_pos y7, vl_e, sR0_6 hs, vl_e, vl_e, vl_e, (fold_f hsN h1 h2).1, gd_e, faces_e hsN h1 h2, bnd_e, B1, bnd_e, un_e, sA7 hsB, z2, gd_e, z1, vl_e, ← eC, vl_e, sR0_6 hsC, vl_e, e7C, un_e, sA7 hsC, z2, gd_e, vl_e, z1, rC7, vl_e, sR0_3 hsC, un_e, un_e, ob, gd_e, D1, bnd_e, vl_e, e7D, vl_e, nI_1, vl_e, xI_sI, if_pos ⟨rfl, rfl⟩, nI_pred]
  · rw [xK_sI, xL_sI, D2.1.2.2.1, D2.1.2.2.2.1, (kC a).1, (kC a).2]; exact B4 a ha
  · rw [xR_sI, D2.2 a k (fun w => by
      rcases w with w | w | w
      · exact q2 w
      · omega
      · omega), rC a k q1]
    exact (B5 a k ha).1
  · rw [xI_sI, if_neg q1, D2.1.2.2.2.2, iC]; exact (B5 a k ha).2
  · rw [xR_sI, lowD _ _ (by omega)]; exact rC7
  · refine ShN_ag snC (by omega) (fun a _ => ⟨by rw [xK_sI]; exact D2.1.2.2.1 a, by rw [xL_sI]; exact D2.1.2.2.2.1 a⟩) (fun a j ha => ?_) (fun a k ha _ => by rw [xI_sI, if_neg (by omega)]; exact D2.1.2.2.2.2 a k)
    rw [xR_sI]
    refine D2.2 a j (fun w => ?_)
    rcases w with ⟨y, y1, y2, -⟩ | w | w
    · have := (pgC y y1).2.2.2; omega
    · omega
    · omega
  · rw [xR_sI, xR_sI]; exact D3 k hk
theorem fits {f n N : Nat} (hf : f < 2 ^ 31) (hn : n ≤ 16) (hN : N ≤ 48) : (nI f ≤ nI N - nI n ↔ f + n ≤ N) ∧ (lg_cmp ((nI f).toInt64 + (nI n).toInt64) ((nI N).toInt64) ≤ 0 ↔ f + n ≤ N) := by
  refine ⟨?_, ?_⟩
  · rw [le_iff, nI_toInt hf, pk_sub_toInt (by omega) (by omega)]
    omega
  · rw [lg_cmp_le, nI_l hf, nI_l (by omega), nI_l (by omega), lN_add, pk_lLE (by omega) (by omega)]
def ShJ (y22 : Nat) (y23 y24 y25 y26 : Int32) (h28 : Hp) : Option (Int32 × Hp) :=
gd (okOb h28 y22 10) <|
vl (gI h28 y22 23) fun x30 =>
if x30 = (6 : Int32) then (
some ((-4 : Int32), h28)) else (
vl (gI h28 y22 23) fun x32 =>
vl (gI h28 y22 23) fun x33 =>
vl (sI h28 y22 23 (x33 + (1 : Int32))) fun h34 =>
vl (gR h34 y22 19) fun r35 =>
un r35 fun b36 =>
gd (okAb h34 b36 11 x32) <|
vl (sI h34 b36 x32.toNatClampNeg y23) fun h38 =>
vl (gR h38 y22 20) fun r39 =>
un r39 fun b40 =>
gd (okAb h38 b40 11 x32) <|
vl (sI h38 b40 x32.toNatClampNeg y24) fun h42 =>
vl (gR h42 y22 21) fun r43 =>
un r43 fun b44 =>
gd (okAb h42 b44 11 x32) <|
vl (sI h42 b44 x32.toNatClampNeg y25) fun h46 =>
vl (gR h46 y22 22) fun r47 =>
un r47 fun b48 =>
gd (okAb h46 b48 11 x32) <|
vl (sI h46 b48 x32.toNatClampNeg (-1 : Int32)) fun h50 =>
f_X10_sheet_L150 (fun y58 y59 y60 y61 y62 y63 y64 h65 =>
f_X10_sheet_L177 (fun y77 y78 y79 y80 y81 y82 y83 h84 =>
f_X10_sheet_L214 6000 y77 y78 y79 y80 y81 y82 (0 : Int32) h84) 6000 y58 y59 y60 y61 y62 y63 (0 : Int32) h65) 6000 y22 y23 y24 y25 y26 x32 (0 : Int32) h50)
set_option maxRecDepth 100000 in
theorem sheetM_0 {h : Hp} (hs : SH h) {m c N : Nat} (e11 : gI h 45 11 = nI N) (h1 : 1 ≤ m) (h2 : m ≤ 3) (c1 : 1 ≤ c) (c2 : c ≤ 60) (a : Int32) : f_X10_sheet h 45 (nI m) a (nI c) = if a < 0 then some (-1, h) else if lg_cmp (a.toInt64 + (nI (2 * 2 ^ m)).toInt64) ((nI N).toInt64) ≤ 0 then f_X10_sheet_L59 (fun y22 y23 y24 y25 y26 y27 h28 => ShJ y22 y23 y24 y25 y26 h28) 6000 45 (nI m) a (nI c) (nI (2 * 2 ^ m)) 0 h else some (-1, h) := by
  have d1 : (1 : Int64).toInt ≤ (nI m).toInt ∧ (nI m).toInt ≤ (3 : Int64).toInt := by
    rw [nI_toInt (by omega)]
    show (1 : Int) ≤ m ∧ (m : Int) ≤ 3
    omega
  have d2 : (1 : Int64).toInt ≤ (nI c).toInt ∧ (nI c).toInt ≤ (60 : Int64).toInt := by
    rw [nI_toInt (by omega)]
    show (1 : Int) ≤ c ∧ (c : Int) ≤ 60
    omega
  unfold f_X10_sheet
  rw [isIn_i, if_pos d1, isIn_i, if_pos d2, leaves_e h h1 h2, bnd_e, vl_e, mul2]
  by_cases c0 : a < 0
  · rw [if_pos c0, if_pos c0]
  · rw [if_neg c0, if_neg c0, sO45 hs, gd_e, vl_e, e11]
    rfl
set_option maxRecDepth 100000 in
theorem sheetM_e {h : Hp} (hs : SH h) {m first s c : Nat} (h1 : 1 ≤ m) (h2 : m ≤ 3) (hf : first + 2 * 2 ^ m ≤ 48) (h6 : s < 6) (e23 : gI h 45 23 = nI s) (e59 : ∀ k, k < 2 * 2 ^ m → gI h 59 (16 * m + k) = nI (tab m k)) : ∃ h3, ShJ 45 (nI m) (nI first) (nI c) (nI (2 * 2 ^ m)) h = some (nI s, h3) ∧ Upd h h3 (ShP s first (2 * 2 ^ m)) ∧ (∀ k, gI h3 0 k = gI h 0 k) ∧ gI h3 45 23 = nI (s + 1) ∧ gI h3 63 s = nI m ∧ gI h3 64 s = nI first ∧ gI h3 65 s = nI c ∧ gI h3 66 s = -1 ∧ (∀ k, k < 2 * 2 ^ m → gI h3 54 (first + k) = nI s) ∧ (∀ k, k < 2 * 2 ^ m → gI h3 55 (first + tab m k) = nI k) ∧ ∀ k, k < 120 → gI h3 70 (120 * s + k) = -1 := by
  obtain ⟨p2, p8⟩ := p2m h1 h2
  have z1 : (nI s).toNatClampNeg = s := nI_clamp (by omega)
  have z2 : inB (nI s) 6 = true := inB_nI h6 (by decide)
  have y6 : ¬ nI s = (6 : Int32) := fun w => absurd ((nI_eq (b := 6) (by omega) (by decide)).mp w) (by omega)
  obtain ⟨hA, eA⟩ : ∃ y, y = sI (sI (sI (sI (sI h 45 23 (nI (s + 1))) 63 s (nI m)) 64 s (nI first)) 65 s (nI c)) 66 s (-1) := ⟨_, rfl⟩
  have uA : Upd h hA (fun a k => (a = 45 ∧ k = 23) ∨ ((a = 63 ∨ a = 64 ∨ a = 65 ∨ a = 66) ∧ k = s)) := by
    rw [eA]
    exact ((((Upd_sI (by omega)).tr (Upd_sI (by omega))).tr (Upd_sI (by omega))).tr (Upd_sI (by omega))).tr (Upd_sI (by omega))
  have hsA := uA.sh hs
  obtain ⟨hB, B1, B2, B3⟩ := sh_150 hsA (n := 2 * 2 ^ m) (first := first) (s := s) (by omega) hf (fun y58 y59 y60 y61 y62 y63 y64 h65 =>
f_X10_sheet_L177 (fun y77 y78 y79 y80 y81 y82 y83 h84 =>
f_X10_sheet_L214 6000 y77 y78 y79 y80 y81 y82 (0 : Int32) h84) 6000 y58 y59 y60 y61 y62 y63 (0 : Int32) h65) (nI m) (nI c)
  have hsB := B2.sh hsA
  obtain ⟨hC, C1, C2, C3⟩ := sh_177 hsB (first := first) h1 h2 hf (fun k hk => by rw [B2.2 _ _ (by omega), uA.2 _ _ (by omega)]; exact e59 k hk) (fun y77 y78 y79 y80 y81 y82 y83 h84 =>
f_X10_sheet_L214 6000 y77 y78 y79 y80 y81 y82 (0 : Int32) h84) (nI c) (nI s)
  have hsC := C2.sh hsB
  obtain ⟨hD, D1, D2, D3⟩ := sh_214 hsC h6 (nI m) (nI first) (nI c) (nI (2 * 2 ^ m))
  have lowA : ∀ a k, ¬ (a = 54 ∨ a = 55 ∨ a = 70) → gI hD a k = gI hA a k := fun a k q => by rw [D2.2 _ _ (by omega), C2.2 _ _ (by omega), B2.2 _ _ (by omega)]
  refine ⟨hD, ?_, (((uA.mono (fun a k w => by unfold ShP; omega)).tr (B2.mono (fun a k w => by unfold ShP; omega))).tr (C2.mono (fun a k w => by unfold ShP; omega))).tr (D2.mono (fun a k w => by unfold ShP; omega)), fun k => ?_, ?_, ?_, ?_, ?_, ?_, fun k hk => ?_, fun k hk => ?_, D3⟩
  · unfold ShJ
    rw [sO45 hs, gd_e, vl_e, e23, if_neg y6, vl_e, vl_e, vl_e, nI_1]
    simp only [z1, z2, hs, and_self, if_true, if_false, n_1_0, n_0_0, okOb_sI, okAb_sI, okOb_sW, okAb_sW, vl_e, un_e, nl_s, nl_n, bnd_e, gd_e, SH_sI, SH_sW, xI_sI, xR_sI, xL_sI, xK_sI, xN_sI, gI_sW, xR_sW, xL_sW, xK_sW, xN_sW, sO0, sO1, sO2, sA2, sL2, sO3, sA3, sL3, sO4, sA4, sL4, sO5, sA5, sL5, sO6, sA6, sL6, sO7, sA7, sL7, sO8, sA8, sL8, sO9, sO10, sA10, sL10, sO11, sA11, sL11, sO12, sA12, sL12, sO13, sO14, sA14, sL14, sO15, sA15, sL15, sO16, sA16, sL16, sO17, sA17, sL17, sO18, sA18, sL18, sO19, sA19, sL19, sO20, sO21, sA21, sL21, sO22, sA22, sL22, sO23, sA23, sL23, sO24, sA24, sL24, sO25, sO26, sA26, sL26, sO27, sA27, sL27, sO28, sA28, sL28, sO29, sA29, sL29, sO30, sA30, sL30, sO31, sA31, sL31, sO32, sA32, sL32, sO33, sO34, sA34, sL34, sO35, sA35, sL35, sO36, sA36, sL36, sO37, sO38, sA38, sL38, sO39, sA39, sL39, sO40, sA40, sL40, sO41, sO42, sA42, sL42, sO43, sA43, sL43, sO44, sA44, sL44, sO45, sO46, sA46, sL46, sO47, sA47, sL47, sO48, sA48, sL48, sO49, sA49, sL49, sO50, sA50, sL50, sO51, sA51, sL51, sO52, sA52, sL52, sO53, sA53, sL53, sO54, sA54, sL54, sO55, sA55, sL55, sO56, sA56, sL56, sO57, sA57, sL57, sO58, sA58, sL58, sO59, sA59, sL59, sO60, sA60, sL60, sO61, sA61, sL61, sO62, sA62, sL62, sO63, sA63, sL63, sO64, sA64, sL64, sO65, sA65, sL65, sO66, sA66, sL66, sO67, sA67, sL67, sO68, sA68, sL68, sO69, sA69, sL69, sO70, sA70, sL70, sO71, sA71, sL71, sO72, sA72, sL72, sO73, sA73, sL73, sO74, sA74, sL74, sO75, sA75, sL75, sO76, sA76, sL76, sO77, sA77, sL77, sO78, sA78, sL78, sO79, sA79, sL79, sO80, sA80, sL80, sO81, sA81, sL81, sO82, sA82, sL82, sO83, sA83, sL83, sO84, sA84, sL84, sO85, sA85, sL85, sO86, sA86, sL86, sO87, sA87, sL87, sR0_0, sR0_1, sR0_2, sR0_3, sR0_5, sR0_6, sR0_8, sR0_10, sR0_11, sR0_12, sR0_13, sR1_0, sR6_0, sR6_1, sR6_2, sR9_0, sR9_1, sR9_2, sR13_0, sR13_1, sR13_2, sR13_3, sR13_4, sR13_5, sR20_0, sR20_1, sR20_2, sR20_3, sR25_0, sR25_1, sR25_2, sR25_4, sR25_5, sR25_6, sR25_7, sR33_2, sR33_3, sR37_2, sR37_3, sR41_2, sR41_3, sR45_0, sR45_1, sR45_3, sR45_4, sR45_5, sR45_6, sR45_7, sR45_8, sR45_9, sR45_10, sR45_12, sR45_13, sR45_14, sR45_15, sR45_16, sR45_17, sR45_18, sR45_19, sR45_20, sR45_21, sR45_22, sR45_25, sR45_26, sR45_27, sR45_28, sR45_29, sR45_30, sR45_31, sR45_32, sR45_33, sR45_34, sR45_35, sR45_36, sR45_40, sR45_41, sR45_42, sR45_43, sR45_45, sR45_46, sR45_47, sR45_48, sR45_49]
    rw [← eA, B1, C1, D1]
  · rw [lowA _ _ (by omega), uA.2 _ _ (by omega)]
  · rw [lowA _ _ (by omega), eA, xI_sI, if_neg (by omega), xI_sI, if_neg (by omega), xI_sI, if_neg (by omega), xI_sI, if_neg (by omega), xI_sI, if_pos ⟨rfl, rfl⟩]
  · rw [lowA _ _ (by omega), eA, xI_sI, if_neg (by omega), xI_sI, if_neg (by omega), xI_sI, if_neg (by omega), xI_sI, if_pos ⟨rfl, rfl⟩]
  · rw [lowA _ _ (by omega), eA, xI_sI, if_neg (by omega), xI_sI, if_neg (by omega), xI_sI, if_pos ⟨rfl, rfl⟩]
  · rw [lowA _ _ (by omega), eA, xI_sI, if_neg (by omega), xI_sI, if_pos ⟨rfl, rfl⟩]
  · rw [lowA _ _ (by omega), eA, xI_sI, if_pos ⟨rfl, rfl⟩]
  · rw [D2.2 _ _ (by omega), C2.2 _ _ (by omega)]; exact B3 k hk
  · rw [D2.2 _ _ (by omega)]; exact C3 k hk
