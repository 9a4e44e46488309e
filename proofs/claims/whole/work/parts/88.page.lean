/-- a byte's code, as class and reference tell it -/
def sgc (b : Int32) : Int32 := if b < (97 : Int32) then (if b = (32 : Int32) then 32 else if b = (10 : Int32) then 33 else -1) else if (122 : Int32) < b then (if b = (32 : Int32) then 32 else if b = (10 : Int32) then 33 else -1) else b - (97 : Int32)
theorem signOf_e (h : Hp) (b : Int32) : f_X10_signOf h b = some (sgc b, h) := by
  unfold f_X10_signOf sgc
  split
  · split
    · rfl
    · split <;> rfl
  · split
    · split
      · rfl
      · split <;> rfl
    · rfl
theorem codeAt_e {h : Hp} (hs : SH h) {B : Nat → Int32} {z : Nat} (tp : TpC h B z) {p : Nat} (hp : p < 2 ^ 30) : f_X8_codeAt h 1 (nI p) = some (sgc (B p), h) := by
  unfold f_X8_codeAt
  rw [sO1 hs, gd_e, byteAt_e hs tp hp, bnd_e]
  unfold sgc
  split
  · split
    · rfl
    · split <;> rfl
  · split
    · split
      · rfl
      · split <;> rfl
    · rfl
theorem sgc_c (b : Int32) : sgc b = -1 ∨ code9 (sgc b) := by
  unfold sgc
  split
  · split
    · exact Or.inr ⟨32, by decide, rfl⟩
    · split
      · exact Or.inr ⟨33, by decide, rfl⟩
      · exact Or.inl rfl
  · rename_i h1
    split
    · split
      · exact Or.inr ⟨32, by decide, rfl⟩
      · split
        · exact Or.inr ⟨33, by decide, rfl⟩
        · exact Or.inl rfl
    · rename_i h2
      right
      rw [lt_iff] at h1 h2
      have h1 : ¬ b.toInt < 97 := h1
      have h2 : ¬ 122 < b.toInt := h2
      obtain ⟨j, hj, rfl⟩ := of_rng (b := 123) (by decide) (by omega) (show b.toInt < (123 : Nat) by omega)
      rw [nI_toInt (by omega)] at h1
      exact ⟨j - 97, Or.inl (by omega), by rw [show (97 : Int32) = nI 97 from rfl, pk_sub (by omega)]⟩
theorem code9_ge {x : Int32} (h : code9 x) : 0 ≤ x ∧ ¬ x = -1 := by
  obtain ⟨c, h1, rfl⟩ := h
  exact ⟨nI_pos' (by omega), nm1 (by omega)⟩
def bdF (B : Nat → Int32) : Nat → Nat → Option Nat
  | 0, _ => none
  | m + 1, k => if k = 120 ∨ sgc (B k) = -1 then some k else bdF B m (k + 1)
theorem bdF_n {B : Nat → Int32} : ∀ (m k : Nat), bdF B m k = none → ∀ j, k ≤ j → j < k + m → j ≠ 120 ∧ code9 (sgc (B j))
  | 0, k, _, j, h1, h2 => by omega
  | m + 1, k, e, j, h1, h2 => by
    unfold bdF at e
    by_cases c : k = 120 ∨ sgc (B k) = -1
    · rw [if_pos c] at e; cases e
    · rw [if_neg c] at e
      by_cases cj : j = k
      · subst cj
        refine ⟨fun w => c (Or.inl w), ?_⟩
        rcases sgc_c (B j) with w | w
        · exact absurd (Or.inr w) c
        · exact w
      · exact bdF_n m (k + 1) e j (by omega) (by omega)
set_option maxRecDepth 100000 in
theorem fnoc_e {h : Hp} (hs : SH h) {B : Nat → Int32} {z : Nat} (tp : TpC h B z) : f_X8_firstNotOfCopy h 1 = some (wI (bdF B z 0), h) := by
  have hz := tp.2.1
  have e0 : (if (120 : Int32) < nI z then (120 : Int32) else nI z) = nI (min z 120) := by
    by_cases c : 120 < z
    · have c1 : (120 : Int32) < nI z := nI_lt (a := 120) c (by omega)
      rw [if_pos c1, show min z 120 = 120 by omega]; rfl
    · have c1 : ¬ (120 : Int32) < nI z := nI_nlt (a := 120) (by omega) (by decide)
      rw [if_neg c1, show min z 120 = z by omega]
  have E : f_X8_firstNotOfCopy h 1 = f_X8_firstNotOfCopy_L12 6000 1 (nI (min z 120)) (nI 0) h := by
    unfold f_X8_firstNotOfCopy
    rw [sO1 hs, gd_e, vl_e, vl_e, tp.1, e0]
    rfl
  rw [E]
  have L : ∀ (m fuel k : Nat), k + m = min z 120 → m < fuel → f_X8_firstNotOfCopy_L12 fuel 1 (nI (min z 120)) (nI k) h = some (wI (bdF B (z - k) k), h) := by
    intro m
    induction m with
    | zero =>
      intro fuel k hk hf
      match fuel, hf with
      | fuel + 1, _ =>
        rw [f_X8_firstNotOfCopy_L12, if_pos (nI_le (by omega) (by omega)), sO1 hs, gd_e, vl_e, tp.1]
        by_cases c : z ≤ 120
        · have c1 : nI z ≤ (120 : Int32) := nI_le (b := 120) c (by decide)
          rw [if_pos c1, show z - k = 0 by omega]; rfl
        · have c1 : ¬ nI z ≤ (120 : Int32) := nI_ge (a := 120) (by omega) (by omega)
          have ek : k = 120 := by omega
          rw [if_neg c1, show z - k = (z - k - 1) + 1 by omega, bdF, if_pos (Or.inl ek), ek]; rfl
    | succ m ih =>
      intro fuel k hk hf
      match fuel, hf with
      | fuel + 1, hf =>
        rw [f_X8_firstNotOfCopy_L12, if_neg (nI_ge (by omega) (by omega)), sO1 hs, gd_e, codeAt_e hs tp (by omega), bnd_e, show z - k = (z - (k + 1)) + 1 by omega, bdF]
        by_cases c : sgc (B k) = -1
        · rw [if_pos c, if_pos (Or.inr c)]; rfl
        · have nc : ¬ (k = 120 ∨ sgc (B k) = -1) := fun w => by rcases w with w | w; omega; exact c w
          rw [if_neg c, if_neg nc, vl_e, nI_1]
          exact ih fuel (k + 1) (by omega) (by omega)
  exact L (min z 120) 6000 0 (by omega) (by omega)
theorem page_34 {h : Hp} (hs : SH h) {B : Nat → Int32} {z : Nat} (hz : z ≤ 300) (e46 : ∀ j, j < z → gI h 46 j = B j) (K : Nat → Int32 → Int32 → Hp → Option (Int32 × Hp)) : ∀ (m fuel k : Nat), k + m = z → m < fuel → f_X10_page_L34 K fuel 45 (nI z) (nI k) h = match bdF B m k with
    | some j => some ((-10 : Int32) - nI j, h)
    | none => K 45 (nI z) (nI z) h := by
  intro m
  induction m with
  | zero =>
    intro fuel k hk hf
    match fuel, hf with
    | fuel + 1, _ =>
      rw [f_X10_page_L34, if_pos (nI_le (by omega) (by omega)), show k = z by omega]
      rfl
  | succ m ih =>
    intro fuel k hk hf
    match fuel, hf with
    | fuel + 1, hf =>
      rw [f_X10_page_L34, if_neg (nI_ge (by omega) (by omega)), bdF]
      by_cases c1 : k = 120
      · have c2 : nI k = (120 : Int32) := by rw [c1]; rfl
        rw [if_pos c2, if_pos (Or.inl c1)]
      · have c2 : ¬ nI k = (120 : Int32) := fun w => c1 ((nI_eq (b := 120) (by omega) (by decide)).mp w)
        have z1 : (nI k).toNatClampNeg = k := nI_clamp (by omega)
        have z2 : inB (nI k) 300 = true := inB_nI (by omega) (by decide)
        rw [if_neg c2, sO45 hs, gd_e, vl_e, sR45_0 hs, un_e, sA46 hs, z2, gd_e, vl_e, z1, e46 k (by omega), signOf_e, bnd_e]
        by_cases c : sgc (B k) = -1
        · rw [c, if_neg m1_neg, if_pos (Or.inr rfl)]
        · have c9 : code9 (sgc (B k)) := by
            rcases sgc_c (B k) with w | w
            · exact absurd w c
            · exact w
          have nc : ¬ (k = 120 ∨ sgc (B k) = -1) := fun w => by rcases w with w | w; exact c1 w; exact c w
          rw [if_pos (code9_ge c9).1, if_neg nc, vl_e, nI_1]
          exact ih fuel (k + 1) (by omega) (by omega)
theorem rT_lt : ∀ q ∈ rT, q.1 < 88 ∧ q.1 ≠ 5 ∧ q.1 ≠ 7 := by decide +kernel
theorem SH_ag {h h2 : Hp} (s : SH h) (n : 88 ≤ gN h2) (k : ∀ a, a < 88 → gK h2 a = gK h a ∧ gL h2 a = gL h a) (r : ∀ a j, a < 88 → a ≠ 5 → a ≠ 7 → gR h2 a j = gR h a j) : SH h2 := by
  refine ⟨n, fun a ha => ?_, fun q hq => ?_⟩
  · rw [(k a ha).1, (k a ha).2]; exact s.2.1 a ha
  · obtain ⟨q1, q2, q3⟩ := rT_lt q hq
    rw [r _ _ q1 q2 q3]; exact s.2.2 q hq
theorem xN_sR (h : Hp) (a k : Nat) (v : Option Nat) : gN (sR h a k v) = gN h := of_eq_true (eq_self (gN h))
theorem xS_sR (h : Hp) (a k : Nat) (v : Option Nat) : gS (sR h a k v) = gS h := of_eq_true (eq_self (gS h))
theorem xK_sR (h : Hp) (a k : Nat) (v : Option Nat) (b : Nat) : gK (sR h a k v) b = gK h b := of_eq_true (eq_self (gK h b))
theorem xL_sR (h : Hp) (a k : Nat) (v : Option Nat) (b : Nat) : gL (sR h a k v) b = gL h b := of_eq_true (eq_self (gL h b))
theorem xI_sR (h : Hp) (a k : Nat) (v : Option Nat) (b j : Nat) : gI (sR h a k v) b j = gI h b j := of_eq_true (eq_self (gI h b j))
theorem xR_sR (h : Hp) (a k : Nat) (v : Option Nat) (b j : Nat) : gR (sR h a k v) b j = if b = a ∧ j = k then v else gR h b j := of_eq_true (eq_self (if b = a ∧ j = k then v else gR h b j))
theorem xN_nw (h : Hp) (kd n ln : Nat) : gN (nw h kd n ln) = gN h + 1 := of_eq_true (eq_self (gN h + 1))
theorem xS_nw (h : Hp) (kd n ln : Nat) : gS (nw h kd n ln) = gS h + n := of_eq_true (eq_self (gS h + n))
theorem xK_nw (h : Hp) (kd n ln b : Nat) : gK (nw h kd n ln) b = if b = gN h then kd else gK h b := of_eq_true (eq_self (if b = gN h then kd else gK h b))
theorem xL_nw (h : Hp) (kd n ln b : Nat) : gL (nw h kd n ln) b = if b = gN h then ln else gL h b := of_eq_true (eq_self (if b = gN h then ln else gL h b))
theorem xS_sI (h : Hp) (a k : Nat) (v : Int32) : gS (sI h a k v) = gS h := of_eq_true (eq_self (gS h))
/-- a heap grown by four cells: a page -/
def h7P (h : Hp) (v : Int32) (z : Nat) : Hp := sR (nw (sR (nw (sR (nw (sI (nw h 6 8 0) (gN h) 0 v) 11 z z) (gN h) 1 (some (gN h + 1))) 11 z z) (gN h) 2 (some (gN h + 2))) 11 z z) (gN h) 3 (some (gN h + 3))
theorem h7_N (h : Hp) (v : Int32) (z : Nat) : gN (h7P h v z) = gN h + 4 ∧ gS (h7P h v z) = gS h + 8 + 3 * z := by
  unfold h7P
  rw [xN_sR, xN_nw, xN_sR, xN_nw, xN_sR, xN_nw, xN_sI, xN_nw, xS_sR, xS_nw, xS_sR, xS_nw, xS_sR, xS_nw, xS_sI, xS_nw]
  refine ⟨rfl, ?_⟩
  omega
theorem h7_o {h : Hp} (v : Int32) (z : Nat) {a : Nat} (ha : a < gN h) : gK (h7P h v z) a = gK h a ∧ gL (h7P h v z) a = gL h a ∧ (∀ k, gR (h7P h v z) a k = gR h a k) ∧ ∀ k, gI (h7P h v z) a k = gI h a k := by
  unfold h7P
  refine ⟨?_, ?_, fun k => ?_, fun k => ?_⟩
  · simp only [xK_sR, xK_nw, xK_sI, xN_sR, xN_nw, xN_sI]
    rw [if_neg (by omega), if_neg (by omega), if_neg (by omega), if_neg (by omega)]
  · simp only [xL_sR, xL_nw, xL_sI, xN_sR, xN_nw, xN_sI]
    rw [if_neg (by omega), if_neg (by omega), if_neg (by omega), if_neg (by omega)]
  · simp only [xR_sR, gR_nw, xR_sI, xN_sR, xN_nw, xN_sI]
    repeat rw [if_neg (by omega)]
  · simp only [xI_sR, gI_nw, xI_sI, xN_sR, xN_nw, xN_sI]
    repeat rw [if_neg (by omega)]
theorem h7_n (h : Hp) (v : Int32) (z : Nat) : gK (h7P h v z) (gN h) = 6 ∧ (∀ i, 1 ≤ i → i ≤ 3 → gK (h7P h v z) (gN h + i) = 11 ∧ gL (h7P h v z) (gN h + i) = z ∧ gR (h7P h v z) (gN h) i = some (gN h + i)) ∧ gR (h7P h v z) (gN h) 7 = none ∧ gI (h7P h v z) (gN h) 0 = v ∧ gI (h7P h v z) (gN h) 5 = 0 := by
  have n1 : ¬ gN h = gN h + 1 := by omega
  have n2 : ¬ gN h = gN h + 1 + 1 := by omega
  have n3 : ¬ gN h = gN h + 1 + 1 + 1 := by omega
  unfold h7P
  refine ⟨?_, fun i h1 h2 => ?_, ?_, ?_, ?_⟩
  · simp only [xK_sR, xK_nw, xK_sI, xN_sR, xN_nw, xN_sI]
    simp [n1, n2, n3]
  · have hi : i = 1 ∨ i = 2 ∨ i = 3 := by omega
    simp only [xK_sR, xK_nw, xK_sI, xL_sR, xL_nw, xL_sI, xR_sR, gR_nw, xR_sI, xN_sR, xN_nw, xN_sI]
    rcases hi with rfl | rfl | rfl
    · refine ⟨?_, ?_, ?_⟩
      · simp [n1, n2, n3]
      · simp [n1, n2, n3]
      · simp [n1, n2, n3]
    · refine ⟨?_, ?_, ?_⟩
      · simp [n1, n2, n3]
      · simp [n1, n2, n3]
      · simp [n1, n2, n3]
    · refine ⟨?_, ?_, ?_⟩
      · simp [n1, n2, n3]
      · simp [n1, n2, n3]
      · simp [n1, n2, n3]
  · simp only [xR_sR, gR_nw, xR_sI, xN_sR, xN_nw, xN_sI]
    simp [n1, n2, n3]
  · simp only [xI_sR, gI_nw, xI_sI, xN_sR, xN_nw, xN_sI]
    simp [n1, n2, n3]
  · simp only [xI_sR, gI_nw, xI_sI, xN_sR, xN_nw, xN_sI]
    simp [n1, n2, n3]
theorem okN_of {z : Nat} (h : z ≤ 65536) : okN (nI z) = true := by
  unfold okN
  have := nI_toInt (n := z) (by omega)
  simp [this]
  omega
theorem okO_nw2 {h : Hp} {a k kd n l : Nat} (h1 : a < gN h) (h2 : gK h a = k) : okOb (nw h kd n l) a k = true := okO_of (by rw [gN_nw]; omega) (by rw [gK_nw, if_neg (by omega)]; exact h2)
set_option maxRecDepth 100000 in
theorem pgI_e {h : Hp} (hs : SH h) {z : Nat} (hz : z ≤ 300) (e1 : gI h 1 1 = nI z) (v : Int32) : f_X6_init (nw h 6 8 0) (gN h) v 1 = f_X6_init_L44 6000 (gN h) v 1 0 0 (h7P h v z) := by
  have h88 := hs.1
  have k1 : gK h 1 = 8 := (hs.2.1 1 (by decide)).1
  have z1 : (nI z).toNatClampNeg = z := nI_clamp (by omega)
  have o0 : okOb (nw h 6 8 0) (gN h) 6 = true := okO_of (by rw [gN_nw]; omega) (by rw [gK_nw, if_pos rfl])
  have o1 : okOb (sI (nw h 6 8 0) (gN h) 0 v) 1 8 = true := by rw [okOb_sI]; exact okO_nw2 (by omega) k1
  have i1 : gI (sI (nw h 6 8 0) (gN h) 0 v) 1 1 = nI z := by rw [gI_sI, if_neg (by omega), gI_nw, if_neg (by omega)]; exact e1
  unfold f_X6_init
  rw [o0, gd_e, vl_e, o1, gd_e, vl_e, i1, okN_of (by omega), gd_e, vl_e, z1, vl_e, vl_e]
  have i2 : gI (sR (nw (sI (nw h 6 8 0) (gN h) 0 v) 11 z z) (gN h) 1 (some (gN (sI (nw h 6 8 0) (gN h) 0 v)))) 1 1 = nI z := by
    rw [gI_sR, gI_nw, if_neg (by rw [gN_sI, gN_nw]; omega)]; exact i1
  rw [vl_e, i2, okN_of (by omega), gd_e, vl_e, z1, vl_e, vl_e]
  have i3 : ∀ x y, gI (sR (nw (sR (nw (sI (nw h 6 8 0) (gN h) 0 v) 11 z z) (gN h) 1 x) 11 z z) (gN h) 2 y) 1 1 = nI z := fun x y => by
    rw [gI_sR, gI_nw, if_neg (by rw [gN_sR, gN_nw, gN_sI, gN_nw]; omega), gI_sR, gI_nw, if_neg (by rw [gN_sI, gN_nw]; omega)]; exact i1
  rw [vl_e, i3, okN_of (by omega), gd_e, vl_e, z1, vl_e, vl_e]
  rfl
theorem codeLet {x : Int32} : (0 ≤ x.toInt ∧ x.toInt < 26) ↔ isLet x = true := by
  unfold isLet
  simp only [Bool.and_eq_true, decide_eq_true_eq]
set_option maxRecDepth 100000 in
theorem pgL_e {h : Hp} (hs : SH h) {B : Nat → Int32} {z : Nat} (tp : TpC h B z) {b : Nat} (hz0 : z < 2 ^ 30) (hb : b + 3 < gN h) (hb8 : 88 ≤ b) (k0 : gK h b = 6) (r1 : gR h b 1 = some (b + 1)) (k1 : gK h (b + 1) = 11) (l1 : gL h (b + 1) = z) (v : Int32) : ∃ h2, f_X6_init_L44 6000 b v 1 0 0 h = some ((), sI h2 b 4 (nI (cnt (fun k => isLet (sgc (B k))) z))) ∧ Upd h h2 (fun a _ => a = b + 1) ∧ ∀ k, k < z → gI h2 (b + 1) k = sgc (B k) := by
  refine forL z (fun m k (hh : Hp) => f_X6_init_L44 m b v 1 (nI (cnt (fun k => isLet (sgc (B k))) k)) (nI k) hh) (fun k hh => Upd h hh (fun a _ => a = b + 1) ∧ ∀ j, j < k → gI hh (b + 1) j = sgc (B j)) (fun x => ∃ h2, x = some ((), sI h2 b 4 (nI (cnt (fun k => isLet (sgc (B k))) z))) ∧ Upd h h2 (fun a _ => a = b + 1) ∧ ∀ k, k < z → gI h2 (b + 1) k = sgc (B k)) ?_ ?_ z 6000 0 h (by omega) (by have := tp.2.1; omega) ⟨Upd_rf _ _, fun j hj => absurd hj (Nat.not_lt_zero j)⟩
  · intro m k hh hk ⟨I1, I2⟩
    have hsh := I1.sh hs
    have tph : TpC hh B z := tp.fr I1 (by omega) (fun k => by omega)
    have o1 : okOb hh b 6 = true := okO_of (by rw [I1.1.1]; omega) (by rw [I1.1.2.2.1]; exact k0)
    have o2 : okOb hh (b + 1) 11 = true := okO_of (by rw [I1.1.1]; omega) (by rw [I1.1.2.2.1]; exact k1)
    have gl : gL hh (b + 1) = z := by rw [I1.1.2.2.2.1]; exact l1
    have oa : ∀ j, okAb hh (b + 1) 11 j = inB j z := fun j => okA_of j (by rw [I1.1.1]; omega) (by rw [I1.1.2.2.1]; exact k1) gl
    have rr : gR hh b 1 = some (b + 1) := by rw [I1.1.2.2.2.2]; exact r1
    have x0 : ¬ nI z ≤ nI k := nI_ge hk (by omega)
    have z1 : (nI k).toNatClampNeg = k := nI_clamp (by omega)
    have z2 : inB (nI k) z = true := inB_nI hk (by omega)
    have ca := codeAt_e hsh tph (p := k) (by omega)
    have e : cnt (fun k => isLet (sgc (B k))) (k + 1) = cnt (fun k => isLet (sgc (B k))) k + (if isLet (sgc (B k)) = true then 1 else 0) := rfl
    right
    refine ⟨sI hh (b + 1) k (sgc (B k)), ?_, I1.tr (Upd_sI rfl), fun j hj => ?_⟩
    · rw [f_X6_init_L44, e]
      simp only [o1, o2, gl, toI, rr, x0, z1, z2, oa, ca, sO1 hsh, gd_e, un_e, vl_e, bnd_e, if_false, xR_sI, okAb_sI, letC_i, nI_1, xI_sI, and_self, if_true, codeLet]
      by_cases c : isLet (sgc (B k)) = true
      · rw [if_pos c, if_pos c]
      · rw [if_neg c, if_neg c]; rfl
    · rw [xI_sI]
      by_cases cj : j = k
      · rw [if_pos ⟨rfl, cj⟩, cj]
      · rw [if_neg (fun w => cj w.2)]; exact I2 j (by omega)
  · intro m hh ⟨I1, I2⟩
    have o1 : okOb hh b 6 = true := okO_of (by rw [I1.1.1]; omega) (by rw [I1.1.2.2.1]; exact k0)
    have o2 : okOb hh (b + 1) 11 = true := okO_of (by rw [I1.1.1]; omega) (by rw [I1.1.2.2.1]; exact k1)
    have gl : gL hh (b + 1) = z := by rw [I1.1.2.2.2.1]; exact l1
    have rr : gR hh b 1 = some (b + 1) := by rw [I1.1.2.2.2.2]; exact r1
    have x0 : nI z ≤ nI z := nI_le (Nat.le_refl _) (by omega)
    refine ⟨hh, ?_, I1, I2⟩
    show f_X6_init_L44 (m + 1) b v 1 _ (nI z) hh = _
    rw [f_X6_init_L44]
    simp only [o1, o2, gl, toI, rr, x0, gd_e, un_e, vl_e, if_true]
