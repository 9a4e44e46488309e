/-- only references change, and only at places R -/
def RUp (h h2 : Hp) (R : Nat → Nat → Prop) : Prop := (gN h2 = gN h ∧ gS h2 = gS h ∧ (∀ a, gK h2 a = gK h a) ∧ (∀ a, gL h2 a = gL h a) ∧ ∀ a k, gI h2 a k = gI h a k) ∧ ∀ a k, ¬ R a k → gR h2 a k = gR h a k
theorem RUp_rf (h : Hp) (R : Nat → Nat → Prop) : RUp h h R := ⟨⟨rfl, rfl, fun _ => rfl, fun _ => rfl, fun _ _ => rfl⟩, fun _ _ _ => rfl⟩
theorem RUp.tr {h h1 h2 : Hp} {R : Nat → Nat → Prop} (u : RUp h h1 R) (w : RUp h1 h2 R) : RUp h h2 R := ⟨⟨w.1.1.trans u.1.1, w.1.2.1.trans u.1.2.1, fun a => (w.1.2.2.1 a).trans (u.1.2.2.1 a), fun a => (w.1.2.2.2.1 a).trans (u.1.2.2.2.1 a), fun a k => (w.1.2.2.2.2 a k).trans (u.1.2.2.2.2 a k)⟩, fun a k q => (w.2 a k q).trans (u.2 a k q)⟩
theorem RUp_sR {h : Hp} {R : Nat → Nat → Prop} {a k : Nat} {v : Option Nat} (p : R a k) : RUp h (sR h a k v) R := ⟨⟨rfl, rfl, fun _ => rfl, fun _ => rfl, fun _ _ => rfl⟩, fun b j q => by
  rw [xR_sR, if_neg]
  rintro ⟨rfl, rfl⟩
  exact q p⟩
def RTk (P : Nat → Nat) (first n b : Nat) (a k : Nat) : Prop := (∃ j, j < n ∧ a = P (first + j) ∧ k = 7) ∨ a = b + 5 ∨ a = b + 11
theorem o_shr1 {k : Nat} (hk : k < 2 ^ 31) : nI k >>> ((1 : Int32) &&& 31) = nI (k / 2) := pk_shrN hk _ 1 (by decide)
theorem p2m {m : Nat} (h1 : 1 ≤ m) (h2 : m ≤ 3) : 2 ≤ 2 ^ m ∧ 2 ^ m ≤ 8 := by
  rcases m3 h1 h2 with rfl | rfl | rfl <;> decide
set_option maxRecDepth 100000 in
theorem tkP_e {h : Hp} (hs : SH h) {m first b c : Nat} {P : Nat → Nat} (h1 : 1 ≤ m) (h2 : m ≤ 3) (hb : 88 ≤ b) (hn : b + 14 ≤ gN h) (hf : first + 2 * 2 ^ m ≤ 48) (k0 : gK h b = 7) (r3 : gR h b 3 = some (b + 1)) (r4 : gR h b 4 = some (b + 7)) (fo1 : FoOK h (b + 1) c (2 ^ m)) (fo2 : FoOK h (b + 7) c (2 ^ m)) (i0 : gI h b 0 = nI first) (i2 : gI h b 2 = nI (2 * 2 ^ m)) (it : ∀ k, k < 2 * 2 ^ m → gI h (30 + 4 * m) k = nI (tab m k)) (pg : ∀ j, j < 2 * 2 ^ m → gR h 5 (first + j) = some (P (first + j)) ∧ gK h (P (first + j)) = 6 ∧ 88 ≤ P (first + j) ∧ P (first + j) + 4 ≤ b) (pi : ∀ x y, x < 2 * 2 ^ m → y < 2 * 2 ^ m → P (first + x) = P (first + y) → x = y) : ∃ h2, f_X7_takePages h b (29 + 4 * m) 5 = some ((), h2) ∧ RUp h h2 (RTk P first (2 * 2 ^ m) b) ∧ ∀ k, k < 2 * 2 ^ m → gR h2 (b + 1 + 6 * (k % 2) + 4) (k / 2) = some (P (first + tab m k)) ∧ gR h2 (P (first + tab m k)) 7 = some (b + 1 + 6 * (k % 2)) := by
  have h88 := hs.1
  obtain ⟨p2, p8⟩ := p2m h1 h2
  obtain ⟨g1, g2, g3, g4, g5, g6⟩ := fold_f hs h1 h2
  have tl : ∀ k, k < 2 * 2 ^ m → tab m k < 2 * 2 ^ m := fun k hk => tab_lt h1 h2 hk
  refine forL (2 * 2 ^ m) (fun n k (hh : Hp) => f_X7_takePages_L2 n b (29 + 4 * m) 5 (nI k) hh) (fun k hh => RUp h hh (RTk P first (2 * 2 ^ m) b) ∧ ∀ j, j < k → gR hh (b + 1 + 6 * (j % 2) + 4) (j / 2) = some (P (first + tab m j)) ∧ gR hh (P (first + tab m j)) 7 = some (b + 1 + 6 * (j % 2))) (fun x => ∃ h2, x = some ((), h2) ∧ RUp h h2 (RTk P first (2 * 2 ^ m) b) ∧ ∀ k, k < 2 * 2 ^ m → gR h2 (b + 1 + 6 * (k % 2) + 4) (k / 2) = some (P (first + tab m k)) ∧ gR h2 (P (first + tab m k)) 7 = some (b + 1 + 6 * (k % 2))) ?_ ?_ (2 * 2 ^ m) 6000 0 h (by omega) (by omega) ⟨RUp_rf _ _, fun j hj => absurd hj (Nat.not_lt_zero j)⟩
  · intro n k hh hk ⟨I1, I2⟩
    have lowR : ∀ a j, a < 88 → gR hh a j = gR h a j := fun a j ha => I1.2 a j (fun w => by
      rcases w with ⟨y, y1, y2, -⟩ | w | w
      · have := (pg y y1).2.2.1; omega
      · omega
      · omega)
    have shh : SH hh := SH_ag hs (by rw [I1.1.1]; exact h88) (fun a _ => ⟨I1.1.2.2.1 a, I1.1.2.2.2.1 a⟩) (fun a j ha _ _ => lowR a j ha)
    obtain ⟨y1, y2, y3, y4, y5, -⟩ := fold_f shh h1 h2
    have hiR : ∀ a j, (a = b ∨ a = b + 1 ∨ a = b + 7) → gR hh a j = gR h a j := fun a j ha => I1.2 a j (fun w => by
      rcases w with ⟨y, y1, y2, -⟩ | w | w
      · have := (pg y y1).2.2.2; omega
      · omega
      · omega)
    have tk := tl k hk
    obtain ⟨q1, q2, q3, q4⟩ := pg (tab m k) tk
    have ob : okOb hh b 7 = true := okO_of (by rw [I1.1.1]; omega) (by rw [I1.1.2.2.1]; exact k0)
    have oP : okOb hh (P (first + tab m k)) 6 = true := okO_of (by rw [I1.1.1]; omega) (by rw [I1.1.2.2.1]; exact q2)
    have x0 : ¬ nI (2 * 2 ^ m) ≤ nI k := nI_ge hk (by omega)
    have z1 : (nI k).toNatClampNeg = k := nI_clamp (by omega)
    have z2 : inB (nI k) (2 * 2 ^ m) = true := inB_nI hk (by omega)
    have z3 : (nI (first + tab m k)).toNatClampNeg = first + tab m k := nI_clamp (by omega)
    have z4 : inB (nI (first + tab m k)) 48 = true := inB_nI (by omega) (by decide)
    have z5 : (nI (k / 2)).toNatClampNeg = k / 2 := nI_clamp (by omega)
    have z6 : inB (nI (k / 2)) (2 ^ m) = true := inB_nI (by omega) (by omega)
    have fo : FoOK h (b + 1 + 6 * (k % 2)) c (2 ^ m) := by
      rcases Nat.mod_two_eq_zero_or_one k with w | w
      · rw [w]; exact fo1
      · rw [w]; exact fo2
    have fe : b + 1 + 6 * (k % 2) = b + 1 ∨ b + 1 + 6 * (k % 2) = b + 7 := by omega
    have fOn : f_X7_formeOn hh b (nI k &&& 1) = some (some (b + 1 + 6 * (k % 2)), hh) := by
      unfold f_X7_formeOn
      rw [and1 (by omega)]
      rcases Nat.mod_two_eq_zero_or_one k with w | w
      · rw [w, if_pos (by decide), ob, gd_e, vl_e, hiR _ _ (by omega), r3]
      · rw [w, if_neg (by decide), ob, gd_e, vl_e, hiR _ _ (by omega), r4]
    generalize hF : b + 1 + 6 * (k % 2) = fk at *
    obtain ⟨d1, d2, -, -, -, -, -, d8, d9, -, -⟩ := fo
    have e5 : gR hh 5 (first + tab m k) = some (P (first + tab m k)) := by rw [lowR _ _ (by omega)]; exact q1
    generalize hp : P (first + tab m k) = p at *
    obtain ⟨hM, eM⟩ : ∃ x, x = sR hh p 7 (some fk) := ⟨_, rfl⟩
    have nM' : gN hM = gN h := by rw [eM, xN_sR]; exact I1.1.1
    have kM : ∀ a, gK hM a = gK h a := fun a => by rw [eM, xK_sR]; exact I1.1.2.2.1 a
    have lM : ∀ a, gL hM a = gL h a := fun a => by rw [eM, xL_sR]; exact I1.1.2.2.2.1 a
    have rM7 : gR hM p 7 = some fk := by rw [eM, xR_sR, if_pos ⟨rfl, rfl⟩]
    have rM0 : gR hM fk 0 = some (fk + 4) := by rw [eM, xR_sR, if_neg (by omega), hiR _ _ (by omega)]; exact d2
    have oM1 : okOb hM fk 2 = true := okO_of (by rw [nM']; omega) (by rw [kM]; exact d1)
    have oM2 : ∀ j, okAb hM (fk + 4) 14 j = inB j (2 ^ m) := fun j => okA_of j (by rw [nM']; omega) (by rw [kM]; exact d8) (by rw [lM]; exact d9)
    right
    refine ⟨sR hM (fk + 4) (k / 2) (some p), ?_, (I1.tr (by rw [eM]; exact RUp_sR (Or.inl ⟨tab m k, tk, hp.symm, rfl⟩))).tr (RUp_sR (by unfold RTk; omega)), fun j hj => ?_⟩
    · show f_X7_takePages_L2 (n + 1) b (29 + 4 * m) 5 (nI k) hh = _
      rw [f_X7_takePages_L2, ob, gd_e, vl_e, I1.1.2.2.2.2, i2, if_neg x0, vl_e, I1.1.2.2.2.2, i0, y1, gd_e, vl_e, y2, un_e, y5, z2, gd_e, vl_e, z1, I1.1.2.2.2.2, it k hk, nI_add, sA5 shh, z4, gd_e, vl_e, z3, e5, fOn, bnd_e, un_e, oP, gd_e, vl_e, ← eM, vl_e, rM7, un_e, oM1, gd_e, vl_e, rM0, un_e, o_shr1 (by omega), oM2, z6, gd_e, z5, vl_e, vl_e, nI_1]
    · by_cases cj : j = k
      · subst cj
        rw [hF, hp]
        refine ⟨by rw [xR_sR, if_pos ⟨rfl, rfl⟩], ?_⟩
        rw [xR_sR, if_neg (by omega)]; exact rM7
      · have hjk : j < k := by omega
        obtain ⟨w1, w2⟩ := I2 j hjk
        have tj := tl j (by omega)
        have pj := (pg (tab m j) tj).2.2
        have ne : P (first + tab m j) ≠ p := fun e => cj (tab_inj h1 h2 (by omega) hk (pi _ _ tj tk (by rw [e, hp])))
        refine ⟨?_, ?_⟩
        · rw [xR_sR, if_neg (by omega), eM, xR_sR, if_neg (by omega)]; exact w1
        · rw [xR_sR, if_neg (by omega), eM, xR_sR, if_neg (by omega)]; exact w2
  · intro n hh ⟨I1, I2⟩
    have ob : okOb hh b 7 = true := okO_of (by rw [I1.1.1]; omega) (by rw [I1.1.2.2.1]; exact k0)
    have x0 : nI (2 * 2 ^ m) ≤ nI (2 * 2 ^ m) := nI_le (Nat.le_refl _) (by omega)
    refine ⟨hh, ?_, I1, I2⟩
    show f_X7_takePages_L2 (n + 1) b (29 + 4 * m) 5 (nI (2 * 2 ^ m)) hh = _
    rw [f_X7_takePages_L2, ob, gd_e, vl_e, I1.1.2.2.2.2, i2, if_pos x0]
theorem faces_e {h : Hp} (hs : SH h) {m : Nat} (h1 : 1 ≤ m) (h2 : m ≤ 3) : f_X1_faces h (29 + 4 * m) = some (nI (2 * 2 ^ m), h) := by
  obtain ⟨y1, y2, y3, y4, -, -⟩ := fold_f hs h1 h2
  unfold f_X1_faces
  rw [y1, gd_e, vl_e, y2, un_e, y3, gd_e, y4, toI]
theorem free_i {h : Hp} (q : ISh h) (hn : nS h ≤ 6) {p : Nat} (hp : p < nP h) : (gI h 54 p = -1 ∧ gR h (pb h p) 7 = none) ∨ ∃ s f, s < 6 ∧ gI h 54 p = nI s ∧ gR h (pb h p) 7 = some f := by
  rcases q.2.2 p hp with i | ⟨s, k, i1, i2, i3⟩
  · exact Or.inl i
  · obtain ⟨-, w2, -, w4⟩ := (q.2.1 s i1).2.2.2.2.2.2.2.2.2.2 k i2
    exact Or.inr ⟨s, _, by omega, by rw [i3]; exact w2, by rw [i3]; exact w4⟩
set_option maxRecDepth 100000 in
theorem sh_54 {h : Hp} (hs : SH h) (g : IGeo h) (q : ISh h) {m first : Nat} (h1 : 1 ≤ m) (h2 : m ≤ 3) (hf : first + 2 * 2 ^ m ≤ nP h) (K : Nat → Int32 → Int32 → Int32 → Nat → Int32 → Hp → Option (Int32 × Hp)) (x y : Int32) : ∀ (n fuel k : Nat), k + n = 2 * 2 ^ m → n < fuel → ((∀ j, k ≤ j → j < 2 * 2 ^ m → gI h 54 (first + j) = -1) → f_X9_sheet_L54 K fuel 0 x (nI first) y (29 + 4 * m) (nI k) h = K 0 x (nI first) y (29 + 4 * m) (nI (2 * 2 ^ m)) h) ∧ ((∃ j, k ≤ j ∧ j < 2 * 2 ^ m ∧ gI h 54 (first + j) ≠ -1) → f_X9_sheet_L54 K fuel 0 x (nI first) y (29 + 4 * m) (nI k) h = some (-3, h)) := by
  have hP := g.2.1
  obtain ⟨p2, p8⟩ := p2m h1 h2
  intro n
  induction n with
  | zero =>
    intro fuel k hk hf'
    match fuel, hf' with
    | fuel + 1, _ =>
      refine ⟨fun _ => ?_, fun ⟨j, a, b, _⟩ => by omega⟩
      rw [f_X9_sheet_L54, (fold_f hs h1 h2).1, gd_e, faces_e hs h1 h2, bnd_e, if_pos (nI_le (by omega) (by omega)), show k = 2 * 2 ^ m by omega]
  | succ n ih =>
    intro fuel k hk hf'
    match fuel, hf' with
    | fuel + 1, hf' =>
      have hpk : first + k < nP h := by omega
      have r := pg_rules g hpk
      have z1 : (nI (first + k)).toNatClampNeg = first + k := nI_clamp (by omega)
      have z2 : inB (nI (first + k)) 48 = true := inB_nI (by omega) (by decide)
      have E : f_X9_sheet_L54 K (fuel + 1) 0 x (nI first) y (29 + 4 * m) (nI k) h = nl (gR h (pb h (first + k)) 7) (f_X9_sheet_L54 K fuel 0 x (nI first) y (29 + 4 * m) (nI (k + 1)) h) (fun _ => some (-3, h)) := by
        rw [f_X9_sheet_L54, (fold_f hs h1 h2).1, gd_e, faces_e hs h1 h2, bnd_e, if_neg (nI_ge (by omega) (by omega)), sO0 hs, gd_e, vl_e, sR0_3 hs, un_e, nI_add, sA5 hs, z2, gd_e, vl_e, z1, r.1, un_e, r.2.1, gd_e, vl_e, vl_e, nI_1]
      rw [E]
      rcases free_i q (by have := g.2.2.2.1; omega) hpk with ⟨i1, i2⟩ | ⟨s, f, i0, i1, i2⟩
      · rw [i2, nl_n]
        obtain ⟨a1, a2⟩ := ih fuel (k + 1) (by omega) (by omega)
        refine ⟨fun w => a1 (fun j hj => w j (by omega)), fun ⟨j, w1, w2, w3⟩ => a2 ⟨j, ?_, w2, w3⟩⟩
        rcases Nat.lt_or_ge k j with v | v
        · exact v
        · have : j = k := by omega
          subst this
          exact absurd i1 w3
      · rw [i2, nl_s]
        refine ⟨fun w => ?_, fun _ => rfl⟩
        have := w k (by omega) (by omega)
        rw [i1] at this
        exact absurd this (nm1 (by omega))
set_option maxRecDepth 100000 in
theorem sh_59 {h : Hp} (hs : SH h) {m first : Nat} (p8 : 2 ^ m ≤ 8) (hf : first + 2 * 2 ^ m ≤ 48) (fr : ∀ j, j < 2 * 2 ^ m → gI h 54 (first + j) = -1 ∨ ∃ s, s < 6 ∧ gI h 54 (first + j) = nI s) (K : Nat → Int32 → Int32 → Int32 → Int32 → Int32 → Hp → Option (Int32 × Hp)) (x y : Int32) : ∀ (n fuel k : Nat), k + n = 2 * 2 ^ m → n < fuel → ((∀ j, k ≤ j → j < 2 * 2 ^ m → gI h 54 (first + j) = -1) → f_X10_sheet_L59 K fuel 45 x (nI first) y (nI (2 * 2 ^ m)) (nI k) h = K 45 x (nI first) y (nI (2 * 2 ^ m)) (nI (2 * 2 ^ m)) h) ∧ ((∃ j, k ≤ j ∧ j < 2 * 2 ^ m ∧ gI h 54 (first + j) ≠ -1) → f_X10_sheet_L59 K fuel 45 x (nI first) y (nI (2 * 2 ^ m)) (nI k) h = some (-3, h)) := by
  intro n
  induction n with
  | zero =>
    intro fuel k hk hf'
    match fuel, hf' with
    | fuel + 1, _ =>
      refine ⟨fun _ => ?_, fun ⟨j, a, b, _⟩ => by omega⟩
      rw [f_X10_sheet_L59, if_pos (nI_le (by omega) (by omega)), show k = 2 * 2 ^ m by omega]
  | succ n ih =>
    intro fuel k hk hf'
    match fuel, hf' with
    | fuel + 1, hf' =>
      have z1 : (nI (first + k)).toNatClampNeg = first + k := nI_clamp (by omega)
      have z2 : inB (nI (first + k)) 48 = true := inB_nI (by omega) (by decide)
      have E : f_X10_sheet_L59 K (fuel + 1) 45 x (nI first) y (nI (2 * 2 ^ m)) (nI k) h = (if gI h 54 (first + k) < 0 then f_X10_sheet_L59 K fuel 45 x (nI first) y (nI (2 * 2 ^ m)) (nI (k + 1)) h else some (-3, h)) := by
        rw [f_X10_sheet_L59, if_neg (nI_ge (by omega) (by omega)), sO45 hs, gd_e, vl_e, sR45_9 hs, un_e, nI_add, sA54 hs, z2, gd_e, vl_e, z1, vl_e, nI_1]
      rw [E]
      rcases fr k (by omega) with i1 | ⟨s, i0, i1⟩
      · rw [i1, if_pos (by decide)]
        obtain ⟨a1, a2⟩ := ih fuel (k + 1) (by omega) (by omega)
        refine ⟨fun w => a1 (fun j hj => w j (by omega)), fun ⟨j, w1, w2, w3⟩ => a2 ⟨j, ?_, w2, w3⟩⟩
        rcases Nat.lt_or_ge k j with v | v
        · exact v
        · have : j = k := by omega
          subst this
          exact absurd i1 w3
      · rw [i1, if_neg (nI_pos (by omega))]
        refine ⟨fun w => ?_, fun _ => rfl⟩
        have := w k (by omega) (by omega)
        rw [i1] at this
        exact absurd this (nm1 (by omega))
set_option maxRecDepth 100000 in
theorem sh_150 {h : Hp} (hs : SH h) {n first s : Nat} (hn : n ≤ 16) (hf : first + n ≤ 48) (K : Nat → Int32 → Int32 → Int32 → Int32 → Int32 → Int32 → Hp → Option (Int32 × Hp)) (x y : Int32) : ∃ h2, f_X10_sheet_L150 K 6000 45 x (nI first) y (nI n) (nI s) 0 h = K 45 x (nI first) y (nI n) (nI s) (nI n) h2 ∧ Upd h h2 (fun a k => a = 54 ∧ first ≤ k ∧ k < first + n) ∧ ∀ k, k < n → gI h2 54 (first + k) = nI s := by
  refine forL n (fun m k (hh : Hp) => f_X10_sheet_L150 K m 45 x (nI first) y (nI n) (nI s) (nI k) hh) (fun k hh => Upd h hh (fun a k => a = 54 ∧ first ≤ k ∧ k < first + n) ∧ ∀ j, j < k → gI hh 54 (first + j) = nI s) (fun z => ∃ h2, z = K 45 x (nI first) y (nI n) (nI s) (nI n) h2 ∧ Upd h h2 (fun a k => a = 54 ∧ first ≤ k ∧ k < first + n) ∧ ∀ k, k < n → gI h2 54 (first + k) = nI s) ?_ ?_ n 6000 0 h (by omega) (by omega) ⟨Upd_rf _ _, fun j hj => absurd hj (Nat.not_lt_zero j)⟩
  · intro m k hh hk ⟨I1, I2⟩
    have hsh := I1.sh hs
    have z1 : (nI (first + k)).toNatClampNeg = first + k := nI_clamp (by omega)
    have z2 : inB (nI (first + k)) 48 = true := inB_nI (by omega) (by decide)
    refine Or.inr ⟨sI hh 54 (first + k) (nI s), ?_, I1.tr (Upd_sI (by omega)), fun j hj => ?_⟩
    · rw [f_X10_sheet_L150, if_neg (nI_ge hk (by omega)), sO45 hsh, gd_e, vl_e, sR45_9 hsh, un_e, nI_add, sA54 hsh, z2, gd_e, z1, vl_e, vl_e, nI_1]
    · rw [xI_sI]
      by_cases cj : j = k
      · rw [if_pos ⟨rfl, by omega⟩]
      · rw [if_neg (by omega)]; exact I2 j (by omega)
  · intro m hh ⟨I1, I2⟩
    refine ⟨hh, ?_, I1, I2⟩
    show f_X10_sheet_L150 K (m + 1) 45 x (nI first) y (nI n) (nI s) (nI n) hh = _
    rw [f_X10_sheet_L150, if_pos (nI_le (Nat.le_refl _) (by omega))]
set_option maxRecDepth 100000 in
theorem sh_177 {h : Hp} (hs : SH h) {m first : Nat} (h1 : 1 ≤ m) (h2 : m ≤ 3) (hf : first + 2 * 2 ^ m ≤ 48) (e59 : ∀ k, k < 2 * 2 ^ m → gI h 59 (16 * m + k) = nI (tab m k)) (K : Nat → Int32 → Int32 → Int32 → Int32 → Int32 → Int32 → Hp → Option (Int32 × Hp)) (y w : Int32) : ∃ h3, f_X10_sheet_L177 K 6000 45 (nI m) (nI first) y (nI (2 * 2 ^ m)) w 0 h = K 45 (nI m) (nI first) y (nI (2 * 2 ^ m)) w (nI (2 * 2 ^ m)) h3 ∧ Upd h h3 (fun a k => a = 55 ∧ first ≤ k ∧ k < first + 2 * 2 ^ m) ∧ ∀ k, k < 2 * 2 ^ m → gI h3 55 (first + tab m k) = nI k := by
  obtain ⟨p2, p8⟩ := p2m h1 h2
  refine forL (2 * 2 ^ m) (fun n k (hh : Hp) => f_X10_sheet_L177 K n 45 (nI m) (nI first) y (nI (2 * 2 ^ m)) w (nI k) hh) (fun k hh => Upd h hh (fun a k => a = 55 ∧ first ≤ k ∧ k < first + 2 * 2 ^ m) ∧ ∀ j, j < k → gI hh 55 (first + tab m j) = nI j) (fun z => ∃ h3, z = K 45 (nI m) (nI first) y (nI (2 * 2 ^ m)) w (nI (2 * 2 ^ m)) h3 ∧ Upd h h3 (fun a k => a = 55 ∧ first ≤ k ∧ k < first + 2 * 2 ^ m) ∧ ∀ k, k < 2 * 2 ^ m → gI h3 55 (first + tab m k) = nI k) ?_ ?_ (2 * 2 ^ m) 6000 0 h (by omega) (by omega) ⟨Upd_rf _ _, fun j hj => absurd hj (Nat.not_lt_zero j)⟩
  · intro n k hh hk ⟨I1, I2⟩
    have hsh := I1.sh hs
    have tk := tab_lt h1 h2 hk
    have z1 : (nI (first + tab m k)).toNatClampNeg = first + tab m k := nI_clamp (by omega)
    have z2 : inB (nI (first + tab m k)) 48 = true := inB_nI (by omega) (by decide)
    have z3 : (nI (16 * m + k)).toNatClampNeg = 16 * m + k := nI_clamp (by omega)
    have z4 : inB (nI (16 * m + k)) 64 = true := inB_nI (by
      rcases m3 h1 h2 with rfl | rfl | rfl
      · omega
      · omega
      · omega) (by decide)
    have f59 : gI hh 59 (16 * m + k) = nI (tab m k) := by rw [I1.2 _ _ (by omega)]; exact e59 k hk
    refine Or.inr ⟨sI hh 55 (first + tab m k) (nI k), ?_, I1.tr (Upd_sI (by omega)), fun j hj => ?_⟩
    · rw [f_X10_sheet_L177, if_neg (nI_ge hk (by omega)), sO45 hsh, gd_e, vl_e, sR45_10 hsh, vl_e, sR45_15 hsh, un_e, mul16, nI_add, sA59 hsh, z4, gd_e, vl_e, z3, f59, un_e, nI_add, sA55 hsh, z2, gd_e, z1, vl_e, vl_e, nI_1]
    · rw [xI_sI]
      by_cases cj : j = k
      · rw [if_pos ⟨rfl, by rw [cj]⟩, cj]
      · rw [if_neg (fun v => cj (tab_inj h1 h2 (by omega) hk (by omega)))]; exact I2 j (by omega)
  · intro n hh ⟨I1, I2⟩
    refine ⟨hh, ?_, I1, I2⟩
    show f_X10_sheet_L177 K (n + 1) 45 (nI m) (nI first) y (nI (2 * 2 ^ m)) w (nI (2 * 2 ^ m)) hh = _
    rw [f_X10_sheet_L177, if_pos (nI_le (Nat.le_refl _) (by omega))]
set_option maxRecDepth 100000 in
theorem sh_214 {h : Hp} (hs : SH h) {s : Nat} (hs6 : s < 6) (x y z w : Int32) : ∃ h2, f_X10_sheet_L214 6000 45 x y z w (nI s) 0 h = some (nI s, h2) ∧ Upd h h2 (fun a k => a = 70 ∧ 120 * s ≤ k ∧ k < 120 * s + 120) ∧ ∀ k, k < 120 → gI h2 70 (120 * s + k) = -1 := by
  refine forL 120 (fun n k (hh : Hp) => f_X10_sheet_L214 n 45 x y z w (nI s) (nI k) hh) (fun k hh => Upd h hh (fun a k => a = 70 ∧ 120 * s ≤ k ∧ k < 120 * s + 120) ∧ ∀ j, j < k → gI hh 70 (120 * s + j) = -1) (fun v => ∃ h2, v = some (nI s, h2) ∧ Upd h h2 (fun a k => a = 70 ∧ 120 * s ≤ k ∧ k < 120 * s + 120) ∧ ∀ k, k < 120 → gI h2 70 (120 * s + k) = -1) ?_ ?_ 120 6000 0 h (by omega) (by omega) ⟨Upd_rf _ _, fun j hj => absurd hj (Nat.not_lt_zero j)⟩
  · intro n k hh hk ⟨I1, I2⟩
    have hsh := I1.sh hs
    have x0 : ¬ (120 : Int32) ≤ nI k := nI_ge (b := 120) hk (by decide)
    have z1 : (nI (120 * s + k)).toNatClampNeg = 120 * s + k := nI_clamp (by omega)
    have z2 : inB (nI (120 * s + k)) 720 = true := inB_nI (by omega) (by decide)
    refine Or.inr ⟨sI hh 70 (120 * s + k) (-1), ?_, I1.tr (Upd_sI (by omega)), fun j hj => ?_⟩
    · rw [f_X10_sheet_L214, if_neg x0, sO45 hsh, gd_e, vl_e, sR45_28 hsh, un_e, mul120, nI_add, sA70 hsh, z2, gd_e, z1, vl_e, vl_e, nI_1]
    · rw [xI_sI]
      by_cases cj : j = k
      · rw [if_pos ⟨rfl, by omega⟩]
      · rw [if_neg (by omega)]; exact I2 j (by omega)
  · intro n hh ⟨I1, I2⟩
    refine ⟨hh, ?_, I1, I2⟩
    show f_X10_sheet_L214 (n + 1) 45 x y z w (nI s) (nI 120) hh = _
    rw [f_X10_sheet_L214, if_pos (by decide)]
