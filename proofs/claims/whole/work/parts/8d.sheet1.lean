theorem fold_f {h : Hp} (hs : SH h) {m : Nat} (h1 : 1 ≤ m) (h2 : m ≤ 3) : okOb h (29 + 4 * m) 1 = true ∧ gR h (29 + 4 * m) 2 = some (30 + 4 * m) ∧ okOb h (30 + 4 * m) 11 = true ∧ gL h (30 + 4 * m) = 2 * 2 ^ m ∧ (∀ j, okAb h (30 + 4 * m) 11 j = inB j (2 * 2 ^ m)) ∧ gR h 6 (m - 1) = some (29 + 4 * m) := by
  rcases m3 h1 h2 with rfl | rfl | rfl
  · exact ⟨sO33 hs, sR33_2 hs, sO34 hs, sL34 hs, sA34 hs, sR6_0 hs⟩
  · exact ⟨sO37 hs, sR37_2 hs, sO38 hs, sL38 hs, sA38 hs, sR6_1 hs⟩
  · exact ⟨sO41 hs, sR41_2 hs, sO42 hs, sL42 hs, sA42 hs, sR6_2 hs⟩
def hX2 (h : Hp) (b l c : Nat) : Hp := sR (nw (sR (nw (sR (nw (sR (nw (sR (nw (sI (sI h b 2 (-1)) b 6 (-1)) 11 30 30) b 7 (some (gN h))) 11 30 30) b 8 (some (gN h + 1))) 11 30 30) b 9 (some (gN h + 2))) 14 l l) b 0 (some (gN h + 3))) 11 c c) b 1 (some (gN h + 4))
theorem hX2_N (h : Hp) (b l c : Nat) : gN (hX2 h b l c) = gN h + 5 ∧ gS (hX2 h b l c) = gS h + 90 + l + c := by
  unfold hX2
  rw [xN_sR, xN_nw, xN_sR, xN_nw, xN_sR, xN_nw, xN_sR, xN_nw, xN_sR, xN_nw, xN_sI, xN_sI, xS_sR, xS_nw, xS_sR, xS_nw, xS_sR, xS_nw, xS_sR, xS_nw, xS_sR, xS_nw, xS_sI, xS_sI]
  refine ⟨rfl, ?_⟩
  omega
theorem hX2_k (h : Hp) (b l c : Nat) {a : Nat} (ha : a < gN h) : gK (hX2 h b l c) a = gK h a ∧ gL (hX2 h b l c) a = gL h a := by
  unfold hX2
  refine ⟨?_, ?_⟩
  · simp only [xK_sR, xK_nw, xK_sI, xN_sR, xN_nw, xN_sI]
    rw [if_neg (by omega), if_neg (by omega), if_neg (by omega), if_neg (by omega), if_neg (by omega)]
  · simp only [xL_sR, xL_nw, xL_sI, xN_sR, xN_nw, xN_sI]
    rw [if_neg (by omega), if_neg (by omega), if_neg (by omega), if_neg (by omega), if_neg (by omega)]
theorem hX2_r (h : Hp) (b l c : Nat) {a : Nat} (ha : a < gN h) (k : Nat) (hb : a ≠ b) : gR (hX2 h b l c) a k = gR h a k := by
  unfold hX2
  simp only [xR_sR, gR_nw, xR_sI, xN_sR, xN_nw, xN_sI]
  repeat rw [if_neg (by omega)]
theorem hX2_i (h : Hp) (b l c : Nat) {a : Nat} (ha : a < gN h) (k : Nat) (hb : ¬ (a = b ∧ (k = 2 ∨ k = 6))) : gI (hX2 h b l c) a k = gI h a k := by
  unfold hX2
  simp only [xI_sR, gI_nw, xI_sI, xN_sR, xN_nw, xN_sI]
  repeat rw [if_neg (by omega)]
theorem hX2_b (h : Hp) (b l c : Nat) (hb : b < gN h) : (gI (hX2 h b l c) b 2 = -1 ∧ gI (hX2 h b l c) b 6 = -1) ∧ gR (hX2 h b l c) b 0 = some (gN h + 3) ∧ gR (hX2 h b l c) b 1 = some (gN h + 4) ∧ gR (hX2 h b l c) b 7 = some (gN h) ∧ gR (hX2 h b l c) b 8 = some (gN h + 1) ∧ gR (hX2 h b l c) b 9 = some (gN h + 2) := by
  have n0 : ¬ b = gN h := by omega
  have n1 : ¬ b = gN h + 1 := by omega
  have n2 : ¬ b = gN h + 1 + 1 := by omega
  have n3 : ¬ b = gN h + 1 + 1 + 1 := by omega
  have n4 : ¬ b = gN h + 1 + 1 + 1 + 1 := by omega
  unfold hX2
  refine ⟨⟨?_, ?_⟩, ?_, ?_, ?_, ?_, ?_⟩
  · simp only [xI_sR, gI_nw, xI_sI, xN_sR, xN_nw, xN_sI]
    simp [n0, n1, n2, n3, n4]
  · simp only [xI_sR, gI_nw, xI_sI, xN_sR, xN_nw, xN_sI]
    simp [n0, n1, n2, n3, n4]
  · simp only [xR_sR, gR_nw, xR_sI, xN_sR, xN_nw, xN_sI]
    simp [n0, n1, n2, n3, n4]
  · simp only [xR_sR, gR_nw, xR_sI, xN_sR, xN_nw, xN_sI]
    simp [n0, n1, n2, n3, n4]
  · simp only [xR_sR, gR_nw, xR_sI, xN_sR, xN_nw, xN_sI]
    simp [n0, n1, n2, n3, n4]
  · simp only [xR_sR, gR_nw, xR_sI, xN_sR, xN_nw, xN_sI]
    simp [n0, n1, n2, n3, n4]
  · simp only [xR_sR, gR_nw, xR_sI, xN_sR, xN_nw, xN_sI]
    simp [n0, n1, n2, n3, n4]
theorem hX2_n (h : Hp) (b l c : Nat) : (∀ i, i < 3 → gK (hX2 h b l c) (gN h + i) = 11 ∧ gL (hX2 h b l c) (gN h + i) = 30) ∧ gK (hX2 h b l c) (gN h + 3) = 14 ∧ gL (hX2 h b l c) (gN h + 3) = l ∧ gK (hX2 h b l c) (gN h + 4) = 11 ∧ gL (hX2 h b l c) (gN h + 4) = c := by
  unfold hX2
  refine ⟨fun i hi => ?_, ?_, ?_, ?_, ?_⟩
  · have hi : i = 0 ∨ i = 1 ∨ i = 2 := by omega
    have n1 : ¬ gN h = gN h + 1 := by omega
    have n2 : ¬ gN h = gN h + 1 + 1 := by omega
    have n3 : ¬ gN h = gN h + 1 + 1 + 1 := by omega
    have n4 : ¬ gN h = gN h + 1 + 1 + 1 + 1 := by omega
    simp only [xK_sR, xK_nw, xK_sI, xL_sR, xL_nw, xL_sI, xN_sR, xN_nw, xN_sI]
    rcases hi with rfl | rfl | rfl
    · simp [n1, n2, n3, n4]
    · simp
    · simp
  · simp only [xK_sR, xK_nw, xK_sI, xN_sR, xN_nw, xN_sI]
    simp
  · simp only [xL_sR, xL_nw, xL_sI, xN_sR, xN_nw, xN_sI]
    simp
  · simp only [xK_sR, xK_nw, xK_sI, xN_sR, xN_nw, xN_sI]
    simp
  · simp only [xL_sR, xL_nw, xL_sI, xN_sR, xN_nw, xN_sI]
    simp
set_option maxRecDepth 100000 in
theorem x2_e {h : Hp} {b l c : Nat} (hb : gN h = b + 1) (hk : gK h b = 2) (hl : l ≤ 8) (hc : c ≤ 60) : ∃ h2, f_X2_init h b (nI l) (nI c) = some ((), h2) ∧ (gN h2 = b + 6 ∧ gS h2 = gS h + 90 + l + c) ∧ (∀ a, a < b + 1 → gK h2 a = gK h a ∧ gL h2 a = gL h a) ∧ (∀ a k, a < b → gR h2 a k = gR h a k ∧ gI h2 a k = gI h a k) ∧ FoOK h2 b c l ∧ (gI h2 b 2 = -1 ∧ gI h2 b 6 = -1 ∧ ∀ k, k ≠ 2 → k ≠ 6 → gI h2 b k = gI h b k) ∧ ∀ j, j < c → gI h2 (b + 5) j = -1 := by
  obtain ⟨N1, N2⟩ := hX2_N h b l c
  obtain ⟨⟨i1, i2⟩, r1, r2, r3, r4, r5⟩ := hX2_b h b l c (by omega)
  obtain ⟨k1, k2, k3, k4, k5⟩ := hX2_n h b l c
  have ko : ∀ {a}, a < gN h → _ := fun {a} ha => hX2_k h b l c (a := a) ha
  have ro : ∀ a k, a < b → gR (hX2 h b l c) a k = gR h a k := fun a k ha => hX2_r h b l c (by omega) k (by omega)
  have io : ∀ a k, a < b → gI (hX2 h b l c) a k = gI h a k := fun a k ha => hX2_i h b l c (by omega) k (by omega)
  have ib : ∀ k, k ≠ 2 → k ≠ 6 → gI (hX2 h b l c) b k = gI h b k := fun k h1 h2 => hX2_i h b l c (by omega) k (by omega)
  have z30 : (30 : Int32).toNatClampNeg = 30 := by decide
  have zl : (nI l).toNatClampNeg = l := nI_clamp (by omega)
  have zc : (nI c).toNatClampNeg = c := nI_clamp (by omega)
  have o0 : okOb h b 2 = true := okO_of (by omega) hk
  have E : f_X2_init h b (nI l) (nI c) = (bnd (f_J7_fill_53178 (hX2 h b l c) (gN h + 4) (-1 : Int32)) fun u23 h24 => some ((), h24)) := by
    unfold f_X2_init
    rw [o0, gd_e]
    simp only [vl_e, z30, okN_of (show l ≤ 65536 by omega), okN_of (show c ≤ 65536 by omega), gd_e, zl, zc]
    show (un (gR (hX2 h b l c) b 1) fun b22 => bnd (f_J7_fill_53178 (hX2 h b l c) b22 (-1 : Int32)) fun u23 h24 => some ((), h24)) = _
    rw [r2, un_e]
  generalize hX2 h b l c = hX at *
  rw [hb] at N1 r1 r2 r3 r4 r5 k1 k2 k3 k4 k5 E
  have o4 : okOb hX (b + 1 + 4) 11 = true := okO_of (by omega) k4
  obtain ⟨h2, q1, q2, q3⟩ := fill_e (h := hX) (a := b + 1 + 4) (N := c) o4 (fun j => okA_of j (by omega) k4 k5) k5 (by omega) (-1)
  have kk : ∀ a, gK h2 a = gK hX a := q2.1.2.2.1
  have ll : ∀ a, gL h2 a = gL hX a := q2.1.2.2.2.1
  have rr : ∀ a k, gR h2 a k = gR hX a k := q2.1.2.2.2.2
  refine ⟨h2, by rw [E, q1, bnd_e], ⟨by rw [q2.1.1]; omega, by rw [q2.1.2.1]; exact N2⟩, fun a ha => ?_, fun a k ha => ?_, ?_, ⟨?_, ?_, fun k h1 h3 => ?_⟩, fun j hj => q3 j hj⟩
  · rw [kk, ll]; exact ko (by omega)
  · rw [rr, q2.2 _ _ (by omega)]; exact ⟨ro a k ha, io a k ha⟩
  · refine ⟨by rw [kk, (ko (by omega)).1]; exact hk, by rw [rr]; exact r1, by rw [rr]; exact r2, by rw [rr]; exact r3, by rw [rr]; exact r4, by rw [rr]; exact r5, fun i h1 h3 => ?_, by rw [kk]; exact k2, by rw [ll]; exact k3, by rw [kk]; exact k4, by rw [ll]; exact k5⟩
    rw [kk, ll]
    have := k1 (i - 1) (by omega)
    rw [show b + 1 + (i - 1) = b + i by omega] at this
    exact this
  · rw [q2.2 _ _ (by omega)]; exact i1
  · rw [q2.2 _ _ (by omega)]; exact i2
  · rw [q2.2 _ _ (by omega)]; exact ib k h1 h3
