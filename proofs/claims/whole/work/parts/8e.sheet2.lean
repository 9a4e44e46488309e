set_option maxRecDepth 100000 in
theorem x7_L {h : Hp} {b c : Nat} (hc : c ≤ 60) (hb : b + 13 < gN h) (k0 : gK h b = 7) (r6 : gR h b 6 = some (b + 13)) (k13 : gK h (b + 13) = 11) (l13 : gL h (b + 13) = c) (x y : Int32) : ∃ h2, f_X7_init_L69 6000 b x (nI c) y 0 h = some ((), h2) ∧ Upd h h2 (fun a _ => a = b + 13) ∧ ∀ k, k < c → gI h2 (b + 13) k = nI k := by
  refine forL c (fun m k (hh : Hp) => f_X7_init_L69 m b x (nI c) y (nI k) hh) (fun k hh => Upd h hh (fun a _ => a = b + 13) ∧ ∀ j, j < k → gI hh (b + 13) j = nI j) (fun z => ∃ h2, z = some ((), h2) ∧ Upd h h2 (fun a _ => a = b + 13) ∧ ∀ k, k < c → gI h2 (b + 13) k = nI k) ?_ ?_ c 6000 0 h (by omega) (by omega) ⟨Upd_rf _ _, fun j hj => absurd hj (Nat.not_lt_zero j)⟩
  · intro m k hh hk ⟨I1, I2⟩
    have o1 : okOb hh b 7 = true := okO_of (by rw [I1.1.1]; omega) (by rw [I1.1.2.2.1]; exact k0)
    have oa : ∀ j, okAb hh (b + 13) 11 j = inB j c := fun j => okA_of j (by rw [I1.1.1]; omega) (by rw [I1.1.2.2.1]; exact k13) (by rw [I1.1.2.2.2.1]; exact l13)
    have rr : gR hh b 6 = some (b + 13) := by rw [I1.1.2.2.2.2]; exact r6
    have x0 : ¬ nI c ≤ nI k := nI_ge hk (by omega)
    have z1 : (nI k).toNatClampNeg = k := nI_clamp (by omega)
    have z2 : inB (nI k) c = true := inB_nI hk (by omega)
    refine Or.inr ⟨sI hh (b + 13) k (nI k), ?_, I1.tr (Upd_sI rfl), fun j hj => ?_⟩
    · rw [f_X7_init_L69, if_neg x0, o1, gd_e, vl_e, rr, un_e, oa, z2, gd_e, z1, vl_e, vl_e, nI_1]
    · rw [xI_sI]
      by_cases cj : j = k
      · rw [if_pos ⟨rfl, cj⟩, cj]
      · rw [if_neg (fun w => cj w.2)]; exact I2 j (by omega)
  · intro m hh ⟨I1, I2⟩
    refine ⟨hh, ?_, I1, I2⟩
    show f_X7_init_L69 (m + 1) b x (nI c) y (nI c) hh = _
    rw [f_X7_init_L69, if_pos (nI_le (Nat.le_refl _) (by omega))]
/-- what a new sheet's cells hold -/
def ShN (h2 : Hp) (b l c : Nat) (F : Int32) : Prop := (gK h2 b = 7 ∧ gR h2 b 3 = some (b + 1) ∧ gR h2 b 4 = some (b + 7) ∧ gR h2 b 6 = some (b + 13) ∧ gK h2 (b + 13) = 11 ∧ gL h2 (b + 13) = c) ∧ (FoOK h2 (b + 1) c l ∧ FoOK h2 (b + 7) c l) ∧ (gI h2 b 0 = F ∧ gI h2 b 1 = nI c ∧ gI h2 b 2 = nI (2 * l) ∧ gI h2 b 5 = -1 ∧ gI h2 b 7 = nI c) ∧ (∀ s, s < 2 → (gI h2 (b + 1 + 6 * s) 2 = -1 ∧ gI h2 (b + 1 + 6 * s) 6 = -1 ∧ ∀ k, k ≠ 2 → k ≠ 6 → gI h2 (b + 1 + 6 * s) k = 0) ∧ ∀ j, j < c → gI h2 (b + 1 + 6 * s + 5) j = -1) ∧ ∀ k, k < c → gI h2 (b + 13) k = nI k
set_option maxRecDepth 100000 in
theorem x7_e {h : Hp} {l c : Nat} (hl : l ≤ 8) (hc : c ≤ 60) (F : Int32) : ∃ h2, f_X7_init (nw h 7 8 0) (gN h) F (nI c) (nI (2 * l)) = some ((), h2) ∧ (gN h2 = gN h + 14 ∧ gS h2 ≤ gS h + 2000) ∧ (∀ a, a < gN h → gK h2 a = gK h a ∧ gL h2 a = gL h a) ∧ (∀ a k, a < gN h → gR h2 a k = gR h a k ∧ gI h2 a k = gI h a k) ∧ ShN h2 (gN h) l c F := by
  generalize hb : gN h = b
  have o0 : okOb (nw h 7 8 0) b 7 = true := okO_of (by rw [xN_nw]; omega) (by rw [xK_nw, if_pos hb.symm])
  obtain ⟨hA, eA⟩ : ∃ x, x = sI (sI (sI (sI (nw h 7 8 0) b 5 (-1)) b 0 F) b 1 (nI c)) b 2 (nI (2 * l)) := ⟨_, rfl⟩
  have nA : gN hA = b + 1 := by rw [eA, xN_sI, xN_sI, xN_sI, xN_sI, xN_nw, hb]
  have sA : gS hA = gS h + 8 := by rw [eA, xS_sI, xS_sI, xS_sI, xS_sI, xS_nw]
  have kA : ∀ a, a < b → gK hA a = gK h a ∧ gL hA a = gL h a := fun a ha => by
    rw [eA, xK_sI, xK_sI, xK_sI, xK_sI, xK_nw, if_neg (by omega), xL_sI, xL_sI, xL_sI, xL_sI, xL_nw, if_neg (by omega)]; exact ⟨rfl, rfl⟩
  have kAb : gK hA b = 7 := by rw [eA, xK_sI, xK_sI, xK_sI, xK_sI, xK_nw, if_pos hb.symm]
  have rA : ∀ a k, a < b → gR hA a k = gR h a k ∧ gI hA a k = gI h a k := fun a k ha => by
    rw [eA, xR_sI, xR_sI, xR_sI, xR_sI, gR_nw, if_neg (by omega), xI_sI, if_neg (by omega), xI_sI, if_neg (by omega), xI_sI, if_neg (by omega), xI_sI, if_neg (by omega), gI_nw, if_neg (by omega)]; exact ⟨rfl, rfl⟩
  have iA0 : gI hA b 0 = F := by rw [eA, xI_sI, if_neg (by omega), xI_sI, if_neg (by omega), xI_sI, if_pos ⟨rfl, rfl⟩]
  have iA1 : gI hA b 1 = nI c := by rw [eA, xI_sI, if_neg (by omega), xI_sI, if_pos ⟨rfl, rfl⟩]
  have iA2 : gI hA b 2 = nI (2 * l) := by rw [eA, xI_sI, if_pos ⟨rfl, rfl⟩]
  have iA5 : gI hA b 5 = -1 := by rw [eA, xI_sI, if_neg (by omega), xI_sI, if_neg (by omega), xI_sI, if_neg (by omega), xI_sI, if_pos ⟨rfl, rfl⟩]
  obtain ⟨hB, eB⟩ : ∃ x, x = nw hA 2 10 0 := ⟨_, rfl⟩
  have nB : gN hB = b + 1 + 1 := by rw [eB, xN_nw, nA]
  have sB : gS hB = gS h + 18 := by rw [eB, xS_nw, sA]
  have kB : ∀ a, a < b + 1 → gK hB a = gK hA a ∧ gL hB a = gL hA a := fun a ha => by rw [eB, xK_nw, if_neg (by omega), xL_nw, if_neg (by omega)]; exact ⟨rfl, rfl⟩
  have kBb : gK hB (b + 1) = 2 := by rw [eB, xK_nw, if_pos nA.symm]
  have rB : ∀ a k, a < b + 1 → gR hB a k = gR hA a k ∧ gI hB a k = gI hA a k := fun a k ha => by rw [eB, gR_nw, if_neg (by omega), gI_nw, if_neg (by omega)]; exact ⟨rfl, rfl⟩
  have iBb : ∀ k, gI hB (b + 1) k = 0 := fun k => by rw [eB, gI_nw, if_pos nA.symm]
  obtain ⟨hC, C1, ⟨C2, C3⟩, C4, C5, C6, ⟨C7, C8, C9⟩, C10⟩ := x2_e nB kBb hl hc
  obtain ⟨hD, eD⟩ : ∃ x, x = sR hC b 3 (some (b + 1)) := ⟨_, rfl⟩
  have nD : gN hD = b + 7 := by rw [eD, xN_sR, C2]
  have sD : gS hD = gS h + 18 + 90 + l + c := by rw [eD, xS_sR, C3, sB]
  have kD : ∀ a, gK hD a = gK hC a ∧ gL hD a = gL hC a := fun a => by rw [eD, xK_sR, xL_sR]; exact ⟨rfl, rfl⟩
  have rD : ∀ a k, ¬ (a = b ∧ k = 3) → gR hD a k = gR hC a k := fun a k q => by rw [eD, xR_sR, if_neg q]
  have rDb : gR hD b 3 = some (b + 1) := by rw [eD, xR_sR, if_pos ⟨rfl, rfl⟩]
  have iD : ∀ a k, gI hD a k = gI hC a k := fun a k => by rw [eD, xI_sR]
  obtain ⟨hE', eE⟩ : ∃ x, x = nw hD 2 10 0 := ⟨_, rfl⟩
  have nE : gN hE' = b + 7 + 1 := by rw [eE, xN_nw, nD]
  have sE : gS hE' = gS h + 28 + 90 + l + c := by rw [eE, xS_nw, sD]; omega
  have kE : ∀ a, a < b + 7 → gK hE' a = gK hD a ∧ gL hE' a = gL hD a := fun a ha => by rw [eE, xK_nw, if_neg (by omega), xL_nw, if_neg (by omega)]; exact ⟨rfl, rfl⟩
  have kEb : gK hE' (b + 7) = 2 := by rw [eE, xK_nw, if_pos nD.symm]
  have rE : ∀ a k, a < b + 7 → gR hE' a k = gR hD a k ∧ gI hE' a k = gI hD a k := fun a k ha => by rw [eE, gR_nw, if_neg (by omega), gI_nw, if_neg (by omega)]; exact ⟨rfl, rfl⟩
  have iEb : ∀ k, gI hE' (b + 7) k = 0 := fun k => by rw [eE, gI_nw, if_pos nD.symm]
  obtain ⟨hF, F1, ⟨F2, F3⟩, F4, F5, F6, ⟨F7, F8, F9⟩, F10⟩ := x2_e nE kEb hl hc
  obtain ⟨hG, eG⟩ : ∃ x, x = sR hF b 4 (some (b + 7)) := ⟨_, rfl⟩
  have nG : gN hG = b + 13 := by rw [eG, xN_sR, F2]
  have kG : ∀ a, gK hG a = gK hF a ∧ gL hG a = gL hF a := fun a => by rw [eG, xK_sR, xL_sR]; exact ⟨rfl, rfl⟩
  have rG : ∀ a k, ¬ (a = b ∧ k = 4) → gR hG a k = gR hF a k := fun a k q => by rw [eG, xR_sR, if_neg q]
  have rGb : gR hG b 4 = some (b + 7) := by rw [eG, xR_sR, if_pos ⟨rfl, rfl⟩]
  have iG : ∀ a k, gI hG a k = gI hF a k := fun a k => by rw [eG, xI_sR]
  obtain ⟨hH, eH⟩ : ∃ x, x = nw hG 11 c c := ⟨_, rfl⟩
  obtain ⟨hI, eI⟩ : ∃ x, x = sI (sR hH b 6 (some (b + 13))) b 7 (nI c) := ⟨_, rfl⟩
  have nI' : gN hI = b + 14 := by rw [eI, xN_sI, xN_sR, eH, xN_nw, nG]
  have sI' : gS hI = gS h + 28 + 90 + l + c + 90 + l + c + c := by rw [eI, xS_sI, xS_sR, eH, xS_nw, eG, xS_sR, F3, sE]
  have kI : ∀ a, a < b + 13 → gK hI a = gK hF a ∧ gL hI a = gL hF a := fun a ha => by
    rw [eI, xK_sI, xK_sR, eH, xK_nw, if_neg (by omega), xL_sI, xL_sR, xL_nw, if_neg (by omega)]; exact kG a
  have kIb : gK hI (b + 13) = 11 ∧ gL hI (b + 13) = c := by
    rw [eI, xK_sI, xK_sR, eH, xK_nw, if_pos nG.symm, xL_sI, xL_sR, xL_nw, if_pos nG.symm]; exact ⟨rfl, rfl⟩
  have rI : ∀ a k, a < b + 13 → ¬ (a = b ∧ (k = 4 ∨ k = 6)) → gR hI a k = gR hF a k := fun a k ha q => by
    rw [eI, xR_sI, xR_sR, if_neg (by omega), eH, gR_nw, if_neg (by omega)]; exact rG a k (by omega)
  have rI4 : gR hI b 4 = some (b + 7) := by rw [eI, xR_sI, xR_sR, if_neg (by omega), eH, gR_nw, if_neg (by omega)]; exact rGb
  have rI6 : gR hI b 6 = some (b + 13) := by rw [eI, xR_sI, xR_sR, if_pos ⟨rfl, rfl⟩]
  have iI : ∀ a k, a < b + 13 → ¬ (a = b ∧ k = 7) → gI hI a k = gI hF a k := fun a k ha q => by
    rw [eI, xI_sI, if_neg q, xI_sR, eH, gI_nw, if_neg (by omega)]; exact iG a k
  have iI7 : gI hI b 7 = nI c := by rw [eI, xI_sI, if_pos ⟨rfl, rfl⟩]
  have kF : ∀ a, a < b + 7 → gK hF a = gK hC a ∧ gL hF a = gL hC a := fun a ha => by rw [(F4 a (by omega)).1, (F4 a (by omega)).2, (kE a ha).1, (kE a ha).2]; exact kD a
  have rF : ∀ a k, a < b + 7 → ¬ (a = b ∧ k = 3) → gR hF a k = gR hC a k := fun a k ha q => by rw [(F5 a k ha).1, (rE a k ha).1]; exact rD a k q
  have iF : ∀ a k, a < b + 7 → gI hF a k = gI hC a k := fun a k ha => by rw [(F5 a k ha).2, (rE a k ha).2]; exact iD a k
  have kC : ∀ a, a < b + 1 → gK hC a = gK hA a ∧ gL hC a = gL hA a := fun a ha => by rw [(C4 a (by omega)).1, (C4 a (by omega)).2]; exact kB a ha
  have rC : ∀ a k, a < b + 1 → gR hC a k = gR hA a k ∧ gI hC a k = gI hA a k := fun a k ha => by rw [(C5 a k ha).1, (C5 a k ha).2]; exact rB a k ha
  obtain ⟨h2, q1, q2, q3⟩ := x7_L hc (b := b) (h := hI) (by omega) (by rw [(kI b (by omega)).1, (kF b (by omega)).1, (kC b (by omega)).1]; exact kAb) rI6 kIb.1 kIb.2 F (nI (2 * l))
  have zc : (nI c).toNatClampNeg = c := nI_clamp (by omega)
  have dv : nI (2 * l) / (2 : Int32) = nI l := by
    rw [show (2 : Int32) = nI 2 from rfl, pk_div (by omega) (by decide) (by decide)]; congr 1; omega
  have kk : ∀ a, gK h2 a = gK hI a ∧ gL h2 a = gL hI a := fun a => ⟨q2.1.2.2.1 a, q2.1.2.2.2.1 a⟩
  have rr : ∀ a k, gR h2 a k = gR hI a k := q2.1.2.2.2.2
  have ii : ∀ a k, a < b + 13 → gI h2 a k = gI hI a k := fun a k ha => q2.2 a k (by omega)
  have fo1 : FoOK h2 (b + 1) c l := FoOK_ag C6 (by omega) (fun a ha => by rw [(kk a).1, (kk a).2, (kI a (by omega)).1, (kI a (by omega)).2]; exact kF a (by omega)) (fun j => by rw [rr, rI _ _ (by omega) (by omega)]; exact rF _ _ (by omega) (by omega))
  have fo2 : FoOK h2 (b + 7) c l := FoOK_ag F6 (by omega) (fun a ha => by rw [(kk a).1, (kk a).2]; exact kI a (by omega)) (fun j => by rw [rr]; exact rI _ _ (by omega) (by omega))
  refine ⟨h2, ?_, ⟨by rw [q2.1.1]; exact nI', by rw [q2.1.2.1, sI']; omega⟩, fun a ha => ?_, fun a k ha => ⟨?_, ?_⟩, ⟨?_, ?_, ?_, ?_, ?_, ?_⟩, ⟨fo1, fo2⟩, ⟨?_, ?_, ?_, ?_, ?_⟩, fun s hs => ?_, q3⟩
  · unfold f_X7_init
    rw [o0, gd_e, vl_e, vl_e, vl_e, vl_e, ← eA, vl_e, nA, vl_e, ← eB, dv, C1, bnd_e, vl_e, ← eD, vl_e, nD, vl_e, ← eE, F1, bnd_e, vl_e, ← eG, okN_of (show c ≤ 65536 by omega), gd_e, vl_e, nG, vl_e, zc, ← eH, vl_e, vl_e, ← eI]
    exact q1
  · rw [(kk a).1, (kk a).2, (kI a (by omega)).1, (kI a (by omega)).2, (kF a (by omega)).1, (kF a (by omega)).2, (kC a (by omega)).1, (kC a (by omega)).2]; exact kA a ha
  · rw [rr, rI _ _ (by omega) (by omega), rF _ _ (by omega) (by omega), (rC _ _ (by omega)).1]; exact (rA a k ha).1
  · rw [ii _ _ (by omega), iI _ _ (by omega) (by omega), iF _ _ (by omega), (rC _ _ (by omega)).2]; exact (rA a k ha).2
  · rw [(kk b).1, (kI b (by omega)).1, (kF b (by omega)).1, (kC b (by omega)).1]; exact kAb
  · rw [rr, rI _ _ (by omega) (by omega), (F5 _ _ (by omega)).1, (rE _ _ (by omega)).1]; exact rDb
  · rw [rr]; exact rI4
  · rw [rr]; exact rI6
  · rw [(kk _).1]; exact kIb.1
  · rw [(kk _).2]; exact kIb.2
  · rw [ii _ _ (by omega), iI _ _ (by omega) (by omega), iF _ _ (by omega), (rC _ _ (by omega)).2]; exact iA0
  · rw [ii _ _ (by omega), iI _ _ (by omega) (by omega), iF _ _ (by omega), (rC _ _ (by omega)).2]; exact iA1
  · rw [ii _ _ (by omega), iI _ _ (by omega) (by omega), iF _ _ (by omega), (rC _ _ (by omega)).2]; exact iA2
  · rw [ii _ _ (by omega), iI _ _ (by omega) (by omega), iF _ _ (by omega), (rC _ _ (by omega)).2]; exact iA5
  · rw [ii _ _ (by omega)]; exact iI7
  · have hs' : s = 0 ∨ s = 1 := by omega
    rcases hs' with rfl | rfl
    · refine ⟨⟨?_, ?_, fun k h1 h3 => ?_⟩, fun j hj => ?_⟩
      · show gI h2 (b + 1) 2 = -1
        rw [ii _ _ (by omega), iI _ _ (by omega) (by omega), iF _ _ (by omega)]; exact C7
      · show gI h2 (b + 1) 6 = -1
        rw [ii _ _ (by omega), iI _ _ (by omega) (by omega), iF _ _ (by omega)]; exact C8
      · show gI h2 (b + 1) k = 0
        rw [ii _ _ (by omega), iI _ _ (by omega) (by omega), iF _ _ (by omega), C9 k h1 h3]; exact iBb k
      · show gI h2 (b + 1 + 5) j = -1
        rw [ii _ _ (by omega), iI _ _ (by omega) (by omega), iF _ _ (by omega)]; exact C10 j hj
    · refine ⟨⟨?_, ?_, fun k h1 h3 => ?_⟩, fun j hj => ?_⟩
      · show gI h2 (b + 7) 2 = -1
        rw [ii _ _ (by omega), iI _ _ (by omega) (by omega)]; exact F7
      · show gI h2 (b + 7) 6 = -1
        rw [ii _ _ (by omega), iI _ _ (by omega) (by omega)]; exact F8
      · show gI h2 (b + 7) k = 0
        rw [ii _ _ (by omega), iI _ _ (by omega) (by omega), F9 k h1 h3]; exact iEb k
      · show gI h2 (b + 7 + 5) j = -1
        rw [ii _ _ (by omega), iI _ _ (by omega) (by omega)]; exact F10 j hj
