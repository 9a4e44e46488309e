set_option maxRecDepth 100000 in
theorem sheet_S {t : Nat} {h : Hp} (ht : t < 512) (i : IAll t h) (a0 : Int32) (a1 : Int32) (a2 : Int32) : Sim IAll t (f_X9_sheet h 0 a0 a1 a2) (fun h1 => f_X10_sheet h1 45 a0 a1 a2) := by
  obtain ⟨hs, g, dd, x, q, fs, o, k, w, gd', m', ic, ip, ib, io, it, ih, lw, ij, il, b1, b2⟩ := id i
  have h88 := hs.1
  have hP := g.2.1
  have hS := g.2.2.2.1
  have same : ∀ r, f_X9_sheet h 0 a0 a1 a2 = some (r, h) → f_X10_sheet h 45 a0 a1 a2 = some (r, h) → Sim IAll t (f_X9_sheet h 0 a0 a1 a2) (fun h1 => f_X10_sheet h1 45 a0 a1 a2) := fun r e1 e2 => ⟨r, h, h, e1, hs, e2, i.up⟩
  by_cases cm : 1 ≤ a0.toInt ∧ a0.toInt ≤ 3
  · by_cases cc : 1 ≤ a2.toInt ∧ a2.toInt ≤ 60
    · obtain ⟨m, hm, rfl⟩ := of_rng (b := 4) (by decide) (by omega) (show a0.toInt < (4 : Nat) by omega)
      obtain ⟨c, hc, rfl⟩ := of_rng (b := 61) (by decide) (by omega) (show a2.toInt < (61 : Nat) by omega)
      rw [nI_toInt (by omega)] at cm cc
      have h1 : 1 ≤ m := by omega
      have h3 : m ≤ 3 := by omega
      obtain ⟨p2, p8⟩ := p2m h1 h3
      have eC := sheetC_0 hs g h1 h3 (c := c) (by omega) (by omega) a1
      have eM := sheetM_0 hs dd.1 h1 h3 (c := c) (by omega) (by omega) a1
      by_cases c0 : a1 < 0
      · rw [if_pos c0] at eC eM
        exact same _ eC eM
      · rw [if_neg c0] at eC eM
        obtain ⟨f, hf, rfl⟩ := nI_of c0
        obtain ⟨t1, t2⟩ := fits (f := f) (n := 2 * 2 ^ m) (N := nP h) hf (by omega) hP
        by_cases cf : f + 2 * 2 ^ m ≤ nP h
        · rw [if_pos (t1.mpr cf)] at eC
          rw [if_pos (t2.mpr cf)] at eM
          obtain ⟨C1, C2⟩ := sh_54 hs g q h1 h3 cf (fun y32 y33 y34 y35 y36 y37 h38 => ShK h y32 y34 y35 y36 h38) (nI m) (nI c) (2 * 2 ^ m) 6000 0 (by omega) (by omega)
          have fr : ∀ j, j < 2 * 2 ^ m → gI h 54 (f + j) = -1 ∨ ∃ s, s < 6 ∧ gI h 54 (f + j) = nI s := fun j hj => by
            rcases free_i q (by omega) (p := f + j) (by omega) with v | ⟨s, -, v1, v2, -⟩
            · exact Or.inl v.1
            · exact Or.inr ⟨s, v1, v2⟩
          obtain ⟨M1, M2⟩ := sh_59 hs (m := m) (first := f) p8 (by omega) fr (fun y22 y23 y24 y25 y26 y27 h28 => ShJ y22 y23 y24 y25 y26 h28) (nI m) (nI c) (2 * 2 ^ m) 6000 0 (by omega) (by omega)
          by_cases ff : ∀ j, j < 2 * 2 ^ m → gI h 54 (f + j) = -1
          · have C3 := C1 (fun j _ hj => ff j hj)
            have eC2 : f_X9_sheet h 0 (nI m) (nI f) (nI c) = ShK h 0 (nI f) (nI c) (29 + 4 * m) h := eC.trans C3
            by_cases c6 : nS h < 6
            · obtain ⟨hA, A1, A2, ⟨A3, A4⟩, A5, A6, A7, A8, A9, A10, A11⟩ := sheetC_e hs g x h1 h3 (c := c) (by omega) cf c6
              have eMA := sheetM_0 A2 (N := nP h) (by rw [A7 _ _ (by omega) (by omega)]; exact dd.1) h1 h3 (c := c) (by omega) (by omega) (nI f)
              rw [if_neg c0, if_pos (t2.mpr cf)] at eMA
              obtain ⟨MA, -⟩ := sh_59 A2 (m := m) (first := f) p8 (by omega) (fun j hj => Or.inl (by rw [A7 _ _ (by omega) (by omega)]; exact ff j hj)) (fun y22 y23 y24 y25 y26 y27 h28 => ShJ y22 y23 y24 y25 y26 h28) (nI m) (nI c) (2 * 2 ^ m) 6000 0 (by omega) (by omega)
              have MA2 := MA (fun j _ hj => by rw [A7 _ _ (by omega) (by omega)]; exact ff j hj)
              obtain ⟨h2, B1, B2, B3, B4, B5, B6, B7, B8, B9, B10, B11⟩ := sheetM_e A2 (c := c) (first := f) (s := nS h) h1 h3 (by omega) c6 (by rw [A7 _ _ (by omega) (by omega)]; exact q.1) (fun k hk => by rw [A7 _ _ (by omega) (by omega)]; exact ((x m h1 h3).2.2.1 k hk).2)
              have F : ShF h h2 m f c := by
                refine ⟨⟨by rw [B2.1.1]; exact A3, by rw [B2.1.2.1]; exact A4⟩, fun a ha => by rw [B2.1.2.2.1, B2.1.2.2.2.1]; exact A5 a ha, fun a k ha q1 q2 => by rw [B2.1.2.2.2.2]; exact A6 a k ha q1 q2, fun a k ha q1 => ?_, by rw [B2.1.2.2.2.2]; exact A8, ?_, fun k hk => by rw [B2.1.2.2.2.2, B2.1.2.2.2.2]; exact A10 k hk, ⟨by rw [B3]; exact A11, B4⟩, ⟨B5, B6, B7, B8⟩, B9, B10, B11⟩
                · rw [B2.2 _ _ q1]; exact A7 a k ha (by unfold ShP at q1; omega)
                · exact ShN_ag A9 (by omega) (fun a _ => ⟨B2.1.2.2.1 a, B2.1.2.2.2.1 a⟩) (fun a j _ => B2.1.2.2.2.2 a j) (fun a k ha _ => B2.2 _ _ (by unfold ShP; omega))
              obtain ⟨⟨I1, I2, I3, I4, I5⟩, I6, I7, I8, I9, I10⟩ := sheet_inv hs g dd x q fs o k w gd' m' F h1 h3 (by omega) (by omega) cf c6 ff
              have lo : ∀ a k : Nat, (a < 88 ∧ ¬ ShP (nS h) f (2 * 2 ^ m) a k) → ¬ ¬ gI h2 a k = gI h a k := fun a k hc c => c (F.2.2.2.1 a k (by omega) hc.2)
              refine ⟨nI (nS h), hA, h2, eC2.trans A1, A2, ?_, B2.sh A2, I1, I2, I3, I4, I5, I6, I7, I8, I9, I10, (IC.fr (h2 := nOf h h2) (nOf_u h h2) (fun k => ⟨lo 3 k (by unfold ShP; omega), lo 47 k (by unfold ShP; omega)⟩) ic).up (by omega), IP.fr (h2 := nOf h h2) (nOf_u h h2) ⟨lo 0 9 (by unfold ShP; omega), lo 45 24 (by unfold ShP; omega)⟩ ip, IB.fr (h2 := nOf h h2) (nOf_u h h2) (fun k => ⟨lo 14 k (by unfold ShP; omega), lo 76 k (by unfold ShP; omega)⟩) ib, IOr.fr (h2 := nOf h h2) (nOf_u h h2) (fun k => ⟨lo 19 k (by unfold ShP; omega), lo 77 k (by unfold ShP; omega)⟩) ⟨lo 13 6 (by unfold ShP; omega), lo 13 7 (by unfold ShP; omega), lo 45 37 (by unfold ShP; omega), lo 45 38 (by unfold ShP; omega), lo 45 39 (by unfold ShP; omega)⟩ io, IT.fr (h2 := nOf h h2) (nOf_u h h2) (fun k => ⟨lo 2 k (by unfold ShP; omega), lo 46 k (by unfold ShP; omega)⟩) ⟨lo 1 1 (by unfold ShP; omega), lo 45 2 (by unfold ShP; omega)⟩ it, (IH.fr (h2 := nOf h h2) (nOf_u h h2) (fun a k ha => lo a k (by unfold ShP; omega)) ih).up (by omega), ILw.fr (h2 := nOf h h2) (nOf_u h h2) (fun a k ha => lo a k (by unfold ShP; omega)) lw, IJ.fr (h2 := nOf h h2) (nOf_u h h2) (fun a k ha => lo a k (by unfold ShP; omega)) ⟨lo 25 3 (by unfold ShP; omega), lo 45 50 (by unfold ShP; omega)⟩ ij, IPl.fr (h2 := nOf h h2) (nOf_u h h2) (fun a k ha => lo a k (by unfold ShP; omega)) ⟨lo 25 3 (by unfold ShP; omega), lo 25 8 (by unfold ShP; omega), lo 25 9 (by unfold ShP; omega), lo 45 51 (by unfold ShP; omega)⟩ il, by rw [F.1.1]; omega, by have := F.1.2; omega⟩
              show f_X10_sheet hA 45 (nI m) (nI f) (nI c) = _
              exact eMA.trans (MA2.trans B1)
            · have y6 : ¬ nI (nS h) < (6 : Int32) := nI_nlt (b := 6) (by omega) (by omega)
              have y7 : nI (nS h) = (6 : Int32) := by rw [show nS h = 6 by omega]; rfl
              refine same (-4) ?_ ?_
              · rw [eC2]
                unfold ShK
                rw [sO0 hs, gd_e, vl_e, g.2.2.1, if_neg y6]
              · refine (eM.trans (M1 (fun j _ hj => ff j hj))).trans ?_
                show ShJ 45 (nI m) (nI f) (nI c) (nI (2 * 2 ^ m)) h = _
                unfold ShJ
                rw [sO45 hs, gd_e, vl_e, q.1, if_pos y7]
          · have ff2 : ∃ j, 0 ≤ j ∧ j < 2 * 2 ^ m ∧ gI h 54 (f + j) ≠ -1 := by
              refine Classical.byContradiction (fun z => ff (fun j hj => ?_))
              exact Decidable.byContradiction (fun z2 => z ⟨j, Nat.zero_le _, hj, z2⟩)
            exact same (-3) (eC.trans (C2 ff2)) (eM.trans (M2 ff2))
        · rw [if_neg (fun z => cf (t1.mp z))] at eC
          rw [if_neg (fun z => cf (t2.mp z))] at eM
          exact same _ eC eM
    · refine same (-2) ?_ ?_
      · obtain ⟨m, hm, rfl⟩ := of_rng (b := 4) (by decide) (by omega) (show a0.toInt < (4 : Nat) by omega)
        rw [nI_toInt (by omega)] at cm
        unfold f_X9_sheet
        rw [fmt_e h (m := m) (by omega) (by omega), bnd_e, if_neg (by decide)]
        by_cases d1 : a2 < (1 : Int32)
        · rw [if_pos d1]
        · have d2 : ¬ a2 ≤ (60 : Int32) := by
            rw [lt_iff] at d1; rw [le_iff]
            have d1 : ¬ a2.toInt < 1 := d1
            show ¬ a2.toInt ≤ 60; omega
          rw [if_neg d1, if_neg d2]
      · have d1 : (1 : Int64).toInt ≤ a0.toInt ∧ a0.toInt ≤ (3 : Int64).toInt := cm
        have d2 : ¬ ((1 : Int64).toInt ≤ a2.toInt ∧ a2.toInt ≤ (60 : Int64).toInt) := cc
        unfold f_X10_sheet
        rw [isIn_i, if_pos d1, isIn_i, if_neg d2]
  · refine same (-2) ?_ ?_
    · have e0 : f_X9_isFormat h a0 = some (0, h) := by
        unfold f_X9_isFormat
        by_cases d1 : a0 < (1 : Int32)
        · rw [if_pos d1]
        · have d2 : (3 : Int32) < a0 := by
            rw [lt_iff] at d1 ⊢
            have d1 : ¬ a0.toInt < 1 := d1
            show 3 < a0.toInt; omega
          rw [if_neg d1, if_pos d2]
      unfold f_X9_sheet
      rw [e0, bnd_e, if_pos rfl]
    · have d1 : ¬ ((1 : Int64).toInt ≤ a0.toInt ∧ a0.toInt ≤ (3 : Int64).toInt) := cm
      unfold f_X10_sheet
      rw [isIn_i, if_neg d1]
