set_option maxRecDepth 100000 in
theorem page_S {t : Nat} {h : Hp} (ht : t < 512) (i : IAll t h) : Sim IAll t (f_X9_page h 0) (fun h1 => f_X10_page h1 45) := by
  obtain ⟨hs, g, dd, x, q, fs, o, k, w, gd', m, ic, ip, ib, io, it, ih, lw, ij, il, b1, b2⟩ := id i
  obtain ⟨z, q1, q2, q3, q4⟩ := id it
  have h88 := hs.1
  have e4 := g.1
  have e11 := dd.1
  have hP := g.2.1
  let B : Nat → Int32 := fun j => if j < z then gI h 2 j else -1
  have B1 : ∀ j, j < z → gI h 2 j = B j := fun j hj => (if_pos hj).symm
  have B2 : ∀ j, z ≤ j → B j = -1 := fun j hj => if_neg (by omega)
  have tpc : TpC h B z := ⟨q2, q1, B1, B2⟩
  have tpm : TpM h B z := ⟨q3, q1, fun j hj => by rw [← (q4 j hj).1]; exact B1 j hj, B2⟩
  by_cases c0 : z = 0
  · have y0 : nI z = 0 := by rw [c0]; rfl
    refine ⟨-2, h, h, ?_, hs, ?_, i.up⟩
    · unfold f_X9_page
      rw [sO0 hs, gd_e, vl_e, sR0_0 hs, un_e, sO1 hs, gd_e, vl_e, q2, if_pos y0]
    · show f_X10_page h 45 = _
      unfold f_X10_page
      rw [sO45 hs, gd_e, vl_e, q3, if_pos y0]
  · have y0 : ¬ nI z = 0 := nI_ne0 (by omega) (by omega)
    by_cases c1 : nP h = 48
    · have y1 : ¬ nI (nP h) < (48 : Int32) := by rw [c1]; decide
      have y2 : nI (nP h) = (48 : Int32) := by rw [c1]; rfl
      refine ⟨-4, h, h, ?_, hs, ?_, i.up⟩
      · unfold f_X9_page
        rw [sO0 hs, gd_e, vl_e, sR0_0 hs, un_e, sO1 hs, gd_e, vl_e, q2, if_neg y0, vl_e, e4, if_neg y1]
      · show f_X10_page h 45 = _
        unfold f_X10_page
        rw [sO45 hs, gd_e, vl_e, q3, if_neg y0, vl_e, e11, if_pos y2]
    · have y1 : nI (nP h) < (48 : Int32) := nI_lt (b := 48) (by omega) (by decide)
      have y2 : ¬ nI (nP h) = (48 : Int32) := fun w => absurd ((nI_eq (b := 48) (by omega) (by decide)).mp w) (by omega)
      cases eb : bdF B z 0 with
      | some j =>
        have jz : j ≤ z := by
          have : ∀ (m k : Nat), bdF B m k = some j → j ≤ k + m := by
            intro m
            induction m with
            | zero => intro k e; cases e
            | succ m ih =>
              intro k e
              unfold bdF at e
              by_cases c : k = 120 ∨ sgc (B k) = -1
              · rw [if_pos c] at e; cases e; omega
              · rw [if_neg c] at e; have := ih (k + 1) e; omega
          have := this z 0 eb
          omega
        have fn := fnoc_e hs tpc
        rw [eb] at fn
        have hsA : SH (sI h 1 1 0) := hs
        have hsB : SH (sI (sI h 1 1 0) 45 2 0) := hs
        refine ⟨(-10 : Int32) - nI j, sI h 1 1 0, sI (sI h 1 1 0) 45 2 0, ?_, hsA, ?_, ?_⟩
        · unfold f_X9_page
          rw [sO0 hs, gd_e, vl_e, sR0_0 hs, un_e, sO1 hs, gd_e, vl_e, q2, if_neg y0, vl_e, e4, if_pos y1, vl_e, un_e, sO1 hs, gd_e, fn, bnd_e, show wI (some j) = nI j from rfl, if_neg (nm1 (by omega)), vl_e, sR0_0 hs, un_e, sO1 hs, gd_e, vl_e]
        · have E := page_34 hsB q1 (B := B) (fun j hj => by rw [xI_sI, if_neg (by omega), xI_sI, if_neg (by omega)]; exact tpm.2.2.1 j hj) (fun y19 y20 y21 h22 =>
gd (okOb h22 y19 10) <|
vl (gI h22 y19 11) fun x24 =>
vl (gI h22 y19 11) fun x25 =>
vl (sI h22 y19 11 (x25 + (1 : Int32))) fun h26 =>
vl (gR h26 y19 3) fun r27 =>
un r27 fun b28 =>
gd (okAb h26 b28 11 x24) <|
vl (sI h26 b28 x24.toNatClampNeg y20) fun h30 =>
f_X10_page_L92 (fun y44 y45 y46 y47 h48 =>
gd (okOb h48 y44 10) <|
vl (gR h48 y44 7) fun r50 =>
un r50 fun b51 =>
gd (okAb h48 b51 11 y46) <|
vl (sI h48 b51 y46.toNatClampNeg (-1 : Int32)) fun h53 =>
vl (gR h53 y44 8) fun r54 =>
un r54 fun b55 =>
gd (okAb h53 b55 11 y46) <|
vl (sI h53 b55 y46.toNatClampNeg (-1 : Int32)) fun h57 =>
vl (gR h57 y44 9) fun r58 =>
un r58 fun b59 =>
gd (okAb h57 b59 11 y46) <|
vl (sI h57 b59 y46.toNatClampNeg (-1 : Int32)) fun h61 =>
some (y46, h61)) 6000 y19 y20 x24 (0 : Int32) h30) z 6000 0 (by omega) (by omega)
          rw [eb] at E
          have f2 : gI (sI h 1 1 0) 45 2 = nI z := by rw [xI_sI, if_neg (by omega)]; exact q3
          have f11 : gI (sI h 1 1 0) 45 11 = nI (nP h) := by rw [xI_sI, if_neg (by omega)]; exact e11
          show f_X10_page (sI h 1 1 0) 45 = _
          unfold f_X10_page
          rw [sO45 hsA, gd_e, vl_e, f2, if_neg y0, vl_e, f11, if_neg y2, vl_e, vl_e]
          exact E
        · have u : Upd h (sI (sI h 1 1 0) 45 2 0) PT := (Upd_sI (by unfold PT; omega)).tr (Upd_sI (by unfold PT; omega))
          exact tape_I i ⟨0, by omega, by rw [xI_sI, if_neg (by omega), xI_sI, if_pos ⟨rfl, rfl⟩]; rfl, by rw [xI_sI, if_pos ⟨rfl, rfl⟩]; rfl, fun j hj => absurd hj (Nat.not_lt_zero j)⟩ u
      | none =>
        have hz2 : z ≤ 120 := by
          rcases Nat.lt_or_ge 120 z with w | w
          · exact absurd rfl (bdF_n z 0 eb 120 (by omega) (by omega)).1
          · exact w
        obtain ⟨hA, A1, A2, ⟨A3, A4⟩, A5, A6, A7, A8, ⟨A9, A10⟩, ⟨A11, A12, A13⟩, A14⟩ := pageC_e hs g tpc (by omega) (by omega) eb
        have tpA : TpM hA B z := ⟨by rw [A7 _ _ (by omega) (by omega)]; exact tpm.1, q1, fun j hj => by rw [A7 _ _ (by omega) (by omega)]; exact tpm.2.2.1 j hj, B2⟩
        obtain ⟨h2, C1, C2, C3, C4, C5, C6, C7, C8, C9⟩ := pageM_e A2 tpA (by omega) (p := nP h) (by omega) (by rw [A7 _ _ (by omega) (by omega)]; exact e11) eb
        have F : PgF h h2 z (fun k => sgc (B k)) := by
          refine ⟨⟨by rw [C2.1.1]; exact A3, by rw [C2.1.2.1]; exact A4⟩, fun a ha => by rw [C2.1.2.2.1, C2.1.2.2.2.1]; exact A5 a ha, fun a k ha qq => by rw [C2.1.2.2.2.2]; exact A6 a k ha qq, fun a k ha qq => ?_, ?_, ⟨?_, C4, ?_, C3⟩, ⟨?_, ?_, ?_⟩, fun k hk => ⟨?_, C6 k hk⟩, C5, C7, C8, C9⟩
          · rw [C2.2 _ _ (by unfold PPg at qq; omega)]; exact A7 a k ha (by unfold PPg at qq; omega)
          · rw [C2.1.2.2.2.2, C2.1.2.2.2.2, C2.1.2.2.1]
            refine ⟨A8.1, A8.2.1, fun i i1 i2 => ?_, A8.2.2.2⟩
            rw [C2.1.2.2.2.2, C2.1.2.2.1, C2.1.2.2.2.1]; exact A8.2.2.1 i i1 i2
          · rw [C2.2 _ _ (by omega)]; exact A9
          · rw [C2.2 _ _ (by omega)]; exact A10
          · rw [C2.2 _ _ (by omega)]; exact A11
          · rw [C2.2 _ _ (by omega)]; exact A12
          · rw [C2.2 _ _ (by omega)]; exact A13
          · rw [C2.2 _ _ (by omega)]; exact A14 k hk
        obtain ⟨⟨I1, I2, I3, I4, I5⟩, I6, I7, I8, I9, I10⟩ := page_inv hs g dd x q fs o k w gd' m F (by omega) hz2 (by omega) (fun k hk => (bdF_n z 0 eb k (by omega) (by omega)).2)
        have lo : ∀ a k : Nat, (a < 88 ∧ ¬ PPg (nP h) a k) → ¬ ¬ gI h2 a k = gI h a k := fun a k hc c => c (F.2.2.2.1 a k (by omega) hc.2)
        refine ⟨nI (nP h), hA, h2, A1, A2, C1, C2.sh A2, I1, I2, I3, I4, I5, I6, I7, I8, I9, I10, (IC.fr (h2 := nOf h h2) (nOf_u h h2) (fun k => ⟨lo 3 k (by unfold PPg; omega), lo 47 k (by unfold PPg; omega)⟩) ic).up (by omega), IP.fr (h2 := nOf h h2) (nOf_u h h2) ⟨lo 0 9 (by unfold PPg; omega), lo 45 24 (by unfold PPg; omega)⟩ ip, IB.fr (h2 := nOf h h2) (nOf_u h h2) (fun k => ⟨lo 14 k (by unfold PPg; omega), lo 76 k (by unfold PPg; omega)⟩) ib, IOr.fr (h2 := nOf h h2) (nOf_u h h2) (fun k => ⟨lo 19 k (by unfold PPg; omega), lo 77 k (by unfold PPg; omega)⟩) ⟨lo 13 6 (by unfold PPg; omega), lo 13 7 (by unfold PPg; omega), lo 45 37 (by unfold PPg; omega), lo 45 38 (by unfold PPg; omega), lo 45 39 (by unfold PPg; omega)⟩ io, ?_, (IH.fr (h2 := nOf h h2) (nOf_u h h2) (fun a k ha => lo a k (by unfold PPg; omega)) ih).up (by omega), ILw.fr (h2 := nOf h h2) (nOf_u h h2) (fun a k ha => lo a k (by unfold PPg; omega)) lw, IJ.fr (h2 := nOf h h2) (nOf_u h h2) (fun a k ha => lo a k (by unfold PPg; omega)) ⟨lo 25 3 (by unfold PPg; omega), lo 45 50 (by unfold PPg; omega)⟩ ij, IPl.fr (h2 := nOf h h2) (nOf_u h h2) (fun a k ha => lo a k (by unfold PPg; omega)) ⟨lo 25 3 (by unfold PPg; omega), lo 25 8 (by unfold PPg; omega), lo 25 9 (by unfold PPg; omega), lo 45 51 (by unfold PPg; omega)⟩ il, by rw [F.1.1]; omega, by rw [F.1.2]; omega⟩
        exact ⟨0, by omega, F.2.2.2.2.2.1.2.2.1, F.2.2.2.2.2.1.2.2.2, fun j hj => absurd hj (Nat.not_lt_zero j)⟩
