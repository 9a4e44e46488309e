/-- the numbers of h2 over the shape of h: for what speaks of numbers alone -/
def nOf (h h2 : Hp) : Hp := (h.1, h.2.1, h.2.2.1, h.2.2.2.1, h2.2.2.2.2.1, h.2.2.2.2.2)
theorem nOf_u (h h2 : Hp) : Upd h (nOf h h2) (fun a k => ¬ gI h2 a k = gI h a k) := ⟨⟨rfl, rfl, fun _ => rfl, fun _ => rfl, fun _ _ => rfl⟩, fun a k q => Decidable.of_not_not q⟩
theorem PgOK_ag {h h2 : Hp} {p : Nat} (d : PgOK h p) (n : gN h ≤ gN h2) (e : gR h2 5 p = gR h 5 p) (k : ∀ a, a < gN h → gK h2 a = gK h a ∧ gL h2 a = gL h a) (r : ∀ i, 1 ≤ i → i ≤ 3 → gR h2 (pb h p) i = gR h (pb h p) i) : PgOK h2 p ∧ pb h2 p = pb h p ∧ pl h2 p = pl h p := by
  obtain ⟨d1, d2, d3, d4, d5, d6, d7⟩ := d
  have e1 : pb h2 p = pb h p := by unfold pb; rw [e]
  have e2 : pl h2 p = pl h p := by unfold pl; rw [e1, (k _ (by omega)).2]
  refine ⟨⟨?_, ?_, ?_, ?_, fun i h1 h3 => ?_, ?_, ?_⟩, e1, e2⟩
  · rw [e, e1]; exact d1
  · rw [e1]; exact d2
  · rw [e1]; omega
  · rw [e1, (k _ (by omega)).1]; exact d4
  · rw [e1, e2, (k _ (by omega)).1, (k _ (by omega)).2, r i h1 h3]; exact d5 i h1 h3
  · rw [e2]; exact d6
  · rw [e2]; exact d7
theorem FoOK_ag {h h2 : Hp} {b c l : Nat} (d : FoOK h b c l) (hb : b + 6 ≤ gN h) (k : ∀ a, a < gN h → gK h2 a = gK h a ∧ gL h2 a = gL h a) (r : ∀ j, gR h2 b j = gR h b j) : FoOK h2 b c l := by
  obtain ⟨d1, d2, d3, d4, d5, d6, d7, d8, d9, d10, d11⟩ := d
  refine ⟨by rw [(k _ (by omega)).1]; exact d1, by rw [r]; exact d2, by rw [r]; exact d3, by rw [r]; exact d4, by rw [r]; exact d5, by rw [r]; exact d6, fun i h1 h3 => ?_, by rw [(k _ (by omega)).1]; exact d8, by rw [(k _ (by omega)).2]; exact d9, by rw [(k _ (by omega)).1]; exact d10, by rw [(k _ (by omega)).2]; exact d11⟩
  rw [(k _ (by omega)).1, (k _ (by omega)).2]; exact d7 i h1 h3
theorem ShOK_ag {h h2 : Hp} {s : Nat} (d : ShOK h s) (n : gN h ≤ gN h2) (e : gR h2 7 s = gR h 7 s) (k : ∀ a, a < gN h → gK h2 a = gK h a ∧ gL h2 a = gL h a) (r : ∀ a j, (a = sb h s ∨ a = sb h s + 1 ∨ a = sb h s + 7) → gR h2 a j = gR h a j) : ShOK h2 s ∧ sb h2 s = sb h s ∧ cp h2 s = cp h s ∧ lv h2 s = lv h s := by
  obtain ⟨d1, d2, d3, d4, d5, d6, d7, d8, d9, d10, d11, d12⟩ := d
  have e1 : sb h2 s = sb h s := by unfold sb; rw [e]
  have e2 : cp h2 s = cp h s := by unfold cp; rw [e1, (k _ (by omega)).2]
  have e3 : lv h2 s = lv h s := by unfold lv; rw [e1, (k _ (by omega)).2]
  refine ⟨⟨?_, ?_, ?_, ?_, ?_, ?_, ?_, ?_, ?_, ?_, ?_, ?_⟩, e1, e2, e3⟩
  · rw [e, e1]; exact d1
  · rw [e1]; exact d2
  · rw [e1]; omega
  · rw [e1, (k _ (by omega)).1]; exact d4
  · rw [e1, r _ _ (by omega)]; exact d5
  · rw [e1, r _ _ (by omega)]; exact d6
  · rw [e1, r _ _ (by omega)]; exact d7
  · rw [e1, (k _ (by omega)).1]; exact d8
  · rw [e2]; exact d9
  · rw [e2]; exact d10
  · rw [e1, e2, (k _ (by omega)).2]; exact FoOK_ag d11 (by omega) k (fun j => r _ _ (by omega))
  · rw [e1, e2, (k _ (by omega)).2]; exact FoOK_ag d12 (by omega) k (fun j => r _ _ (by omega))
theorem ShS_ag {h h2 : Hp} {s : Nat} (d : ShS h s) (e1 : sb h2 s = sb h s) (e2 : cp h2 s = cp h s) (e3 : lv h2 s = lv h s) (n : nP h ≤ nP h2) (x : ∀ a, (a = 63 ∨ a = 64 ∨ a = 65) → gI h2 a s = gI h a s) (y : ∀ k, k < 3 → gI h2 (sb h s) k = gI h (sb h s) k) (w : ∀ k, k < 2 * lv h s → gR h2 (fb h (2 * s + k % 2) + 4) (k / 2) = gR h (fb h (2 * s + k % 2) + 4) (k / 2) ∧ pb h2 (pgS h s k) = pb h (pgS h s k) ∧ gI h2 54 (pgS h s k) = gI h 54 (pgS h s k) ∧ gI h2 55 (pgS h s k) = gI h 55 (pgS h s k) ∧ gR h2 (pb h (pgS h s k)) 7 = gR h (pb h (pgS h s k)) 7) : ShS h2 s := by
  have f1 : fm h2 s = fm h s := by unfold fm; rw [x 63 (by omega)]
  have f2 : fst h2 s = fst h s := by unfold fst; rw [x 64 (by omega)]
  have f3 : ∀ k, pgS h2 s k = pgS h s k := fun k => by unfold pgS; rw [f1, f2]
  have f4 : ∀ k, fb h2 (2 * s + k % 2) = fb h (2 * s + k % 2) := fun k => by
    unfold fb
    rw [show (2 * s + k % 2) / 2 = s by omega, e1]
  obtain ⟨d1, d2, d3, d4, d5, d6, d7, d8, d9, d10, d11⟩ := d
  unfold ShS
  rw [f1, f2, e1, e2, e3, x 63 (by omega), x 64 (by omega), x 65 (by omega), y 0 (by omega), y 1 (by omega), y 2 (by omega)]
  refine ⟨d1, d2, d3, d4, d5, d6, by omega, d8, d9, d10, fun k hk => ?_⟩
  obtain ⟨w1, w2, w3, w4, w5⟩ := w k hk
  rw [f3, f4, w1, w2, w3, w4, w5]
  exact d11 k hk
theorem fb_e {h : Hp} (s k : Nat) : fb h (2 * s + k % 2) = sb h s + 1 + 6 * (k % 2) := by
  unfold fb
  rw [show (2 * s + k % 2) / 2 = s by omega, show (2 * s + k % 2) % 2 = k % 2 by omega]
theorem page_inv {h h2 : Hp} {z : Nat} {cd : Nat → Int32} (hs : SH h) (g : IGeo h) (dd : IPd h) (x : IFix h) (q : ISh h) (fs : IFs h) (o : IFo h) (k : ISk h) (w : ISn h) (gd' : IGd h) (m : ISm h) (F : PgF h h2 z cd) (hz1 : 1 ≤ z) (hz2 : z ≤ 120) (hp : nP h < 48) (hcd : ∀ k, k < z → code9 (cd k)) : (IGeo h2 ∧ IPd h2 ∧ IFix h2 ∧ ISh h2 ∧ IFs h2) ∧ (IFo h2 ∧ ISk h2 ∧ ISn h2 ∧ IGd h2 ∧ ISm h2) := by
  have h88 := hs.1
  obtain ⟨⟨F1, F2⟩, F3, F4, F5, ⟨G1, G2, G3, G4⟩, ⟨H1, H2, H3, H4⟩, ⟨J1, J2, J3⟩, K1, K2, K3, K4, K5⟩ := F
  obtain ⟨g1, g2, g3, g4, g5, g6, g7, g8, g9⟩ := g
  have nP2 : nP h2 = nP h + 1 := by
    show (gI h2 0 4).toInt.toNat = _
    rw [H1, nI_toInt (by omega)]; rfl
  have lo : ∀ a k, a < 88 → ¬ PPg (nP h) a k → gI h2 a k = gI h a k := fun a k ha => F5 a k (by omega)
  have hi : ∀ a k, 88 ≤ a → a < gN h → gI h2 a k = gI h a k := fun a k h1 ha => F5 a k ha (by unfold PPg; omega)
  have e07 : gI h2 0 7 = gI h 0 7 := lo _ _ (by omega) (by unfold PPg; omega)
  have nS2 : nS h2 = nS h := by unfold nS; rw [e07]
  have sbe : sb h2 = sb h := by funext s; unfold sb; rw [F4 _ _ (by omega) (by omega)]
  have fbe : fb h2 = fb h := by funext f; unfold fb; rw [sbe]
  have po : ∀ p, p < nP h → PgOK h2 p ∧ pb h2 p = pb h p ∧ pl h2 p = pl h p := fun p hp' => PgOK_ag (g5 p hp') (by omega) (F4 _ _ (by omega) (by omega)) F3 (fun i h1 h3 => F4 _ _ (by have := (g5 p hp').2.2.1; omega) (by have := (g5 p hp').2.1; omega))
  have so : ∀ s, s < nS h → ShOK h2 s ∧ sb h2 s = sb h s ∧ cp h2 s = cp h s ∧ lv h2 s = lv h s := fun s hs' => ShOK_ag (g6 s hs') (by omega) (F4 _ _ (by omega) (by omega)) F3 (fun a j ha => F4 _ _ (by have := (g6 s hs').2.2.1; omega) (by have := (g6 s hs').2.1; omega))
  have pbn : pb h2 (nP h) = gN h := by unfold pb; rw [G1]; rfl
  have pln : pl h2 (nP h) = z := by unfold pl; rw [pbn]; exact (G3 1 (by omega) (by omega)).2.1
  have fme : fm h2 = fm h := by funext s; unfold fm; rw [lo _ _ (by omega) (by unfold PPg; omega)]
  have fse : fst h2 = fst h := by funext s; unfold fst; rw [lo _ _ (by omega) (by unfold PPg; omega)]
  have pge : pgS h2 = pgS h := by funext s k; unfold pgS; rw [fme, fse]
  have nMe : nM h2 = nM h := by funext s; unfold nM; rw [lo _ _ (by omega) (by unfold PPg; omega)]
  have sr : ∀ s, s < nS h → 88 ≤ sb h s ∧ sb h s + 14 ≤ gN h := fun s hs' => ⟨(g6 s hs').2.1, (g6 s hs').2.2.1⟩
  have pr : ∀ p, p < nP h → 88 ≤ pb h p ∧ pb h p + 4 ≤ gN h := fun p hp' => ⟨(g5 p hp').2.1, (g5 p hp').2.2.1⟩
  have cp60 : ∀ s, s < nS h → cp h s ≤ 60 := fun s hs' => (g6 s hs').2.2.2.2.2.2.2.2.2.1
  refine ⟨⟨?_, ?_, ?_, ?_, ?_⟩, ?_, ?_, ?_, ?_, ?_⟩
  · refine ⟨by rw [nP2]; exact H1, by omega, by rw [nS2, e07]; exact g3, by rw [nS2]; exact g4, fun p hp' => ?_, fun s hs' => ?_, fun p p' h1 h3 => ?_, fun s u h1 h3 => ?_, fun p s h1 h3 => ?_⟩
    · rw [nP2] at hp'
      by_cases c : p = nP h
      · subst c
        refine ⟨by rw [pbn]; exact G1, by rw [pbn]; exact h88, by rw [pbn]; omega, by rw [pbn]; exact G2, fun i h1 h3 => ?_, by rw [pln]; exact hz1, by rw [pln]; exact hz2⟩
        rw [pbn, pln]; exact G3 i h1 h3
      · exact (po p (by omega)).1
    · rw [nS2] at hs'; exact (so s hs').1
    · rw [nP2] at h3
      rw [(po p (by omega)).2.1]
      by_cases c : p' = nP h
      · rw [c, pbn]; exact (pr p (by omega)).2
      · rw [(po p' (by omega)).2.1]; exact g7 p p' h1 (by omega)
    · rw [nS2] at h3
      rw [sbe]; exact g8 s u h1 h3
    · rw [nP2] at h1
      rw [nS2] at h3
      rw [sbe]
      by_cases c : p = nP h
      · rw [c, pbn]; right; exact (sr s h3).2
      · rw [(po p (by omega)).2.1]; exact g9 p s (by omega) h3
  · refine ⟨by rw [nP2]; exact H2, fun p hp' => ?_⟩
    rw [nP2] at hp'
    by_cases c : p = nP h
    · subst c
      unfold PgD
      rw [pbn, pln]
      refine ⟨J1, K2, fun k hk => ⟨?_, ?_⟩, ?_, Or.inl ⟨J3, K3⟩⟩
      · rw [(K1 k hk).1, (K1 k hk).2]
      · rw [(K1 k hk).1]; exact hcd k hk
      · rw [J2]; congr 1
        exact cnt_congr (fun k hk => by rw [(K1 k hk).1])
    · have hp'' : p < nP h := by omega
      have r := pr p hp''
      have l := (g5 p hp'').2.2.2.2.2.2
      exact PgD.fr (po p hp'').2.1 (po p hp'').2.2 (fun k _ => hi _ _ (by omega) (by omega)) (fun k => hi _ _ (by omega) (by omega)) (fun k => hi _ _ (by omega) (by omega)) (lo _ _ (by omega) (by unfold PPg; omega)) (fun k hk => lo _ _ (by omega) (by unfold PPg; omega)) (fun k _ => lo _ _ (by omega) (by unfold PPg; omega)) (lo _ _ (by omega) (by unfold PPg; omega)) (dd.2 p hp'')
  · exact IFix.fr (h2 := nOf h h2) (nOf_u h h2) (fun a k ha => fun c => c (lo _ _ (by omega) (by unfold PPg; omega))) x
  · refine ⟨by rw [nS2, lo _ _ (by omega) (by unfold PPg; omega)]; exact q.1, fun s hs' => ?_, fun p hp' => ?_⟩
    · rw [nS2] at hs'
      have r := sr s hs'
      have e3 : lv h s ≤ 8 := by
        have a := (q.2.1 s hs')
        rw [a.2.2.2.1]
        exact Nat.le_trans (Nat.pow_le_pow_right (by decide) a.2.2.1) (by decide)
      refine ShS_ag (q.2.1 s hs') (so s hs').2.1 (so s hs').2.2.1 (so s hs').2.2.2 (by omega) (fun a ha => lo _ _ (by omega) (by unfold PPg; omega)) (fun k _ => hi _ _ (by omega) (by omega)) (fun k hk => ?_)
      have pl' := (pgS_lt q hs' hk).1
      have r2 := pr _ pl'
      refine ⟨?_, (po _ pl').2.1, lo _ _ (by omega) (by unfold PPg; omega), lo _ _ (by omega) (by unfold PPg; omega), F4 _ _ (by omega) (by omega)⟩
      rw [fb_e]
      exact F4 _ _ (by omega) (by omega)
    · rw [nP2] at hp'
      by_cases c : p = nP h
      · rw [c, pbn]; exact Or.inl ⟨K5, G4⟩
      · have hp'' : p < nP h := by omega
        have r := pr p hp''
        rw [(po p hp'').2.1, lo 54 p (by omega) (by unfold PPg; omega), F4 _ _ (by omega) (by omega), nS2, pge]
        rcases q.2.2 p hp'' with i | ⟨s, j, i1, i2, i3⟩
        · exact Or.inl i
        · exact Or.inr ⟨s, j, i1, by rw [(so s i1).2.2.2]; exact i2, i3⟩
  · intro s hs'
    rw [nS2] at hs'
    have r := sr s hs'
    rw [sbe, hi _ _ (by omega) (by omega), lo _ _ (by omega) (by unfold PPg; omega)]
    exact fs s hs'
  · refine ⟨fun f hf => ?_, fun f h1 h3 => ?_⟩
    · rw [nS2] at hf
      have r := sr (f / 2) (by omega)
      have fbr : 88 ≤ fb h f ∧ fb h f + 6 ≤ gN h := by unfold fb; omega
      exact FoD.fr (by rw [fbe]) (so (f / 2) (by omega)).2.2.1 (fun k _ => hi _ _ (by omega) (by omega)) (fun o' k ho => hi _ _ (by omega) (by omega)) (lo _ _ (by omega) (by unfold PPg; omega)) (lo _ _ (by omega) (by unfold PPg; omega)) (lo _ _ (by omega) (by unfold PPg; omega)) (fun k _ => lo _ _ (by omega) (by unfold PPg; omega)) (fun a k ha _ => lo _ _ (by omega) (by unfold PPg; omega)) (cp60 _ (by omega)) (o.1 f hf)
    · rw [nS2] at h1
      rw [lo 68 _ (by omega) (by unfold PPg; omega), lo 69 _ (by omega) (by unfold PPg; omega)]
      exact o.2 f h1 h3
  · obtain ⟨k1, k2, k3, k4, k5, k6⟩ := k
    have x67 : ∀ f, gI h2 67 f = gI h 67 f := fun f => lo _ _ (by omega) (by unfold PPg; omega)
    have x8 : ∀ f, gI h2 8 f = gI h 8 f := fun f => lo _ _ (by omega) (by unfold PPg; omega)
    unfold ISk
    rw [nS2, nP2, pge, fbe]
    simp only [x67, x8]
    refine ⟨fun f hf => ?_, k2, k3, k4, fun p hp' => ?_, fun s j hs' hj => ?_⟩
    · have r := sr (f / 2) (by omega)
      have fbr : 88 ≤ fb h f ∧ fb h f + 6 ≤ gN h := by unfold fb; omega
      rw [hi _ _ (by omega) (by omega)]; exact k1 f hf
    · by_cases c : p = nP h
      · rw [c]; exact fun _ => K4
      · rw [lo 54 p (by omega) (by unfold PPg; omega), lo 53 p (by omega) (by unfold PPg; omega)]
        exact k5 p (by omega)
    · rw [(so s hs').2.2.2] at hj
      have pl' := (pgS_lt q hs' hj).1
      have r2 := pr _ pl'
      rw [(po _ pl').2.1, lo 53 _ (by omega) (by unfold PPg; omega), hi _ _ (by omega) (by omega)]
      exact k6 s j hs' hj
  · intro s j hs' hj
    rw [nS2] at hs'
    rw [(so s hs').2.2.2] at hj
    have pl' := (pgS_lt q hs' hj).1
    have r2 := pr _ pl'
    have l := (g5 _ pl').2.2.2.2.2.2
    rw [pge, nMe, (po _ pl').2.1, (po _ pl').2.2]
    intro hm i hi'
    rw [hi _ _ (by omega) (by omega), lo 51 _ (by omega) (by unfold PPg; omega)]
    exact w s j hs' hj hm i hi'
  · have x74 : ∀ j, gI h2 74 j = gI h 74 j := fun f => lo _ _ (by omega) (by unfold PPg; omega)
    refine ⟨fun j hj => by rw [x74]; exact gd'.1 j hj, fun s hs' => ?_, fun s c hs' hc qq => ?_⟩
    · rw [nS2] at hs'
      have r := sr s hs'
      exact GdD.fr (by rw [sbe]) (so s hs').2.2.1 (hi _ _ (by omega) (by omega)) (fun k => hi _ _ (by omega) (by omega)) (fun c _ => x74 _) (cp60 s hs') (gd'.2.1 s hs')
    · rw [nS2] at qq
      rw [x74]
      refine gd'.2.2 s c hs' hc ?_
      rcases Nat.lt_or_ge s (nS h) with v | v
      · rw [(so s v).2.2.1] at qq; exact qq
      · exact Or.inl v
  · exact ISm.fr (h2 := nOf h h2) (nOf_u h h2) (fun a k ha => fun c => c (lo _ _ (by omega) (by unfold PPg; omega))) m
