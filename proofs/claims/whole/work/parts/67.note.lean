def PNt (h : Hp) (f : Nat) (a k : Nat) : Prop := (a = fb h f ∧ k = 4) ∨ (fb h f + 1 ≤ a ∧ a ≤ fb h f + 3) ∨ a = 69 ∨ a = 71 ∨ a = 72 ∨ a = 73
theorem FoD_note {h h2 : Hp} {f : Nat} (hc : cp h (f / 2) ≤ 60) (hC : nC h f < 30) (e1 : fb h2 f = fb h f) (e2 : cp h2 (f / 2) = cp h (f / 2)) (d : FoD h f) (a0 : ∀ k, (k = 3 ∨ k = 5 ∨ k = 6) → gI h2 (fb h f) k = gI h (fb h f) k) (a4 : gI h2 (fb h f) 4 = nI (nC h f + 1)) (a5 : ∀ k, gI h2 (fb h f + 5) k = gI h (fb h f + 5) k) (b1 : gI h2 66 (f / 2) = gI h 66 (f / 2)) (b2 : gI h2 68 f = gI h 68 f) (b3 : gI h2 69 f = nI (nC h f + 1)) (b4 : ∀ k, k < 60 → gI h2 70 (60 * f + k) = gI h 70 (60 * f + k)) (b5 : ∀ o k, 1 ≤ o → o ≤ 3 → k < nC h f → gI h2 (fb h f + o) k = gI h (fb h f + o) k ∧ gI h2 (70 + o) (30 * f + k) = gI h (70 + o) (30 * f + k)) (b6 : ∀ o, 1 ≤ o → o ≤ 3 → gI h2 (fb h f + o) (nC h f) = gI h2 (70 + o) (30 * f + nC h f)) : FoD h2 f := by
  obtain ⟨⟨d1, d2, d3, d4, d5, d6⟩, d7, d8, d9, d10, d11, d12, d13⟩ := d
  have x1 : nM h2 f = nM h f := by unfold nM; rw [b2]
  have x2 : nC h2 f = nC h f + 1 := by
    have : (gI h2 69 f).toInt.toNat = nC h f + 1 := by rw [b3, nI_toInt (by omega)]; omega
    exact this
  have x3 : ∀ j, j < 60 → vS h2 f j = vS h f j := b4
  have x4 : pres h2 f = pres h f := by
    funext x
    unfold pres
    rw [cnt_congr (P := fun j => decide (vS h2 f j = nI x)) (fun j hj => by rw [x3 j hj])]
  have x5 : ∀ j, dn h2 f j = dn h f j := fun j => by unfold dn; rw [e2, b1, x1]
  unfold FoD
  rw [e1, e2, x1, x2, x4, a0 3 (by omega), a4, a0 5 (by omega), a0 6 (by omega), b1, b2, b3]
  refine ⟨⟨d1, d2, d3, rfl, rfl, by omega⟩, fun k hk => ?_, fun j hj => ?_, fun j hj => ?_, d10, d11, fun z => ?_, d13⟩
  · by_cases c : k = nC h f
    · subst c
      exact ⟨b6 1 (by decide) (by decide), b6 2 (by decide) (by decide), b6 3 (by decide) (by decide)⟩
    · have a1 := b5 1 k (by decide) (by decide) (by omega)
      have a2 := b5 2 k (by decide) (by decide) (by omega)
      have a3 := b5 3 k (by decide) (by decide) (by omega)
      rw [a1.1, a2.1, a3.1]
      rw [show gI h2 71 (30 * f + k) = gI h 71 (30 * f + k) from a1.2, show gI h2 72 (30 * f + k) = gI h 72 (30 * f + k) from a2.2, show gI h2 73 (30 * f + k) = gI h 73 (30 * f + k) from a3.2]
      exact d7 k (by omega)
  · rw [a5, x3 j (by omega)]; exact d8 j hj
  · rw [x3 j hj, x5]
    refine ⟨fun z => ?_, (d9 j hj).2⟩
    obtain ⟨v, hv, e⟩ := (d9 j hj).1 z
    exact ⟨v, by omega, e⟩
  · obtain ⟨L, l1, l2, l3, l4⟩ := d12 z
    exact ⟨L, by omega, l2, l3, l4⟩
theorem ms91_3 : f_X9_misset_J91_3 = f_X9_misset_J91 := rfl
theorem ms88_3 : f_X10_misset_J88_3 = f_X10_misset_J88 := rfl
/-- the sheets' side of a note -/
theorem IFo_note {h h2 : Hp} (i : IGeo h) (o : IFo h) {f p : Nat} (hf : f < 2 * nS h) (hp : p < nP h) (hC : nC h f < 30) (u : Upd h h2 (fun a k => PSt h p a k ∨ PNt h f a k)) (a4 : gI h2 (fb h f) 4 = nI (nC h f + 1)) (b3 : gI h2 69 f = nI (nC h f + 1)) (b3' : ∀ g, g ≠ f → gI h2 69 g = gI h 69 g) (b5 : ∀ o k, 1 ≤ o → o ≤ 3 → k ≠ nC h f → gI h2 (fb h f + o) k = gI h (fb h f + o) k) (b5' : ∀ o x, 1 ≤ o → o ≤ 3 → x ≠ 30 * f + nC h f → gI h2 (70 + o) x = gI h (70 + o) x) (b6 : ∀ o, 1 ≤ o → o ≤ 3 → gI h2 (fb h f + o) (nC h f) = gI h2 (70 + o) (30 * f + nC h f)) : IFo h2 := by
  have hnS := i.2.2.2.1
  have lf := lo_f i hf
  have n1 : ∀ k, (k = 4 ∨ k = 7) → ¬ (PSt h p 0 k ∨ PNt h f 0 k) := fun k hk => by
    have := PSt_no i hp (a := 0) (k := k) (by decide) (by decide)
    rintro (z | z)
    · exact this z
    · unfold PNt at z; omega
  obtain ⟨w1, w2, w3, w4, w5, w6, w7, w8, w9⟩ := u.geo ⟨n1 4 (Or.inl rfl), n1 7 (Or.inr rfl)⟩
  have n2 : ∀ g o k, g < 2 * nS h → o < 6 → (g ≠ f ∨ o = 5 ∨ (o = 0 ∧ k ≠ 4)) → gI h2 (fb h g + o) k = gI h (fb h g + o) k := fun g o k hg ho hne => by
    have lg := lo_f i hg
    refine u.2 _ _ ?_
    rintro (z | z)
    · have e : fb h g + o = sb h (g / 2) + (1 + 6 * (g % 2) + o) := by unfold fb; omega
      rw [e] at z
      exact PSt_sh i hp (s := g / 2) (by omega) (by omega) z
    · rcases z with ⟨z, z2⟩ | z | z
      · have := geo_ff i hg hf ho (o' := 0) (by decide) z; omega
      · have := geo_ff i hg hf ho (o' := fb h g + o - fb h f) (by omega) (by omega); omega
      · omega
  have n3 : ∀ a k, (a = 66 ∨ a = 68 ∨ a = 70) → gI h2 a k = gI h a k := fun a k ha => by
    refine u.2 _ _ ?_
    rintro (z | z)
    · exact PSt_no i hp (by omega) (by omega) z
    · unfold PNt at z; omega
  refine ⟨fun g hg => ?_, fun g hg1 hg2 => ?_⟩
  · rw [w2] at hg
    have hcp := (sh_at i (s := g / 2) (by omega)).2.2.2.2.2.2.2.2.2.1
    by_cases c : g = f
    · subst c
      exact FoD_note hcp hC (by rw [w8]) (by rw [w6]) (o.1 g hf) (fun k hk => n2 g 0 k hf (by decide) (by omega)) a4 (fun k => n2 g 5 k hf (by decide) (by omega)) (n3 _ _ (by omega)) (n3 _ _ (by omega)) b3 (fun k _ => n3 _ _ (by omega)) (fun o' k h1 h2 hk => ⟨b5 o' k h1 h2 (by omega), b5' o' _ h1 h2 (by omega)⟩) b6
    · refine FoD.fr (by rw [w8]) (by rw [w6]) (fun k hk => n2 g 0 k hg (by decide) (by omega)) (fun o' k ho => n2 g o' k hg (by omega) (by omega)) (n3 _ _ (by omega)) (n3 _ _ (by omega)) (b3' g c) (fun k _ => n3 _ _ (by omega)) (fun a k ha hk => ?_) hcp (o.1 g hg)
      have hCx : 30 * g + k ≠ 30 * f + nC h f := by omega
      rcases ha with rfl | rfl | rfl
      · exact b5' 1 _ (by decide) (by decide) hCx
      · exact b5' 2 _ (by decide) (by decide) hCx
      · exact b5' 3 _ (by decide) (by decide) hCx
  · rw [w2] at hg1
    rw [n3 68 _ (by omega), b3' g (by omega)]
    exact o.2 g hg1 hg2
/-- what a misset does beyond the notes -/
def MsB (h h2 : Hp) (p k l0 l1 s0 s1 : Nat) : Prop := gI h2 3 l0 = nI (s0 + 1) ∧ gI h2 3 l1 = nI (s1 - 1) ∧ (∀ l, l ≠ l0 → l ≠ l1 → gI h2 3 l = gI h 3 l) ∧ gI h2 47 l0 = nI (s0 + 1) ∧ gI h2 47 l1 = nI (s1 - 1) ∧ (∀ l, l ≠ l0 → l ≠ l1 → gI h2 47 l = gI h 47 l) ∧ gI h2 (pb h p + 2) k = nI l1 ∧ (∀ j, j ≠ k → gI h2 (pb h p + 2) j = gI h (pb h p + 2) j) ∧ gI h2 50 (120 * p + k) = nI l1 ∧ (∀ x, x ≠ 120 * p + k → gI h2 50 x = gI h 50 x)
theorem MsB_post {t : Nat} {h h2 : Hp} (i : IGeo h) (dd : IPd h) (ic : IC t h) {p k l0 l1 s0 s1 : Nat} (hp : p < nP h) (hk : k < pl h p) (hl0 : l0 < 26) (hl1 : l1 < 26) (hs0 : s0 ≤ 2000 * t) (hs1 : s1 ≤ 2000 * t) (hset : gI h (pb h p) 5 = 1) (hst : gI h (pb h p + 2) k = nI l0) (m : MsB h h2 p k l0 l1 s0 s1) (geo : nP h2 = nP h ∧ pb h2 = pb h ∧ pl h2 = pl h) (g1 : gI h2 45 11 = gI h 45 11) (g2 : ∀ q j, q < nP h → gI h2 (pb h q) j = gI h (pb h q) j ∧ gI h2 (pb h q + 1) j = gI h (pb h q + 1) j) (g3 : ∀ q j, q < nP h → q ≠ p → gI h2 (pb h q + 2) j = gI h (pb h q + 2) j) (g4 : ∀ a j, (a = 48 ∨ a = 49 ∨ a = 52) → gI h2 a j = gI h a j) : IPd h2 ∧ IC (t + 1) h2 := by
  obtain ⟨m1, m2, m3, m4, m5, m6, m7, m8, m9, m10⟩ := m
  have hnp := i.2.1
  constructor
  · refine ⟨by rw [g1, geo.1]; exact dd.1, fun q hq => ?_⟩
    rw [geo.1] at hq
    by_cases c : q = p
    · subst c
      have hpl := (i.2.2.2.2.1 _ hp).2.2.2.2.2.2
      obtain ⟨d1, d2, d3, d4, d5⟩ := dd.2 q hp
      unfold PgD
      rw [geo.2.1, geo.2.2, (g2 q 0 hp).1, (g2 q 4 hp).1, (g2 q 5 hp).1, (g2 q 6 hp).1, g4 48 _ (by omega), g4 52 _ (by omega)]
      refine ⟨d1, d2, fun j hj => ?_, ?_, ?_⟩
      · rw [(g2 q j hp).2, g4 49 _ (by omega)]; exact d3 j hj
      · rw [d4]; congr 1; exact cnt_congr (fun j _ => by rw [(g2 q j hp).2])
      · rcases d5 with ⟨e1, -⟩ | ⟨e1, e2, e3, e4⟩
        · rw [hset] at e1; exact absurd e1 (by decide)
        · refine Or.inr ⟨e1, e2, e3, fun j hj => ?_⟩
          rw [(g2 q j hp).2]
          by_cases c2 : j = k
          · subst c2
            rw [m7, m9]
            refine ⟨rfl, ⟨l1, by omega, rfl⟩, ?_⟩
            rw [← (e4 j hj).2.2, hst]
            have a1 : isLet (nI l1) = true := by rw [isLet_i, nI_toInt (by omega)]; omega
            have a2 : isLet (nI l0) = true := by rw [isLet_i, nI_toInt (by omega)]; omega
            rw [a1, a2]
          · rw [m8 j c2, m10 _ (by omega)]; exact e4 j hj
    · have hpl := (i.2.2.2.2.1 _ hq).2.2.2.2.2.2
      have hpl2 := (i.2.2.2.2.1 _ hp).2.2.2.2.2.2
      exact PgD.fr (by rw [geo.2.1]) (by rw [geo.2.2]) (fun j _ => (g2 q j hq).1) (fun j => (g2 q j hq).2) (fun j => g3 q j hq c) (g4 _ _ (by omega)) (fun j _ => g4 _ _ (by omega)) (fun j hj => m10 _ (by omega)) (g4 _ _ (by omega)) (dd.2 q hq)
  · intro l hl
    by_cases c0 : l = l0
    · subst c0
      rw [m1, m4]; exact ⟨rfl, s0 + 1, by omega, rfl⟩
    · by_cases c1 : l = l1
      · subst c1
        rw [m2, m5]; exact ⟨rfl, s1 - 1, by omega, rfl⟩
      · rw [m3 l c0 c1, m6 l c0 c1]
        exact ic.up (Nat.le_succ t) l hl
