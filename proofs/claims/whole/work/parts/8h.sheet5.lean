/-- what a new sheet leaves -/
def ShF (h h2 : Hp) (m first c : Nat) : Prop := (gN h2 = gN h + 14 ∧ gS h2 ≤ gS h + 2000) ∧ (∀ a, a < gN h → gK h2 a = gK h a ∧ gL h2 a = gL h a) ∧ (∀ a k, a < gN h → ¬ (a = 7 ∧ k = nS h) → ¬ (∃ j, j < 2 * 2 ^ m ∧ a = pb h (first + j) ∧ k = 7) → gR h2 a k = gR h a k) ∧ (∀ a k, a < gN h → ¬ ShP (nS h) first (2 * 2 ^ m) a k → gI h2 a k = gI h a k) ∧ gR h2 7 (nS h) = some (gN h) ∧ ShN h2 (gN h) (2 ^ m) c (nI first) ∧ (∀ k, k < 2 * 2 ^ m → gR h2 (gN h + 1 + 6 * (k % 2) + 4) (k / 2) = some (pb h (first + tab m k)) ∧ gR h2 (pb h (first + tab m k)) 7 = some (gN h + 1 + 6 * (k % 2))) ∧ (gI h2 0 7 = nI (nS h + 1) ∧ gI h2 45 23 = nI (nS h + 1)) ∧ (gI h2 63 (nS h) = nI m ∧ gI h2 64 (nS h) = nI first ∧ gI h2 65 (nS h) = nI c ∧ gI h2 66 (nS h) = -1) ∧ (∀ k, k < 2 * 2 ^ m → gI h2 54 (first + k) = nI (nS h)) ∧ (∀ k, k < 2 * 2 ^ m → gI h2 55 (first + tab m k) = nI k) ∧ ∀ k, k < 120 → gI h2 70 (120 * nS h + k) = -1
theorem sheet_inv {h h2 : Hp} {m first c : Nat} (hs : SH h) (g : IGeo h) (dd : IPd h) (x : IFix h) (q : ISh h) (fs : IFs h) (o : IFo h) (k : ISk h) (w : ISn h) (gd' : IGd h) (sm : ISm h) (F : ShF h h2 m first c) (h1 : 1 ≤ m) (h3 : m ≤ 3) (c1 : 1 ≤ c) (c2 : c ≤ 60) (hf : first + 2 * 2 ^ m ≤ nP h) (h6 : nS h < 6) (free : ∀ j, j < 2 * 2 ^ m → gI h 54 (first + j) = -1) : (IGeo h2 ∧ IPd h2 ∧ IFix h2 ∧ ISh h2 ∧ IFs h2) ∧ (IFo h2 ∧ ISk h2 ∧ ISn h2 ∧ IGd h2 ∧ ISm h2) := by
  have h88 := hs.1
  obtain ⟨⟨F1, F2⟩, F3, F4, F5, G1, ⟨⟨N1, N2, N3, N4, N5, N6⟩, ⟨N7, N8⟩, ⟨N9, N10, N11, N12, N13⟩, N14, N15⟩, G3, ⟨H1, H2⟩, ⟨J1, J2, J3, J4⟩, K1, K2, K3⟩ := F
  obtain ⟨g1, g2, g3, g4, g5, g6, g7, g8, g9⟩ := id g
  obtain ⟨p2, p8⟩ := p2m h1 h3
  generalize hn : 2 * 2 ^ m = n at *
  have nS2 : nS h2 = nS h + 1 := by
    show (gI h2 0 7).toInt.toNat = _
    rw [H1, nI_toInt (by omega)]; rfl
  have lo : ∀ a k, a < 88 → ¬ ShP (nS h) first n a k → gI h2 a k = gI h a k := fun a k ha => F5 a k (by omega)
  have hi : ∀ a k, 88 ≤ a → a < gN h → gI h2 a k = gI h a k := fun a k h1 ha => F5 a k ha (by unfold ShP; omega)
  have e04 : gI h2 0 4 = gI h 0 4 := lo _ _ (by omega) (by unfold ShP; omega)
  have nP2 : nP h2 = nP h := by unfold nP; rw [e04]
  have pr : ∀ p, p < nP h → 88 ≤ pb h p ∧ pb h p + 4 ≤ gN h := fun p hp' => ⟨(g5 p hp').2.1, (g5 p hp').2.2.1⟩
  have sr : ∀ s, s < nS h → 88 ≤ sb h s ∧ sb h s + 14 ≤ gN h := fun s hs' => ⟨(g6 s hs').2.1, (g6 s hs').2.2.1⟩
  have rlow : ∀ a k, a < 88 → ¬ (a = 7 ∧ k = nS h) → gR h2 a k = gR h a k := fun a k ha q1 => F4 a k (by omega) q1 (fun ⟨j, j1, j2, _⟩ => by have := pr (first + j) (by omega); omega)
  have r7n : ∀ a k, a < gN h → ¬ (a = 7 ∧ k = nS h) → k ≠ 7 → gR h2 a k = gR h a k := fun a k ha q1 q2 => F4 a k ha q1 (fun ⟨j, _, _, j3⟩ => q2 j3)
  have rsh : ∀ s, s < nS h → ∀ a k, sb h s ≤ a → a < sb h s + 14 → gR h2 a k = gR h a k := fun s hs' a k a1 a2 => F4 a k (by have := sr s hs'; omega) (by have := sr s hs'; omega) (fun ⟨j, j1, j2, _⟩ => by
    have := g9 (first + j) s (by omega) hs'
    have := pr (first + j) (by omega)
    omega)
  have po : ∀ p, p < nP h → PgOK h2 p ∧ pb h2 p = pb h p ∧ pl h2 p = pl h p := fun p hp' => PgOK_ag (g5 p hp') (by omega) (rlow _ _ (by omega) (by omega)) F3 (fun i i1 i2 => r7n _ _ (by have := pr p hp'; omega) (by have := pr p hp'; omega) (by omega))
  have so : ∀ s, s < nS h → ShOK h2 s ∧ sb h2 s = sb h s ∧ cp h2 s = cp h s ∧ lv h2 s = lv h s := fun s hs' => ShOK_ag (g6 s hs') (by omega) (rlow _ _ (by omega) (by omega)) F3 (fun a j ha => rsh s hs' a j (by omega) (by omega))
  have sbn : sb h2 (nS h) = gN h := by unfold sb; rw [G1]; rfl
  have cpn : cp h2 (nS h) = c := by unfold cp; rw [sbn]; exact N6
  have lvn : lv h2 (nS h) = 2 ^ m := by unfold lv; rw [sbn]; exact N7.2.2.2.2.2.2.2.2.1
  have l12 : gL h2 (gN h + 5) = 2 ^ m := N7.2.2.2.2.2.2.2.2.1
  have fmn : fm h2 (nS h) = m := by unfold fm; rw [J1, nI_toInt (by omega)]; rfl
  have fsn : fst h2 (nS h) = first := by unfold fst; rw [J2, nI_toInt (by omega)]; rfl
  have pgn : ∀ k, pgS h2 (nS h) k = first + tab m k := fun k => by unfold pgS; rw [fmn, fsn]
  have fme : ∀ s, s < nS h → fm h2 s = fm h s := fun s hs' => by unfold fm; rw [lo _ _ (by omega) (by unfold ShP; omega)]
  have fse : ∀ s, s < nS h → fst h2 s = fst h s := fun s hs' => by unfold fst; rw [lo _ _ (by omega) (by unfold ShP; omega)]
  have pge : ∀ s k, s < nS h → pgS h2 s k = pgS h s k := fun s k hs' => by unfold pgS; rw [fme s hs', fse s hs']
  have fbo : ∀ f, f < 2 * nS h → fb h2 f = fb h f := fun f hf' => by unfold fb; rw [(so (f / 2) (by omega)).2.1]
  have fbn : ∀ f, f / 2 = nS h → fb h2 f = gN h + 1 + 6 * (f % 2) := fun f hf' => by unfold fb; rw [hf', sbn]
  have cp60 : ∀ s, s < nS h → cp h s ≤ 60 := fun s hs' => (g6 s hs').2.2.2.2.2.2.2.2.2.1
  have tl : ∀ k, k < n → tab m k < n := fun k hk => by rw [← hn] at hk ⊢; exact tab_lt h1 h3 hk
  -- pages of the old sheets are none of the new one's
  have out : ∀ s j, s < nS h → j < 2 * lv h s → pgS h s j < first ∨ first + n ≤ pgS h s j := fun s j hs' hj => by
    have e54 := ((q.2.1 s hs').2.2.2.2.2.2.2.2.2.2 j hj).2.1
    rcases Nat.lt_or_ge (pgS h s j) first with v | v
    · exact Or.inl v
    · rcases Nat.lt_or_ge (pgS h s j) (first + n) with v2 | v2
      · have := free (pgS h s j - first) (by omega)
        rw [show first + (pgS h s j - first) = pgS h s j by omega, e54] at this
        exact absurd this (nm1 (by omega))
      · exact Or.inr v2
  have f68 : ∀ f, f / 2 = nS h → gI h2 68 f = 0 ∧ gI h2 69 f = 0 := fun f hf' => by
    rw [lo 68 _ (by omega) (by unfold ShP; omega), lo 69 _ (by omega) (by unfold ShP; omega)]
    exact o.2 f (by omega) (by omega)
  have v70 : ∀ f j, f / 2 = nS h → j < 60 → vS h2 f j = -1 := fun f j hf' hj => by
    have := K3 (60 * (f % 2) + j) (by omega)
    unfold vS
    rw [show 60 * f + j = 120 * nS h + (60 * (f % 2) + j) by omega]
    exact this
  refine ⟨⟨?_, ?_, ?_, ?_, ?_⟩, ?_, ?_, ?_, ?_, ?_⟩
  · refine ⟨by rw [nP2, e04]; exact g1, by rw [nP2]; exact g2, by rw [nS2]; exact H1, by omega, fun p hp' => ?_, fun s hs' => ?_, fun p p' i1 i2 => ?_, fun s u i1 i2 => ?_, fun p s i1 i2 => ?_⟩
    · rw [nP2] at hp'; exact (po p hp').1
    · rw [nS2] at hs'
      by_cases cs : s = nS h
      · subst cs
        unfold ShOK
        rw [sbn, cpn, l12]
        exact ⟨G1, h88, by omega, N1, N2, N3, N4, N5, c1, c2, N7, N8⟩
      · exact (so s (by omega)).1
    · rw [nP2] at i2
      rw [(po p (by omega)).2.1, (po p' i2).2.1]; exact g7 p p' i1 i2
    · rw [nS2] at i2
      rw [(so s (by omega)).2.1]
      by_cases cs : u = nS h
      · rw [cs, sbn]; exact (sr s (by omega)).2
      · rw [(so u (by omega)).2.1]; exact g8 s u i1 (by omega)
    · rw [nP2] at i1
      rw [nS2] at i2
      rw [(po p i1).2.1]
      by_cases cs : s = nS h
      · rw [cs, sbn]; left; exact (pr p i1).2
      · rw [(so s (by omega)).2.1]; exact g9 p s i1 (by omega)
  · refine ⟨by rw [nP2, lo _ _ (by omega) (by unfold ShP; omega)]; exact dd.1, fun p hp' => ?_⟩
    rw [nP2] at hp'
    have r := pr p hp'
    exact PgD.fr (po p hp').2.1 (po p hp').2.2 (fun k _ => hi _ _ (by omega) (by omega)) (fun k => hi _ _ (by omega) (by omega)) (fun k => hi _ _ (by omega) (by omega)) (lo _ _ (by omega) (by unfold ShP; omega)) (fun k hk => lo _ _ (by omega) (by unfold ShP; omega)) (fun k _ => lo _ _ (by omega) (by unfold ShP; omega)) (lo _ _ (by omega) (by unfold ShP; omega)) (dd.2 p hp')
  · exact IFix.fr (h2 := nOf h h2) (nOf_u h h2) (fun a k ha => fun c => c (lo _ _ (by omega) (by unfold ShP; omega))) x
  · refine ⟨by rw [nS2]; exact H2, fun s hs' => ?_, fun p hp' => ?_⟩
    · rw [nS2] at hs'
      by_cases cs : s = nS h
      · subst cs
        unfold ShS
        rw [fmn, fsn, lvn, cpn, sbn, nP2, hn]
        refine ⟨J1, h1, h3, rfl, J2, N9, hf, J3, N10, N11, fun j hj => ?_⟩
        have tj := tl j hj
        rw [pgn, fbn _ (by omega), show (2 * nS h + j % 2) % 2 = j % 2 by omega, (po _ (by omega)).2.1]
        obtain ⟨u1, u2⟩ := G3 j hj
        exact ⟨u1, K1 _ tj, K2 j hj, u2⟩
      · have hs'' : s < nS h := by omega
        have r := sr s hs''
        refine ShS_ag (q.2.1 s hs'') (so s hs'').2.1 (so s hs'').2.2.1 (so s hs'').2.2.2 (by omega) (fun a ha => lo _ _ (by omega) (by unfold ShP; omega)) (fun k _ => hi _ _ (by omega) (by omega)) (fun j hj => ?_)
        have pl' := (pgS_lt q hs'' hj).1
        have r2 := pr _ pl'
        have ou := out s j hs'' hj
        refine ⟨?_, (po _ pl').2.1, lo _ _ (by omega) (by unfold ShP; omega), lo _ _ (by omega) (by unfold ShP; omega), ?_⟩
        · rw [fb_e]
          exact rsh s hs'' _ _ (by omega) (by omega)
        · refine F4 _ _ (by omega) (by omega) (fun ⟨y, y1, y2, _⟩ => ?_)
          rcases dPP g pl' (r := first + y) (by omega) with v | v | v
          · omega
          · omega
          · omega
    · rw [nP2] at hp'
      have r := pr p hp'
      by_cases cin : first ≤ p ∧ p < first + n
      · right
        obtain ⟨j, j1, j2⟩ := tab_sur h1 h3 (j := p - first) (by omega)
        refine ⟨nS h, j, by omega, by rw [lvn]; exact j1, ?_⟩
        rw [pgn, j2]; omega
      · have e54 : gI h2 54 p = gI h 54 p := lo _ _ (by omega) (by unfold ShP; omega)
        have e7 : gR h2 (pb h p) 7 = gR h (pb h p) 7 := F4 _ _ (by omega) (by omega) (fun ⟨y, y1, y2, _⟩ => by
          rcases dPP g hp' (r := first + y) (by omega) with v | v | v
          · omega
          · omega
          · omega)
        rw [(po p hp').2.1, e54, e7]
        rcases q.2.2 p hp' with i | ⟨s, j, i1, i2, i3⟩
        · exact Or.inl i
        · exact Or.inr ⟨s, j, by omega, by rw [(so s i1).2.2.2]; exact i2, by rw [pge s j i1]; exact i3⟩
  · intro s hs'
    rw [nS2] at hs'
    by_cases cs : s = nS h
    · rw [cs, sbn, N12, J4]; exact ⟨rfl, Or.inl rfl⟩
    · have r := sr s (by omega)
      rw [(so s (by omega)).2.1, hi _ _ (by omega) (by omega), lo _ _ (by omega) (by unfold ShP; omega)]
      exact fs s (by omega)
  · refine ⟨fun f hf' => ?_, fun f i1 i2 => ?_⟩
    · rw [nS2] at hf'
      by_cases cf : f / 2 = nS h
      · obtain ⟨e68, e69⟩ := f68 f cf
        have nm : nM h2 f = 0 := by unfold nM; rw [e68]; rfl
        have nc : nC h2 f = 0 := by unfold nC; rw [e69]; rfl
        obtain ⟨⟨u1, u2, u3⟩, u4⟩ := N14 (f % 2) (by omega)
        have np : ∀ y, y < 31 → pres h2 f y = false := fun y hy => by
          cases e : pres h2 f y with
          | false => rfl
          | true =>
            obtain ⟨j, j1, j2⟩ := pres_i.mp e
            rw [v70 f j cf j1] at j2
            exact absurd j2.symm (nm1 (by omega))
        unfold FoD
        rw [nm, nc, fbn f cf, cf, cpn, e68, e69, u3 3 (by omega) (by omega), u3 4 (by omega) (by omega), u3 5 (by omega) (by omega), u2]
        refine ⟨⟨rfl, rfl, Nat.zero_le _, rfl, rfl, Nat.zero_le _⟩, fun j hj => absurd hj (Nat.not_lt_zero j), fun j hj => ?_, fun j hj => ⟨fun dd' => ?_, fun _ => v70 f j cf hj⟩, fun _ => rfl, fun _ => rfl, fun z => absurd z (Nat.lt_irrefl 0), ?_⟩
        · rw [u4 j hj, v70 f j cf (by omega)]
        · unfold dn at dd'
          rw [nm] at dd'
          omega
        · rw [show cnt (pres h2 f) 31 = 0 from ?_]
          · rfl
          · rw [cnt_congr (Q := fun _ => false) (fun j hj => np j hj)]
            rfl
      · have hf'' : f < 2 * nS h := by omega
        have r := sr (f / 2) (by omega)
        have fbr : 88 ≤ fb h f ∧ fb h f + 6 ≤ gN h := by unfold fb; omega
        exact FoD.fr (fbo f hf'') (so (f / 2) (by omega)).2.2.1 (fun k _ => hi _ _ (by omega) (by omega)) (fun o' k ho => hi _ _ (by omega) (by omega)) (lo _ _ (by omega) (by unfold ShP; omega)) (lo _ _ (by omega) (by unfold ShP; omega)) (lo _ _ (by omega) (by unfold ShP; omega)) (fun k _ => lo _ _ (by omega) (by unfold ShP; omega)) (fun a k ha _ => lo _ _ (by omega) (by unfold ShP; omega)) (cp60 _ (by omega)) (o.1 f hf'')
    · rw [nS2] at i1
      rw [lo 68 _ (by omega) (by unfold ShP; omega), lo 69 _ (by omega) (by unfold ShP; omega)]
      exact o.2 f (by omega) i2
  · obtain ⟨k1, k2, k3, k4, k5, k6⟩ := k
    have x67 : ∀ f, gI h2 67 f = gI h 67 f := fun f => lo _ _ (by omega) (by unfold ShP; omega)
    have x8 : ∀ f, gI h2 8 f = gI h 8 f := fun f => lo _ _ (by omega) (by unfold ShP; omega)
    have x53 : ∀ f, gI h2 53 f = gI h 53 f := fun f => lo _ _ (by omega) (by unfold ShP; omega)
    have n67 : ∀ f, f / 2 = nS h → gI h 67 f = -1 := fun f hf' => k2 f (by omega) (by omega)
    unfold ISk
    rw [nS2, nP2]
    simp only [x67, x8, x53]
    refine ⟨fun f hf' => ?_, fun f i1 i2 => k2 f (by omega) i2, fun j hj => ?_, fun f f' i1 i2 i3 i4 => ?_, fun p hp' e54 => ?_, fun s j hs' hj => ?_⟩
    · by_cases cf : f / 2 = nS h
      · rw [fbn f cf, (N14 (f % 2) (by omega)).1.1, n67 f cf]; exact ⟨rfl, Or.inl rfl⟩
      · have r := sr (f / 2) (by omega)
        have fbr : 88 ≤ fb h f ∧ fb h f + 6 ≤ gN h := by unfold fb; omega
        rw [fbo f (by omega), hi _ _ (by omega) (by omega)]; exact k1 f (by omega)
    · rcases k3 j hj with ⟨v1, f, v2, v3⟩ | v
      · exact Or.inl ⟨v1, f, by omega, v3⟩
      · exact Or.inr v
    · rcases Nat.lt_or_ge f (2 * nS h) with v | v
      · rcases Nat.lt_or_ge f' (2 * nS h) with v' | v'
        · exact k4 f f' v v' i3 i4
        · rw [i4]; exact n67 f' (by omega)
      · exact n67 f (by omega)
    · by_cases cin : first ≤ p ∧ p < first + n
      · have := K1 (p - first) (by omega)
        rw [show first + (p - first) = p by omega, e54] at this
        exact absurd this.symm (nm1 (by omega))
      · rw [lo _ _ (by omega) (by unfold ShP; omega)] at e54
        exact k5 p hp' e54
    · by_cases cs : s = nS h
      · subst cs
        rw [lvn, hn] at hj
        have tj := tl j hj
        have e67 := n67 (2 * nS h + j % 2) (by omega)
        rw [pgn, e67]
        refine ⟨fun _ => k5 _ (by omega) (free _ tj), fun z => absurd rfl z⟩
      · have hs'' : s < nS h := by omega
        rw [(so s hs'').2.2.2] at hj
        have pl' := (pgS_lt q hs'' hj).1
        have r2 := pr _ pl'
        rw [pge s j hs'', (po _ pl').2.1, hi _ _ (by omega) (by omega)]
        exact k6 s j hs'' hj
  · intro s j hs' hj
    rw [nS2] at hs'
    by_cases cs : s = nS h
    · subst cs
      intro hm
      have : nM h2 (2 * nS h + j % 2) = 0 := by unfold nM; rw [(f68 _ (by omega)).1]; rfl
      omega
    · have hs'' : s < nS h := by omega
      rw [(so s hs'').2.2.2] at hj
      have pl' := (pgS_lt q hs'' hj).1
      have r2 := pr _ pl'
      have nMe : nM h2 (2 * s + j % 2) = nM h (2 * s + j % 2) := by unfold nM; rw [lo _ _ (by omega) (by unfold ShP; omega)]
      rw [pge s j hs'', nMe, (po _ pl').2.1, (po _ pl').2.2]
      intro hm i hi'
      rw [hi _ _ (by omega) (by omega), lo 51 _ (by omega) (by unfold ShP; omega)]
      exact w s j hs'' hj hm i hi'
  · have x74 : ∀ j, gI h2 74 j = gI h 74 j := fun f => lo _ _ (by omega) (by unfold ShP; omega)
    refine ⟨fun j hj => by rw [x74]; exact gd'.1 j hj, fun s hs' => ?_, fun s y hs' hy qq => ?_⟩
    · rw [nS2] at hs'
      by_cases cs : s = nS h
      · subst cs
        have ust : ∀ y, y < 60 → us h2 (nS h) y = true := fun y hy => by
          unfold us
          rw [x74, gd'.2.2 (nS h) y h6 hy (Or.inl (Nat.le_refl _))]
          rfl
        have ct : ∀ y, y ≤ 60 → cnt (us h2 (nS h)) y = y := by
          intro y
          induction y with
          | zero => intro _; rfl
          | succ y ih => intro hy; rw [cnt, ih (by omega), ust y (by omega)]; rfl
        unfold GdD
        rw [sbn, cpn, ct c c2]
        refine ⟨N13, fun j hj => ⟨j, hj, N15 j hj, ust j (by omega), ct j (by omega)⟩⟩
      · have hs'' : s < nS h := by omega
        have r := sr s hs''
        exact GdD.fr (so s hs'').2.1 (so s hs'').2.2.1 (hi _ _ (by omega) (by omega)) (fun k => hi _ _ (by omega) (by omega)) (fun c _ => x74 _) (cp60 s hs'') (gd'.2.1 s hs'')
    · rw [nS2] at qq
      rw [x74]
      refine gd'.2.2 s y hs' hy ?_
      rcases Nat.lt_or_ge s (nS h) with v | v
      · rw [(so s v).2.2.1] at qq; omega
      · exact Or.inl v
  · exact ISm.fr (h2 := nOf h h2) (nOf_u h h2) (fun a k ha => fun c => c (lo _ _ (by omega) (by unfold ShP; omega))) sm
