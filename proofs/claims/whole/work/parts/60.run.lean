theorem FoD.fr2 {h h2 : Hp} {f : Nat} (e1 : fb h2 f = fb h f) (e2 : cp h2 (f / 2) = cp h (f / 2)) (a0 : ∀ k, (3 ≤ k ∧ k ≤ 6) → gI h2 (fb h f) k = gI h (fb h f) k) (a1 : ∀ o k, (1 ≤ o ∧ o ≤ 3 ∨ o = 5) → gI h2 (fb h f + o) k = gI h (fb h f + o) k) (b1 : gI h2 66 (f / 2) = gI h 66 (f / 2) ∨ nM h f = 0) (b2 : gI h2 68 f = gI h 68 f) (b3 : gI h2 69 f = gI h 69 f) (b4 : ∀ k, k < 60 → gI h2 70 (60 * f + k) = gI h 70 (60 * f + k)) (b5 : ∀ a k, (a = 71 ∨ a = 72 ∨ a = 73) → k < 30 → gI h2 a (30 * f + k) = gI h a (30 * f + k)) (hc : cp h (f / 2) ≤ 60) (d : FoD h f) : FoD h2 f := by
  obtain ⟨⟨d1, d2, d3, d4, d5, d6⟩, d7, d8, d9, d10, d11, d12, d13⟩ := d
  have x1 : nM h2 f = nM h f := by unfold nM; rw [b2]
  have x2 : nC h2 f = nC h f := by unfold nC; rw [b3]
  have x3 : ∀ j, j < 60 → vS h2 f j = vS h f j := b4
  have x4 : pres h2 f = pres h f := by
    funext x
    unfold pres
    rw [cnt_congr (P := fun j => decide (vS h2 f j = nI x)) (fun j hj => by rw [x3 j hj])]
  have x5 : ∀ j, dn h2 f j ↔ dn h f j := fun j => by
    rcases b1 with b1 | b1
    · unfold dn; rw [e2, b1, x1]
    · unfold dn; rw [e2, x1, b1]; omega
  unfold FoD
  rw [e1, e2, x1, x2, x4, a0 3 (by omega), a0 4 (by omega), a0 5 (by omega), a0 6 (by omega), b2, b3]
  refine ⟨⟨d1, d2, d3, d4, d5, d6⟩, fun k hk => ?_, fun j hj => ?_, fun j hj => ?_, fun z => ?_, d11, d12, d13⟩
  · rw [a1 1 k (by omega), a1 2 k (by omega), a1 3 k (by omega), b5 71 k (by omega) (by omega), b5 72 k (by omega) (by omega), b5 73 k (by omega) (by omega)]; exact d7 k hk
  · rw [a1 5 j (by omega), x3 j (by omega)]; exact d8 j hj
  · rw [x3 j hj, x5]; exact d9 j hj
  · rcases b1 with b1 | b1
    · rw [b1] at z; exact d10 z
    · exact b1
/-- is this side the first one -/
def fsB (h : Hp) (f : Nat) : Bool := decide (gI h 66 (f / 2) = -1) || decide (gI h 66 (f / 2) = nI (f % 2))
/-- the forme after a run of R -/
theorem FoD_run {h h2 : Hp} {f R : Nat} (hc : cp h (f / 2) ≤ 60) (hR : 1 ≤ R) (hm : nM h f + R ≤ cp h (f / 2)) (e1 : fb h2 f = fb h f) (e2 : cp h2 (f / 2) = cp h (f / 2)) (d : FoD h f) (z66 : gI h2 66 (f / 2) = if fsB h f = true then nI (f % 2) else gI h 66 (f / 2)) (v3 : gI h2 (fb h f) 3 = nI (nM h f + R)) (v68 : gI h2 68 f = nI (nM h f + R)) (v4 : gI h2 (fb h f) 4 = gI h (fb h f) 4) (v69 : gI h2 69 f = gI h 69 f) (v6 : gI h2 (fb h f) 6 = nI (nC h f)) (v5 : gI h2 (fb h f) 5 = (if gI h (fb h f) 6 = nI (nC h f) then gI h (fb h f) 5 else gI h (fb h f) 5 + 1)) (vl : ∀ o k, 1 ≤ o → o ≤ 3 → k < 30 → gI h2 (fb h f + o) k = gI h (fb h f + o) k ∧ gI h2 (70 + o) (30 * f + k) = gI h (70 + o) (30 * f + k)) (vc : ∀ j, j < cp h (f / 2) → gI h2 (fb h f + 5) j = if npo (fsB h f) (nM h f) (cp h (f / 2)) R j = true then nI (nC h f) else gI h (fb h f + 5) j) (vm : ∀ j, j < 60 → gI h2 70 (60 * f + j) = if npo (fsB h f) (nM h f) (cp h (f / 2)) R j = true then nI (nC h f) else gI h 70 (60 * f + j)) : FoD h2 f := by
  obtain ⟨⟨d1, d2, d3, d4, d5, d6⟩, d7, d8, d9, d10, d11, d12, d13⟩ := id d
  have x1 : nM h2 f = nM h f + R := by unfold nM; rw [v68, nI_toInt (by unfold nM at hm; omega)]; unfold nM; omega
  have x2 : nC h2 f = nC h f := by unfold nC; rw [v69]
  have x3 : ∀ j, j < 60 → vS h2 f j = if npo (fsB h f) (nM h f) (cp h (f / 2)) R j = true then nI (nC h f) else vS h f j := vm
  have hfe : ∀ j, dn h2 f j ↔ dn h f j ∨ npo (fsB h f) (nM h f) (cp h (f / 2)) R j = true := fun j => by
    unfold dn npo
    rw [e2, x1, z66]
    by_cases c : fsB h f = true
    · rw [if_pos c, if_pos c]
      unfold fsB at c
      simp only [Bool.or_eq_true, decide_eq_true_eq] at c
      simp only [Bool.and_eq_true, decide_eq_true_eq]
      rcases c with c | c
      · have := d10 c
        rw [this] at hm ⊢
        constructor
        · rintro ⟨q1, q2 | q2⟩
          · exact Or.inr ⟨by omega, q2.2⟩
          · exact absurd rfl q2.1
        · rintro (⟨q1, q2 | q2⟩ | q2)
          · omega
          · omega
          · exact ⟨by omega, Or.inl ⟨trivial, by omega⟩⟩
      · rw [c]
        constructor
        · rintro ⟨q1, q2 | q2⟩
          · by_cases z : j < nM h f
            · exact Or.inl ⟨q1, Or.inl ⟨rfl, z⟩⟩
            · exact Or.inr ⟨by omega, q2.2⟩
          · exact absurd rfl q2.1
        · rintro (⟨q1, q2 | q2⟩ | q2)
          · exact ⟨q1, Or.inl ⟨trivial, by omega⟩⟩
          · exact absurd rfl q2.1
          · exact ⟨by omega, Or.inl ⟨trivial, by omega⟩⟩
    · rw [if_neg c, if_neg c]
      unfold fsB at c
      simp only [Bool.or_eq_true, decide_eq_true_eq, not_or] at c
      simp only [Bool.and_eq_true, decide_eq_true_eq]
      constructor
      · rintro ⟨q1, q2 | q2⟩
        · exact absurd q2.1 c.2
        · by_cases z : cp h (f / 2) < j + 1 + nM h f
          · exact Or.inl ⟨q1, Or.inr ⟨c.2, z⟩⟩
          · exact Or.inr ⟨by omega, by omega⟩
      · rintro (⟨q1, q2 | q2⟩ | q2)
        · exact absurd q2.1 c.2
        · exact ⟨q1, Or.inr ⟨c.2, by omega⟩⟩
        · exact ⟨by omega, Or.inr ⟨c.2, by omega⟩⟩
  have hold : ∀ x, pres h f x = true → x < 31 → x ≤ nC h f := fun x q hx => by
    obtain ⟨j, hj, e⟩ := pres_i.mp q
    rcases vS_cases d hj with e' | ⟨v, hv, -, e', -⟩
    · rw [e'] at e; exact absurd e.symm (m1_ne (by omega))
    · rw [e'] at e
      have := (nI_eq (by omega) (by omega)).mp e
      omega
  have hpn : ∃ j, j < 60 ∧ npo (fsB h f) (nM h f) (cp h (f / 2)) R j = true ∧ vS h f j = -1 := by
    unfold npo
    by_cases c : fsB h f = true
    · refine ⟨nM h f, by omega, by rw [if_pos c]; simp; omega, ?_⟩
      refine (d9 _ (by omega)).2 ?_
      unfold dn
      unfold fsB at c
      simp only [Bool.or_eq_true, decide_eq_true_eq] at c
      rintro ⟨q1, q2 | q2⟩
      · omega
      · rcases c with c | c
        · have := d10 c; omega
        · exact q2.1 c
    · refine ⟨cp h (f / 2) - 1 - nM h f, by omega, by rw [if_neg c]; simp; omega, ?_⟩
      refine (d9 _ (by omega)).2 ?_
      unfold dn
      unfold fsB at c
      simp only [Bool.or_eq_true, decide_eq_true_eq, not_or] at c
      rintro ⟨q1, q2 | q2⟩
      · exact c.2 q2.1
      · omega
  have hpr : ∀ x, x < 31 → (pres h2 f x = true ↔ pres h f x = true ∨ x = nC h f) := fun x hx => by
    rw [pres_i, pres_i]
    constructor
    · rintro ⟨j, hj, e⟩
      rw [x3 j hj] at e
      by_cases c : npo (fsB h f) (nM h f) (cp h (f / 2)) R j = true
      · rw [if_pos c] at e
        exact Or.inr ((nI_eq (by omega) (by omega)).mp e).symm
      · rw [if_neg c] at e
        exact Or.inl ⟨j, hj, e⟩
    · rintro (⟨j, hj, e⟩ | e)
      · refine ⟨j, hj, ?_⟩
        rw [x3 j hj]
        by_cases c : npo (fsB h f) (nM h f) (cp h (f / 2)) R j = true
        · exfalso
          have nd : ¬ dn h f j := by
            intro z
            unfold dn at z
            unfold npo at c
            by_cases c2 : fsB h f = true
            · rw [if_pos c2] at c
              unfold fsB at c2
              simp only [Bool.or_eq_true, decide_eq_true_eq] at c2
              simp only [Bool.and_eq_true, decide_eq_true_eq] at c
              obtain ⟨q1, q2 | q2⟩ := z
              · omega
              · rcases c2 with c2 | c2
                · have := d10 c2; omega
                · exact q2.1 c2
            · rw [if_neg c2] at c
              unfold fsB at c2
              simp only [Bool.or_eq_true, decide_eq_true_eq, not_or] at c2
              simp only [Bool.and_eq_true, decide_eq_true_eq] at c
              obtain ⟨q1, q2 | q2⟩ := z
              · exact c2.2 q2.1
              · omega
          rw [(d9 j hj).2 nd] at e
          exact m1_ne (by omega) e.symm
        · rw [if_neg c]; exact e
      · obtain ⟨j, hj, c, -⟩ := hpn
        exact ⟨j, hj, by rw [x3 j hj, if_pos c, e]⟩
  unfold FoD
  rw [e1, e2, x1, x2, v3, v68, v4, v69, v6, v5]
  refine ⟨⟨rfl, rfl, hm, d4, d5, d6⟩, fun k hk => ?_, fun j hj => ?_, fun j hj => ?_, fun z => ?_, fun z => by omega, fun _ => ⟨nC h f, Nat.le_refl _, rfl, ?_, fun x hx hx2 => ?_⟩, ?_⟩
  · have a1 := vl 1 k (by decide) (by decide) (by omega)
    have a2 := vl 2 k (by decide) (by decide) (by omega)
    have a3 := vl 3 k (by decide) (by decide) (by omega)
    rw [a1.1, a2.1, a3.1]
    rw [show gI h2 71 (30 * f + k) = gI h 71 (30 * f + k) from a1.2, show gI h2 72 (30 * f + k) = gI h 72 (30 * f + k) from a2.2, show gI h2 73 (30 * f + k) = gI h 73 (30 * f + k) from a3.2]
    exact d7 k hk
  · rw [vc j hj, x3 j (by omega), d8 j hj]
  · rw [hfe, x3 j hj]
    constructor
    · rintro (q | q)
      · by_cases c : npo (fsB h f) (nM h f) (cp h (f / 2)) R j = true
        · rw [if_pos c]; exact ⟨_, Nat.le_refl _, rfl⟩
        · rw [if_neg c]; exact (d9 j hj).1 q
      · rw [if_pos q]; exact ⟨_, Nat.le_refl _, rfl⟩
    · intro q
      rw [if_neg (fun z => q (Or.inr z))]
      exact (d9 j hj).2 (fun z => q (Or.inl z))
  · rw [z66] at z
    by_cases c : fsB h f = true
    · rw [if_pos c] at z; exact absurd z (m1_ne (by omega))
    · rw [if_neg c] at z
      unfold fsB at c
      simp [z] at c
  · exact (hpr _ (by omega)).mpr (Or.inr rfl)
  · cases e : pres h2 f x with
    | false => rfl
    | true =>
      rcases (hpr x hx2).mp e with q | q
      · have := hold x q hx2; omega
      · omega
  · by_cases c : gI h (fb h f) 6 = nI (nC h f)
    · rw [if_pos c, d13]
      refine congrArg nI ?_
      have hm0 : 0 < nM h f := by
        rcases Nat.eq_zero_or_pos (nM h f) with z | z
        · rw [d11 z] at c; exact absurd c.symm (m1_ne (by omega))
        · exact z
      obtain ⟨L, l1, l2, l3, l4⟩ := d12 hm0
      have : L = nC h f := (nI_eq (by omega) (by omega)).mp (l2.symm.trans c)
      subst this
      refine cnt_congr fun x hx => ?_
      rw [Bool.eq_iff_iff, hpr x hx]
      constructor
      · exact Or.inl
      · rintro (q | q)
        · exact q
        · rw [q]; exact l3
    · rw [if_neg c, d13, nI_1]
      refine congrArg nI ?_
      have hno : pres h f (nC h f) = false := by
        cases e : pres h f (nC h f) with
        | false => rfl
        | true =>
          obtain ⟨j, hj, e'⟩ := pres_i.mp e
          rcases vS_cases d hj with q | ⟨v, -, -, q, hm0⟩
          · rw [q] at e'; exact absurd e'.symm (m1_ne (by omega))
          · obtain ⟨L, l1, l2, l3, l4⟩ := d12 hm0
            by_cases c2 : L = nC h f
            · subst c2; exact absurd l2 c
            · rw [l4 (nC h f) (by omega) (by omega)] at e; exact absurd e (by decide)
      refine (cnt_add (j := nC h f) (by omega) hno ((hpr _ (by omega)).mpr (Or.inr rfl)) (fun x hx hne => ?_)).symm
      rw [Bool.eq_iff_iff, hpr x hx]
      constructor
      · rintro (q | q)
        · exact q
        · exact absurd q hne
      · exact Or.inl
