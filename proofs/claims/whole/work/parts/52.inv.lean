theorem forL {β S : Type} (N : Nat) (F : Nat → Nat → S → Option β) (I : Nat → S → Prop) (E : Option β → Prop) (st : ∀ n k s, k < N → I k s → E (F (n + 1) k s) ∨ ∃ s', F (n + 1) k s = F n (k + 1) s' ∧ I (k + 1) s') (ex : ∀ n s, I N s → E (F (n + 1) N s)) : ∀ m n k s, k + m = N → m < n → I k s → E (F n k s) := by
  intro m
  induction m with
  | zero =>
    intro n k s hk hn i
    match n, hn with
    | n + 1, _ =>
      have e : k = N := by omega
      subst e
      exact ex n s i
  | succ m ih =>
    intro n k s hk hn i
    match n, hn with
    | n + 1, hn =>
      rcases st n k s (by omega) i with e | ⟨s', e, i'⟩
      · exact e
      · rw [e]; exact ih n (k + 1) s' (by omega) (by omega) i'
def tab (m k : Nat) : Nat := (if m = 1 then [3, 2, 0, 1] else if m = 2 then [7, 6, 0, 1, 4, 5, 3, 2] else [15, 14, 0, 1, 3, 2, 12, 13, 8, 9, 7, 6, 4, 5, 11, 10]).getD k 0
def trn (m k : Nat) : Nat := (if m = 1 then [0, 0] else if m = 2 then [0, 0, 1, 1] else [0, 0, 0, 0, 1, 1, 1, 1]).getD k 0
theorem m3 {m : Nat} (h1 : 1 ≤ m) (h2 : m ≤ 3) : m = 1 ∨ m = 2 ∨ m = 3 := by omega
theorem tab_lt {m k : Nat} (h1 : 1 ≤ m) (h2 : m ≤ 3) (hk : k < 2 * 2 ^ m) : tab m k < 2 * 2 ^ m := by
  rcases m3 h1 h2 with rfl | rfl | rfl <;> revert k <;> decide +kernel
theorem tab_inj {m k j : Nat} (h1 : 1 ≤ m) (h2 : m ≤ 3) (hk : k < 2 * 2 ^ m) (hj : j < 2 * 2 ^ m) (e : tab m k = tab m j) : k = j := by
  rcases m3 h1 h2 with rfl | rfl | rfl
  · have : ∀ k, k < 4 → ∀ j, j < 4 → tab 1 k = tab 1 j → k = j := by decide +kernel
    exact this k hk j hj e
  · have : ∀ k, k < 8 → ∀ j, j < 8 → tab 2 k = tab 2 j → k = j := by decide +kernel
    exact this k hk j hj e
  · have : ∀ k, k < 16 → ∀ j, j < 16 → tab 3 k = tab 3 j → k = j := by decide +kernel
    exact this k hk j hj e
theorem tab_sur {m j : Nat} (h1 : 1 ≤ m) (h2 : m ≤ 3) (hj : j < 2 * 2 ^ m) : ∃ k, k < 2 * 2 ^ m ∧ tab m k = j := by
  rcases m3 h1 h2 with rfl | rfl | rfl
  · have : ∀ j, j < 4 → ∃ k, k < 4 ∧ tab 1 k = j := by decide +kernel
    exact this j hj
  · have : ∀ j, j < 8 → ∃ k, k < 8 ∧ tab 2 k = j := by decide +kernel
    exact this j hj
  · have : ∀ j, j < 16 → ∃ k, k < 16 ∧ tab 3 k = j := by decide +kernel
    exact this j hj
def IFix (h : Hp) : Prop := ∀ m, 1 ≤ m → m ≤ 3 → gI h (29 + 4 * m) 0 = nI (if m = 3 then 4 else 2) ∧ gI h (29 + 4 * m) 1 = nI (if m = 1 then 1 else 2) ∧ (∀ k, k < 2 * 2 ^ m → gI h (30 + 4 * m) k = nI (tab m k) ∧ gI h 59 (16 * m + k) = nI (tab m k)) ∧ ∀ k, k < 2 ^ m → gI h (31 + 4 * m) k = nI (trn m k) ∧ gI h 60 (8 * m + k) = nI (trn m k)
theorem IFix.fr {h h2 : Hp} {P : Nat → Nat → Prop} (u : Upd h h2 P) (hP : ∀ a k, (33 ≤ a ∧ a ≤ 43 ∨ a = 59 ∨ a = 60) → ¬ P a k) (i : IFix h) : IFix h2 := fun m q1 q2 => by
  obtain ⟨e1, e2, e3, e4⟩ := i m q1 q2
  refine ⟨?_, ?_, fun k hk => ⟨?_, ?_⟩, fun k hk => ⟨?_, ?_⟩⟩
  · rw [u.2 _ _ (hP _ _ (by omega))]; exact e1
  · rw [u.2 _ _ (hP _ _ (by omega))]; exact e2
  · rw [u.2 _ _ (hP _ _ (by omega))]; exact (e3 k hk).1
  · rw [u.2 _ _ (hP _ _ (by omega))]; exact (e3 k hk).2
  · rw [u.2 _ _ (hP _ _ (by omega))]; exact (e4 k hk).1
  · rw [u.2 _ _ (hP _ _ (by omega))]; exact (e4 k hk).2
def lv (h : Hp) (s : Nat) : Nat := gL h (sb h s + 5)
def fm (h : Hp) (s : Nat) : Nat := (gI h 63 s).toInt.toNat
def fst (h : Hp) (s : Nat) : Nat := (gI h 64 s).toInt.toNat
def pgS (h : Hp) (s k : Nat) : Nat := fst h s + tab (fm h s) k
def ShS (h : Hp) (s : Nat) : Prop := gI h 63 s = nI (fm h s) ∧ 1 ≤ fm h s ∧ fm h s ≤ 3 ∧ lv h s = 2 ^ fm h s ∧ gI h 64 s = nI (fst h s) ∧ gI h (sb h s) 0 = nI (fst h s) ∧ fst h s + 2 * lv h s ≤ nP h ∧ gI h 65 s = nI (cp h s) ∧ gI h (sb h s) 1 = nI (cp h s) ∧ gI h (sb h s) 2 = nI (2 * lv h s) ∧ (∀ k, k < 2 * lv h s → gR h (fb h (2 * s + k % 2) + 4) (k / 2) = some (pb h (pgS h s k)) ∧ gI h 54 (pgS h s k) = nI s ∧ gI h 55 (pgS h s k) = nI k ∧ gR h (pb h (pgS h s k)) 7 = some (fb h (2 * s + k % 2)))
def ISh (h : Hp) : Prop := gI h 45 23 = nI (nS h) ∧ (∀ s, s < nS h → ShS h s) ∧ ∀ p, p < nP h → (gI h 54 p = -1 ∧ gR h (pb h p) 7 = none) ∨ ∃ s k, s < nS h ∧ k < 2 * lv h s ∧ p = pgS h s k
def IFs (h : Hp) : Prop := ∀ s, s < nS h → gI h (sb h s) 5 = gI h 66 s ∧ (gI h 66 s = -1 ∨ gI h 66 s = 0 ∨ gI h 66 s = 1)
def nM (h : Hp) (f : Nat) : Nat := (gI h 68 f).toInt.toNat
def nC (h : Hp) (f : Nat) : Nat := (gI h 69 f).toInt.toNat
def vS (h : Hp) (f j : Nat) : Int32 := gI h 70 (60 * f + j)
theorem cnt_pos {P : Nat → Bool} : ∀ {n : Nat}, 0 < cnt P n ↔ ∃ j, j < n ∧ P j = true
  | 0 => ⟨fun q => absurd q (Nat.not_lt_zero 0), fun ⟨_, q, _⟩ => absurd q (Nat.not_lt_zero _)⟩
  | n + 1 => by
    unfold cnt
    by_cases q : P n = true
    · rw [if_pos q]
      exact ⟨fun _ => ⟨n, by omega, q⟩, fun _ => by omega⟩
    · rw [if_neg q, Nat.add_zero, cnt_pos]
      constructor
      · rintro ⟨j, a, b⟩; exact ⟨j, by omega, b⟩
      · rintro ⟨j, a, b⟩
        have : j ≠ n := fun z => q (by rw [← z]; exact b)
        exact ⟨j, by omega, b⟩
def pres (h : Hp) (f x : Nat) : Bool := decide (0 < cnt (fun j => decide (vS h f j = nI x)) 60)
theorem pres_i {h : Hp} {f x : Nat} : pres h f x = true ↔ ∃ j, j < 60 ∧ vS h f j = nI x := by
  unfold pres
  rw [decide_eq_true_eq, cnt_pos]
  simp only [decide_eq_true_eq]
def dn (h : Hp) (f j : Nat) : Prop := j < cp h (f / 2) ∧ ((gI h 66 (f / 2) = nI (f % 2) ∧ j < nM h f) ∨ (gI h 66 (f / 2) ≠ nI (f % 2) ∧ cp h (f / 2) < j + 1 + nM h f))
def FoD (h : Hp) (f : Nat) : Prop := (gI h (fb h f) 3 = nI (nM h f) ∧ gI h 68 f = nI (nM h f) ∧ nM h f ≤ cp h (f / 2) ∧ gI h (fb h f) 4 = nI (nC h f) ∧ gI h 69 f = nI (nC h f) ∧ nC h f ≤ 30) ∧ (∀ k, k < nC h f → gI h (fb h f + 1) k = gI h 71 (30 * f + k) ∧ gI h (fb h f + 2) k = gI h 72 (30 * f + k) ∧ gI h (fb h f + 3) k = gI h 73 (30 * f + k)) ∧ (∀ j, j < cp h (f / 2) → gI h (fb h f + 5) j = vS h f j) ∧ (∀ j, j < 60 → (dn h f j → ∃ v, v ≤ nC h f ∧ vS h f j = nI v) ∧ (¬ dn h f j → vS h f j = -1)) ∧ (gI h 66 (f / 2) = -1 → nM h f = 0) ∧ (nM h f = 0 → gI h (fb h f) 6 = -1) ∧ (0 < nM h f → ∃ L, L ≤ nC h f ∧ gI h (fb h f) 6 = nI L ∧ pres h f L = true ∧ ∀ x, L < x → x < 31 → pres h f x = false) ∧ gI h (fb h f) 5 = nI (cnt (pres h f) 31)
def IFo (h : Hp) : Prop := (∀ f, f < 2 * nS h → FoD h f) ∧ ∀ f, 2 * nS h ≤ f → f < 12 → gI h 68 f = 0 ∧ gI h 69 f = 0
def ISk (h : Hp) : Prop := (∀ f, f < 2 * nS h → gI h (fb h f) 2 = gI h 67 f ∧ (gI h 67 f = -1 ∨ ∃ k, k < 4 ∧ gI h 67 f = nI k)) ∧ (∀ f, 2 * nS h ≤ f → f < 12 → gI h 67 f = -1) ∧ (∀ k, k < 4 → (gI h 8 k = 1 ∧ ∃ f, f < 2 * nS h ∧ gI h 67 f = nI k) ∨ (gI h 8 k = 0 ∧ ∀ f, f < 12 → gI h 67 f ≠ nI k)) ∧ (∀ f g, f < 2 * nS h → g < 2 * nS h → f ≠ g → gI h 67 f = gI h 67 g → gI h 67 f = -1) ∧ (∀ p, p < nP h → gI h 54 p = -1 → gI h 53 p = -1) ∧ ∀ s k, s < nS h → k < 2 * lv h s → (gI h 67 (2 * s + k % 2) = -1 → gI h 53 (pgS h s k) = -1) ∧ (gI h 67 (2 * s + k % 2) ≠ -1 → gI h 53 (pgS h s k) = nI (2 * s + k % 2) ∧ gI h (pb h (pgS h s k)) 5 = 1)
def ISn (h : Hp) : Prop := ∀ s k, s < nS h → k < 2 * lv h s → 0 < nM h (2 * s + k % 2) → ∀ j, j < pl h (pgS h s k) → gI h (pb h (pgS h s k) + 3) j = gI h 51 (120 * pgS h s k + j)
def us (h : Hp) (s c : Nat) : Bool := decide (gI h 74 (60 * s + c) = 0)
def GdD (h : Hp) (s : Nat) : Prop := gI h (sb h s) 7 = nI (cnt (us h s) (cp h s)) ∧ ∀ k, k < cnt (us h s) (cp h s) → ∃ c, c < cp h s ∧ gI h (sb h s + 13) k = nI c ∧ us h s c = true ∧ cnt (us h s) c = k
def IGd (h : Hp) : Prop := (∀ j, j < 360 → gI h 74 j = 0 ∨ gI h 74 j = 1) ∧ (∀ s, s < nS h → GdD h s) ∧ (∀ s c, s < 6 → c < 60 → (nS h ≤ s ∨ cp h s ≤ c) → gI h 74 (60 * s + c) = 0)
def sumI (F : Nat → Int32) : Nat → Int32
  | 0 => 0
  | n + 1 => sumI F n + F n
def ISm (h : Hp) : Prop := sumI (gI h 11) 6 = sumI (gI h 68) 12 ∧ sumI (gI h 12) 6 = sumI (fun s => nI (cnt (fun c => !us h s c) 60)) 6 ∧ cnt (fun k => decide (gI h 8 k = 1)) 4 = cnt (fun f => !decide (gI h 67 f = -1)) 12
theorem sumI_congr {F G : Nat → Int32} : ∀ {n : Nat}, (∀ k, k < n → F k = G k) → sumI F n = sumI G n
  | 0, _ => rfl
  | n + 1, h => by unfold sumI; rw [sumI_congr (fun k hk => h k (by omega)), h n (by omega)]
/-- one number more at one place -/
theorem sumI_add {F G : Nat → Int32} {j : Nat} {v : Int32} : ∀ {n : Nat}, j < n → G j = F j + v → (∀ k, k < n → k ≠ j → G k = F k) → sumI G n = sumI F n + v
  | 0, h, _, _ => absurd h (Nat.not_lt_zero j)
  | n + 1, h, e, g => by
    unfold sumI
    by_cases q : j = n
    · subst q
      rw [e, sumI_congr (fun k hk => g k (by omega) (by omega)), Int32.add_assoc]
    · rw [sumI_add (by omega) e (fun k hk => g k (by omega)), g n (by omega) (by omega), Int32.add_assoc, Int32.add_assoc, Int32.add_comm v]
/-- one more at one place -/
theorem cnt_add {P Q : Nat → Bool} {j : Nat} : ∀ {n : Nat}, j < n → P j = false → Q j = true → (∀ k, k < n → k ≠ j → Q k = P k) → cnt Q n = cnt P n + 1
  | 0, h, _, _, _ => absurd h (Nat.not_lt_zero j)
  | n + 1, h, e1, e2, g => by
    unfold cnt
    by_cases q : j = n
    · subst q
      rw [e1, e2, cnt_congr (fun k hk => g k (by omega) (by omega))]; simp
    · rw [cnt_add (by omega) e1 e2 (fun k hk => g k (by omega)), g n (by omega) (by omega)]; omega
/-- what pages and sheets are, where only numbers changed -/
theorem Upd.geo {h h2 : Hp} {P : Nat → Nat → Prop} (u : Upd h h2 P) (hQ : ¬ P 0 4 ∧ ¬ P 0 7) : nP h2 = nP h ∧ nS h2 = nS h ∧ pb h2 = pb h ∧ sb h2 = sb h ∧ pl h2 = pl h ∧ cp h2 = cp h ∧ lv h2 = lv h ∧ fb h2 = fb h ∧ gR h2 = gR h := by
  have e4 : sb h2 = sb h := funext (Upd_sb u)
  refine ⟨?_, ?_, funext (Upd_pb u), e4, funext (Upd_pl u), funext (Upd_cp u), ?_, ?_, u.fns.2.2⟩
  · unfold nP; rw [u.2 _ _ hQ.1]
  · unfold nS; rw [u.2 _ _ hQ.2]
  · funext s; unfold lv; rw [u.fns.2.1, e4]
  · funext f; unfold fb; rw [e4]
theorem PgD.fr {h h2 : Hp} {p : Nat} (e1 : pb h2 p = pb h p) (e2 : pl h2 p = pl h p) (a0 : ∀ k, (k = 0 ∨ k = 4 ∨ k = 5 ∨ k = 6) → gI h2 (pb h p) k = gI h (pb h p) k) (a1 : ∀ k, gI h2 (pb h p + 1) k = gI h (pb h p + 1) k) (a2 : ∀ k, gI h2 (pb h p + 2) k = gI h (pb h p + 2) k) (b1 : gI h2 48 p = gI h 48 p) (b2 : ∀ k, k < pl h p → gI h2 49 (120 * p + k) = gI h 49 (120 * p + k)) (b3 : ∀ k, k < pl h p → gI h2 50 (120 * p + k) = gI h 50 (120 * p + k)) (b4 : gI h2 52 p = gI h 52 p) (d : PgD h p) : PgD h2 p := by
  obtain ⟨d1, d2, d3, d4, d5⟩ := d
  unfold PgD
  rw [e1, e2, a0 0 (by decide), a0 4 (by decide), a0 5 (by decide), a0 6 (by decide), b1, b4]
  refine ⟨d1, d2, fun k hk => ?_, ?_, ?_⟩
  · rw [a1, b2 k hk]; exact d3 k hk
  · rw [d4]; congr 1; exact cnt_congr (fun k _ => by rw [a1])
  · rcases d5 with d5 | ⟨d5, d6, d7, d8⟩
    · exact Or.inl d5
    · refine Or.inr ⟨d5, d6, d7, fun k hk => ?_⟩
      rw [a1, a2, b3 k hk]; exact d8 k hk
theorem IPd.fr {h h2 : Hp} {P : Nat → Nat → Prop} (u : Upd h h2 P) (hQ : ¬ P 0 4 ∧ ¬ P 0 7 ∧ ¬ P 45 11) (hF : ∀ a k, (a = 48 ∨ a = 49 ∨ a = 50 ∨ a = 52) → ¬ P a k) (hB : ∀ p k, p < nP h → ((k = 0 ∨ k = 4 ∨ k = 5 ∨ k = 6) → ¬ P (pb h p) k) ∧ ¬ P (pb h p + 1) k ∧ ¬ P (pb h p + 2) k) (i : IPd h) : IPd h2 := by
  obtain ⟨g1, g2, g3, g4, g5, g6, g7, g8, g9⟩ := u.geo ⟨hQ.1, hQ.2.1⟩
  refine ⟨by rw [u.2 _ _ hQ.2.2, g1]; exact i.1, fun p hp => ?_⟩
  rw [g1] at hp
  exact PgD.fr (by rw [g3]) (by rw [g5]) (fun k hk => u.2 _ _ ((hB p k hp).1 hk)) (fun k => u.2 _ _ (hB p k hp).2.1) (fun k => u.2 _ _ (hB p k hp).2.2) (u.2 _ _ (hF _ _ (by omega))) (fun k _ => u.2 _ _ (hF _ _ (by omega))) (fun k _ => u.2 _ _ (hF _ _ (by omega))) (u.2 _ _ (hF _ _ (by omega))) (i.2 p hp)
theorem ISh.fr {h h2 : Hp} {P : Nat → Nat → Prop} (u : Upd h h2 P) (hQ : ¬ P 0 4 ∧ ¬ P 0 7 ∧ ¬ P 45 23) (hF : ∀ a k, (a = 63 ∨ a = 64 ∨ a = 65 ∨ a = 54 ∨ a = 55) → ¬ P a k) (hB : ∀ s k, s < nS h → (k = 0 ∨ k = 1 ∨ k = 2) → ¬ P (sb h s) k) (i : ISh h) : ISh h2 := by
  obtain ⟨g1, g2, g3, g4, g5, g6, g7, g8, g9⟩ := u.geo ⟨hQ.1, hQ.2.1⟩
  have f1 : fm h2 = fm h := by funext s; unfold fm; rw [u.2 _ _ (hF _ _ (by omega))]
  have f2 : fst h2 = fst h := by funext s; unfold fst; rw [u.2 _ _ (hF _ _ (by omega))]
  have f3 : pgS h2 = pgS h := by funext s k; unfold pgS; rw [f1, f2]
  have x54 : ∀ k, gI h2 54 k = gI h 54 k := fun k => u.2 _ _ (hF _ _ (by omega))
  have x55 : ∀ k, gI h2 55 k = gI h 55 k := fun k => u.2 _ _ (hF _ _ (by omega))
  refine ⟨by rw [u.2 _ _ hQ.2.2, g2]; exact i.1, fun s hs => ?_, fun p hp => ?_⟩
  · rw [g2] at hs
    have := i.2.1 s hs
    unfold ShS
    rw [f1, f2, f3, g1, g3, g4, g6, g7, g8, g9, u.2 63 _ (hF _ _ (by omega)), u.2 64 _ (hF _ _ (by omega)), u.2 65 _ (hF _ _ (by omega)), u.2 _ _ (hB s 0 hs (by omega)), u.2 _ _ (hB s 1 hs (by omega)), u.2 _ _ (hB s 2 hs (by omega))]
    simp only [x54, x55]
    exact this
  · rw [g1] at hp
    have := i.2.2 p hp
    rw [x54, g9, g2, g3, g7, f3]
    exact this
theorem IFs.fr {h h2 : Hp} {P : Nat → Nat → Prop} (u : Upd h h2 P) (hQ : ¬ P 0 4 ∧ ¬ P 0 7) (hF : ∀ k, ¬ P 66 k) (hB : ∀ s, s < nS h → ¬ P (sb h s) 5) (i : IFs h) : IFs h2 := fun s hs => by
  obtain ⟨g1, g2, g3, g4, g5, g6, g7, g8, g9⟩ := u.geo hQ
  rw [g2] at hs
  rw [g4, u.2 _ _ (hB s hs), u.2 _ _ (hF s)]
  exact i s hs
theorem FoD.fr {h h2 : Hp} {f : Nat} (e1 : fb h2 f = fb h f) (e2 : cp h2 (f / 2) = cp h (f / 2)) (a0 : ∀ k, (3 ≤ k ∧ k ≤ 6) → gI h2 (fb h f) k = gI h (fb h f) k) (a1 : ∀ o k, (1 ≤ o ∧ o ≤ 3 ∨ o = 5) → gI h2 (fb h f + o) k = gI h (fb h f + o) k) (b1 : gI h2 66 (f / 2) = gI h 66 (f / 2)) (b2 : gI h2 68 f = gI h 68 f) (b3 : gI h2 69 f = gI h 69 f) (b4 : ∀ k, k < 60 → gI h2 70 (60 * f + k) = gI h 70 (60 * f + k)) (b5 : ∀ a k, (a = 71 ∨ a = 72 ∨ a = 73) → k < 30 → gI h2 a (30 * f + k) = gI h a (30 * f + k)) (hc : cp h (f / 2) ≤ 60) (d : FoD h f) : FoD h2 f := by
  obtain ⟨⟨d1, d2, d3, d4, d5, d6⟩, d7, d8, d9, d10, d11, d12, d13⟩ := d
  have x1 : nM h2 f = nM h f := by unfold nM; rw [b2]
  have x2 : nC h2 f = nC h f := by unfold nC; rw [b3]
  have x3 : ∀ j, j < 60 → vS h2 f j = vS h f j := b4
  have x4 : pres h2 f = pres h f := by
    funext x
    unfold pres
    rw [cnt_congr (P := fun j => decide (vS h2 f j = nI x)) (fun j hj => by rw [x3 j hj])]
  have x5 : ∀ j, dn h2 f j = dn h f j := fun j => by unfold dn; rw [e2, b1, x1]
  unfold FoD
  rw [e1, e2, x1, x2, x4, a0 3 (by omega), a0 4 (by omega), a0 5 (by omega), a0 6 (by omega), b1, b2, b3]
  refine ⟨⟨d1, d2, d3, d4, d5, d6⟩, fun k hk => ?_, fun j hj => ?_, fun j hj => ?_, d10, d11, d12, d13⟩
  · rw [a1 1 k (by omega), a1 2 k (by omega), a1 3 k (by omega), b5 71 k (by omega) (by omega), b5 72 k (by omega) (by omega), b5 73 k (by omega) (by omega)]; exact d7 k hk
  · rw [a1 5 j (by omega), x3 j (by omega)]; exact d8 j hj
  · rw [x3 j hj, x5]; exact d9 j hj
theorem IFo.fr {h h2 : Hp} {P : Nat → Nat → Prop} (u : Upd h h2 P) (g : IGeo h) (hQ : ¬ P 0 4 ∧ ¬ P 0 7) (hF : ∀ a k, (a = 66 ∨ 68 ≤ a ∧ a ≤ 73) → ¬ P a k) (hB : ∀ f k, f < 2 * nS h → ((3 ≤ k ∧ k ≤ 6) → ¬ P (fb h f) k) ∧ ∀ o, (1 ≤ o ∧ o ≤ 3 ∨ o = 5) → ¬ P (fb h f + o) k) (i : IFo h) : IFo h2 := by
  obtain ⟨g1, g2, g3, g4, g5, g6, g7, g8, g9⟩ := u.geo hQ
  refine ⟨fun f hf => ?_, fun f hf => ?_⟩
  · rw [g2] at hf
    exact FoD.fr (by rw [g8]) (by rw [g6]) (fun k hk => u.2 _ _ ((hB f k hf).1 hk)) (fun o k ho => u.2 _ _ ((hB f k hf).2 o ho)) (u.2 _ _ (hF _ _ (by omega))) (u.2 _ _ (hF _ _ (by omega))) (u.2 _ _ (hF _ _ (by omega))) (fun k _ => u.2 _ _ (hF _ _ (by omega))) (fun a k ha _ => u.2 _ _ (hF _ _ (by omega))) (g.2.2.2.2.2.1 (f / 2) (by omega)).2.2.2.2.2.2.2.2.2.1 (i.1 f hf)
  · rw [g2] at hf
    rw [u.2 68 _ (hF _ _ (by omega)), u.2 69 _ (hF _ _ (by omega))]
    exact i.2 f hf
theorem ISk.fr {h h2 : Hp} {P : Nat → Nat → Prop} (u : Upd h h2 P) (g : IGeo h) (hs : ISh h) (hQ : ¬ P 0 4 ∧ ¬ P 0 7) (hF : ∀ a k, (a = 8 ∨ a = 53 ∨ a = 54 ∨ a = 63 ∨ a = 64 ∨ a = 67) → ¬ P a k) (hB : (∀ f, f < 2 * nS h → ¬ P (fb h f) 2) ∧ ∀ s k, s < nS h → k < 2 * lv h s → gI h 67 (2 * s + k % 2) ≠ -1 → gI h (pb h (pgS h s k)) 5 = 1 → gI h2 (pb h (pgS h s k)) 5 = 1) (i : ISk h) : ISk h2 := by
  obtain ⟨g1, g2, g3, g4, g5, g6, g7, g8, g9⟩ := u.geo hQ
  have f1 : fm h2 = fm h := by funext s; unfold fm; rw [u.2 _ _ (hF _ _ (by omega))]
  have f2 : fst h2 = fst h := by funext s; unfold fst; rw [u.2 _ _ (hF _ _ (by omega))]
  have f3 : pgS h2 = pgS h := by funext s k; unfold pgS; rw [f1, f2]
  have x54 : ∀ k, gI h2 54 k = gI h 54 k := fun k => u.2 _ _ (hF _ _ (by omega))
  have x53 : ∀ k, gI h2 53 k = gI h 53 k := fun k => u.2 _ _ (hF _ _ (by omega))
  have x67 : ∀ k, gI h2 67 k = gI h 67 k := fun k => u.2 _ _ (hF _ _ (by omega))
  have x8 : ∀ k, gI h2 8 k = gI h 8 k := fun k => u.2 _ _ (hF _ _ (by omega))
  obtain ⟨i1, i2, i3, i4, i5, i6⟩ := i
  unfold ISk
  rw [g1, g2, g3, g7, g8, f3]
  simp only [x54, x53, x67, x8]
  refine ⟨fun f hf => ?_, i2, i3, i4, i5, fun s k hs hk => ?_⟩
  · rw [u.2 _ _ (hB.1 f hf)]; exact i1 f hf
  · exact ⟨(i6 s k hs hk).1, fun q => ⟨((i6 s k hs hk).2 q).1, hB.2 s k hs hk q ((i6 s k hs hk).2 q).2⟩⟩
theorem ISn.fr {h h2 : Hp} {P : Nat → Nat → Prop} (u : Upd h h2 P) (g : IGeo h) (hs : ISh h) (hQ : ¬ P 0 4 ∧ ¬ P 0 7) (hF : ∀ a k, (a = 51 ∨ a = 63 ∨ a = 64 ∨ a = 68) → ¬ P a k) (hB : ∀ p k, p < nP h → ¬ P (pb h p + 3) k) (i : ISn h) : ISn h2 := by
  obtain ⟨g1, g2, g3, g4, g5, g6, g7, g8, g9⟩ := u.geo hQ
  have f1 : fm h2 = fm h := by funext s; unfold fm; rw [u.2 _ _ (hF _ _ (by omega))]
  have f2 : fst h2 = fst h := by funext s; unfold fst; rw [u.2 _ _ (hF _ _ (by omega))]
  have f3 : pgS h2 = pgS h := by funext s k; unfold pgS; rw [f1, f2]
  have f4 : nM h2 = nM h := by funext s; unfold nM; rw [u.2 _ _ (hF _ _ (by omega))]
  intro s k hs' hk
  rw [g2] at hs'
  rw [g7] at hk
  rw [g3, g5, f3, f4]
  intro q j hj
  have e1 := hs.2.1 s hs'
  have e2 : pgS h s k < nP h := by
    have := tab_lt e1.2.1 e1.2.2.1 (k := k) (by rw [← e1.2.2.2.1]; exact hk)
    have := e1.2.2.2.2.2.2.1
    unfold pgS
    rw [e1.2.2.2.1] at this
    omega
  rw [u.2 _ _ (hB _ _ e2), u.2 51 _ (hF _ _ (by omega))]
  exact i s k hs' hk q j hj
theorem GdD.fr {h h2 : Hp} {s : Nat} (e1 : sb h2 s = sb h s) (e2 : cp h2 s = cp h s) (a0 : gI h2 (sb h s) 7 = gI h (sb h s) 7) (a1 : ∀ k, gI h2 (sb h s + 13) k = gI h (sb h s + 13) k) (b : ∀ c, c < 60 → gI h2 74 (60 * s + c) = gI h 74 (60 * s + c)) (hc : cp h s ≤ 60) (d : GdD h s) : GdD h2 s := by
  have x1 : ∀ c, c < 60 → us h2 s c = us h s c := fun c hc => by unfold us; rw [b c hc]
  have x2 : ∀ n, n ≤ 60 → cnt (us h2 s) n = cnt (us h s) n := fun n hn => cnt_congr (fun k hk => x1 k (by omega))
  unfold GdD
  rw [e1, e2, x2 _ hc, a0]
  refine ⟨d.1, fun k hk => ?_⟩
  obtain ⟨c, q1, q2, q3, q4⟩ := d.2 k hk
  exact ⟨c, q1, by rw [a1]; exact q2, by rw [x1 c (by omega)]; exact q3, by rw [x2 c (by omega)]; exact q4⟩
theorem IGd.fr {h h2 : Hp} {P : Nat → Nat → Prop} (u : Upd h h2 P) (g : IGeo h) (hQ : ¬ P 0 4 ∧ ¬ P 0 7) (hF : ∀ k, ¬ P 74 k) (hB : ∀ s k, s < nS h → ¬ P (sb h s) 7 ∧ ¬ P (sb h s + 13) k) (i : IGd h) : IGd h2 := by
  obtain ⟨g1, g2, g3, g4, g5, g6, g7, g8, g9⟩ := u.geo hQ
  have x : ∀ k, gI h2 74 k = gI h 74 k := fun k => u.2 _ _ (hF k)
  refine ⟨fun j hj => by rw [x]; exact i.1 j hj, fun s hs => ?_, fun s c hs hc q => ?_⟩
  · rw [g2] at hs
    exact GdD.fr (by rw [g4]) (by rw [g6]) (u.2 _ _ (hB s 0 hs).1) (fun k => u.2 _ _ (hB s k hs).2) (fun c _ => x _) (g.2.2.2.2.2.1 s hs).2.2.2.2.2.2.2.2.2.1 (i.2.1 s hs)
  · rw [g2, g6] at q
    rw [x]; exact i.2.2 s c hs hc q
theorem ISm.fr {h h2 : Hp} {P : Nat → Nat → Prop} (u : Upd h h2 P) (hF : ∀ a k, (a = 8 ∨ a = 11 ∨ a = 12 ∨ a = 67 ∨ a = 68 ∨ a = 74) → ¬ P a k) (i : ISm h) : ISm h2 := by
  have x : ∀ a, (a = 8 ∨ a = 11 ∨ a = 12 ∨ a = 67 ∨ a = 68 ∨ a = 74) → gI h2 a = gI h a := fun a ha => funext fun k => u.2 _ _ (hF a k ha)
  unfold ISm us
  rw [x 8 (by omega), x 11 (by omega), x 12 (by omega), x 67 (by omega), x 68 (by omega), x 74 (by omega)]
  exact i
