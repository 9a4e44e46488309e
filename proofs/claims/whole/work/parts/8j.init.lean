def hE : Hp := (0, 0, fun _ => 0, fun _ => 0, fun _ _ => 0, fun _ _ => none)
def ini : Option (Unit × Hp) := bnd (f_X9_init (nw hE 9 14 0) 0) fun _ h4 => bif Nat.beq (gN h4) 45 then f_X10_init (nw h4 10 53 0) 45 else none
def zerL : List (Nat × Nat) := [(0, 14), (1, 2), (45, 53), (13, 8), (25, 11), (68, 12), (69, 12), (8, 4), (74, 360), (3, 26), (47, 26), (10, 6), (11, 6), (12, 6), (56, 6), (57, 6), (58, 6), (21, 4), (79, 4)]
def valL : List (Nat × Nat × Int32) := [(67, 12, -1), (14, 72, -1), (76, 72, -1), (22, 4, 1), (80, 4, 1)]
def tst1 (h : Hp) : Bool := Nat.beq (gN h) 88 && Nat.ble (gS h) 100000 && (List.range 88).all (fun a => Nat.beq (gK h a) (kT.getD a 0) && Nat.beq (gL h a) (lT.getD a 0)) && rT.all (fun q => match gR h q.1 q.2.1 with
  | none => false
  | some r => Nat.beq r q.2.2)
def tst2 (h : Hp) : Bool := zerL.all (fun q => (List.range q.2).all (fun k => decide (gI h q.1 k = 0))) && valL.all (fun q => (List.range q.2.1).all (fun k => decide (gI h q.1 k = q.2.2)))
def tst3 (h : Hp) : Bool := [1, 2, 3].all (fun m => decide (gI h (29 + 4 * m) 0 = nI (bif Nat.beq m 3 then 4 else 2)) && decide (gI h (29 + 4 * m) 1 = nI (bif Nat.beq m 1 then 1 else 2)) && (List.range (2 * 2 ^ m)).all (fun k => decide (gI h (30 + 4 * m) k = nI (tab m k)) && decide (gI h 59 (16 * m + k) = nI (tab m k))) && (List.range (2 ^ m)).all (fun k => decide (gI h (31 + 4 * m) k = nI (trn m k)) && decide (gI h 60 (8 * m + k) = nI (trn m k))))
def onI (t : Hp → Bool) : Bool := match ini with
  | none => false
  | some v => t v.2
theorem ini_1 : onI tst1 = true := by decide +kernel
theorem ini_2 : onI tst2 = true := by decide +kernel
theorem ini_3 : onI tst3 = true := by decide +kernel
theorem ini_ex : ∃ h : Hp, ini = some ((), h) ∧ tst1 h = true ∧ tst2 h = true ∧ tst3 h = true := by
  have a := ini_1
  have b := ini_2
  have c := ini_3
  unfold onI at a b c
  revert a b c
  cases ini with
  | none => intro a _ _; cases a
  | some v => intro a b c; exact ⟨v.2, rfl, a, b, c⟩
theorem ini_I {h : Hp} (a : tst1 h = true) (b : tst2 h = true) (c : tst3 h = true) : IAll 0 h := by
  unfold tst1 at a
  simp only [Bool.and_eq_true, List.all_eq_true, List.mem_range] at a
  obtain ⟨⟨⟨a1, a2⟩, a3⟩, a4⟩ := a
  have a1 := Nat.eq_of_beq_eq_true a1
  have a2 := Nat.le_of_ble_eq_true a2
  unfold tst2 at b
  simp only [Bool.and_eq_true, List.all_eq_true, List.mem_range, decide_eq_true_eq] at b
  obtain ⟨b1, b2⟩ := b
  have Z : ∀ p n, (p, n) ∈ zerL → ∀ k, k < n → gI h p k = 0 := fun p n hq k hk => b1 (p, n) hq k hk
  have V : ∀ p n v, (p, n, v) ∈ valL → ∀ k, k < n → gI h p k = v := fun p n v hq k hk => b2 (p, n, v) hq k hk
  unfold tst3 at c
  simp only [List.all_eq_true, Bool.and_eq_true, decide_eq_true_eq, List.mem_range] at c
  have hs : SH h := by
    refine ⟨by omega, fun p hp => ⟨Nat.eq_of_beq_eq_true (a3 p hp).1, Nat.eq_of_beq_eq_true (a3 p hp).2⟩, fun q hq => ?_⟩
    have := a4 q hq
    cases e : gR h q.1 q.2.1 with
    | none => rw [e] at this; cases this
    | some r => rw [e] at this; rw [Nat.eq_of_beq_eq_true this]
  have z04 : gI h 0 4 = 0 := Z 0 14 (by decide) 4 (by decide)
  have z07 : gI h 0 7 = 0 := Z 0 14 (by decide) 7 (by decide)
  have z45 : ∀ k, k < 53 → gI h 45 k = 0 := Z 45 53 (by decide)
  have nP0 : nP h = 0 := by unfold nP; rw [z04]; rfl
  have nS0 : nS h = 0 := by unfold nS; rw [z07]; rfl
  have nJ0 : nJ h = 0 := by unfold nJ; rw [Z 25 11 (by decide) 3 (by decide)]; rfl
  have z74 : ∀ k, k < 360 → gI h 74 k = 0 := Z 74 360 (by decide)
  have z68 : ∀ k, k < 12 → gI h 68 k = 0 := Z 68 12 (by decide)
  have z11 : ∀ k, k < 6 → gI h 11 k = 0 := Z 11 6 (by decide)
  have z12 : ∀ k, k < 6 → gI h 12 k = 0 := Z 12 6 (by decide)
  have z8 : ∀ k, k < 4 → gI h 8 k = 0 := Z 8 4 (by decide)
  have v67 : ∀ k, k < 12 → gI h 67 k = -1 := V 67 12 (-1) (by decide)
  have sum0 : ∀ (F : Nat → Int32) (n : Nat), (∀ k, k < n → F k = 0) → sumI F n = 0 := by
    intro F n
    induction n with
    | zero => intro _; rfl
    | succ n ih => intro hF; unfold sumI; rw [ih (fun k hk => hF k (by omega)), hF n (by omega)]; rfl
  have cnt0 : ∀ (P : Nat → Bool) (n : Nat), (∀ k, k < n → P k = false) → cnt P n = 0 := by
    intro P n
    induction n with
    | zero => intro _; rfl
    | succ n ih => intro hF; unfold cnt; rw [ih (fun k hk => hF k (by omega)), hF n (by omega)]; rfl
  refine ⟨hs, ?_, ?_, ?_, ?_, ?_, ?_, ?_, ?_, ?_, ?_, ?_, ?_, ?_, ?_, ?_, ?_, ?_, ?_, ?_, by omega, by omega⟩
  · refine ⟨by rw [nP0]; exact z04, by omega, by rw [nS0]; exact z07, by omega, ?_, ?_, ?_, ?_, ?_⟩
    · intro p hp; omega
    · intro s hs'; omega
    · intro p r _ hr; omega
    · intro s u _ hu; omega
    · intro p s hp _; omega
  · exact ⟨by rw [nP0]; exact z45 11 (by decide), fun p hp => by omega⟩
  · intro m h1 h2
    have hm : m ∈ [1, 2, 3] := by
      rcases m3 h1 h2 with rfl | rfl | rfl <;> decide
    obtain ⟨⟨⟨c1, c2⟩, c3⟩, c4⟩ := c m hm
    refine ⟨?_, ?_, c3, c4⟩
    · rw [c1]
      rcases m3 h1 h2 with rfl | rfl | rfl <;> rfl
    · rw [c2]
      rcases m3 h1 h2 with rfl | rfl | rfl <;> rfl
  · exact ⟨by rw [nS0]; exact z45 23 (by decide), fun s hs' => by omega, fun p hp => by omega⟩
  · intro s hs'; omega
  · exact ⟨fun f hf => by omega, fun f _ hf => ⟨z68 f hf, Z 69 12 (by decide) f hf⟩⟩
  · refine ⟨fun f hf => by omega, fun f _ hf => v67 f hf, fun k hk => Or.inr ⟨z8 k hk, fun f hf e => ?_⟩, fun f g hf => by omega, fun p hp => by omega, fun s k hs' => by omega⟩
    rw [v67 f hf] at e
    exact absurd e.symm (nm1 (by omega))
  · intro s k hs'; omega
  · exact ⟨fun j hj => Or.inl (z74 j hj), fun s hs' => by omega, fun s k hs' hk _ => z74 _ (by omega)⟩
  · refine ⟨?_, ?_, ?_⟩
    · rw [sum0 _ _ z11, sum0 _ _ z68]
    · have e1 : sumI (fun s => nI (cnt (fun c => !us h s c) 60)) 6 = 0 := sum0 _ _ (fun s hs' => by
        have e : cnt (fun c => !us h s c) 60 = 0 := cnt0 _ _ (fun k hk => by
          unfold us; rw [z74 _ (by omega)]; rfl)
        rw [e]; rfl)
      rw [sum0 _ _ z12, e1]
    · have e1 : cnt (fun k => decide (gI h 8 k = 1)) 4 = 0 := cnt0 _ _ (fun k hk => by rw [z8 k hk]; rfl)
      have e2 : cnt (fun f => !decide (gI h 67 f = -1)) 12 = 0 := cnt0 _ _ (fun f hf => by rw [v67 f hf]; rfl)
      rw [e1, e2]
  · exact fun l hl => ⟨by rw [Z 3 26 (by decide) l hl, Z 47 26 (by decide) l hl], 0, by omega, Z 3 26 (by decide) l hl⟩
  · exact ⟨by rw [Z 0 14 (by decide) 9 (by decide), z45 24 (by decide)], 0, by omega, Z 0 14 (by decide) 9 (by decide)⟩
  · intro k hk
    rw [V 14 72 (-1) (by decide) k hk, V 76 72 (-1) (by decide) k hk]
    exact ⟨rfl, by decide, by decide⟩
  · exact ⟨0, by omega, Z 13 8 (by decide) 6 (by decide), z45 37 (by decide), fun j hj => absurd hj (Nat.not_lt_zero j), fun _ => z45 39 (by decide), fun z => absurd z (Nat.lt_irrefl 0)⟩
  · exact ⟨0, by omega, Z 1 2 (by decide) 1 (by decide), z45 2 (by decide), fun j hj => absurd hj (Nat.not_lt_zero j)⟩
  · intro o d ho hd
    have e : gI h (10 + o) d = 0 ∧ gI h (56 + o) d = 0 := by
      match o, ho with
      | 0, _ => exact ⟨Z 10 6 (by decide) d hd, Z 56 6 (by decide) d hd⟩
      | 1, _ => exact ⟨Z 11 6 (by decide) d hd, Z 57 6 (by decide) d hd⟩
      | 2, _ => exact ⟨Z 12 6 (by decide) d hd, Z 58 6 (by decide) d hd⟩
    rw [e.1, e.2]
    exact ⟨rfl, 0, by omega, rfl⟩
  · intro w hw
    rw [Z 21 4 (by decide) w hw, Z 79 4 (by decide) w hw, V 22 4 1 (by decide) w hw, V 80 4 1 (by decide) w hw]
    exact ⟨rfl, rfl, 1, by omega, by omega, rfl⟩
  · exact ⟨by rw [nJ0]; exact Z 25 11 (by decide) 3 (by decide), by rw [nJ0]; exact z45 50 (by decide), by omega, fun j hj => by omega⟩
  · exact ⟨fun _ => 0, fun _ => 0, fun _ => 0, 0, by omega, fun j hj => absurd hj (Nat.not_lt_zero j), Z 25 11 (by decide) 8 (by decide), z45 51 (by decide), fun _ => Z 25 11 (by decide) 9 (by decide), fun z => absurd z (by decide)⟩
