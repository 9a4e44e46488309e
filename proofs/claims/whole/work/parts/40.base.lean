theorem vl_e {α β : Type} (v : α) (k : α → Option β) : vl v k = k v := of_eq_true (eq_self (k v))
theorem un_e {β : Type} (a : Nat) (k : Nat → Option β) : un (some a) k = k a := of_eq_true (eq_self (k a))
theorem nl_s {β : Type} (a : Nat) (x : Option β) (k : Nat → Option β) : nl (some a) x k = k a := of_eq_true (eq_self (k a))
theorem nl_n {β : Type} (x : Option β) (k : Nat → Option β) : nl none x k = x := of_eq_true (eq_self x)
theorem bnd_e {α β : Type} (v : α) (h : Hp) (k : α → Hp → Option β) : bnd (some (v, h)) k = k v h := of_eq_true (eq_self (k v h))
theorem gd_e {β : Type} (x : Option β) : gd true x = x := of_eq_true (eq_self x)
def inB (i : Int32) (n : Nat) : Bool := decide (0 ≤ i.toInt) && decide (i.toInt < n)
theorem inB_nI {j n : Nat} (h : j < n) (hn : n < 2 ^ 31) : inB (nI j) n = true := by
  unfold inB
  rw [nI_toInt (by omega)]
  simp only [Bool.and_eq_true, decide_eq_true_eq]
  omega
theorem inB_of {i : Int32} {n : Nat} (h0 : 0 ≤ i.toInt) (h1 : i.toInt < n) : inB i n = true := by
  unfold inB; simp only [Bool.and_eq_true, decide_eq_true_eq]; exact ⟨h0, h1⟩
def kT : List Nat := [9, 8, 11, 11, 11, 14, 13, 15, 12, 3, 11, 11, 11, 0, 11, 11, 11, 11, 11, 11, 5, 11, 11, 11, 11, 4, 11, 11, 11, 11, 11, 11, 11, 1, 11, 11, 11, 1, 11, 11, 11, 1, 11, 11, 11, 10, 11, 11, 11, 11, 11, 11, 11, 11, 11, 11, 11, 11, 11, 11, 11, 11, 11, 11, 11, 11, 11, 11, 11, 11, 11, 11, 11, 11, 12, 11, 11, 11, 11, 11, 11, 11, 11, 11, 11, 11, 11, 11]
def lT : List Nat := [0, 0, 300, 26, 26, 48, 3, 6, 4, 0, 6, 6, 6, 0, 72, 7, 49, 128, 128, 7, 0, 4, 4, 4, 4, 0, 7, 7, 7, 7, 7, 7, 7, 0, 4, 2, 16, 0, 8, 4, 32, 0, 16, 8, 64, 0, 300, 26, 48, 5760, 5760, 5760, 48, 48, 48, 48, 6, 6, 6, 64, 32, 64, 8, 6, 6, 6, 6, 12, 12, 12, 720, 360, 360, 360, 360, 7, 72, 7, 144, 4, 4, 4, 4, 7, 7, 7, 7, 7]
def rT : List (Nat × Nat × Nat) := [(0, 0, 1), (0, 1, 3), (0, 2, 4), (0, 3, 5), (0, 5, 6), (0, 6, 7), (0, 8, 8), (0, 10, 9), (0, 11, 13), (0, 12, 20), (0, 13, 25), (1, 0, 2), (6, 0, 33), (6, 1, 37), (6, 2, 41), (9, 0, 10), (9, 1, 11), (9, 2, 12), (13, 0, 14), (13, 1, 15), (13, 2, 16), (13, 3, 17), (13, 4, 18), (13, 5, 19), (20, 0, 21), (20, 1, 22), (20, 2, 23), (20, 3, 24), (25, 0, 26), (25, 1, 27), (25, 2, 28), (25, 4, 29), (25, 5, 30), (25, 6, 31), (25, 7, 32), (33, 2, 34), (33, 3, 35), (37, 2, 38), (37, 3, 39), (41, 2, 42), (41, 3, 43), (45, 0, 46), (45, 1, 47), (45, 3, 48), (45, 4, 49), (45, 5, 50), (45, 6, 51), (45, 7, 52), (45, 8, 53), (45, 9, 54), (45, 10, 55), (45, 12, 56), (45, 13, 57), (45, 14, 58), (45, 15, 59), (45, 16, 60), (45, 17, 61), (45, 18, 62), (45, 19, 63), (45, 20, 64), (45, 21, 65), (45, 22, 66), (45, 25, 67), (45, 26, 68), (45, 27, 69), (45, 28, 70), (45, 29, 71), (45, 30, 72), (45, 31, 73), (45, 32, 74), (45, 33, 75), (45, 34, 76), (45, 35, 77), (45, 36, 78), (45, 40, 79), (45, 41, 80), (45, 42, 81), (45, 43, 82), (45, 45, 83), (45, 46, 84), (45, 47, 85), (45, 48, 86), (45, 49, 87)]
/-- the fixed shape: class 0..44, reference 45..87 -/
def SH (h : Hp) : Prop := 88 ≤ gN h ∧ (∀ a, a < 88 → gK h a = kT.getD a 0 ∧ gL h a = lT.getD a 0) ∧ ∀ q ∈ rT, gR h q.1 q.2.1 = some q.2.2
theorem SH.o {h : Hp} (s : SH h) (a kd : Nat) (ha : a < 88) (hk : kT.getD a 0 = kd) : okOb h a kd = true := by
  have h1 := (s.2.1 a ha).1
  have h2 := s.1
  simp only [okOb, Bool.and_eq_true, decide_eq_true_eq]
  exact ⟨by omega, h1.trans hk⟩
theorem SH.a {h : Hp} (s : SH h) (a kd n : Nat) (i : Int32) (ha : a < 88) (hk : kT.getD a 0 = kd) (hl : lT.getD a 0 = n) : okAb h a kd i = inB i n := by
  have h1 := (s.2.1 a ha).1.trans hk
  have h2 := (s.2.1 a ha).2.trans hl
  have h3 := s.1
  have h4 : a < gN h := by omega
  simp [okAb, inB, h1, h2, h4]
theorem SH.l {h : Hp} (s : SH h) (a n : Nat) (ha : a < 88) (hl : lT.getD a 0 = n) : gL h a = n := (s.2.1 a ha).2.trans hl
theorem SH.r {h : Hp} (s : SH h) (a k r : Nat) (hq : (a, k, r) ∈ rT) : gR h a k = some r := s.2.2 (a, k, r) hq
theorem SH_sI (h : Hp) (a k : Nat) (v : Int32) : SH (sI h a k v) = SH h := of_eq_true (eq_self (SH h))
theorem SH_sW (h : Hp) (a : Nat) (f : Nat → Int32) : SH (sW h a f) = SH h := of_eq_true (eq_self (SH h))
theorem okOb_sI (h : Hp) (a k : Nat) (v : Int32) (b c : Nat) : okOb (sI h a k v) b c = okOb h b c := of_eq_true (eq_self (okOb h b c))
theorem okAb_sI (h : Hp) (a k : Nat) (v : Int32) (b c : Nat) (i : Int32) : okAb (sI h a k v) b c i = okAb h b c i := of_eq_true (eq_self (okAb h b c i))
theorem okOb_sW (h : Hp) (a : Nat) (f : Nat → Int32) (b c : Nat) : okOb (sW h a f) b c = okOb h b c := of_eq_true (eq_self (okOb h b c))
theorem okAb_sW (h : Hp) (a : Nat) (f : Nat → Int32) (b c : Nat) (i : Int32) : okAb (sW h a f) b c i = okAb h b c i := of_eq_true (eq_self (okAb h b c i))
theorem xI_sI (h : Hp) (a k : Nat) (v : Int32) (b j : Nat) : gI (sI h a k v) b j = if b = a ∧ j = k then v else gI h b j := of_eq_true (eq_self (if b = a ∧ j = k then v else gI h b j))
theorem xR_sI (h : Hp) (a k : Nat) (v : Int32) (b j : Nat) : gR (sI h a k v) b j = gR h b j := of_eq_true (eq_self (gR h b j))
theorem xK_sI (h : Hp) (a k : Nat) (v : Int32) (b : Nat) : gK (sI h a k v) b = gK h b := of_eq_true (eq_self (gK h b))
theorem xL_sI (h : Hp) (a k : Nat) (v : Int32) (b : Nat) : gL (sI h a k v) b = gL h b := of_eq_true (eq_self (gL h b))
theorem xN_sI (h : Hp) (a k : Nat) (v : Int32) : gN (sI h a k v) = gN h := of_eq_true (eq_self (gN h))
theorem xR_sW (h : Hp) (a : Nat) (f : Nat → Int32) (b j : Nat) : gR (sW h a f) b j = gR h b j := of_eq_true (eq_self (gR h b j))
theorem xK_sW (h : Hp) (a : Nat) (f : Nat → Int32) (b : Nat) : gK (sW h a f) b = gK h b := of_eq_true (eq_self (gK h b))
theorem xL_sW (h : Hp) (a : Nat) (f : Nat → Int32) (b : Nat) : gL (sW h a f) b = gL h b := of_eq_true (eq_self (gL h b))
theorem xN_sW (h : Hp) (a : Nat) (f : Nat → Int32) : gN (sW h a f) = gN h := of_eq_true (eq_self (gN h))
theorem sO0 {h : Hp} (s : SH h) : okOb h 0 9 = true := s.o 0 9 (by decide) rfl
theorem sO1 {h : Hp} (s : SH h) : okOb h 1 8 = true := s.o 1 8 (by decide) rfl
theorem sO2 {h : Hp} (s : SH h) : okOb h 2 11 = true := s.o 2 11 (by decide) rfl
theorem sA2 {h : Hp} (s : SH h) (i : Int32) : okAb h 2 11 i = inB i 300 := s.a 2 11 300 i (by decide) rfl rfl
theorem sL2 {h : Hp} (s : SH h) : gL h 2 = 300 := s.l 2 300 (by decide) rfl
theorem sO3 {h : Hp} (s : SH h) : okOb h 3 11 = true := s.o 3 11 (by decide) rfl
theorem sA3 {h : Hp} (s : SH h) (i : Int32) : okAb h 3 11 i = inB i 26 := s.a 3 11 26 i (by decide) rfl rfl
theorem sL3 {h : Hp} (s : SH h) : gL h 3 = 26 := s.l 3 26 (by decide) rfl
theorem sO4 {h : Hp} (s : SH h) : okOb h 4 11 = true := s.o 4 11 (by decide) rfl
theorem sA4 {h : Hp} (s : SH h) (i : Int32) : okAb h 4 11 i = inB i 26 := s.a 4 11 26 i (by decide) rfl rfl
theorem sL4 {h : Hp} (s : SH h) : gL h 4 = 26 := s.l 4 26 (by decide) rfl
theorem sO5 {h : Hp} (s : SH h) : okOb h 5 14 = true := s.o 5 14 (by decide) rfl
theorem sA5 {h : Hp} (s : SH h) (i : Int32) : okAb h 5 14 i = inB i 48 := s.a 5 14 48 i (by decide) rfl rfl
theorem sL5 {h : Hp} (s : SH h) : gL h 5 = 48 := s.l 5 48 (by decide) rfl
theorem sO6 {h : Hp} (s : SH h) : okOb h 6 13 = true := s.o 6 13 (by decide) rfl
theorem sA6 {h : Hp} (s : SH h) (i : Int32) : okAb h 6 13 i = inB i 3 := s.a 6 13 3 i (by decide) rfl rfl
theorem sL6 {h : Hp} (s : SH h) : gL h 6 = 3 := s.l 6 3 (by decide) rfl
theorem sO7 {h : Hp} (s : SH h) : okOb h 7 15 = true := s.o 7 15 (by decide) rfl
theorem sA7 {h : Hp} (s : SH h) (i : Int32) : okAb h 7 15 i = inB i 6 := s.a 7 15 6 i (by decide) rfl rfl
theorem sL7 {h : Hp} (s : SH h) : gL h 7 = 6 := s.l 7 6 (by decide) rfl
theorem sO8 {h : Hp} (s : SH h) : okOb h 8 12 = true := s.o 8 12 (by decide) rfl
theorem sA8 {h : Hp} (s : SH h) (i : Int32) : okAb h 8 12 i = inB i 4 := s.a 8 12 4 i (by decide) rfl rfl
theorem sL8 {h : Hp} (s : SH h) : gL h 8 = 4 := s.l 8 4 (by decide) rfl
theorem sO9 {h : Hp} (s : SH h) : okOb h 9 3 = true := s.o 9 3 (by decide) rfl
theorem sO10 {h : Hp} (s : SH h) : okOb h 10 11 = true := s.o 10 11 (by decide) rfl
theorem sA10 {h : Hp} (s : SH h) (i : Int32) : okAb h 10 11 i = inB i 6 := s.a 10 11 6 i (by decide) rfl rfl
theorem sL10 {h : Hp} (s : SH h) : gL h 10 = 6 := s.l 10 6 (by decide) rfl
theorem sO11 {h : Hp} (s : SH h) : okOb h 11 11 = true := s.o 11 11 (by decide) rfl
theorem sA11 {h : Hp} (s : SH h) (i : Int32) : okAb h 11 11 i = inB i 6 := s.a 11 11 6 i (by decide) rfl rfl
theorem sL11 {h : Hp} (s : SH h) : gL h 11 = 6 := s.l 11 6 (by decide) rfl
theorem sO12 {h : Hp} (s : SH h) : okOb h 12 11 = true := s.o 12 11 (by decide) rfl
theorem sA12 {h : Hp} (s : SH h) (i : Int32) : okAb h 12 11 i = inB i 6 := s.a 12 11 6 i (by decide) rfl rfl
theorem sL12 {h : Hp} (s : SH h) : gL h 12 = 6 := s.l 12 6 (by decide) rfl
theorem sO13 {h : Hp} (s : SH h) : okOb h 13 0 = true := s.o 13 0 (by decide) rfl
theorem sO14 {h : Hp} (s : SH h) : okOb h 14 11 = true := s.o 14 11 (by decide) rfl
theorem sA14 {h : Hp} (s : SH h) (i : Int32) : okAb h 14 11 i = inB i 72 := s.a 14 11 72 i (by decide) rfl rfl
theorem sL14 {h : Hp} (s : SH h) : gL h 14 = 72 := s.l 14 72 (by decide) rfl
theorem sO15 {h : Hp} (s : SH h) : okOb h 15 11 = true := s.o 15 11 (by decide) rfl
theorem sA15 {h : Hp} (s : SH h) (i : Int32) : okAb h 15 11 i = inB i 7 := s.a 15 11 7 i (by decide) rfl rfl
theorem sL15 {h : Hp} (s : SH h) : gL h 15 = 7 := s.l 15 7 (by decide) rfl
theorem sO16 {h : Hp} (s : SH h) : okOb h 16 11 = true := s.o 16 11 (by decide) rfl
theorem sA16 {h : Hp} (s : SH h) (i : Int32) : okAb h 16 11 i = inB i 49 := s.a 16 11 49 i (by decide) rfl rfl
theorem sL16 {h : Hp} (s : SH h) : gL h 16 = 49 := s.l 16 49 (by decide) rfl
theorem sO17 {h : Hp} (s : SH h) : okOb h 17 11 = true := s.o 17 11 (by decide) rfl
theorem sA17 {h : Hp} (s : SH h) (i : Int32) : okAb h 17 11 i = inB i 128 := s.a 17 11 128 i (by decide) rfl rfl
theorem sL17 {h : Hp} (s : SH h) : gL h 17 = 128 := s.l 17 128 (by decide) rfl
theorem sO18 {h : Hp} (s : SH h) : okOb h 18 11 = true := s.o 18 11 (by decide) rfl
theorem sA18 {h : Hp} (s : SH h) (i : Int32) : okAb h 18 11 i = inB i 128 := s.a 18 11 128 i (by decide) rfl rfl
theorem sL18 {h : Hp} (s : SH h) : gL h 18 = 128 := s.l 18 128 (by decide) rfl
theorem sO19 {h : Hp} (s : SH h) : okOb h 19 11 = true := s.o 19 11 (by decide) rfl
theorem sA19 {h : Hp} (s : SH h) (i : Int32) : okAb h 19 11 i = inB i 7 := s.a 19 11 7 i (by decide) rfl rfl
theorem sL19 {h : Hp} (s : SH h) : gL h 19 = 7 := s.l 19 7 (by decide) rfl
theorem sO20 {h : Hp} (s : SH h) : okOb h 20 5 = true := s.o 20 5 (by decide) rfl
theorem sO21 {h : Hp} (s : SH h) : okOb h 21 11 = true := s.o 21 11 (by decide) rfl
theorem sA21 {h : Hp} (s : SH h) (i : Int32) : okAb h 21 11 i = inB i 4 := s.a 21 11 4 i (by decide) rfl rfl
theorem sL21 {h : Hp} (s : SH h) : gL h 21 = 4 := s.l 21 4 (by decide) rfl
theorem sO22 {h : Hp} (s : SH h) : okOb h 22 11 = true := s.o 22 11 (by decide) rfl
theorem sA22 {h : Hp} (s : SH h) (i : Int32) : okAb h 22 11 i = inB i 4 := s.a 22 11 4 i (by decide) rfl rfl
theorem sL22 {h : Hp} (s : SH h) : gL h 22 = 4 := s.l 22 4 (by decide) rfl
theorem sO23 {h : Hp} (s : SH h) : okOb h 23 11 = true := s.o 23 11 (by decide) rfl
theorem sA23 {h : Hp} (s : SH h) (i : Int32) : okAb h 23 11 i = inB i 4 := s.a 23 11 4 i (by decide) rfl rfl
theorem sL23 {h : Hp} (s : SH h) : gL h 23 = 4 := s.l 23 4 (by decide) rfl
theorem sO24 {h : Hp} (s : SH h) : okOb h 24 11 = true := s.o 24 11 (by decide) rfl
theorem sA24 {h : Hp} (s : SH h) (i : Int32) : okAb h 24 11 i = inB i 4 := s.a 24 11 4 i (by decide) rfl rfl
theorem sL24 {h : Hp} (s : SH h) : gL h 24 = 4 := s.l 24 4 (by decide) rfl
theorem sO25 {h : Hp} (s : SH h) : okOb h 25 4 = true := s.o 25 4 (by decide) rfl
theorem sO26 {h : Hp} (s : SH h) : okOb h 26 11 = true := s.o 26 11 (by decide) rfl
theorem sA26 {h : Hp} (s : SH h) (i : Int32) : okAb h 26 11 i = inB i 7 := s.a 26 11 7 i (by decide) rfl rfl
theorem sL26 {h : Hp} (s : SH h) : gL h 26 = 7 := s.l 26 7 (by decide) rfl
theorem sO27 {h : Hp} (s : SH h) : okOb h 27 11 = true := s.o 27 11 (by decide) rfl
theorem sA27 {h : Hp} (s : SH h) (i : Int32) : okAb h 27 11 i = inB i 7 := s.a 27 11 7 i (by decide) rfl rfl
theorem sL27 {h : Hp} (s : SH h) : gL h 27 = 7 := s.l 27 7 (by decide) rfl
theorem sO28 {h : Hp} (s : SH h) : okOb h 28 11 = true := s.o 28 11 (by decide) rfl
theorem sA28 {h : Hp} (s : SH h) (i : Int32) : okAb h 28 11 i = inB i 7 := s.a 28 11 7 i (by decide) rfl rfl
theorem sL28 {h : Hp} (s : SH h) : gL h 28 = 7 := s.l 28 7 (by decide) rfl
theorem sO29 {h : Hp} (s : SH h) : okOb h 29 11 = true := s.o 29 11 (by decide) rfl
theorem sA29 {h : Hp} (s : SH h) (i : Int32) : okAb h 29 11 i = inB i 7 := s.a 29 11 7 i (by decide) rfl rfl
theorem sL29 {h : Hp} (s : SH h) : gL h 29 = 7 := s.l 29 7 (by decide) rfl
theorem sO30 {h : Hp} (s : SH h) : okOb h 30 11 = true := s.o 30 11 (by decide) rfl
theorem sA30 {h : Hp} (s : SH h) (i : Int32) : okAb h 30 11 i = inB i 7 := s.a 30 11 7 i (by decide) rfl rfl
theorem sL30 {h : Hp} (s : SH h) : gL h 30 = 7 := s.l 30 7 (by decide) rfl
theorem sO31 {h : Hp} (s : SH h) : okOb h 31 11 = true := s.o 31 11 (by decide) rfl
theorem sA31 {h : Hp} (s : SH h) (i : Int32) : okAb h 31 11 i = inB i 7 := s.a 31 11 7 i (by decide) rfl rfl
theorem sL31 {h : Hp} (s : SH h) : gL h 31 = 7 := s.l 31 7 (by decide) rfl
theorem sO32 {h : Hp} (s : SH h) : okOb h 32 11 = true := s.o 32 11 (by decide) rfl
theorem sA32 {h : Hp} (s : SH h) (i : Int32) : okAb h 32 11 i = inB i 7 := s.a 32 11 7 i (by decide) rfl rfl
theorem sL32 {h : Hp} (s : SH h) : gL h 32 = 7 := s.l 32 7 (by decide) rfl
theorem sO33 {h : Hp} (s : SH h) : okOb h 33 1 = true := s.o 33 1 (by decide) rfl
theorem sO34 {h : Hp} (s : SH h) : okOb h 34 11 = true := s.o 34 11 (by decide) rfl
theorem sA34 {h : Hp} (s : SH h) (i : Int32) : okAb h 34 11 i = inB i 4 := s.a 34 11 4 i (by decide) rfl rfl
theorem sL34 {h : Hp} (s : SH h) : gL h 34 = 4 := s.l 34 4 (by decide) rfl
theorem sO35 {h : Hp} (s : SH h) : okOb h 35 11 = true := s.o 35 11 (by decide) rfl
theorem sA35 {h : Hp} (s : SH h) (i : Int32) : okAb h 35 11 i = inB i 2 := s.a 35 11 2 i (by decide) rfl rfl
theorem sL35 {h : Hp} (s : SH h) : gL h 35 = 2 := s.l 35 2 (by decide) rfl
theorem sO36 {h : Hp} (s : SH h) : okOb h 36 11 = true := s.o 36 11 (by decide) rfl
theorem sA36 {h : Hp} (s : SH h) (i : Int32) : okAb h 36 11 i = inB i 16 := s.a 36 11 16 i (by decide) rfl rfl
theorem sL36 {h : Hp} (s : SH h) : gL h 36 = 16 := s.l 36 16 (by decide) rfl
theorem sO37 {h : Hp} (s : SH h) : okOb h 37 1 = true := s.o 37 1 (by decide) rfl
theorem sO38 {h : Hp} (s : SH h) : okOb h 38 11 = true := s.o 38 11 (by decide) rfl
theorem sA38 {h : Hp} (s : SH h) (i : Int32) : okAb h 38 11 i = inB i 8 := s.a 38 11 8 i (by decide) rfl rfl
theorem sL38 {h : Hp} (s : SH h) : gL h 38 = 8 := s.l 38 8 (by decide) rfl
theorem sO39 {h : Hp} (s : SH h) : okOb h 39 11 = true := s.o 39 11 (by decide) rfl
theorem sA39 {h : Hp} (s : SH h) (i : Int32) : okAb h 39 11 i = inB i 4 := s.a 39 11 4 i (by decide) rfl rfl
theorem sL39 {h : Hp} (s : SH h) : gL h 39 = 4 := s.l 39 4 (by decide) rfl
theorem sO40 {h : Hp} (s : SH h) : okOb h 40 11 = true := s.o 40 11 (by decide) rfl
theorem sA40 {h : Hp} (s : SH h) (i : Int32) : okAb h 40 11 i = inB i 32 := s.a 40 11 32 i (by decide) rfl rfl
theorem sL40 {h : Hp} (s : SH h) : gL h 40 = 32 := s.l 40 32 (by decide) rfl
theorem sO41 {h : Hp} (s : SH h) : okOb h 41 1 = true := s.o 41 1 (by decide) rfl
theorem sO42 {h : Hp} (s : SH h) : okOb h 42 11 = true := s.o 42 11 (by decide) rfl
theorem sA42 {h : Hp} (s : SH h) (i : Int32) : okAb h 42 11 i = inB i 16 := s.a 42 11 16 i (by decide) rfl rfl
theorem sL42 {h : Hp} (s : SH h) : gL h 42 = 16 := s.l 42 16 (by decide) rfl
theorem sO43 {h : Hp} (s : SH h) : okOb h 43 11 = true := s.o 43 11 (by decide) rfl
theorem sA43 {h : Hp} (s : SH h) (i : Int32) : okAb h 43 11 i = inB i 8 := s.a 43 11 8 i (by decide) rfl rfl
theorem sL43 {h : Hp} (s : SH h) : gL h 43 = 8 := s.l 43 8 (by decide) rfl
theorem sO44 {h : Hp} (s : SH h) : okOb h 44 11 = true := s.o 44 11 (by decide) rfl
theorem sA44 {h : Hp} (s : SH h) (i : Int32) : okAb h 44 11 i = inB i 64 := s.a 44 11 64 i (by decide) rfl rfl
theorem sL44 {h : Hp} (s : SH h) : gL h 44 = 64 := s.l 44 64 (by decide) rfl
theorem sO45 {h : Hp} (s : SH h) : okOb h 45 10 = true := s.o 45 10 (by decide) rfl
theorem sO46 {h : Hp} (s : SH h) : okOb h 46 11 = true := s.o 46 11 (by decide) rfl
theorem sA46 {h : Hp} (s : SH h) (i : Int32) : okAb h 46 11 i = inB i 300 := s.a 46 11 300 i (by decide) rfl rfl
theorem sL46 {h : Hp} (s : SH h) : gL h 46 = 300 := s.l 46 300 (by decide) rfl
theorem sO47 {h : Hp} (s : SH h) : okOb h 47 11 = true := s.o 47 11 (by decide) rfl
theorem sA47 {h : Hp} (s : SH h) (i : Int32) : okAb h 47 11 i = inB i 26 := s.a 47 11 26 i (by decide) rfl rfl
theorem sL47 {h : Hp} (s : SH h) : gL h 47 = 26 := s.l 47 26 (by decide) rfl
theorem sO48 {h : Hp} (s : SH h) : okOb h 48 11 = true := s.o 48 11 (by decide) rfl
theorem sA48 {h : Hp} (s : SH h) (i : Int32) : okAb h 48 11 i = inB i 48 := s.a 48 11 48 i (by decide) rfl rfl
theorem sL48 {h : Hp} (s : SH h) : gL h 48 = 48 := s.l 48 48 (by decide) rfl
theorem sO49 {h : Hp} (s : SH h) : okOb h 49 11 = true := s.o 49 11 (by decide) rfl
theorem sA49 {h : Hp} (s : SH h) (i : Int32) : okAb h 49 11 i = inB i 5760 := s.a 49 11 5760 i (by decide) rfl rfl
theorem sL49 {h : Hp} (s : SH h) : gL h 49 = 5760 := s.l 49 5760 (by decide) rfl
theorem sO50 {h : Hp} (s : SH h) : okOb h 50 11 = true := s.o 50 11 (by decide) rfl
theorem sA50 {h : Hp} (s : SH h) (i : Int32) : okAb h 50 11 i = inB i 5760 := s.a 50 11 5760 i (by decide) rfl rfl
theorem sL50 {h : Hp} (s : SH h) : gL h 50 = 5760 := s.l 50 5760 (by decide) rfl
theorem sO51 {h : Hp} (s : SH h) : okOb h 51 11 = true := s.o 51 11 (by decide) rfl
theorem sA51 {h : Hp} (s : SH h) (i : Int32) : okAb h 51 11 i = inB i 5760 := s.a 51 11 5760 i (by decide) rfl rfl
theorem sL51 {h : Hp} (s : SH h) : gL h 51 = 5760 := s.l 51 5760 (by decide) rfl
theorem sO52 {h : Hp} (s : SH h) : okOb h 52 11 = true := s.o 52 11 (by decide) rfl
theorem sA52 {h : Hp} (s : SH h) (i : Int32) : okAb h 52 11 i = inB i 48 := s.a 52 11 48 i (by decide) rfl rfl
theorem sL52 {h : Hp} (s : SH h) : gL h 52 = 48 := s.l 52 48 (by decide) rfl
theorem sO53 {h : Hp} (s : SH h) : okOb h 53 11 = true := s.o 53 11 (by decide) rfl
theorem sA53 {h : Hp} (s : SH h) (i : Int32) : okAb h 53 11 i = inB i 48 := s.a 53 11 48 i (by decide) rfl rfl
theorem sL53 {h : Hp} (s : SH h) : gL h 53 = 48 := s.l 53 48 (by decide) rfl
theorem sO54 {h : Hp} (s : SH h) : okOb h 54 11 = true := s.o 54 11 (by decide) rfl
theorem sA54 {h : Hp} (s : SH h) (i : Int32) : okAb h 54 11 i = inB i 48 := s.a 54 11 48 i (by decide) rfl rfl
theorem sL54 {h : Hp} (s : SH h) : gL h 54 = 48 := s.l 54 48 (by decide) rfl
theorem sO55 {h : Hp} (s : SH h) : okOb h 55 11 = true := s.o 55 11 (by decide) rfl
theorem sA55 {h : Hp} (s : SH h) (i : Int32) : okAb h 55 11 i = inB i 48 := s.a 55 11 48 i (by decide) rfl rfl
theorem sL55 {h : Hp} (s : SH h) : gL h 55 = 48 := s.l 55 48 (by decide) rfl
theorem sO56 {h : Hp} (s : SH h) : okOb h 56 11 = true := s.o 56 11 (by decide) rfl
theorem sA56 {h : Hp} (s : SH h) (i : Int32) : okAb h 56 11 i = inB i 6 := s.a 56 11 6 i (by decide) rfl rfl
theorem sL56 {h : Hp} (s : SH h) : gL h 56 = 6 := s.l 56 6 (by decide) rfl
theorem sO57 {h : Hp} (s : SH h) : okOb h 57 11 = true := s.o 57 11 (by decide) rfl
theorem sA57 {h : Hp} (s : SH h) (i : Int32) : okAb h 57 11 i = inB i 6 := s.a 57 11 6 i (by decide) rfl rfl
theorem sL57 {h : Hp} (s : SH h) : gL h 57 = 6 := s.l 57 6 (by decide) rfl
theorem sO58 {h : Hp} (s : SH h) : okOb h 58 11 = true := s.o 58 11 (by decide) rfl
theorem sA58 {h : Hp} (s : SH h) (i : Int32) : okAb h 58 11 i = inB i 6 := s.a 58 11 6 i (by decide) rfl rfl
theorem sL58 {h : Hp} (s : SH h) : gL h 58 = 6 := s.l 58 6 (by decide) rfl
theorem sO59 {h : Hp} (s : SH h) : okOb h 59 11 = true := s.o 59 11 (by decide) rfl
theorem sA59 {h : Hp} (s : SH h) (i : Int32) : okAb h 59 11 i = inB i 64 := s.a 59 11 64 i (by decide) rfl rfl
theorem sL59 {h : Hp} (s : SH h) : gL h 59 = 64 := s.l 59 64 (by decide) rfl
theorem sO60 {h : Hp} (s : SH h) : okOb h 60 11 = true := s.o 60 11 (by decide) rfl
theorem sA60 {h : Hp} (s : SH h) (i : Int32) : okAb h 60 11 i = inB i 32 := s.a 60 11 32 i (by decide) rfl rfl
theorem sL60 {h : Hp} (s : SH h) : gL h 60 = 32 := s.l 60 32 (by decide) rfl
theorem sO61 {h : Hp} (s : SH h) : okOb h 61 11 = true := s.o 61 11 (by decide) rfl
theorem sA61 {h : Hp} (s : SH h) (i : Int32) : okAb h 61 11 i = inB i 64 := s.a 61 11 64 i (by decide) rfl rfl
theorem sL61 {h : Hp} (s : SH h) : gL h 61 = 64 := s.l 61 64 (by decide) rfl
theorem sO62 {h : Hp} (s : SH h) : okOb h 62 11 = true := s.o 62 11 (by decide) rfl
theorem sA62 {h : Hp} (s : SH h) (i : Int32) : okAb h 62 11 i = inB i 8 := s.a 62 11 8 i (by decide) rfl rfl
theorem sL62 {h : Hp} (s : SH h) : gL h 62 = 8 := s.l 62 8 (by decide) rfl
theorem sO63 {h : Hp} (s : SH h) : okOb h 63 11 = true := s.o 63 11 (by decide) rfl
theorem sA63 {h : Hp} (s : SH h) (i : Int32) : okAb h 63 11 i = inB i 6 := s.a 63 11 6 i (by decide) rfl rfl
theorem sL63 {h : Hp} (s : SH h) : gL h 63 = 6 := s.l 63 6 (by decide) rfl
theorem sO64 {h : Hp} (s : SH h) : okOb h 64 11 = true := s.o 64 11 (by decide) rfl
theorem sA64 {h : Hp} (s : SH h) (i : Int32) : okAb h 64 11 i = inB i 6 := s.a 64 11 6 i (by decide) rfl rfl
theorem sL64 {h : Hp} (s : SH h) : gL h 64 = 6 := s.l 64 6 (by decide) rfl
theorem sO65 {h : Hp} (s : SH h) : okOb h 65 11 = true := s.o 65 11 (by decide) rfl
theorem sA65 {h : Hp} (s : SH h) (i : Int32) : okAb h 65 11 i = inB i 6 := s.a 65 11 6 i (by decide) rfl rfl
theorem sL65 {h : Hp} (s : SH h) : gL h 65 = 6 := s.l 65 6 (by decide) rfl
theorem sO66 {h : Hp} (s : SH h) : okOb h 66 11 = true := s.o 66 11 (by decide) rfl
theorem sA66 {h : Hp} (s : SH h) (i : Int32) : okAb h 66 11 i = inB i 6 := s.a 66 11 6 i (by decide) rfl rfl
theorem sL66 {h : Hp} (s : SH h) : gL h 66 = 6 := s.l 66 6 (by decide) rfl
theorem sO67 {h : Hp} (s : SH h) : okOb h 67 11 = true := s.o 67 11 (by decide) rfl
theorem sA67 {h : Hp} (s : SH h) (i : Int32) : okAb h 67 11 i = inB i 12 := s.a 67 11 12 i (by decide) rfl rfl
theorem sL67 {h : Hp} (s : SH h) : gL h 67 = 12 := s.l 67 12 (by decide) rfl
theorem sO68 {h : Hp} (s : SH h) : okOb h 68 11 = true := s.o 68 11 (by decide) rfl
theorem sA68 {h : Hp} (s : SH h) (i : Int32) : okAb h 68 11 i = inB i 12 := s.a 68 11 12 i (by decide) rfl rfl
theorem sL68 {h : Hp} (s : SH h) : gL h 68 = 12 := s.l 68 12 (by decide) rfl
theorem sO69 {h : Hp} (s : SH h) : okOb h 69 11 = true := s.o 69 11 (by decide) rfl
theorem sA69 {h : Hp} (s : SH h) (i : Int32) : okAb h 69 11 i = inB i 12 := s.a 69 11 12 i (by decide) rfl rfl
theorem sL69 {h : Hp} (s : SH h) : gL h 69 = 12 := s.l 69 12 (by decide) rfl
theorem sO70 {h : Hp} (s : SH h) : okOb h 70 11 = true := s.o 70 11 (by decide) rfl
theorem sA70 {h : Hp} (s : SH h) (i : Int32) : okAb h 70 11 i = inB i 720 := s.a 70 11 720 i (by decide) rfl rfl
theorem sL70 {h : Hp} (s : SH h) : gL h 70 = 720 := s.l 70 720 (by decide) rfl
theorem sO71 {h : Hp} (s : SH h) : okOb h 71 11 = true := s.o 71 11 (by decide) rfl
theorem sA71 {h : Hp} (s : SH h) (i : Int32) : okAb h 71 11 i = inB i 360 := s.a 71 11 360 i (by decide) rfl rfl
theorem sL71 {h : Hp} (s : SH h) : gL h 71 = 360 := s.l 71 360 (by decide) rfl
theorem sO72 {h : Hp} (s : SH h) : okOb h 72 11 = true := s.o 72 11 (by decide) rfl
theorem sA72 {h : Hp} (s : SH h) (i : Int32) : okAb h 72 11 i = inB i 360 := s.a 72 11 360 i (by decide) rfl rfl
theorem sL72 {h : Hp} (s : SH h) : gL h 72 = 360 := s.l 72 360 (by decide) rfl
theorem sO73 {h : Hp} (s : SH h) : okOb h 73 11 = true := s.o 73 11 (by decide) rfl
theorem sA73 {h : Hp} (s : SH h) (i : Int32) : okAb h 73 11 i = inB i 360 := s.a 73 11 360 i (by decide) rfl rfl
theorem sL73 {h : Hp} (s : SH h) : gL h 73 = 360 := s.l 73 360 (by decide) rfl
theorem sO74 {h : Hp} (s : SH h) : okOb h 74 12 = true := s.o 74 12 (by decide) rfl
theorem sA74 {h : Hp} (s : SH h) (i : Int32) : okAb h 74 12 i = inB i 360 := s.a 74 12 360 i (by decide) rfl rfl
theorem sL74 {h : Hp} (s : SH h) : gL h 74 = 360 := s.l 74 360 (by decide) rfl
theorem sO75 {h : Hp} (s : SH h) : okOb h 75 11 = true := s.o 75 11 (by decide) rfl
theorem sA75 {h : Hp} (s : SH h) (i : Int32) : okAb h 75 11 i = inB i 7 := s.a 75 11 7 i (by decide) rfl rfl
theorem sL75 {h : Hp} (s : SH h) : gL h 75 = 7 := s.l 75 7 (by decide) rfl
theorem sO76 {h : Hp} (s : SH h) : okOb h 76 11 = true := s.o 76 11 (by decide) rfl
theorem sA76 {h : Hp} (s : SH h) (i : Int32) : okAb h 76 11 i = inB i 72 := s.a 76 11 72 i (by decide) rfl rfl
theorem sL76 {h : Hp} (s : SH h) : gL h 76 = 72 := s.l 76 72 (by decide) rfl
theorem sO77 {h : Hp} (s : SH h) : okOb h 77 11 = true := s.o 77 11 (by decide) rfl
theorem sA77 {h : Hp} (s : SH h) (i : Int32) : okAb h 77 11 i = inB i 7 := s.a 77 11 7 i (by decide) rfl rfl
theorem sL77 {h : Hp} (s : SH h) : gL h 77 = 7 := s.l 77 7 (by decide) rfl
theorem sO78 {h : Hp} (s : SH h) : okOb h 78 11 = true := s.o 78 11 (by decide) rfl
theorem sA78 {h : Hp} (s : SH h) (i : Int32) : okAb h 78 11 i = inB i 144 := s.a 78 11 144 i (by decide) rfl rfl
theorem sL78 {h : Hp} (s : SH h) : gL h 78 = 144 := s.l 78 144 (by decide) rfl
theorem sO79 {h : Hp} (s : SH h) : okOb h 79 11 = true := s.o 79 11 (by decide) rfl
theorem sA79 {h : Hp} (s : SH h) (i : Int32) : okAb h 79 11 i = inB i 4 := s.a 79 11 4 i (by decide) rfl rfl
theorem sL79 {h : Hp} (s : SH h) : gL h 79 = 4 := s.l 79 4 (by decide) rfl
theorem sO80 {h : Hp} (s : SH h) : okOb h 80 11 = true := s.o 80 11 (by decide) rfl
theorem sA80 {h : Hp} (s : SH h) (i : Int32) : okAb h 80 11 i = inB i 4 := s.a 80 11 4 i (by decide) rfl rfl
theorem sL80 {h : Hp} (s : SH h) : gL h 80 = 4 := s.l 80 4 (by decide) rfl
theorem sO81 {h : Hp} (s : SH h) : okOb h 81 11 = true := s.o 81 11 (by decide) rfl
theorem sA81 {h : Hp} (s : SH h) (i : Int32) : okAb h 81 11 i = inB i 4 := s.a 81 11 4 i (by decide) rfl rfl
theorem sL81 {h : Hp} (s : SH h) : gL h 81 = 4 := s.l 81 4 (by decide) rfl
theorem sO82 {h : Hp} (s : SH h) : okOb h 82 11 = true := s.o 82 11 (by decide) rfl
theorem sA82 {h : Hp} (s : SH h) (i : Int32) : okAb h 82 11 i = inB i 4 := s.a 82 11 4 i (by decide) rfl rfl
theorem sL82 {h : Hp} (s : SH h) : gL h 82 = 4 := s.l 82 4 (by decide) rfl
theorem sO83 {h : Hp} (s : SH h) : okOb h 83 11 = true := s.o 83 11 (by decide) rfl
theorem sA83 {h : Hp} (s : SH h) (i : Int32) : okAb h 83 11 i = inB i 7 := s.a 83 11 7 i (by decide) rfl rfl
theorem sL83 {h : Hp} (s : SH h) : gL h 83 = 7 := s.l 83 7 (by decide) rfl
theorem sO84 {h : Hp} (s : SH h) : okOb h 84 11 = true := s.o 84 11 (by decide) rfl
theorem sA84 {h : Hp} (s : SH h) (i : Int32) : okAb h 84 11 i = inB i 7 := s.a 84 11 7 i (by decide) rfl rfl
theorem sL84 {h : Hp} (s : SH h) : gL h 84 = 7 := s.l 84 7 (by decide) rfl
theorem sO85 {h : Hp} (s : SH h) : okOb h 85 11 = true := s.o 85 11 (by decide) rfl
theorem sA85 {h : Hp} (s : SH h) (i : Int32) : okAb h 85 11 i = inB i 7 := s.a 85 11 7 i (by decide) rfl rfl
theorem sL85 {h : Hp} (s : SH h) : gL h 85 = 7 := s.l 85 7 (by decide) rfl
theorem sO86 {h : Hp} (s : SH h) : okOb h 86 11 = true := s.o 86 11 (by decide) rfl
theorem sA86 {h : Hp} (s : SH h) (i : Int32) : okAb h 86 11 i = inB i 7 := s.a 86 11 7 i (by decide) rfl rfl
theorem sL86 {h : Hp} (s : SH h) : gL h 86 = 7 := s.l 86 7 (by decide) rfl
theorem sO87 {h : Hp} (s : SH h) : okOb h 87 11 = true := s.o 87 11 (by decide) rfl
theorem sA87 {h : Hp} (s : SH h) (i : Int32) : okAb h 87 11 i = inB i 7 := s.a 87 11 7 i (by decide) rfl rfl
theorem sL87 {h : Hp} (s : SH h) : gL h 87 = 7 := s.l 87 7 (by decide) rfl
theorem sR0_0 {h : Hp} (s : SH h) : gR h 0 0 = some 1 := s.r 0 0 1 (by decide)
theorem sR0_1 {h : Hp} (s : SH h) : gR h 0 1 = some 3 := s.r 0 1 3 (by decide)
theorem sR0_2 {h : Hp} (s : SH h) : gR h 0 2 = some 4 := s.r 0 2 4 (by decide)
theorem sR0_3 {h : Hp} (s : SH h) : gR h 0 3 = some 5 := s.r 0 3 5 (by decide)
theorem sR0_5 {h : Hp} (s : SH h) : gR h 0 5 = some 6 := s.r 0 5 6 (by decide)
theorem sR0_6 {h : Hp} (s : SH h) : gR h 0 6 = some 7 := s.r 0 6 7 (by decide)
theorem sR0_8 {h : Hp} (s : SH h) : gR h 0 8 = some 8 := s.r 0 8 8 (by decide)
theorem sR0_10 {h : Hp} (s : SH h) : gR h 0 10 = some 9 := s.r 0 10 9 (by decide)
theorem sR0_11 {h : Hp} (s : SH h) : gR h 0 11 = some 13 := s.r 0 11 13 (by decide)
theorem sR0_12 {h : Hp} (s : SH h) : gR h 0 12 = some 20 := s.r 0 12 20 (by decide)
theorem sR0_13 {h : Hp} (s : SH h) : gR h 0 13 = some 25 := s.r 0 13 25 (by decide)
theorem sR1_0 {h : Hp} (s : SH h) : gR h 1 0 = some 2 := s.r 1 0 2 (by decide)
theorem sR6_0 {h : Hp} (s : SH h) : gR h 6 0 = some 33 := s.r 6 0 33 (by decide)
theorem sR6_1 {h : Hp} (s : SH h) : gR h 6 1 = some 37 := s.r 6 1 37 (by decide)
theorem sR6_2 {h : Hp} (s : SH h) : gR h 6 2 = some 41 := s.r 6 2 41 (by decide)
theorem sR9_0 {h : Hp} (s : SH h) : gR h 9 0 = some 10 := s.r 9 0 10 (by decide)
theorem sR9_1 {h : Hp} (s : SH h) : gR h 9 1 = some 11 := s.r 9 1 11 (by decide)
theorem sR9_2 {h : Hp} (s : SH h) : gR h 9 2 = some 12 := s.r 9 2 12 (by decide)
theorem sR13_0 {h : Hp} (s : SH h) : gR h 13 0 = some 14 := s.r 13 0 14 (by decide)
theorem sR13_1 {h : Hp} (s : SH h) : gR h 13 1 = some 15 := s.r 13 1 15 (by decide)
theorem sR13_2 {h : Hp} (s : SH h) : gR h 13 2 = some 16 := s.r 13 2 16 (by decide)
theorem sR13_3 {h : Hp} (s : SH h) : gR h 13 3 = some 17 := s.r 13 3 17 (by decide)
theorem sR13_4 {h : Hp} (s : SH h) : gR h 13 4 = some 18 := s.r 13 4 18 (by decide)
theorem sR13_5 {h : Hp} (s : SH h) : gR h 13 5 = some 19 := s.r 13 5 19 (by decide)
theorem sR20_0 {h : Hp} (s : SH h) : gR h 20 0 = some 21 := s.r 20 0 21 (by decide)
theorem sR20_1 {h : Hp} (s : SH h) : gR h 20 1 = some 22 := s.r 20 1 22 (by decide)
theorem sR20_2 {h : Hp} (s : SH h) : gR h 20 2 = some 23 := s.r 20 2 23 (by decide)
theorem sR20_3 {h : Hp} (s : SH h) : gR h 20 3 = some 24 := s.r 20 3 24 (by decide)
theorem sR25_0 {h : Hp} (s : SH h) : gR h 25 0 = some 26 := s.r 25 0 26 (by decide)
theorem sR25_1 {h : Hp} (s : SH h) : gR h 25 1 = some 27 := s.r 25 1 27 (by decide)
theorem sR25_2 {h : Hp} (s : SH h) : gR h 25 2 = some 28 := s.r 25 2 28 (by decide)
theorem sR25_4 {h : Hp} (s : SH h) : gR h 25 4 = some 29 := s.r 25 4 29 (by decide)
theorem sR25_5 {h : Hp} (s : SH h) : gR h 25 5 = some 30 := s.r 25 5 30 (by decide)
theorem sR25_6 {h : Hp} (s : SH h) : gR h 25 6 = some 31 := s.r 25 6 31 (by decide)
theorem sR25_7 {h : Hp} (s : SH h) : gR h 25 7 = some 32 := s.r 25 7 32 (by decide)
theorem sR33_2 {h : Hp} (s : SH h) : gR h 33 2 = some 34 := s.r 33 2 34 (by decide)
theorem sR33_3 {h : Hp} (s : SH h) : gR h 33 3 = some 35 := s.r 33 3 35 (by decide)
theorem sR37_2 {h : Hp} (s : SH h) : gR h 37 2 = some 38 := s.r 37 2 38 (by decide)
theorem sR37_3 {h : Hp} (s : SH h) : gR h 37 3 = some 39 := s.r 37 3 39 (by decide)
theorem sR41_2 {h : Hp} (s : SH h) : gR h 41 2 = some 42 := s.r 41 2 42 (by decide)
theorem sR41_3 {h : Hp} (s : SH h) : gR h 41 3 = some 43 := s.r 41 3 43 (by decide)
theorem sR45_0 {h : Hp} (s : SH h) : gR h 45 0 = some 46 := s.r 45 0 46 (by decide)
theorem sR45_1 {h : Hp} (s : SH h) : gR h 45 1 = some 47 := s.r 45 1 47 (by decide)
theorem sR45_3 {h : Hp} (s : SH h) : gR h 45 3 = some 48 := s.r 45 3 48 (by decide)
theorem sR45_4 {h : Hp} (s : SH h) : gR h 45 4 = some 49 := s.r 45 4 49 (by decide)
theorem sR45_5 {h : Hp} (s : SH h) : gR h 45 5 = some 50 := s.r 45 5 50 (by decide)
theorem sR45_6 {h : Hp} (s : SH h) : gR h 45 6 = some 51 := s.r 45 6 51 (by decide)
theorem sR45_7 {h : Hp} (s : SH h) : gR h 45 7 = some 52 := s.r 45 7 52 (by decide)
theorem sR45_8 {h : Hp} (s : SH h) : gR h 45 8 = some 53 := s.r 45 8 53 (by decide)
theorem sR45_9 {h : Hp} (s : SH h) : gR h 45 9 = some 54 := s.r 45 9 54 (by decide)
theorem sR45_10 {h : Hp} (s : SH h) : gR h 45 10 = some 55 := s.r 45 10 55 (by decide)
theorem sR45_12 {h : Hp} (s : SH h) : gR h 45 12 = some 56 := s.r 45 12 56 (by decide)
theorem sR45_13 {h : Hp} (s : SH h) : gR h 45 13 = some 57 := s.r 45 13 57 (by decide)
theorem sR45_14 {h : Hp} (s : SH h) : gR h 45 14 = some 58 := s.r 45 14 58 (by decide)
theorem sR45_15 {h : Hp} (s : SH h) : gR h 45 15 = some 59 := s.r 45 15 59 (by decide)
theorem sR45_16 {h : Hp} (s : SH h) : gR h 45 16 = some 60 := s.r 45 16 60 (by decide)
theorem sR45_17 {h : Hp} (s : SH h) : gR h 45 17 = some 61 := s.r 45 17 61 (by decide)
theorem sR45_18 {h : Hp} (s : SH h) : gR h 45 18 = some 62 := s.r 45 18 62 (by decide)
theorem sR45_19 {h : Hp} (s : SH h) : gR h 45 19 = some 63 := s.r 45 19 63 (by decide)
theorem sR45_20 {h : Hp} (s : SH h) : gR h 45 20 = some 64 := s.r 45 20 64 (by decide)
theorem sR45_21 {h : Hp} (s : SH h) : gR h 45 21 = some 65 := s.r 45 21 65 (by decide)
theorem sR45_22 {h : Hp} (s : SH h) : gR h 45 22 = some 66 := s.r 45 22 66 (by decide)
theorem sR45_25 {h : Hp} (s : SH h) : gR h 45 25 = some 67 := s.r 45 25 67 (by decide)
theorem sR45_26 {h : Hp} (s : SH h) : gR h 45 26 = some 68 := s.r 45 26 68 (by decide)
theorem sR45_27 {h : Hp} (s : SH h) : gR h 45 27 = some 69 := s.r 45 27 69 (by decide)
theorem sR45_28 {h : Hp} (s : SH h) : gR h 45 28 = some 70 := s.r 45 28 70 (by decide)
theorem sR45_29 {h : Hp} (s : SH h) : gR h 45 29 = some 71 := s.r 45 29 71 (by decide)
theorem sR45_30 {h : Hp} (s : SH h) : gR h 45 30 = some 72 := s.r 45 30 72 (by decide)
theorem sR45_31 {h : Hp} (s : SH h) : gR h 45 31 = some 73 := s.r 45 31 73 (by decide)
theorem sR45_32 {h : Hp} (s : SH h) : gR h 45 32 = some 74 := s.r 45 32 74 (by decide)
theorem sR45_33 {h : Hp} (s : SH h) : gR h 45 33 = some 75 := s.r 45 33 75 (by decide)
theorem sR45_34 {h : Hp} (s : SH h) : gR h 45 34 = some 76 := s.r 45 34 76 (by decide)
theorem sR45_35 {h : Hp} (s : SH h) : gR h 45 35 = some 77 := s.r 45 35 77 (by decide)
theorem sR45_36 {h : Hp} (s : SH h) : gR h 45 36 = some 78 := s.r 45 36 78 (by decide)
theorem sR45_40 {h : Hp} (s : SH h) : gR h 45 40 = some 79 := s.r 45 40 79 (by decide)
theorem sR45_41 {h : Hp} (s : SH h) : gR h 45 41 = some 80 := s.r 45 41 80 (by decide)
theorem sR45_42 {h : Hp} (s : SH h) : gR h 45 42 = some 81 := s.r 45 42 81 (by decide)
theorem sR45_43 {h : Hp} (s : SH h) : gR h 45 43 = some 82 := s.r 45 43 82 (by decide)
theorem sR45_45 {h : Hp} (s : SH h) : gR h 45 45 = some 83 := s.r 45 45 83 (by decide)
theorem sR45_46 {h : Hp} (s : SH h) : gR h 45 46 = some 84 := s.r 45 46 84 (by decide)
theorem sR45_47 {h : Hp} (s : SH h) : gR h 45 47 = some 85 := s.r 45 47 85 (by decide)
theorem sR45_48 {h : Hp} (s : SH h) : gR h 45 48 = some 86 := s.r 45 48 86 (by decide)
theorem sR45_49 {h : Hp} (s : SH h) : gR h 45 49 = some 87 := s.r 45 49 87 (by decide)
def Sim (Inv : Nat → Hp → Prop) (t : Nat) (p : Option (Int32 × Hp)) (q : Hp → Option (Int32 × Hp)) : Prop := ∃ (r : Int32) (h1 h2 : Hp), p = some (r, h1) ∧ SH h1 ∧ q h1 = some (r, h2) ∧ Inv (t + 1) h2
theorem toI (n : Nat) : Int32.ofNat n = nI n := rfl
theorem okSc_at {sc : Sc} {t j : Nat} (hj : j < 6) (ht : 6 * t + 6 ≤ sc.1) (hL : sc.1 ≤ 3072) : okSc sc (nI (6 * t) + nI j) = true := by
  unfold okSc
  rw [nI_add, nI_toInt (by omega)]
  simp only [Bool.and_eq_true, decide_eq_true_eq]
  omega
theorem okSc_0 {sc : Sc} {t : Nat} (ht : 6 * t + 6 ≤ sc.1) (hL : sc.1 ≤ 3072) : okSc sc (nI (6 * t)) = true := by
  unfold okSc
  rw [nI_toInt (by omega)]
  simp only [Bool.and_eq_true, decide_eq_true_eq]
  omega
def AllSim (Inv : Nat → Hp → Prop) (t : Nat) (h : Hp) : Prop := (∀ (a0 : Int64) (a1 : Int32), Sim Inv t (f_X9_feed h 0 a0 a1) (fun h1 => f_X10_feed h1 45 a0 a1)) ∧ (∀ (a0 : Int32) (a1 : Int32), Sim Inv t (f_X9_cast h 0 a0 a1) (fun h1 => f_X10_cast h1 45 a0 a1)) ∧ (∀ (a0 : Int32), Sim Inv t (f_X9_sorts h 0 a0) (fun h1 => f_X10_sorts h1 45 a0)) ∧ (Sim Inv t (f_X9_page h 0) (fun h1 => f_X10_page h1 45)) ∧ (∀ (a0 : Int32) (a1 : Int32), Sim Inv t (f_X9_set h 0 a0 a1) (fun h1 => f_X10_set h1 45 a0 a1)) ∧ (∀ (a0 : Int32) (a1 : Int32) (a2 : Int32), Sim Inv t (f_X9_misset h 0 a0 a1 a2) (fun h1 => f_X10_misset h1 45 a0 a1 a2)) ∧ (∀ (a0 : Int32), Sim Inv t (f_X9_distribute h 0 a0) (fun h1 => f_X10_distribute h1 45 a0)) ∧ (∀ (a0 : Int32) (a1 : Int32) (a2 : Int32), Sim Inv t (f_X9_at h 0 a0 a1 a2) (fun h1 => f_X10_at h1 45 a0 a1 a2)) ∧ (∀ (a0 : Int32), Sim Inv t (f_X9_faults h 0 a0) (fun h1 => f_X10_faults h1 45 a0)) ∧ (∀ (a0 : Int32) (a1 : Int32), Sim Inv t (f_X9_fault h 0 a0 a1) (fun h1 => f_X10_fault h1 45 a0 a1)) ∧ (∀ (a0 : Int32) (a1 : Int32) (a2 : Int32), Sim Inv t (f_X9_sheet h 0 a0 a1 a2) (fun h1 => f_X10_sheet h1 45 a0 a1 a2)) ∧ (∀ (a0 : Int32) (a1 : Int32) (a2 : Int32) (a3 : Int32) (a4 : Int32), Sim Inv t (f_X9_fold h 0 a0 a1 a2 a3 a4) (fun h1 => f_X10_fold h1 45 a0 a1 a2 a3 a4)) ∧ (∀ (a0 : Int32) (a1 : Int32), Sim Inv t (f_X9_impose h 0 a0 a1) (fun h1 => f_X10_impose h1 45 a0 a1)) ∧ (∀ (a0 : Int32), Sim Inv t (f_X9_breakUp h 0 a0) (fun h1 => f_X10_breakUp h1 45 a0)) ∧ (∀ (a0 : Int32), Sim Inv t (f_X9_paper h 0 a0) (fun h1 => f_X10_paper h1 45 a0)) ∧ (∀ (a0 : Int32) (a1 : Int32) (a2 : Int32), Sim Inv t (f_X9_print h 0 a0 a1 a2) (fun h1 => f_X10_print h1 45 a0 a1 a2)) ∧ (∀ (a0 : Int32) (a1 : Int32), Sim Inv t (f_X9_forme h 0 a0 a1) (fun h1 => f_X10_forme h1 45 a0 a1)) ∧ (∀ (a0 : Int32) (a1 : Int32) (a2 : Int32), Sim Inv t (f_X9_state h 0 a0 a1 a2) (fun h1 => f_X10_state h1 45 a0 a1 a2)) ∧ (∀ (a0 : Int32) (a1 : Int32) (a2 : Int32) (a3 : Int32), Sim Inv t (f_X9_read h 0 a0 a1 a2 a3) (fun h1 => f_X10_read h1 45 a0 a1 a2 a3)) ∧ (∀ (a0 : Int32) (a1 : Int32) (a2 : Int32), Sim Inv t (f_X9_spoil h 0 a0 a1 a2) (fun h1 => f_X10_spoil h1 45 a0 a1 a2)) ∧ (Sim Inv t (f_X9_books h 0) (fun h1 => f_X10_books h1 45)) ∧ (∀ (a0 : Int32) (a1 : Int32), Sim Inv t (f_X9_inBook h 0 a0 a1) (fun h1 => f_X10_inBook h1 45 a0 a1)) ∧ (∀ (a0 : Int32) (a1 : Int32), Sim Inv t (f_X9_unlike h 0 a0 a1) (fun h1 => f_X10_unlike h1 45 a0 a1)) ∧ (Sim Inv t (f_X9_kinds h 0) (fun h1 => f_X10_kinds h1 45)) ∧ (∀ (a0 : Int32) (a1 : Int32) (a2 : Int32), Sim Inv t (f_X9_seen h 0 a0 a1 a2) (fun h1 => f_X10_seen h1 45 a0 a1 a2)) ∧ (∀ (a0 : Int32), Sim Inv t (f_X9_order h 0 a0) (fun h1 => f_X10_order h1 45 a0)) ∧ (∀ (a0 : Int32), Sim Inv t (f_X9_ordered h 0 a0) (fun h1 => f_X10_ordered h1 45 a0)) ∧ (Sim Inv t (f_X9_rivals h 0) (fun h1 => f_X10_rivals h1 45)) ∧ (Sim Inv t (f_X9_law h 0) (fun h1 => f_X10_law h1 45)) ∧ (∀ (a0 : Int32), Sim Inv t (f_X9_wages h 0 a0) (fun h1 => f_X10_wages h1 45 a0)) ∧ (∀ (a0 : Int32) (a1 : Int32), Sim Inv t (f_X9_did h 0 a0 a1) (fun h1 => f_X10_did h1 45 a0 a1)) ∧ (∀ (a0 : Int32) (a1 : Int32) (a2 : Int32), Sim Inv t (f_X9_job h 0 a0 a1 a2) (fun h1 => f_X10_job h1 45 a0 a1 a2)) ∧ (Sim Inv t (f_X9_plan h 0) (fun h1 => f_X10_plan h1 45)) ∧ (∀ (a0 : Int32) (a1 : Int32), Sim Inv t (f_X9_planned h 0 a0 a1) (fun h1 => f_X10_planned h1 45 a0 a1)) ∧ (∀ (a0 : Int32), Sim Inv t (f_X9_count h 0 a0) (fun h1 => f_X10_count h1 45 a0))
set_option maxRecDepth 100000 in
theorem lj_188 {Inv : Nat → Hp → Prop} {sc : Sc} {t : Nat} {h : Hp} (k : Unit → Nat → Nat → Int32 → Hp → Option (Int32 × Hp)) (ht : 6 * t + 6 ≤ sc.1) (hL : sc.1 ≤ 3072) (hs : SH h) (st : AllSim Inv t h) : ∃ h2, Inv (t + 1) h2 ∧ f_L_law_J188 sc k () 0 45 (nI (6 * t)) h = k () 0 45 (nI (6 * t) + 6) h2 := by
  have e1 : okSc sc (nI (6 * t) + 1) = true := okSc_at (j := 1) (by decide) ht hL
  have e2 : okSc sc (nI (6 * t) + 2) = true := okSc_at (j := 2) (by decide) ht hL
  have e3 : okSc sc (nI (6 * t) + 3) = true := okSc_at (j := 3) (by decide) ht hL
  have e4 : okSc sc (nI (6 * t) + 4) = true := okSc_at (j := 4) (by decide) ht hL
  have e5 : okSc sc (nI (6 * t) + 5) = true := okSc_at (j := 5) (by decide) ht hL
  have st1 := st.1
  obtain ⟨r, h1, h2, p1, p2, p3, p4⟩ := st1 ((((sc.2 (nI (6 * t) + (1 : Int32)).toNatClampNeg).toInt64) <<< ((32 : Int32).toInt64 &&& 63)) ||| (((sc.2 (nI (6 * t) + (2 : Int32)).toNatClampNeg).toInt64) &&& (4294967295 : Int64))) (sc.2 (nI (6 * t) + (3 : Int32)).toNatClampNeg)
  refine ⟨h2, p4, ?_⟩
  dsimp only at p3
  simp only [f_L_law_J188, e1, e2, e3, e4, e5, gd_e, sO0 hs, sO45 p2, p1, bnd_e, p3, if_true, vl_e]
set_option maxRecDepth 100000 in
theorem lj_251 {Inv : Nat → Hp → Prop} {sc : Sc} {t : Nat} {h : Hp} (k : Unit → Nat → Nat → Int32 → Hp → Option (Int32 × Hp)) (ht : 6 * t + 6 ≤ sc.1) (hL : sc.1 ≤ 3072) (hs : SH h) (st : AllSim Inv t h) : ∃ h2, Inv (t + 1) h2 ∧ f_L_law_J251 sc k () 0 45 (nI (6 * t)) h = k () 0 45 (nI (6 * t) + 6) h2 := by
  have e1 : okSc sc (nI (6 * t) + 1) = true := okSc_at (j := 1) (by decide) ht hL
  have e2 : okSc sc (nI (6 * t) + 2) = true := okSc_at (j := 2) (by decide) ht hL
  have e3 : okSc sc (nI (6 * t) + 3) = true := okSc_at (j := 3) (by decide) ht hL
  have e4 : okSc sc (nI (6 * t) + 4) = true := okSc_at (j := 4) (by decide) ht hL
  have e5 : okSc sc (nI (6 * t) + 5) = true := okSc_at (j := 5) (by decide) ht hL
  have st1 := st.2.1
  obtain ⟨r, h1, h2, p1, p2, p3, p4⟩ := st1 (sc.2 (nI (6 * t) + (1 : Int32)).toNatClampNeg) (sc.2 (nI (6 * t) + (2 : Int32)).toNatClampNeg)
  refine ⟨h2, p4, ?_⟩
  dsimp only at p3
  simp only [f_L_law_J251, e1, e2, e3, e4, e5, gd_e, sO0 hs, sO45 p2, p1, bnd_e, p3, if_true, vl_e]
set_option maxRecDepth 100000 in
theorem lj_284 {Inv : Nat → Hp → Prop} {sc : Sc} {t : Nat} {h : Hp} (k : Unit → Nat → Nat → Int32 → Hp → Option (Int32 × Hp)) (ht : 6 * t + 6 ≤ sc.1) (hL : sc.1 ≤ 3072) (hs : SH h) (st : AllSim Inv t h) : ∃ h2, Inv (t + 1) h2 ∧ f_L_law_J284 sc k () 0 45 (nI (6 * t)) h = k () 0 45 (nI (6 * t) + 6) h2 := by
  have e1 : okSc sc (nI (6 * t) + 1) = true := okSc_at (j := 1) (by decide) ht hL
  have e2 : okSc sc (nI (6 * t) + 2) = true := okSc_at (j := 2) (by decide) ht hL
  have e3 : okSc sc (nI (6 * t) + 3) = true := okSc_at (j := 3) (by decide) ht hL
  have e4 : okSc sc (nI (6 * t) + 4) = true := okSc_at (j := 4) (by decide) ht hL
  have e5 : okSc sc (nI (6 * t) + 5) = true := okSc_at (j := 5) (by decide) ht hL
  have st1 := st.2.2.1
  obtain ⟨r, h1, h2, p1, p2, p3, p4⟩ := st1 (sc.2 (nI (6 * t) + (1 : Int32)).toNatClampNeg)
  refine ⟨h2, p4, ?_⟩
  dsimp only at p3
  simp only [f_L_law_J284, e1, e2, e3, e4, e5, gd_e, sO0 hs, sO45 p2, p1, bnd_e, p3, if_true, vl_e]
set_option maxRecDepth 100000 in
theorem lj_307 {Inv : Nat → Hp → Prop} {sc : Sc} {t : Nat} {h : Hp} (k : Unit → Nat → Nat → Int32 → Hp → Option (Int32 × Hp)) (ht : 6 * t + 6 ≤ sc.1) (hL : sc.1 ≤ 3072) (hs : SH h) (st : AllSim Inv t h) : ∃ h2, Inv (t + 1) h2 ∧ f_L_law_J307 sc k () 0 45 (nI (6 * t)) h = k () 0 45 (nI (6 * t) + 6) h2 := by
  have e1 : okSc sc (nI (6 * t) + 1) = true := okSc_at (j := 1) (by decide) ht hL
  have e2 : okSc sc (nI (6 * t) + 2) = true := okSc_at (j := 2) (by decide) ht hL
  have e3 : okSc sc (nI (6 * t) + 3) = true := okSc_at (j := 3) (by decide) ht hL
  have e4 : okSc sc (nI (6 * t) + 4) = true := okSc_at (j := 4) (by decide) ht hL
  have e5 : okSc sc (nI (6 * t) + 5) = true := okSc_at (j := 5) (by decide) ht hL
  have st1 := st.2.2.2.1
  obtain ⟨r, h1, h2, p1, p2, p3, p4⟩ := st1
  refine ⟨h2, p4, ?_⟩
  dsimp only at p3
  simp only [f_L_law_J307, e1, e2, e3, e4, e5, gd_e, sO0 hs, sO45 p2, p1, bnd_e, p3, if_true, vl_e]
set_option maxRecDepth 100000 in
theorem lj_320 {Inv : Nat → Hp → Prop} {sc : Sc} {t : Nat} {h : Hp} (k : Unit → Nat → Nat → Int32 → Hp → Option (Int32 × Hp)) (ht : 6 * t + 6 ≤ sc.1) (hL : sc.1 ≤ 3072) (hs : SH h) (st : AllSim Inv t h) : ∃ h2, Inv (t + 1) h2 ∧ f_L_law_J320 sc k () 0 45 (nI (6 * t)) h = k () 0 45 (nI (6 * t) + 6) h2 := by
  have e1 : okSc sc (nI (6 * t) + 1) = true := okSc_at (j := 1) (by decide) ht hL
  have e2 : okSc sc (nI (6 * t) + 2) = true := okSc_at (j := 2) (by decide) ht hL
  have e3 : okSc sc (nI (6 * t) + 3) = true := okSc_at (j := 3) (by decide) ht hL
  have e4 : okSc sc (nI (6 * t) + 4) = true := okSc_at (j := 4) (by decide) ht hL
  have e5 : okSc sc (nI (6 * t) + 5) = true := okSc_at (j := 5) (by decide) ht hL
  have st1 := st.2.2.2.2.1
  obtain ⟨r, h1, h2, p1, p2, p3, p4⟩ := st1 (sc.2 (nI (6 * t) + (1 : Int32)).toNatClampNeg) (sc.2 (nI (6 * t) + (2 : Int32)).toNatClampNeg)
  refine ⟨h2, p4, ?_⟩
  dsimp only at p3
  simp only [f_L_law_J320, e1, e2, e3, e4, e5, gd_e, sO0 hs, sO45 p2, p1, bnd_e, p3, if_true, vl_e]
set_option maxRecDepth 100000 in
theorem lj_353 {Inv : Nat → Hp → Prop} {sc : Sc} {t : Nat} {h : Hp} (k : Unit → Nat → Nat → Int32 → Hp → Option (Int32 × Hp)) (ht : 6 * t + 6 ≤ sc.1) (hL : sc.1 ≤ 3072) (hs : SH h) (st : AllSim Inv t h) : ∃ h2, Inv (t + 1) h2 ∧ f_L_law_J353 sc k () 0 45 (nI (6 * t)) h = k () 0 45 (nI (6 * t) + 6) h2 := by
  have e1 : okSc sc (nI (6 * t) + 1) = true := okSc_at (j := 1) (by decide) ht hL
  have e2 : okSc sc (nI (6 * t) + 2) = true := okSc_at (j := 2) (by decide) ht hL
  have e3 : okSc sc (nI (6 * t) + 3) = true := okSc_at (j := 3) (by decide) ht hL
  have e4 : okSc sc (nI (6 * t) + 4) = true := okSc_at (j := 4) (by decide) ht hL
  have e5 : okSc sc (nI (6 * t) + 5) = true := okSc_at (j := 5) (by decide) ht hL
  have st1 := st.2.2.2.2.2.1
  obtain ⟨r, h1, h2, p1, p2, p3, p4⟩ := st1 (sc.2 (nI (6 * t) + (1 : Int32)).toNatClampNeg) (sc.2 (nI (6 * t) + (2 : Int32)).toNatClampNeg) (sc.2 (nI (6 * t) + (3 : Int32)).toNatClampNeg)
  refine ⟨h2, p4, ?_⟩
  dsimp only at p3
  simp only [f_L_law_J353, e1, e2, e3, e4, e5, gd_e, sO0 hs, sO45 p2, p1, bnd_e, p3, if_true, vl_e]
set_option maxRecDepth 100000 in
theorem lj_396 {Inv : Nat → Hp → Prop} {sc : Sc} {t : Nat} {h : Hp} (k : Unit → Nat → Nat → Int32 → Hp → Option (Int32 × Hp)) (ht : 6 * t + 6 ≤ sc.1) (hL : sc.1 ≤ 3072) (hs : SH h) (st : AllSim Inv t h) : ∃ h2, Inv (t + 1) h2 ∧ f_L_law_J396 sc k () 0 45 (nI (6 * t)) h = k () 0 45 (nI (6 * t) + 6) h2 := by
  have e1 : okSc sc (nI (6 * t) + 1) = true := okSc_at (j := 1) (by decide) ht hL
  have e2 : okSc sc (nI (6 * t) + 2) = true := okSc_at (j := 2) (by decide) ht hL
  have e3 : okSc sc (nI (6 * t) + 3) = true := okSc_at (j := 3) (by decide) ht hL
  have e4 : okSc sc (nI (6 * t) + 4) = true := okSc_at (j := 4) (by decide) ht hL
  have e5 : okSc sc (nI (6 * t) + 5) = true := okSc_at (j := 5) (by decide) ht hL
  have st1 := st.2.2.2.2.2.2.1
  obtain ⟨r, h1, h2, p1, p2, p3, p4⟩ := st1 (sc.2 (nI (6 * t) + (1 : Int32)).toNatClampNeg)
  refine ⟨h2, p4, ?_⟩
  dsimp only at p3
  simp only [f_L_law_J396, e1, e2, e3, e4, e5, gd_e, sO0 hs, sO45 p2, p1, bnd_e, p3, if_true, vl_e]
set_option maxRecDepth 100000 in
theorem lj_419 {Inv : Nat → Hp → Prop} {sc : Sc} {t : Nat} {h : Hp} (k : Unit → Nat → Nat → Int32 → Hp → Option (Int32 × Hp)) (ht : 6 * t + 6 ≤ sc.1) (hL : sc.1 ≤ 3072) (hs : SH h) (st : AllSim Inv t h) : ∃ h2, Inv (t + 1) h2 ∧ f_L_law_J419 sc k () 0 45 (nI (6 * t)) h = k () 0 45 (nI (6 * t) + 6) h2 := by
  have e1 : okSc sc (nI (6 * t) + 1) = true := okSc_at (j := 1) (by decide) ht hL
  have e2 : okSc sc (nI (6 * t) + 2) = true := okSc_at (j := 2) (by decide) ht hL
  have e3 : okSc sc (nI (6 * t) + 3) = true := okSc_at (j := 3) (by decide) ht hL
  have e4 : okSc sc (nI (6 * t) + 4) = true := okSc_at (j := 4) (by decide) ht hL
  have e5 : okSc sc (nI (6 * t) + 5) = true := okSc_at (j := 5) (by decide) ht hL
  have st1 := st.2.2.2.2.2.2.2.1
  obtain ⟨r, h1, h2, p1, p2, p3, p4⟩ := st1 (sc.2 (nI (6 * t) + (1 : Int32)).toNatClampNeg) (sc.2 (nI (6 * t) + (2 : Int32)).toNatClampNeg) (sc.2 (nI (6 * t) + (3 : Int32)).toNatClampNeg)
  refine ⟨h2, p4, ?_⟩
  dsimp only at p3
  simp only [f_L_law_J419, e1, e2, e3, e4, e5, gd_e, sO0 hs, sO45 p2, p1, bnd_e, p3, if_true, vl_e]
set_option maxRecDepth 100000 in
theorem lj_462 {Inv : Nat → Hp → Prop} {sc : Sc} {t : Nat} {h : Hp} (k : Unit → Nat → Nat → Int32 → Hp → Option (Int32 × Hp)) (ht : 6 * t + 6 ≤ sc.1) (hL : sc.1 ≤ 3072) (hs : SH h) (st : AllSim Inv t h) : ∃ h2, Inv (t + 1) h2 ∧ f_L_law_J462 sc k () 0 45 (nI (6 * t)) h = k () 0 45 (nI (6 * t) + 6) h2 := by
  have e1 : okSc sc (nI (6 * t) + 1) = true := okSc_at (j := 1) (by decide) ht hL
  have e2 : okSc sc (nI (6 * t) + 2) = true := okSc_at (j := 2) (by decide) ht hL
  have e3 : okSc sc (nI (6 * t) + 3) = true := okSc_at (j := 3) (by decide) ht hL
  have e4 : okSc sc (nI (6 * t) + 4) = true := okSc_at (j := 4) (by decide) ht hL
  have e5 : okSc sc (nI (6 * t) + 5) = true := okSc_at (j := 5) (by decide) ht hL
  have st1 := st.2.2.2.2.2.2.2.2.1
  obtain ⟨r, h1, h2, p1, p2, p3, p4⟩ := st1 (sc.2 (nI (6 * t) + (1 : Int32)).toNatClampNeg)
  refine ⟨h2, p4, ?_⟩
  dsimp only at p3
  simp only [f_L_law_J462, e1, e2, e3, e4, e5, gd_e, sO0 hs, sO45 p2, p1, bnd_e, p3, if_true, vl_e]
set_option maxRecDepth 100000 in
theorem lj_485 {Inv : Nat → Hp → Prop} {sc : Sc} {t : Nat} {h : Hp} (k : Unit → Nat → Nat → Int32 → Hp → Option (Int32 × Hp)) (ht : 6 * t + 6 ≤ sc.1) (hL : sc.1 ≤ 3072) (hs : SH h) (st : AllSim Inv t h) : ∃ h2, Inv (t + 1) h2 ∧ f_L_law_J485 sc k () 0 45 (nI (6 * t)) h = k () 0 45 (nI (6 * t) + 6) h2 := by
  have e1 : okSc sc (nI (6 * t) + 1) = true := okSc_at (j := 1) (by decide) ht hL
  have e2 : okSc sc (nI (6 * t) + 2) = true := okSc_at (j := 2) (by decide) ht hL
  have e3 : okSc sc (nI (6 * t) + 3) = true := okSc_at (j := 3) (by decide) ht hL
  have e4 : okSc sc (nI (6 * t) + 4) = true := okSc_at (j := 4) (by decide) ht hL
  have e5 : okSc sc (nI (6 * t) + 5) = true := okSc_at (j := 5) (by decide) ht hL
  have st1 := st.2.2.2.2.2.2.2.2.2.1
  obtain ⟨r, h1, h2, p1, p2, p3, p4⟩ := st1 (sc.2 (nI (6 * t) + (1 : Int32)).toNatClampNeg) (sc.2 (nI (6 * t) + (2 : Int32)).toNatClampNeg)
  refine ⟨h2, p4, ?_⟩
  dsimp only at p3
  simp only [f_L_law_J485, e1, e2, e3, e4, e5, gd_e, sO0 hs, sO45 p2, p1, bnd_e, p3, if_true, vl_e]
set_option maxRecDepth 100000 in
theorem lj_518 {Inv : Nat → Hp → Prop} {sc : Sc} {t : Nat} {h : Hp} (k : Unit → Nat → Nat → Int32 → Hp → Option (Int32 × Hp)) (ht : 6 * t + 6 ≤ sc.1) (hL : sc.1 ≤ 3072) (hs : SH h) (st : AllSim Inv t h) : ∃ h2, Inv (t + 1) h2 ∧ f_L_law_J518 sc k () 0 45 (nI (6 * t)) h = k () 0 45 (nI (6 * t) + 6) h2 := by
  have e1 : okSc sc (nI (6 * t) + 1) = true := okSc_at (j := 1) (by decide) ht hL
  have e2 : okSc sc (nI (6 * t) + 2) = true := okSc_at (j := 2) (by decide) ht hL
  have e3 : okSc sc (nI (6 * t) + 3) = true := okSc_at (j := 3) (by decide) ht hL
  have e4 : okSc sc (nI (6 * t) + 4) = true := okSc_at (j := 4) (by decide) ht hL
  have e5 : okSc sc (nI (6 * t) + 5) = true := okSc_at (j := 5) (by decide) ht hL
  have st1 := st.2.2.2.2.2.2.2.2.2.2.1
  obtain ⟨r, h1, h2, p1, p2, p3, p4⟩ := st1 (sc.2 (nI (6 * t) + (1 : Int32)).toNatClampNeg) (sc.2 (nI (6 * t) + (2 : Int32)).toNatClampNeg) (sc.2 (nI (6 * t) + (3 : Int32)).toNatClampNeg)
  refine ⟨h2, p4, ?_⟩
  dsimp only at p3
  simp only [f_L_law_J518, e1, e2, e3, e4, e5, gd_e, sO0 hs, sO45 p2, p1, bnd_e, p3, if_true, vl_e]
set_option maxRecDepth 100000 in
theorem lj_561 {Inv : Nat → Hp → Prop} {sc : Sc} {t : Nat} {h : Hp} (k : Unit → Nat → Nat → Int32 → Hp → Option (Int32 × Hp)) (ht : 6 * t + 6 ≤ sc.1) (hL : sc.1 ≤ 3072) (hs : SH h) (st : AllSim Inv t h) : ∃ h2, Inv (t + 1) h2 ∧ f_L_law_J561 sc k () 0 45 (nI (6 * t)) h = k () 0 45 (nI (6 * t) + 6) h2 := by
  have e1 : okSc sc (nI (6 * t) + 1) = true := okSc_at (j := 1) (by decide) ht hL
  have e2 : okSc sc (nI (6 * t) + 2) = true := okSc_at (j := 2) (by decide) ht hL
  have e3 : okSc sc (nI (6 * t) + 3) = true := okSc_at (j := 3) (by decide) ht hL
  have e4 : okSc sc (nI (6 * t) + 4) = true := okSc_at (j := 4) (by decide) ht hL
  have e5 : okSc sc (nI (6 * t) + 5) = true := okSc_at (j := 5) (by decide) ht hL
  have st1 := st.2.2.2.2.2.2.2.2.2.2.2.1
  obtain ⟨r, h1, h2, p1, p2, p3, p4⟩ := st1 (sc.2 (nI (6 * t) + (1 : Int32)).toNatClampNeg) (sc.2 (nI (6 * t) + (2 : Int32)).toNatClampNeg) (sc.2 (nI (6 * t) + (3 : Int32)).toNatClampNeg) (sc.2 (nI (6 * t) + (4 : Int32)).toNatClampNeg) (sc.2 (nI (6 * t) + (5 : Int32)).toNatClampNeg)
  refine ⟨h2, p4, ?_⟩
  dsimp only at p3
  simp only [f_L_law_J561, e1, e2, e3, e4, e5, gd_e, sO0 hs, sO45 p2, p1, bnd_e, p3, if_true, vl_e]
set_option maxRecDepth 100000 in
theorem lj_624 {Inv : Nat → Hp → Prop} {sc : Sc} {t : Nat} {h : Hp} (k : Unit → Nat → Nat → Int32 → Hp → Option (Int32 × Hp)) (ht : 6 * t + 6 ≤ sc.1) (hL : sc.1 ≤ 3072) (hs : SH h) (st : AllSim Inv t h) : ∃ h2, Inv (t + 1) h2 ∧ f_L_law_J624 sc k () 0 45 (nI (6 * t)) h = k () 0 45 (nI (6 * t) + 6) h2 := by
  have e1 : okSc sc (nI (6 * t) + 1) = true := okSc_at (j := 1) (by decide) ht hL
  have e2 : okSc sc (nI (6 * t) + 2) = true := okSc_at (j := 2) (by decide) ht hL
  have e3 : okSc sc (nI (6 * t) + 3) = true := okSc_at (j := 3) (by decide) ht hL
  have e4 : okSc sc (nI (6 * t) + 4) = true := okSc_at (j := 4) (by decide) ht hL
  have e5 : okSc sc (nI (6 * t) + 5) = true := okSc_at (j := 5) (by decide) ht hL
  have st1 := st.2.2.2.2.2.2.2.2.2.2.2.2.1
  obtain ⟨r, h1, h2, p1, p2, p3, p4⟩ := st1 (sc.2 (nI (6 * t) + (1 : Int32)).toNatClampNeg) (sc.2 (nI (6 * t) + (2 : Int32)).toNatClampNeg)
  refine ⟨h2, p4, ?_⟩
  dsimp only at p3
  simp only [f_L_law_J624, e1, e2, e3, e4, e5, gd_e, sO0 hs, sO45 p2, p1, bnd_e, p3, if_true, vl_e]
set_option maxRecDepth 100000 in
theorem lj_657 {Inv : Nat → Hp → Prop} {sc : Sc} {t : Nat} {h : Hp} (k : Unit → Nat → Nat → Int32 → Hp → Option (Int32 × Hp)) (ht : 6 * t + 6 ≤ sc.1) (hL : sc.1 ≤ 3072) (hs : SH h) (st : AllSim Inv t h) : ∃ h2, Inv (t + 1) h2 ∧ f_L_law_J657 sc k () 0 45 (nI (6 * t)) h = k () 0 45 (nI (6 * t) + 6) h2 := by
  have e1 : okSc sc (nI (6 * t) + 1) = true := okSc_at (j := 1) (by decide) ht hL
  have e2 : okSc sc (nI (6 * t) + 2) = true := okSc_at (j := 2) (by decide) ht hL
  have e3 : okSc sc (nI (6 * t) + 3) = true := okSc_at (j := 3) (by decide) ht hL
  have e4 : okSc sc (nI (6 * t) + 4) = true := okSc_at (j := 4) (by decide) ht hL
  have e5 : okSc sc (nI (6 * t) + 5) = true := okSc_at (j := 5) (by decide) ht hL
  have st1 := st.2.2.2.2.2.2.2.2.2.2.2.2.2.1
  obtain ⟨r, h1, h2, p1, p2, p3, p4⟩ := st1 (sc.2 (nI (6 * t) + (1 : Int32)).toNatClampNeg)
  refine ⟨h2, p4, ?_⟩
  dsimp only at p3
  simp only [f_L_law_J657, e1, e2, e3, e4, e5, gd_e, sO0 hs, sO45 p2, p1, bnd_e, p3, if_true, vl_e]
set_option maxRecDepth 100000 in
theorem lj_680 {Inv : Nat → Hp → Prop} {sc : Sc} {t : Nat} {h : Hp} (k : Unit → Nat → Nat → Int32 → Hp → Option (Int32 × Hp)) (ht : 6 * t + 6 ≤ sc.1) (hL : sc.1 ≤ 3072) (hs : SH h) (st : AllSim Inv t h) : ∃ h2, Inv (t + 1) h2 ∧ f_L_law_J680 sc k () 0 45 (nI (6 * t)) h = k () 0 45 (nI (6 * t) + 6) h2 := by
  have e1 : okSc sc (nI (6 * t) + 1) = true := okSc_at (j := 1) (by decide) ht hL
  have e2 : okSc sc (nI (6 * t) + 2) = true := okSc_at (j := 2) (by decide) ht hL
  have e3 : okSc sc (nI (6 * t) + 3) = true := okSc_at (j := 3) (by decide) ht hL
  have e4 : okSc sc (nI (6 * t) + 4) = true := okSc_at (j := 4) (by decide) ht hL
  have e5 : okSc sc (nI (6 * t) + 5) = true := okSc_at (j := 5) (by decide) ht hL
  have st1 := st.2.2.2.2.2.2.2.2.2.2.2.2.2.2.1
  obtain ⟨r, h1, h2, p1, p2, p3, p4⟩ := st1 (sc.2 (nI (6 * t) + (1 : Int32)).toNatClampNeg)
  refine ⟨h2, p4, ?_⟩
  dsimp only at p3
  simp only [f_L_law_J680, e1, e2, e3, e4, e5, gd_e, sO0 hs, sO45 p2, p1, bnd_e, p3, if_true, vl_e]
set_option maxRecDepth 100000 in
theorem lj_703 {Inv : Nat → Hp → Prop} {sc : Sc} {t : Nat} {h : Hp} (k : Unit → Nat → Nat → Int32 → Hp → Option (Int32 × Hp)) (ht : 6 * t + 6 ≤ sc.1) (hL : sc.1 ≤ 3072) (hs : SH h) (st : AllSim Inv t h) : ∃ h2, Inv (t + 1) h2 ∧ f_L_law_J703 sc k () 0 45 (nI (6 * t)) h = k () 0 45 (nI (6 * t) + 6) h2 := by
  have e1 : okSc sc (nI (6 * t) + 1) = true := okSc_at (j := 1) (by decide) ht hL
  have e2 : okSc sc (nI (6 * t) + 2) = true := okSc_at (j := 2) (by decide) ht hL
  have e3 : okSc sc (nI (6 * t) + 3) = true := okSc_at (j := 3) (by decide) ht hL
  have e4 : okSc sc (nI (6 * t) + 4) = true := okSc_at (j := 4) (by decide) ht hL
  have e5 : okSc sc (nI (6 * t) + 5) = true := okSc_at (j := 5) (by decide) ht hL
  have st1 := st.2.2.2.2.2.2.2.2.2.2.2.2.2.2.2.1
  obtain ⟨r, h1, h2, p1, p2, p3, p4⟩ := st1 (sc.2 (nI (6 * t) + (1 : Int32)).toNatClampNeg) (sc.2 (nI (6 * t) + (2 : Int32)).toNatClampNeg) (sc.2 (nI (6 * t) + (3 : Int32)).toNatClampNeg)
  refine ⟨h2, p4, ?_⟩
  dsimp only at p3
  simp only [f_L_law_J703, e1, e2, e3, e4, e5, gd_e, sO0 hs, sO45 p2, p1, bnd_e, p3, if_true, vl_e]
set_option maxRecDepth 100000 in
theorem lj_746 {Inv : Nat → Hp → Prop} {sc : Sc} {t : Nat} {h : Hp} (k : Unit → Nat → Nat → Int32 → Hp → Option (Int32 × Hp)) (ht : 6 * t + 6 ≤ sc.1) (hL : sc.1 ≤ 3072) (hs : SH h) (st : AllSim Inv t h) : ∃ h2, Inv (t + 1) h2 ∧ f_L_law_J746 sc k () 0 45 (nI (6 * t)) h = k () 0 45 (nI (6 * t) + 6) h2 := by
  have e1 : okSc sc (nI (6 * t) + 1) = true := okSc_at (j := 1) (by decide) ht hL
  have e2 : okSc sc (nI (6 * t) + 2) = true := okSc_at (j := 2) (by decide) ht hL
  have e3 : okSc sc (nI (6 * t) + 3) = true := okSc_at (j := 3) (by decide) ht hL
  have e4 : okSc sc (nI (6 * t) + 4) = true := okSc_at (j := 4) (by decide) ht hL
  have e5 : okSc sc (nI (6 * t) + 5) = true := okSc_at (j := 5) (by decide) ht hL
  have st1 := st.2.2.2.2.2.2.2.2.2.2.2.2.2.2.2.2.1
  obtain ⟨r, h1, h2, p1, p2, p3, p4⟩ := st1 (sc.2 (nI (6 * t) + (1 : Int32)).toNatClampNeg) (sc.2 (nI (6 * t) + (2 : Int32)).toNatClampNeg)
  refine ⟨h2, p4, ?_⟩
  dsimp only at p3
  simp only [f_L_law_J746, e1, e2, e3, e4, e5, gd_e, sO0 hs, sO45 p2, p1, bnd_e, p3, if_true, vl_e]
set_option maxRecDepth 100000 in
theorem lj_779 {Inv : Nat → Hp → Prop} {sc : Sc} {t : Nat} {h : Hp} (k : Unit → Nat → Nat → Int32 → Hp → Option (Int32 × Hp)) (ht : 6 * t + 6 ≤ sc.1) (hL : sc.1 ≤ 3072) (hs : SH h) (st : AllSim Inv t h) : ∃ h2, Inv (t + 1) h2 ∧ f_L_law_J779 sc k () 0 45 (nI (6 * t)) h = k () 0 45 (nI (6 * t) + 6) h2 := by
  have e1 : okSc sc (nI (6 * t) + 1) = true := okSc_at (j := 1) (by decide) ht hL
  have e2 : okSc sc (nI (6 * t) + 2) = true := okSc_at (j := 2) (by decide) ht hL
  have e3 : okSc sc (nI (6 * t) + 3) = true := okSc_at (j := 3) (by decide) ht hL
  have e4 : okSc sc (nI (6 * t) + 4) = true := okSc_at (j := 4) (by decide) ht hL
  have e5 : okSc sc (nI (6 * t) + 5) = true := okSc_at (j := 5) (by decide) ht hL
  have st1 := st.2.2.2.2.2.2.2.2.2.2.2.2.2.2.2.2.2.1
  obtain ⟨r, h1, h2, p1, p2, p3, p4⟩ := st1 (sc.2 (nI (6 * t) + (1 : Int32)).toNatClampNeg) (sc.2 (nI (6 * t) + (2 : Int32)).toNatClampNeg) (sc.2 (nI (6 * t) + (3 : Int32)).toNatClampNeg)
  refine ⟨h2, p4, ?_⟩
  dsimp only at p3
  simp only [f_L_law_J779, e1, e2, e3, e4, e5, gd_e, sO0 hs, sO45 p2, p1, bnd_e, p3, if_true, vl_e]
set_option maxRecDepth 100000 in
theorem lj_822 {Inv : Nat → Hp → Prop} {sc : Sc} {t : Nat} {h : Hp} (k : Unit → Nat → Nat → Int32 → Hp → Option (Int32 × Hp)) (ht : 6 * t + 6 ≤ sc.1) (hL : sc.1 ≤ 3072) (hs : SH h) (st : AllSim Inv t h) : ∃ h2, Inv (t + 1) h2 ∧ f_L_law_J822 sc k () 0 45 (nI (6 * t)) h = k () 0 45 (nI (6 * t) + 6) h2 := by
  have e1 : okSc sc (nI (6 * t) + 1) = true := okSc_at (j := 1) (by decide) ht hL
  have e2 : okSc sc (nI (6 * t) + 2) = true := okSc_at (j := 2) (by decide) ht hL
  have e3 : okSc sc (nI (6 * t) + 3) = true := okSc_at (j := 3) (by decide) ht hL
  have e4 : okSc sc (nI (6 * t) + 4) = true := okSc_at (j := 4) (by decide) ht hL
  have e5 : okSc sc (nI (6 * t) + 5) = true := okSc_at (j := 5) (by decide) ht hL
  have st1 := st.2.2.2.2.2.2.2.2.2.2.2.2.2.2.2.2.2.2.1
  obtain ⟨r, h1, h2, p1, p2, p3, p4⟩ := st1 (sc.2 (nI (6 * t) + (1 : Int32)).toNatClampNeg) (sc.2 (nI (6 * t) + (2 : Int32)).toNatClampNeg) (sc.2 (nI (6 * t) + (3 : Int32)).toNatClampNeg) (sc.2 (nI (6 * t) + (4 : Int32)).toNatClampNeg)
  refine ⟨h2, p4, ?_⟩
  dsimp only at p3
  simp only [f_L_law_J822, e1, e2, e3, e4, e5, gd_e, sO0 hs, sO45 p2, p1, bnd_e, p3, if_true, vl_e]
set_option maxRecDepth 100000 in
theorem lj_875 {Inv : Nat → Hp → Prop} {sc : Sc} {t : Nat} {h : Hp} (k : Unit → Nat → Nat → Int32 → Hp → Option (Int32 × Hp)) (ht : 6 * t + 6 ≤ sc.1) (hL : sc.1 ≤ 3072) (hs : SH h) (st : AllSim Inv t h) : ∃ h2, Inv (t + 1) h2 ∧ f_L_law_J875 sc k () 0 45 (nI (6 * t)) h = k () 0 45 (nI (6 * t) + 6) h2 := by
  have e1 : okSc sc (nI (6 * t) + 1) = true := okSc_at (j := 1) (by decide) ht hL
  have e2 : okSc sc (nI (6 * t) + 2) = true := okSc_at (j := 2) (by decide) ht hL
  have e3 : okSc sc (nI (6 * t) + 3) = true := okSc_at (j := 3) (by decide) ht hL
  have e4 : okSc sc (nI (6 * t) + 4) = true := okSc_at (j := 4) (by decide) ht hL
  have e5 : okSc sc (nI (6 * t) + 5) = true := okSc_at (j := 5) (by decide) ht hL
  have st1 := st.2.2.2.2.2.2.2.2.2.2.2.2.2.2.2.2.2.2.2.1
  obtain ⟨r, h1, h2, p1, p2, p3, p4⟩ := st1 (sc.2 (nI (6 * t) + (1 : Int32)).toNatClampNeg) (sc.2 (nI (6 * t) + (2 : Int32)).toNatClampNeg) (sc.2 (nI (6 * t) + (3 : Int32)).toNatClampNeg)
  refine ⟨h2, p4, ?_⟩
  dsimp only at p3
  simp only [f_L_law_J875, e1, e2, e3, e4, e5, gd_e, sO0 hs, sO45 p2, p1, bnd_e, p3, if_true, vl_e]
set_option maxRecDepth 100000 in
theorem lj_918 {Inv : Nat → Hp → Prop} {sc : Sc} {t : Nat} {h : Hp} (k : Unit → Nat → Nat → Int32 → Hp → Option (Int32 × Hp)) (ht : 6 * t + 6 ≤ sc.1) (hL : sc.1 ≤ 3072) (hs : SH h) (st : AllSim Inv t h) : ∃ h2, Inv (t + 1) h2 ∧ f_L_law_J918 sc k () 0 45 (nI (6 * t)) h = k () 0 45 (nI (6 * t) + 6) h2 := by
  have e1 : okSc sc (nI (6 * t) + 1) = true := okSc_at (j := 1) (by decide) ht hL
  have e2 : okSc sc (nI (6 * t) + 2) = true := okSc_at (j := 2) (by decide) ht hL
  have e3 : okSc sc (nI (6 * t) + 3) = true := okSc_at (j := 3) (by decide) ht hL
  have e4 : okSc sc (nI (6 * t) + 4) = true := okSc_at (j := 4) (by decide) ht hL
  have e5 : okSc sc (nI (6 * t) + 5) = true := okSc_at (j := 5) (by decide) ht hL
  have st1 := st.2.2.2.2.2.2.2.2.2.2.2.2.2.2.2.2.2.2.2.2.1
  obtain ⟨r, h1, h2, p1, p2, p3, p4⟩ := st1
  refine ⟨h2, p4, ?_⟩
  dsimp only at p3
  simp only [f_L_law_J918, e1, e2, e3, e4, e5, gd_e, sO0 hs, sO45 p2, p1, bnd_e, p3, if_true, vl_e]
set_option maxRecDepth 100000 in
theorem lj_931 {Inv : Nat → Hp → Prop} {sc : Sc} {t : Nat} {h : Hp} (k : Unit → Nat → Nat → Int32 → Hp → Option (Int32 × Hp)) (ht : 6 * t + 6 ≤ sc.1) (hL : sc.1 ≤ 3072) (hs : SH h) (st : AllSim Inv t h) : ∃ h2, Inv (t + 1) h2 ∧ f_L_law_J931 sc k () 0 45 (nI (6 * t)) h = k () 0 45 (nI (6 * t) + 6) h2 := by
  have e1 : okSc sc (nI (6 * t) + 1) = true := okSc_at (j := 1) (by decide) ht hL
  have e2 : okSc sc (nI (6 * t) + 2) = true := okSc_at (j := 2) (by decide) ht hL
  have e3 : okSc sc (nI (6 * t) + 3) = true := okSc_at (j := 3) (by decide) ht hL
  have e4 : okSc sc (nI (6 * t) + 4) = true := okSc_at (j := 4) (by decide) ht hL
  have e5 : okSc sc (nI (6 * t) + 5) = true := okSc_at (j := 5) (by decide) ht hL
  have st1 := st.2.2.2.2.2.2.2.2.2.2.2.2.2.2.2.2.2.2.2.2.2.1
  obtain ⟨r, h1, h2, p1, p2, p3, p4⟩ := st1 (sc.2 (nI (6 * t) + (1 : Int32)).toNatClampNeg) (sc.2 (nI (6 * t) + (2 : Int32)).toNatClampNeg)
  refine ⟨h2, p4, ?_⟩
  dsimp only at p3
  simp only [f_L_law_J931, e1, e2, e3, e4, e5, gd_e, sO0 hs, sO45 p2, p1, bnd_e, p3, if_true, vl_e]
set_option maxRecDepth 100000 in
theorem lj_964 {Inv : Nat → Hp → Prop} {sc : Sc} {t : Nat} {h : Hp} (k : Unit → Nat → Nat → Int32 → Hp → Option (Int32 × Hp)) (ht : 6 * t + 6 ≤ sc.1) (hL : sc.1 ≤ 3072) (hs : SH h) (st : AllSim Inv t h) : ∃ h2, Inv (t + 1) h2 ∧ f_L_law_J964 sc k () 0 45 (nI (6 * t)) h = k () 0 45 (nI (6 * t) + 6) h2 := by
  have e1 : okSc sc (nI (6 * t) + 1) = true := okSc_at (j := 1) (by decide) ht hL
  have e2 : okSc sc (nI (6 * t) + 2) = true := okSc_at (j := 2) (by decide) ht hL
  have e3 : okSc sc (nI (6 * t) + 3) = true := okSc_at (j := 3) (by decide) ht hL
  have e4 : okSc sc (nI (6 * t) + 4) = true := okSc_at (j := 4) (by decide) ht hL
  have e5 : okSc sc (nI (6 * t) + 5) = true := okSc_at (j := 5) (by decide) ht hL
  have st1 := st.2.2.2.2.2.2.2.2.2.2.2.2.2.2.2.2.2.2.2.2.2.2.1
  obtain ⟨r, h1, h2, p1, p2, p3, p4⟩ := st1 (sc.2 (nI (6 * t) + (1 : Int32)).toNatClampNeg) (sc.2 (nI (6 * t) + (2 : Int32)).toNatClampNeg)
  refine ⟨h2, p4, ?_⟩
  dsimp only at p3
  simp only [f_L_law_J964, e1, e2, e3, e4, e5, gd_e, sO0 hs, sO45 p2, p1, bnd_e, p3, if_true, vl_e]
set_option maxRecDepth 100000 in
theorem lj_997 {Inv : Nat → Hp → Prop} {sc : Sc} {t : Nat} {h : Hp} (k : Unit → Nat → Nat → Int32 → Hp → Option (Int32 × Hp)) (ht : 6 * t + 6 ≤ sc.1) (hL : sc.1 ≤ 3072) (hs : SH h) (st : AllSim Inv t h) : ∃ h2, Inv (t + 1) h2 ∧ f_L_law_J997 sc k () 0 45 (nI (6 * t)) h = k () 0 45 (nI (6 * t) + 6) h2 := by
  have e1 : okSc sc (nI (6 * t) + 1) = true := okSc_at (j := 1) (by decide) ht hL
  have e2 : okSc sc (nI (6 * t) + 2) = true := okSc_at (j := 2) (by decide) ht hL
  have e3 : okSc sc (nI (6 * t) + 3) = true := okSc_at (j := 3) (by decide) ht hL
  have e4 : okSc sc (nI (6 * t) + 4) = true := okSc_at (j := 4) (by decide) ht hL
  have e5 : okSc sc (nI (6 * t) + 5) = true := okSc_at (j := 5) (by decide) ht hL
  have st1 := st.2.2.2.2.2.2.2.2.2.2.2.2.2.2.2.2.2.2.2.2.2.2.2.1
  obtain ⟨r, h1, h2, p1, p2, p3, p4⟩ := st1
  refine ⟨h2, p4, ?_⟩
  dsimp only at p3
  simp only [f_L_law_J997, e1, e2, e3, e4, e5, gd_e, sO0 hs, sO45 p2, p1, bnd_e, p3, if_true, vl_e]
set_option maxRecDepth 100000 in
theorem lj_1010 {Inv : Nat → Hp → Prop} {sc : Sc} {t : Nat} {h : Hp} (k : Unit → Nat → Nat → Int32 → Hp → Option (Int32 × Hp)) (ht : 6 * t + 6 ≤ sc.1) (hL : sc.1 ≤ 3072) (hs : SH h) (st : AllSim Inv t h) : ∃ h2, Inv (t + 1) h2 ∧ f_L_law_J1010 sc k () 0 45 (nI (6 * t)) h = k () 0 45 (nI (6 * t) + 6) h2 := by
  have e1 : okSc sc (nI (6 * t) + 1) = true := okSc_at (j := 1) (by decide) ht hL
  have e2 : okSc sc (nI (6 * t) + 2) = true := okSc_at (j := 2) (by decide) ht hL
  have e3 : okSc sc (nI (6 * t) + 3) = true := okSc_at (j := 3) (by decide) ht hL
  have e4 : okSc sc (nI (6 * t) + 4) = true := okSc_at (j := 4) (by decide) ht hL
  have e5 : okSc sc (nI (6 * t) + 5) = true := okSc_at (j := 5) (by decide) ht hL
  have st1 := st.2.2.2.2.2.2.2.2.2.2.2.2.2.2.2.2.2.2.2.2.2.2.2.2.1
  obtain ⟨r, h1, h2, p1, p2, p3, p4⟩ := st1 (sc.2 (nI (6 * t) + (1 : Int32)).toNatClampNeg) (sc.2 (nI (6 * t) + (2 : Int32)).toNatClampNeg) (sc.2 (nI (6 * t) + (3 : Int32)).toNatClampNeg)
  refine ⟨h2, p4, ?_⟩
  dsimp only at p3
  simp only [f_L_law_J1010, e1, e2, e3, e4, e5, gd_e, sO0 hs, sO45 p2, p1, bnd_e, p3, if_true, vl_e]
set_option maxRecDepth 100000 in
theorem lj_1053 {Inv : Nat → Hp → Prop} {sc : Sc} {t : Nat} {h : Hp} (k : Unit → Nat → Nat → Int32 → Hp → Option (Int32 × Hp)) (ht : 6 * t + 6 ≤ sc.1) (hL : sc.1 ≤ 3072) (hs : SH h) (st : AllSim Inv t h) : ∃ h2, Inv (t + 1) h2 ∧ f_L_law_J1053 sc k () 0 45 (nI (6 * t)) h = k () 0 45 (nI (6 * t) + 6) h2 := by
  have e1 : okSc sc (nI (6 * t) + 1) = true := okSc_at (j := 1) (by decide) ht hL
  have e2 : okSc sc (nI (6 * t) + 2) = true := okSc_at (j := 2) (by decide) ht hL
  have e3 : okSc sc (nI (6 * t) + 3) = true := okSc_at (j := 3) (by decide) ht hL
  have e4 : okSc sc (nI (6 * t) + 4) = true := okSc_at (j := 4) (by decide) ht hL
  have e5 : okSc sc (nI (6 * t) + 5) = true := okSc_at (j := 5) (by decide) ht hL
  have st1 := st.2.2.2.2.2.2.2.2.2.2.2.2.2.2.2.2.2.2.2.2.2.2.2.2.2.1
  obtain ⟨r, h1, h2, p1, p2, p3, p4⟩ := st1 (sc.2 (nI (6 * t) + (1 : Int32)).toNatClampNeg)
  refine ⟨h2, p4, ?_⟩
  dsimp only at p3
  simp only [f_L_law_J1053, e1, e2, e3, e4, e5, gd_e, sO0 hs, sO45 p2, p1, bnd_e, p3, if_true, vl_e]
set_option maxRecDepth 100000 in
theorem lj_1076 {Inv : Nat → Hp → Prop} {sc : Sc} {t : Nat} {h : Hp} (k : Unit → Nat → Nat → Int32 → Hp → Option (Int32 × Hp)) (ht : 6 * t + 6 ≤ sc.1) (hL : sc.1 ≤ 3072) (hs : SH h) (st : AllSim Inv t h) : ∃ h2, Inv (t + 1) h2 ∧ f_L_law_J1076 sc k () 0 45 (nI (6 * t)) h = k () 0 45 (nI (6 * t) + 6) h2 := by
  have e1 : okSc sc (nI (6 * t) + 1) = true := okSc_at (j := 1) (by decide) ht hL
  have e2 : okSc sc (nI (6 * t) + 2) = true := okSc_at (j := 2) (by decide) ht hL
  have e3 : okSc sc (nI (6 * t) + 3) = true := okSc_at (j := 3) (by decide) ht hL
  have e4 : okSc sc (nI (6 * t) + 4) = true := okSc_at (j := 4) (by decide) ht hL
  have e5 : okSc sc (nI (6 * t) + 5) = true := okSc_at (j := 5) (by decide) ht hL
  have st1 := st.2.2.2.2.2.2.2.2.2.2.2.2.2.2.2.2.2.2.2.2.2.2.2.2.2.2.1
  obtain ⟨r, h1, h2, p1, p2, p3, p4⟩ := st1 (sc.2 (nI (6 * t) + (1 : Int32)).toNatClampNeg)
  refine ⟨h2, p4, ?_⟩
  dsimp only at p3
  simp only [f_L_law_J1076, e1, e2, e3, e4, e5, gd_e, sO0 hs, sO45 p2, p1, bnd_e, p3, if_true, vl_e]
set_option maxRecDepth 100000 in
theorem lj_1099 {Inv : Nat → Hp → Prop} {sc : Sc} {t : Nat} {h : Hp} (k : Unit → Nat → Nat → Int32 → Hp → Option (Int32 × Hp)) (ht : 6 * t + 6 ≤ sc.1) (hL : sc.1 ≤ 3072) (hs : SH h) (st : AllSim Inv t h) : ∃ h2, Inv (t + 1) h2 ∧ f_L_law_J1099 sc k () 0 45 (nI (6 * t)) h = k () 0 45 (nI (6 * t) + 6) h2 := by
  have e1 : okSc sc (nI (6 * t) + 1) = true := okSc_at (j := 1) (by decide) ht hL
  have e2 : okSc sc (nI (6 * t) + 2) = true := okSc_at (j := 2) (by decide) ht hL
  have e3 : okSc sc (nI (6 * t) + 3) = true := okSc_at (j := 3) (by decide) ht hL
  have e4 : okSc sc (nI (6 * t) + 4) = true := okSc_at (j := 4) (by decide) ht hL
  have e5 : okSc sc (nI (6 * t) + 5) = true := okSc_at (j := 5) (by decide) ht hL
  have st1 := st.2.2.2.2.2.2.2.2.2.2.2.2.2.2.2.2.2.2.2.2.2.2.2.2.2.2.2.1
  obtain ⟨r, h1, h2, p1, p2, p3, p4⟩ := st1
  refine ⟨h2, p4, ?_⟩
  dsimp only at p3
  simp only [f_L_law_J1099, e1, e2, e3, e4, e5, gd_e, sO0 hs, sO45 p2, p1, bnd_e, p3, if_true, vl_e]
set_option maxRecDepth 100000 in
theorem lj_1112 {Inv : Nat → Hp → Prop} {sc : Sc} {t : Nat} {h : Hp} (k : Unit → Nat → Nat → Int32 → Hp → Option (Int32 × Hp)) (ht : 6 * t + 6 ≤ sc.1) (hL : sc.1 ≤ 3072) (hs : SH h) (st : AllSim Inv t h) : ∃ h2, Inv (t + 1) h2 ∧ f_L_law_J1112 sc k () 0 45 (nI (6 * t)) h = k () 0 45 (nI (6 * t) + 6) h2 := by
  have e1 : okSc sc (nI (6 * t) + 1) = true := okSc_at (j := 1) (by decide) ht hL
  have e2 : okSc sc (nI (6 * t) + 2) = true := okSc_at (j := 2) (by decide) ht hL
  have e3 : okSc sc (nI (6 * t) + 3) = true := okSc_at (j := 3) (by decide) ht hL
  have e4 : okSc sc (nI (6 * t) + 4) = true := okSc_at (j := 4) (by decide) ht hL
  have e5 : okSc sc (nI (6 * t) + 5) = true := okSc_at (j := 5) (by decide) ht hL
  have st1 := st.2.2.2.2.2.2.2.2.2.2.2.2.2.2.2.2.2.2.2.2.2.2.2.2.2.2.2.2.1
  obtain ⟨r, h1, h2, p1, p2, p3, p4⟩ := st1
  refine ⟨h2, p4, ?_⟩
  dsimp only at p3
  simp only [f_L_law_J1112, e1, e2, e3, e4, e5, gd_e, sO0 hs, sO45 p2, p1, bnd_e, p3, if_true, vl_e]
set_option maxRecDepth 100000 in
theorem lj_1125 {Inv : Nat → Hp → Prop} {sc : Sc} {t : Nat} {h : Hp} (k : Unit → Nat → Nat → Int32 → Hp → Option (Int32 × Hp)) (ht : 6 * t + 6 ≤ sc.1) (hL : sc.1 ≤ 3072) (hs : SH h) (st : AllSim Inv t h) : ∃ h2, Inv (t + 1) h2 ∧ f_L_law_J1125 sc k () 0 45 (nI (6 * t)) h = k () 0 45 (nI (6 * t) + 6) h2 := by
  have e1 : okSc sc (nI (6 * t) + 1) = true := okSc_at (j := 1) (by decide) ht hL
  have e2 : okSc sc (nI (6 * t) + 2) = true := okSc_at (j := 2) (by decide) ht hL
  have e3 : okSc sc (nI (6 * t) + 3) = true := okSc_at (j := 3) (by decide) ht hL
  have e4 : okSc sc (nI (6 * t) + 4) = true := okSc_at (j := 4) (by decide) ht hL
  have e5 : okSc sc (nI (6 * t) + 5) = true := okSc_at (j := 5) (by decide) ht hL
  have st1 := st.2.2.2.2.2.2.2.2.2.2.2.2.2.2.2.2.2.2.2.2.2.2.2.2.2.2.2.2.2.1
  obtain ⟨r, h1, h2, p1, p2, p3, p4⟩ := st1 (sc.2 (nI (6 * t) + (1 : Int32)).toNatClampNeg)
  refine ⟨h2, p4, ?_⟩
  dsimp only at p3
  simp only [f_L_law_J1125, e1, e2, e3, e4, e5, gd_e, sO0 hs, sO45 p2, p1, bnd_e, p3, if_true, vl_e]
set_option maxRecDepth 100000 in
theorem lj_1148 {Inv : Nat → Hp → Prop} {sc : Sc} {t : Nat} {h : Hp} (k : Unit → Nat → Nat → Int32 → Hp → Option (Int32 × Hp)) (ht : 6 * t + 6 ≤ sc.1) (hL : sc.1 ≤ 3072) (hs : SH h) (st : AllSim Inv t h) : ∃ h2, Inv (t + 1) h2 ∧ f_L_law_J1148 sc k () 0 45 (nI (6 * t)) h = k () 0 45 (nI (6 * t) + 6) h2 := by
  have e1 : okSc sc (nI (6 * t) + 1) = true := okSc_at (j := 1) (by decide) ht hL
  have e2 : okSc sc (nI (6 * t) + 2) = true := okSc_at (j := 2) (by decide) ht hL
  have e3 : okSc sc (nI (6 * t) + 3) = true := okSc_at (j := 3) (by decide) ht hL
  have e4 : okSc sc (nI (6 * t) + 4) = true := okSc_at (j := 4) (by decide) ht hL
  have e5 : okSc sc (nI (6 * t) + 5) = true := okSc_at (j := 5) (by decide) ht hL
  have st1 := st.2.2.2.2.2.2.2.2.2.2.2.2.2.2.2.2.2.2.2.2.2.2.2.2.2.2.2.2.2.2.1
  obtain ⟨r, h1, h2, p1, p2, p3, p4⟩ := st1 (sc.2 (nI (6 * t) + (1 : Int32)).toNatClampNeg) (sc.2 (nI (6 * t) + (2 : Int32)).toNatClampNeg)
  refine ⟨h2, p4, ?_⟩
  dsimp only at p3
  simp only [f_L_law_J1148, e1, e2, e3, e4, e5, gd_e, sO0 hs, sO45 p2, p1, bnd_e, p3, if_true, vl_e]
set_option maxRecDepth 100000 in
theorem lj_1181 {Inv : Nat → Hp → Prop} {sc : Sc} {t : Nat} {h : Hp} (k : Unit → Nat → Nat → Int32 → Hp → Option (Int32 × Hp)) (ht : 6 * t + 6 ≤ sc.1) (hL : sc.1 ≤ 3072) (hs : SH h) (st : AllSim Inv t h) : ∃ h2, Inv (t + 1) h2 ∧ f_L_law_J1181 sc k () 0 45 (nI (6 * t)) h = k () 0 45 (nI (6 * t) + 6) h2 := by
  have e1 : okSc sc (nI (6 * t) + 1) = true := okSc_at (j := 1) (by decide) ht hL
  have e2 : okSc sc (nI (6 * t) + 2) = true := okSc_at (j := 2) (by decide) ht hL
  have e3 : okSc sc (nI (6 * t) + 3) = true := okSc_at (j := 3) (by decide) ht hL
  have e4 : okSc sc (nI (6 * t) + 4) = true := okSc_at (j := 4) (by decide) ht hL
  have e5 : okSc sc (nI (6 * t) + 5) = true := okSc_at (j := 5) (by decide) ht hL
  have st1 := st.2.2.2.2.2.2.2.2.2.2.2.2.2.2.2.2.2.2.2.2.2.2.2.2.2.2.2.2.2.2.2.1
  obtain ⟨r, h1, h2, p1, p2, p3, p4⟩ := st1 (sc.2 (nI (6 * t) + (1 : Int32)).toNatClampNeg) (sc.2 (nI (6 * t) + (2 : Int32)).toNatClampNeg) (sc.2 (nI (6 * t) + (3 : Int32)).toNatClampNeg)
  refine ⟨h2, p4, ?_⟩
  dsimp only at p3
  simp only [f_L_law_J1181, e1, e2, e3, e4, e5, gd_e, sO0 hs, sO45 p2, p1, bnd_e, p3, if_true, vl_e]
set_option maxRecDepth 100000 in
theorem lj_1224 {Inv : Nat → Hp → Prop} {sc : Sc} {t : Nat} {h : Hp} (k : Unit → Nat → Nat → Int32 → Hp → Option (Int32 × Hp)) (ht : 6 * t + 6 ≤ sc.1) (hL : sc.1 ≤ 3072) (hs : SH h) (st : AllSim Inv t h) : ∃ h2, Inv (t + 1) h2 ∧ f_L_law_J1224 sc k () 0 45 (nI (6 * t)) h = k () 0 45 (nI (6 * t) + 6) h2 := by
  have e1 : okSc sc (nI (6 * t) + 1) = true := okSc_at (j := 1) (by decide) ht hL
  have e2 : okSc sc (nI (6 * t) + 2) = true := okSc_at (j := 2) (by decide) ht hL
  have e3 : okSc sc (nI (6 * t) + 3) = true := okSc_at (j := 3) (by decide) ht hL
  have e4 : okSc sc (nI (6 * t) + 4) = true := okSc_at (j := 4) (by decide) ht hL
  have e5 : okSc sc (nI (6 * t) + 5) = true := okSc_at (j := 5) (by decide) ht hL
  have st1 := st.2.2.2.2.2.2.2.2.2.2.2.2.2.2.2.2.2.2.2.2.2.2.2.2.2.2.2.2.2.2.2.2.1
  obtain ⟨r, h1, h2, p1, p2, p3, p4⟩ := st1
  refine ⟨h2, p4, ?_⟩
  dsimp only at p3
  simp only [f_L_law_J1224, e1, e2, e3, e4, e5, gd_e, sO0 hs, sO45 p2, p1, bnd_e, p3, if_true, vl_e]
set_option maxRecDepth 100000 in
theorem lj_1237 {Inv : Nat → Hp → Prop} {sc : Sc} {t : Nat} {h : Hp} (k : Unit → Nat → Nat → Int32 → Hp → Option (Int32 × Hp)) (ht : 6 * t + 6 ≤ sc.1) (hL : sc.1 ≤ 3072) (hs : SH h) (st : AllSim Inv t h) : ∃ h2, Inv (t + 1) h2 ∧ f_L_law_J1237 sc k () 0 45 (nI (6 * t)) h = k () 0 45 (nI (6 * t) + 6) h2 := by
  have e1 : okSc sc (nI (6 * t) + 1) = true := okSc_at (j := 1) (by decide) ht hL
  have e2 : okSc sc (nI (6 * t) + 2) = true := okSc_at (j := 2) (by decide) ht hL
  have e3 : okSc sc (nI (6 * t) + 3) = true := okSc_at (j := 3) (by decide) ht hL
  have e4 : okSc sc (nI (6 * t) + 4) = true := okSc_at (j := 4) (by decide) ht hL
  have e5 : okSc sc (nI (6 * t) + 5) = true := okSc_at (j := 5) (by decide) ht hL
  have st1 := st.2.2.2.2.2.2.2.2.2.2.2.2.2.2.2.2.2.2.2.2.2.2.2.2.2.2.2.2.2.2.2.2.2.1
  obtain ⟨r, h1, h2, p1, p2, p3, p4⟩ := st1 (sc.2 (nI (6 * t) + (1 : Int32)).toNatClampNeg) (sc.2 (nI (6 * t) + (2 : Int32)).toNatClampNeg)
  refine ⟨h2, p4, ?_⟩
  dsimp only at p3
  simp only [f_L_law_J1237, e1, e2, e3, e4, e5, gd_e, sO0 hs, sO45 p2, p1, bnd_e, p3, if_true, vl_e]
set_option maxRecDepth 100000 in
theorem lj_1270 {Inv : Nat → Hp → Prop} {sc : Sc} {t : Nat} {h : Hp} (k : Unit → Nat → Nat → Int32 → Hp → Option (Int32 × Hp)) (ht : 6 * t + 6 ≤ sc.1) (hL : sc.1 ≤ 3072) (hs : SH h) (st : AllSim Inv t h) : ∃ h2, Inv (t + 1) h2 ∧ f_L_law_J1270 sc k () 0 45 (nI (6 * t)) h = k () 0 45 (nI (6 * t) + 6) h2 := by
  have e1 : okSc sc (nI (6 * t) + 1) = true := okSc_at (j := 1) (by decide) ht hL
  have e2 : okSc sc (nI (6 * t) + 2) = true := okSc_at (j := 2) (by decide) ht hL
  have e3 : okSc sc (nI (6 * t) + 3) = true := okSc_at (j := 3) (by decide) ht hL
  have e4 : okSc sc (nI (6 * t) + 4) = true := okSc_at (j := 4) (by decide) ht hL
  have e5 : okSc sc (nI (6 * t) + 5) = true := okSc_at (j := 5) (by decide) ht hL
  have st1 := st.2.2.2.2.2.2.2.2.2.2.2.2.2.2.2.2.2.2.2.2.2.2.2.2.2.2.2.2.2.2.2.2.2.2
  obtain ⟨r, h1, h2, p1, p2, p3, p4⟩ := st1 (sc.2 (nI (6 * t) + (1 : Int32)).toNatClampNeg)
  refine ⟨h2, p4, ?_⟩
  dsimp only at p3
  simp only [f_L_law_J1270, e1, e2, e3, e4, e5, gd_e, sO0 hs, sO45 p2, p1, bnd_e, p3, if_true, vl_e]
set_option maxHeartbeats 4000000 in
set_option maxRecDepth 100000 in
theorem law_run {Inv : Nat → Hp → Prop} {sc : Sc} (hL : sc.1 ≤ 3072) (hSH : ∀ t h, Inv t h → SH h) (st : ∀ t h, t < 512 → Inv t h → AllSim Inv t h) (hmono : ∀ t h, Inv t h → Inv (t + 1) h) : ∀ (n t : Nat) (h : Hp), Inv t h → t ≤ 512 → 6 * t ≤ sc.1 → 513 - t < n → ∃ (t2 : Nat) (h2 : Hp), t2 ≤ 512 ∧ Inv t2 h2 ∧ f_L_law_L18 sc n () 0 45 (nI (6 * t)) h = some (1, h2) := by
  intro n
  induction n with
  | zero => intro t h _ _ _ hn; omega
  | succ n ih =>
    intro t h hI ht hb hn
    have hs := hSH t h hI
    rw [f_L_law_L18]
    have cmp : (Int32.ofNat sc.1 - 6 < nI (6 * t)) ↔ sc.1 < 6 * t + 6 := by
      rw [toI, Int32.lt_iff_toInt_lt, nI_toInt (by omega), show (6 : Int32) = nI 6 from rfl, pk_sub_toInt (by omega) (by omega)]
      omega
    by_cases hx : sc.1 < 6 * t + 6
    · rw [if_pos (cmp.mpr hx)]
      exact ⟨t, h, ht, hI, rfl⟩
    · rw [if_neg (fun q => hx (cmp.mp q))]
      have hb2 : 6 * t + 6 ≤ sc.1 := by omega
      rw [okSc_0 hb2 hL, gd_e]
      have hst := st t h (by omega) hI
      have go : ∀ h2, Inv (t + 1) h2 → ∃ (t2 : Nat) (h3 : Hp), t2 ≤ 512 ∧ Inv t2 h3 ∧ f_L_law_L18 sc n () 0 45 (nI (6 * t) + 6) h2 = some (1, h3) := by
        intro h2 q
        have e : nI (6 * t) + 6 = nI (6 * (t + 1)) := by
          rw [show (6 : Int32) = nI 6 from rfl, nI_add]; rfl
        rw [e]
        exact ih (t + 1) h2 q (by omega) (by omega) (by omega)
      by_cases c0 : sc.2 (nI (6 * t)).toNatClampNeg &&& 63 = 0
      · rw [if_pos c0]
        obtain ⟨h2, q1, q2⟩ := lj_188 (f_L_law_L18 sc n) hb2 hL hs hst
        rw [q2]
        exact go h2 q1
      rw [if_neg c0]
      by_cases c1 : sc.2 (nI (6 * t)).toNatClampNeg &&& 63 = 1
      · rw [if_pos c1]
        obtain ⟨h2, q1, q2⟩ := lj_251 (f_L_law_L18 sc n) hb2 hL hs hst
        rw [q2]
        exact go h2 q1
      rw [if_neg c1]
      by_cases c2 : sc.2 (nI (6 * t)).toNatClampNeg &&& 63 = 2
      · rw [if_pos c2]
        obtain ⟨h2, q1, q2⟩ := lj_284 (f_L_law_L18 sc n) hb2 hL hs hst
        rw [q2]
        exact go h2 q1
      rw [if_neg c2]
      by_cases c3 : sc.2 (nI (6 * t)).toNatClampNeg &&& 63 = 3
      · rw [if_pos c3]
        obtain ⟨h2, q1, q2⟩ := lj_307 (f_L_law_L18 sc n) hb2 hL hs hst
        rw [q2]
        exact go h2 q1
      rw [if_neg c3]
      by_cases c4 : sc.2 (nI (6 * t)).toNatClampNeg &&& 63 = 4
      · rw [if_pos c4]
        obtain ⟨h2, q1, q2⟩ := lj_320 (f_L_law_L18 sc n) hb2 hL hs hst
        rw [q2]
        exact go h2 q1
      rw [if_neg c4]
      by_cases c5 : sc.2 (nI (6 * t)).toNatClampNeg &&& 63 = 5
      · rw [if_pos c5]
        obtain ⟨h2, q1, q2⟩ := lj_353 (f_L_law_L18 sc n) hb2 hL hs hst
        rw [q2]
        exact go h2 q1
      rw [if_neg c5]
      by_cases c6 : sc.2 (nI (6 * t)).toNatClampNeg &&& 63 = 6
      · rw [if_pos c6]
        obtain ⟨h2, q1, q2⟩ := lj_396 (f_L_law_L18 sc n) hb2 hL hs hst
        rw [q2]
        exact go h2 q1
      rw [if_neg c6]
      by_cases c7 : sc.2 (nI (6 * t)).toNatClampNeg &&& 63 = 7
      · rw [if_pos c7]
        obtain ⟨h2, q1, q2⟩ := lj_419 (f_L_law_L18 sc n) hb2 hL hs hst
        rw [q2]
        exact go h2 q1
      rw [if_neg c7]
      by_cases c8 : sc.2 (nI (6 * t)).toNatClampNeg &&& 63 = 8
      · rw [if_pos c8]
        obtain ⟨h2, q1, q2⟩ := lj_462 (f_L_law_L18 sc n) hb2 hL hs hst
        rw [q2]
        exact go h2 q1
      rw [if_neg c8]
      by_cases c9 : sc.2 (nI (6 * t)).toNatClampNeg &&& 63 = 9
      · rw [if_pos c9]
        obtain ⟨h2, q1, q2⟩ := lj_485 (f_L_law_L18 sc n) hb2 hL hs hst
        rw [q2]
        exact go h2 q1
      rw [if_neg c9]
      by_cases c10 : sc.2 (nI (6 * t)).toNatClampNeg &&& 63 = 10
      · rw [if_pos c10]
        obtain ⟨h2, q1, q2⟩ := lj_518 (f_L_law_L18 sc n) hb2 hL hs hst
        rw [q2]
        exact go h2 q1
      rw [if_neg c10]
      by_cases c11 : sc.2 (nI (6 * t)).toNatClampNeg &&& 63 = 11
      · rw [if_pos c11]
        obtain ⟨h2, q1, q2⟩ := lj_561 (f_L_law_L18 sc n) hb2 hL hs hst
        rw [q2]
        exact go h2 q1
      rw [if_neg c11]
      by_cases c12 : sc.2 (nI (6 * t)).toNatClampNeg &&& 63 = 12
      · rw [if_pos c12]
        obtain ⟨h2, q1, q2⟩ := lj_624 (f_L_law_L18 sc n) hb2 hL hs hst
        rw [q2]
        exact go h2 q1
      rw [if_neg c12]
      by_cases c13 : sc.2 (nI (6 * t)).toNatClampNeg &&& 63 = 13
      · rw [if_pos c13]
        obtain ⟨h2, q1, q2⟩ := lj_657 (f_L_law_L18 sc n) hb2 hL hs hst
        rw [q2]
        exact go h2 q1
      rw [if_neg c13]
      by_cases c14 : sc.2 (nI (6 * t)).toNatClampNeg &&& 63 = 14
      · rw [if_pos c14]
        obtain ⟨h2, q1, q2⟩ := lj_680 (f_L_law_L18 sc n) hb2 hL hs hst
        rw [q2]
        exact go h2 q1
      rw [if_neg c14]
      by_cases c15 : sc.2 (nI (6 * t)).toNatClampNeg &&& 63 = 15
      · rw [if_pos c15]
        obtain ⟨h2, q1, q2⟩ := lj_703 (f_L_law_L18 sc n) hb2 hL hs hst
        rw [q2]
        exact go h2 q1
      rw [if_neg c15]
      by_cases c16 : sc.2 (nI (6 * t)).toNatClampNeg &&& 63 = 16
      · rw [if_pos c16]
        obtain ⟨h2, q1, q2⟩ := lj_746 (f_L_law_L18 sc n) hb2 hL hs hst
        rw [q2]
        exact go h2 q1
      rw [if_neg c16]
      by_cases c17 : sc.2 (nI (6 * t)).toNatClampNeg &&& 63 = 17
      · rw [if_pos c17]
        obtain ⟨h2, q1, q2⟩ := lj_779 (f_L_law_L18 sc n) hb2 hL hs hst
        rw [q2]
        exact go h2 q1
      rw [if_neg c17]
      by_cases c18 : sc.2 (nI (6 * t)).toNatClampNeg &&& 63 = 18
      · rw [if_pos c18]
        obtain ⟨h2, q1, q2⟩ := lj_822 (f_L_law_L18 sc n) hb2 hL hs hst
        rw [q2]
        exact go h2 q1
      rw [if_neg c18]
      by_cases c19 : sc.2 (nI (6 * t)).toNatClampNeg &&& 63 = 19
      · rw [if_pos c19]
        obtain ⟨h2, q1, q2⟩ := lj_875 (f_L_law_L18 sc n) hb2 hL hs hst
        rw [q2]
        exact go h2 q1
      rw [if_neg c19]
      by_cases c20 : sc.2 (nI (6 * t)).toNatClampNeg &&& 63 = 20
      · rw [if_pos c20]
        obtain ⟨h2, q1, q2⟩ := lj_918 (f_L_law_L18 sc n) hb2 hL hs hst
        rw [q2]
        exact go h2 q1
      rw [if_neg c20]
      by_cases c21 : sc.2 (nI (6 * t)).toNatClampNeg &&& 63 = 21
      · rw [if_pos c21]
        obtain ⟨h2, q1, q2⟩ := lj_931 (f_L_law_L18 sc n) hb2 hL hs hst
        rw [q2]
        exact go h2 q1
      rw [if_neg c21]
      by_cases c22 : sc.2 (nI (6 * t)).toNatClampNeg &&& 63 = 22
      · rw [if_pos c22]
        obtain ⟨h2, q1, q2⟩ := lj_964 (f_L_law_L18 sc n) hb2 hL hs hst
        rw [q2]
        exact go h2 q1
      rw [if_neg c22]
      by_cases c23 : sc.2 (nI (6 * t)).toNatClampNeg &&& 63 = 23
      · rw [if_pos c23]
        obtain ⟨h2, q1, q2⟩ := lj_997 (f_L_law_L18 sc n) hb2 hL hs hst
        rw [q2]
        exact go h2 q1
      rw [if_neg c23]
      by_cases c24 : sc.2 (nI (6 * t)).toNatClampNeg &&& 63 = 24
      · rw [if_pos c24]
        obtain ⟨h2, q1, q2⟩ := lj_1010 (f_L_law_L18 sc n) hb2 hL hs hst
        rw [q2]
        exact go h2 q1
      rw [if_neg c24]
      by_cases c25 : sc.2 (nI (6 * t)).toNatClampNeg &&& 63 = 25
      · rw [if_pos c25]
        obtain ⟨h2, q1, q2⟩ := lj_1053 (f_L_law_L18 sc n) hb2 hL hs hst
        rw [q2]
        exact go h2 q1
      rw [if_neg c25]
      by_cases c26 : sc.2 (nI (6 * t)).toNatClampNeg &&& 63 = 26
      · rw [if_pos c26]
        obtain ⟨h2, q1, q2⟩ := lj_1076 (f_L_law_L18 sc n) hb2 hL hs hst
        rw [q2]
        exact go h2 q1
      rw [if_neg c26]
      by_cases c27 : sc.2 (nI (6 * t)).toNatClampNeg &&& 63 = 27
      · rw [if_pos c27]
        obtain ⟨h2, q1, q2⟩ := lj_1099 (f_L_law_L18 sc n) hb2 hL hs hst
        rw [q2]
        exact go h2 q1
      rw [if_neg c27]
      by_cases c28 : sc.2 (nI (6 * t)).toNatClampNeg &&& 63 = 28
      · rw [if_pos c28]
        obtain ⟨h2, q1, q2⟩ := lj_1112 (f_L_law_L18 sc n) hb2 hL hs hst
        rw [q2]
        exact go h2 q1
      rw [if_neg c28]
      by_cases c29 : sc.2 (nI (6 * t)).toNatClampNeg &&& 63 = 29
      · rw [if_pos c29]
        obtain ⟨h2, q1, q2⟩ := lj_1125 (f_L_law_L18 sc n) hb2 hL hs hst
        rw [q2]
        exact go h2 q1
      rw [if_neg c29]
      by_cases c30 : sc.2 (nI (6 * t)).toNatClampNeg &&& 63 = 30
      · rw [if_pos c30]
        obtain ⟨h2, q1, q2⟩ := lj_1148 (f_L_law_L18 sc n) hb2 hL hs hst
        rw [q2]
        exact go h2 q1
      rw [if_neg c30]
      by_cases c31 : sc.2 (nI (6 * t)).toNatClampNeg &&& 63 = 31
      · rw [if_pos c31]
        obtain ⟨h2, q1, q2⟩ := lj_1181 (f_L_law_L18 sc n) hb2 hL hs hst
        rw [q2]
        exact go h2 q1
      rw [if_neg c31]
      by_cases c32 : sc.2 (nI (6 * t)).toNatClampNeg &&& 63 = 32
      · rw [if_pos c32]
        obtain ⟨h2, q1, q2⟩ := lj_1224 (f_L_law_L18 sc n) hb2 hL hs hst
        rw [q2]
        exact go h2 q1
      rw [if_neg c32]
      by_cases c33 : sc.2 (nI (6 * t)).toNatClampNeg &&& 63 = 33
      · rw [if_pos c33]
        obtain ⟨h2, q1, q2⟩ := lj_1237 (f_L_law_L18 sc n) hb2 hL hs hst
        rw [q2]
        exact go h2 q1
      rw [if_neg c33]
      by_cases c34 : sc.2 (nI (6 * t)).toNatClampNeg &&& 63 = 34
      · rw [if_pos c34]
        obtain ⟨h2, q1, q2⟩ := lj_1270 (f_L_law_L18 sc n) hb2 hL hs hst
        rw [q2]
        exact go h2 q1
      rw [if_neg c34]
      rw [vl_e]
      exact go h (hmono t h hI)
