/-- only numbers change, and only at places P -/
def Upd (h h2 : Hp) (P : Nat → Nat → Prop) : Prop := (gN h2 = gN h ∧ gS h2 = gS h ∧ (∀ a, gK h2 a = gK h a) ∧ (∀ a, gL h2 a = gL h a) ∧ ∀ a k, gR h2 a k = gR h a k) ∧ ∀ a k, ¬ P a k → gI h2 a k = gI h a k
theorem Upd_rf (h : Hp) (P : Nat → Nat → Prop) : Upd h h P := ⟨⟨rfl, rfl, fun _ => rfl, fun _ => rfl, fun _ _ => rfl⟩, fun _ _ _ => rfl⟩
theorem Upd.tr {h h1 h2 : Hp} {P : Nat → Nat → Prop} (u : Upd h h1 P) (w : Upd h1 h2 P) : Upd h h2 P := ⟨⟨w.1.1.trans u.1.1, w.1.2.1.trans u.1.2.1, fun a => (w.1.2.2.1 a).trans (u.1.2.2.1 a), fun a => (w.1.2.2.2.1 a).trans (u.1.2.2.2.1 a), fun a k => (w.1.2.2.2.2 a k).trans (u.1.2.2.2.2 a k)⟩, fun a k q => (w.2 a k q).trans (u.2 a k q)⟩
theorem Upd.mono {h h2 : Hp} {P Q : Nat → Nat → Prop} (u : Upd h h2 P) (pq : ∀ a k, P a k → Q a k) : Upd h h2 Q := ⟨u.1, fun a k q => u.2 a k (fun z => q (pq a k z))⟩
theorem Upd_sI {h : Hp} {P : Nat → Nat → Prop} {a k : Nat} {v : Int32} (p : P a k) : Upd h (sI h a k v) P := ⟨⟨rfl, rfl, fun _ => rfl, fun _ => rfl, fun _ _ => rfl⟩, fun b j q => by
  rw [xI_sI, if_neg]
  rintro ⟨rfl, rfl⟩
  exact q p⟩
theorem Upd_sW {h : Hp} {P : Nat → Nat → Prop} {a : Nat} {f : Nat → Int32} (p : ∀ k, P a k) : Upd h (sW h a f) P := ⟨⟨rfl, rfl, fun _ => rfl, fun _ => rfl, fun _ _ => rfl⟩, fun b j q => by
  rw [gI_sW, if_neg]
  rintro rfl
  exact q (p j)⟩
theorem Upd.sh {h h2 : Hp} {P : Nat → Nat → Prop} (u : Upd h h2 P) (s : SH h) : SH h2 := ⟨by rw [u.1.1]; exact s.1, fun a ha => ⟨(u.1.2.2.1 a).trans (s.2.1 a ha).1, (u.1.2.2.2.1 a).trans (s.2.1 a ha).2⟩, fun q hq => (u.1.2.2.2.2 _ _).trans (s.2.2 q hq)⟩
/-- a step of both sides: the same answer, what holds behind it, which places changed -/
def Out (h : Hp) (P : Nat → Nat → Prop) (post : Hp → Prop) (p : Option (Int32 × Hp)) (q : Hp → Option (Int32 × Hp)) : Prop := ∃ (r : Int32) (h1 h2 : Hp), p = some (r, h1) ∧ SH h1 ∧ q h1 = some (r, h2) ∧ post h2 ∧ Upd h h2 P
theorem Out.same {h : Hp} {P : Nat → Nat → Prop} {post : Hp → Prop} {p : Option (Int32 × Hp)} {q : Hp → Option (Int32 × Hp)} (r : Int32) (hs : SH h) (e1 : p = some (r, h)) (e2 : q h = some (r, h)) (hp : post h) : Out h P post p q := ⟨r, h, h, e1, hs, e2, hp, Upd_rf h P⟩
theorem ad {a b : Int32} (h1 : -2147483648 ≤ a.toInt + b.toInt) (h2 : a.toInt + b.toInt < 2147483648) : (a + b).toInt = a.toInt + b.toInt := Jvm.Kit.i32_add (by omega) (by omega)
theorem le_iff (x y : Int32) : x ≤ y ↔ x.toInt ≤ y.toInt := Int32.le_iff_toInt_le
theorem lt_iff (x y : Int32) : x < y ↔ x.toInt < y.toInt := Int32.lt_iff_toInt_lt
theorem eq_iff (x y : Int32) : x = y ↔ x.toInt = y.toInt := Int32.toInt_inj.symm
/-- a number in range, as a Nat -/
theorem of_rng {x : Int32} {b : Nat} (hb : b < 2 ^ 31) (h1 : 0 ≤ x.toInt) (h2 : x.toInt < b) : ∃ j : Nat, j < b ∧ x = nI j := by
  refine ⟨x.toInt.toNat, by omega, ?_⟩
  apply Int32.toInt_inj.mp
  rw [nI_toInt (by omega)]
  omega
theorem n_1_0 : ((1 : Int32) = 0) = False := by decide
theorem n_0_0 : ((0 : Int32) = 0) = True := by decide
theorem isIn_t {h : Hp} {x : Int32} {lo hi : Int64} (c : lo.toInt ≤ x.toInt ∧ x.toInt ≤ hi.toInt) : f_X10_isIn h x.toInt64 lo hi = some (1, h) := by
  unfold f_X10_isIn
  simp only [lg_cmp_lt, lg_cmp_gt, Int64.lt_iff_toInt_lt, Int32.toInt_toInt64]
  rw [if_neg (by omega), if_neg (by omega)]
theorem isIn_f {h : Hp} {x : Int32} {lo hi : Int64} (c : ¬ (lo.toInt ≤ x.toInt ∧ x.toInt ≤ hi.toInt)) : f_X10_isIn h x.toInt64 lo hi = some (0, h) := by
  unfold f_X10_isIn
  simp only [lg_cmp_lt, lg_cmp_gt, Int64.lt_iff_toInt_lt, Int32.toInt_toInt64]
  by_cases h1 : x.toInt < lo.toInt
  · rw [if_pos h1]
  · rw [if_neg h1, if_pos (by omega)]
theorem letM_t {h : Hp} {x : Int32} (c : 0 ≤ x.toInt ∧ x.toInt < 26) : f_X10_isLetter h x = some (1, h) := by
  unfold f_X10_isLetter
  rw [if_neg (by rw [lt_iff]; show ¬ x.toInt < 0; omega), if_neg (by rw [le_iff]; show ¬ 26 ≤ x.toInt; omega)]
theorem letM_f {h : Hp} {x : Int32} (c : ¬ (0 ≤ x.toInt ∧ x.toInt < 26)) : f_X10_isLetter h x = some (0, h) := by
  unfold f_X10_isLetter
  by_cases h1 : x < 0
  · rw [if_pos h1]
  · have h1' : ¬ x.toInt < 0 := by rw [lt_iff] at h1; exact h1
    rw [if_neg h1, if_pos (by rw [le_iff]; show 26 ≤ x.toInt; omega)]
theorem letC_t {h : Hp} {x : Int32} (c : 0 ≤ x.toInt ∧ x.toInt < 26) : f_X9_isLetter h x = some (1, h) := by
  unfold f_X9_isLetter
  rw [if_neg (by rw [lt_iff]; show ¬ x.toInt < 0; omega), if_neg (by rw [le_iff]; show ¬ 26 ≤ x.toInt; omega)]
theorem letC_f {h : Hp} {x : Int32} (c : ¬ (0 ≤ x.toInt ∧ x.toInt < 26)) : f_X9_isLetter h x = some (0, h) := by
  unfold f_X9_isLetter
  by_cases h1 : x < 0
  · rw [if_pos h1]
  · have h1' : ¬ x.toInt < 0 := by rw [lt_iff] at h1; exact h1
    rw [if_neg h1, if_pos (by rw [le_iff]; show 26 ≤ x.toInt; omega)]
