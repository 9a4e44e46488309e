def lsm (f : Nat → Nat) : List Nat → Nat
  | [] => 0
  | a :: r => f a + lsm f r
def cst (Q : Nat → Nat → Nat) : List Nat → Nat
  | [] => 0
  | a :: r => lsm (Q a) r + cst Q r
theorem lsm_le {f : Nat → Nat} (h : ∀ k, f k ≤ 6) : ∀ r : List Nat, lsm f r ≤ 6 * r.length
  | [] => Nat.le_refl _
  | a :: r => by
    have := lsm_le h r
    have := h a
    rw [lsm, List.length_cons]; omega
theorem cst_le {Q : Nat → Nat → Nat} (h : ∀ a k, Q a k ≤ 6) : ∀ (r : List Nat) (m : Nat), r.length ≤ m → m ≤ 7 → cst Q r ≤ 42 * r.length
  | [], _, _, _ => Nat.le_refl _
  | a :: r, m, h1, h2 => by
    rw [List.length_cons] at h1
    have := cst_le h r (m - 1) (by omega) (by omega)
    have := lsm_le (h a) r
    rw [cst, List.length_cons]; omega
def stO (Q : Nat → Nat → Nat) (x : Nat × Nat × List Nat) (r : List Nat) : Nat × Nat × List Nat := if cst Q r < x.1 then (cst Q r, 1, r) else if cst Q r = x.1 then (x.1, x.2.1 + 1, x.2.2) else x
def e0O : Nat × Nat × List Nat := (1000000, 0, [])
def smr (Q : Nat → Nat → Nat) (L : List (List Nat)) : Nat × Nat × List Nat := L.foldl (stO Q) e0O
def cmb (x y : Nat × Nat × List Nat) : Nat × Nat × List Nat := if y.1 < x.1 then y else if y.1 = x.1 then (x.1, x.2.1 + y.2.1, x.2.2) else x
theorem cmb_lt {x y : Nat × Nat × List Nat} (h : y.1 < x.1) : cmb x y = y := if_pos h
theorem cmb_eq {x y : Nat × Nat × List Nat} (h : y.1 = x.1) : cmb x y = (x.1, x.2.1 + y.2.1, x.2.2) := by
  unfold cmb; rw [if_neg (by omega), if_pos h]
theorem cmb_gt {x y : Nat × Nat × List Nat} (h : x.1 < y.1) : cmb x y = x := by
  unfold cmb; rw [if_neg (by omega), if_neg (by omega)]
theorem cmb_1 (x y : Nat × Nat × List Nat) : (cmb x y).1 = min x.1 y.1 := by
  rcases Nat.lt_trichotomy y.1 x.1 with c | c | c
  · rw [cmb_lt c]; omega
  · rw [cmb_eq c]; show x.1 = _; omega
  · rw [cmb_gt c]; omega
theorem cmb_as (x y z : Nat × Nat × List Nat) : cmb (cmb x y) z = cmb x (cmb y z) := by
  rcases Nat.lt_trichotomy y.1 x.1 with c | c | c
  · rw [cmb_lt c]
    exact (cmb_lt (by rw [cmb_1]; omega)).symm
  · rcases Nat.lt_trichotomy z.1 y.1 with d | d | d
    · rw [cmb_lt d, cmb_lt (y := z) (x := cmb x y) (by rw [cmb_1]; omega), cmb_lt (by omega)]
    · rw [cmb_eq d, cmb_eq c, cmb_eq (by show z.1 = x.1; omega), cmb_eq (by show y.1 = x.1; omega)]
      show (x.1, x.2.1 + y.2.1 + z.2.1, x.2.2) = (x.1, x.2.1 + (y.2.1 + z.2.1), x.2.2)
      rw [Nat.add_assoc]
    · rw [cmb_gt d, cmb_gt (by rw [cmb_1]; omega)]
  · rcases Nat.lt_trichotomy z.1 x.1 with d | d | d
    · rw [cmb_gt c, cmb_lt (x := y) (y := z) (by omega)]
    · rw [cmb_gt c, cmb_lt (x := y) (y := z) (by omega)]
    · rw [cmb_gt c, cmb_gt d, cmb_gt (by rw [cmb_1]; omega)]
theorem cmb_e0 {x : Nat × Nat × List Nat} (h : x.1 ≤ 1000000) : cmb x e0O = x := by
  rcases Nat.lt_trichotomy e0O.1 x.1 with c | c | c
  · have : e0O.1 = 1000000 := rfl
    omega
  · rw [cmb_eq c]; rfl
  · rw [cmb_gt c]
theorem stO_c {Q : Nat → Nat → Nat} {x : Nat × Nat × List Nat} {r : List Nat} (h : cst Q r < 1000000) : stO Q x r = cmb x (stO Q e0O r) := by
  have e : stO Q e0O r = (cst Q r, 1, r) := if_pos h
  rw [e]
  unfold stO cmb
  rfl
theorem fold_c {Q : Nat → Nat → Nat} : ∀ (L : List (List Nat)) (x : Nat × Nat × List Nat), (∀ r ∈ L, cst Q r < 1000000) → x.1 ≤ 1000000 → L.foldl (stO Q) x = cmb x (smr Q L)
  | [], x, _, hx => (cmb_e0 hx).symm
  | r :: L, x, h, hx => by
    have hr := h r List.mem_cons_self
    have e : stO Q e0O r = (cst Q r, 1, r) := if_pos hr
    unfold smr
    rw [List.foldl_cons, List.foldl_cons, fold_c L _ (fun q hq => h q (List.mem_cons_of_mem r hq)) (by rw [stO_c hr, cmb_1]; omega), fold_c L (stO Q e0O r) (fun q hq => h q (List.mem_cons_of_mem r hq)) (by rw [e]; show cst Q r ≤ _; omega), stO_c hr (x := x), cmb_as]
/-- a head ahead of all -/
theorem fold_h {Q : Nat → Nat → Nat} {A j : Nat} : ∀ (L : List (List Nat)) (x : Nat × Nat × List Nat), (∀ r ∈ L, lsm (Q j) r = A) → (L.map (fun r => j :: r)).foldl (stO Q) (A + x.1, x.2.1, j :: x.2.2) = (A + (L.foldl (stO Q) x).1, (L.foldl (stO Q) x).2.1, j :: (L.foldl (stO Q) x).2.2)
  | [], x, _ => rfl
  | r :: L, x, h => by
    have hr := h r List.mem_cons_self
    rw [List.map_cons, List.foldl_cons, List.foldl_cons, ← fold_h L (stO Q x r) (fun q hq => h q (List.mem_cons_of_mem r hq))]
    congr 1
    have e : cst Q (j :: r) = A + cst Q r := by rw [cst, hr]
    unfold stO
    rw [e]
    by_cases c : cst Q r < x.1
    · rw [if_pos c, if_pos (by show A + cst Q r < A + x.1; omega)]
    · rw [if_neg c, if_neg (by show ¬ A + cst Q r < A + x.1; omega)]
      by_cases c2 : cst Q r = x.1
      · rw [if_pos c2, if_pos (by show A + cst Q r = A + x.1; omega)]
      · rw [if_neg c2, if_neg (by show ¬ A + cst Q r = A + x.1; omega)]
def hdO (A j : Nat) (y : Nat × Nat × List Nat) : Nat × Nat × List Nat := (A + y.1, y.2.1, j :: y.2.2)
theorem smr_h {Q : Nat → Nat → Nat} {A j : Nat} {L : List (List Nat)} (h : ∀ r ∈ L, lsm (Q j) r = A) (hb : ∀ r ∈ L, A + cst Q r < 1000000) (hL : L ≠ []) : smr Q (L.map (fun r => j :: r)) = hdO A j (smr Q L) := by
  cases L with
  | nil => exact absurd rfl hL
  | cons r L =>
    have hr := h r List.mem_cons_self
    have hbr := hb r List.mem_cons_self
    unfold smr
    rw [List.map_cons, List.foldl_cons, List.foldl_cons]
    have e1 : stO Q e0O (j :: r) = (A + cst Q r, 1, j :: r) := by
      unfold stO
      rw [cst, hr, if_pos (by show A + cst Q r < 1000000; omega)]
    have e2 : stO Q e0O r = (cst Q r, 1, r) := if_pos (by show cst Q r < 1000000; omega)
    rw [e1, e2]
    exact fold_h L (cst Q r, 1, r) (fun q hq => h q (List.mem_cons_of_mem r hq))
/-- subsets as bits -/
def SS (n U : Nat) : List Nat := (List.range n).filter (fun j => U.testBit j)
def rst (U j : Nat) : Nat := U &&& (127 - 2 ^ j)
def crd (n U : Nat) : Nat := (SS n U).length
theorem rst_b : ∀ U, U < 128 → ∀ j, j < 7 → ∀ k, k < 7 → (rst U j).testBit k = (U.testBit k && !Nat.beq k j) := by decide +kernel
theorem rst_i : ∀ U, U < 128 → ∀ j, j < 7 → (nI U &&& (((1 : Int32) <<< (nI j &&& 31)) ^^^ (-1 : Int32))) = nI (rst U j) := by decide +kernel
theorem rst_l : ∀ U, U < 128 → ∀ j, j < 7 → U.testBit j = true → rst U j < U := by decide +kernel
theorem crd_s : ∀ n, n < 8 → ∀ U, U < 128 → ∀ j, j < 7 → (j < n && U.testBit j) = true → Nat.beq (crd n U) (crd n (rst U j) + 1) = true := by decide +kernel
theorem crd_0 : ∀ n, n < 8 → ∀ U, U < 128 → ∀ j, j < 7 → (j < n && U.testBit j) = true → Nat.beq (crd n U) 0 = false := by decide +kernel
theorem crd_all : ∀ n, n < 8 → crd n (2 ^ n - 1) = n ∧ SS n (2 ^ n - 1) = List.range n ∧ ((1 : Int32) <<< (nI n &&& 31)) - (1 : Int32) = nI (2 ^ n - 1) := by decide +kernel
theorem SS_rst {n U j : Nat} (hn : n ≤ 7) (hU : U < 128) (hj : j < 7) : (SS n U).filter (fun x => !Nat.beq x j) = SS n (rst U j) := by
  unfold SS
  rw [List.filter_filter]
  apply List.filter_congr
  intro x hx
  have hx := List.mem_range.mp hx
  rw [rst_b U hU j hj x (by omega), Bool.and_comm]
theorem pms_len {m : Nat} : ∀ {S : List Nat} {r : List Nat}, r ∈ pms m S → r.length = m := by
  induction m with
  | zero => intro S r h; rw [pms, List.mem_singleton] at h; rw [h]; rfl
  | succ m ih =>
    intro S r h
    rw [pms, List.mem_flatMap] at h
    obtain ⟨j, -, h⟩ := h
    rw [List.mem_map] at h
    obtain ⟨q, hq, rfl⟩ := h
    rw [List.length_cons, ih hq]
def bf (f : Nat → Nat) (U k : Nat) : Nat := if U.testBit k = true then f k else 0
theorem smN_congr {F G : Nat → Nat} : ∀ {n : Nat}, (∀ k, k < n → F k = G k) → smN F n = smN G n
  | 0, _ => rfl
  | n + 1, h => by unfold smN; rw [smN_congr (fun k hk => h k (by omega)), h n (by omega)]
theorem smN_add {F G : Nat → Nat} {j v : Nat} : ∀ {n : Nat}, j < n → G j = F j + v → (∀ k, k < n → k ≠ j → G k = F k) → smN G n = smN F n + v
  | 0, h, _, _ => absurd h (Nat.not_lt_zero j)
  | n + 1, h, e, g => by
    unfold smN
    by_cases q : j = n
    · subst q
      rw [e, smN_congr (fun k hk => g k (by omega) (by omega))]; omega
    · rw [smN_add (by omega) e (fun k hk => g k (by omega)), g n (by omega) (by omega)]; omega
theorem smN_0 {F : Nat → Nat} : ∀ {n : Nat}, (∀ k, k < n → F k = 0) → smN F n = 0
  | 0, _ => rfl
  | n + 1, h => by unfold smN; rw [smN_0 (fun k hk => h k (by omega)), h n (by omega)]
theorem bf_rst {f : Nat → Nat} {n U j : Nat} (hn : n ≤ 7) (hU : U < 128) (hj : j < n) (b : U.testBit j = true) : smN (bf f U) n = smN (bf f (rst U j)) n + f j := by
  refine smN_add hj ?_ (fun k hk hne => ?_)
  · unfold bf
    rw [rst_b U hU j (by omega) j (by omega), b, if_pos rfl]
    simp [Nat.beq_refl]
  · unfold bf
    have e : Nat.beq k j = false := by
      cases e : Nat.beq k j with
      | false => rfl
      | true => exact absurd (Nat.eq_of_beq_eq_true e) hne
    rw [rst_b U hU j (by omega) k (by omega), e]
    simp
theorem pms_sum {f : Nat → Nat} {n : Nat} (hn : n ≤ 7) : ∀ {m U : Nat} {r : List Nat}, U < 128 → crd n U = m → r ∈ pms m (SS n U) → lsm f r = smN (bf f U) n := by
  intro m
  induction m with
  | zero =>
    intro U r hU hc h
    rw [pms, List.mem_singleton] at h
    rw [h]
    refine (smN_0 (fun k hk => ?_)).symm
    unfold bf
    cases b : U.testBit k with
    | false => rfl
    | true =>
      have := crd_0 n (by omega) U hU k (by omega) (by simp [hk, b])
      rw [hc] at this
      exact absurd this (by decide)
  | succ m ih =>
    intro U r hU hc h
    rw [pms, List.mem_flatMap] at h
    obtain ⟨j, hj, h⟩ := h
    rw [List.mem_map] at h
    obtain ⟨q, hq, rfl⟩ := h
    unfold SS at hj
    rw [List.mem_filter, List.mem_range] at hj
    rw [SS_rst hn hU (by omega)] at hq
    have c1 := Nat.eq_of_beq_eq_true (crd_s n (by omega) U hU j (by omega) (by simp [hj.1, hj.2]))
    have l1 := rst_l U hU j (by omega) hj.2
    rw [lsm, ih (by omega) (by omega) hq, bf_rst hn hU hj.1 hj.2]
    omega
theorem pms_ne {n : Nat} (hn : n ≤ 7) : ∀ {m U : Nat}, U < 128 → crd n U = m → pms m (SS n U) ≠ [] := by
  intro m
  induction m with
  | zero => intro U _ _; rw [pms]; exact List.cons_ne_nil _ _
  | succ m ih =>
    intro U hU hc h
    cases e : SS n U with
    | nil => unfold crd at hc; rw [e] at hc; cases hc
    | cons j S =>
      have hj : j ∈ SS n U := by rw [e]; exact List.mem_cons_self
      rw [pms, List.flatMap_eq_nil_iff] at h
      have h2 := h j hj
      rw [SS_rst hn hU (by unfold SS at hj; rw [List.mem_filter, List.mem_range] at hj; omega), List.map_eq_nil_iff] at h2
      unfold SS at hj
      rw [List.mem_filter, List.mem_range] at hj
      have c1 := Nat.eq_of_beq_eq_true (crd_s n (by omega) U hU j (by omega) (by simp [hj.1, hj.2]))
      have l1 := rst_l U hU j (by omega) hj.2
      exact ih (by omega) (by omega) h2
