theorem flat_filter {f : Nat → List (List Nat)} {q : Nat → Bool} : ∀ L : List Nat, (L.filter q).flatMap f = L.flatMap (fun j => if q j = true then f j else [])
  | [] => rfl
  | a :: L => by
    rw [List.filter_cons, List.flatMap_cons, ← flat_filter L]
    cases q a
    · simp
    · simp [List.flatMap_cons]
def SU (n U : Nat) : List Nat := (List.range n).filter (fun j => !U.testBit j)
theorem SU_or (n U j : Nat) : (SU n U).filter (fun x => !Nat.beq x j) = SU n (U ||| 2 ^ j) := by
  unfold SU
  rw [List.filter_filter]
  congr 1
  funext x
  rw [Nat.testBit_or, Nat.testBit_two_pow]
  by_cases c : x = j
  · subst c
    simp [Nat.beq_refl]
  · have e : Nat.beq x j = false := by
      cases e : Nat.beq x j with
      | false => rfl
      | true => exact absurd (Nat.eq_of_beq_eq_true e) c
    have e2 : decide (j = x) = false := decide_eq_false (fun z => c z.symm)
    rw [e, e2]; simp
theorem SU_0 (n : Nat) : SU n 0 = List.range n := by
  unfold SU
  simp
/-- how a prefix may go on -/
def cmps (n m : Nat) (l : List Nat) (U : Nat) : List (List Nat) := (pms m (SU n U)).map (fun r => l ++ r)
theorem cmps_s (n m : Nat) (l : List Nat) (U : Nat) : cmps n (m + 1) l U = (List.range n).flatMap (fun j => if (!U.testBit j) = true then cmps n m (l ++ [j]) (U ||| 2 ^ j) else []) := by
  unfold cmps
  rw [pms, List.map_flatMap]
  unfold SU
  rw [flat_filter]
  congr 1
  funext j
  cases U.testBit j
  · have e := SU_or n U j
    unfold SU at e
    simp only [Bool.not_false, if_true, List.map_map]
    rw [e]
    congr 1
    funext r
    simp
  · rfl
theorem flat_s {β : Type} (imp : β → List Nat → β) (b : β) (ch : Nat → List (List Nat)) (j : Nat) : ((List.range (j + 1)).flatMap ch).foldl imp b = (ch j).foldl imp (((List.range j).flatMap ch).foldl imp b) := by
  rw [List.range_succ, List.flatMap_append, List.foldl_append]
  congr 1
  simp
theorem run_mono (s p d : Nat → Nat) : ∀ (r : List Nat) (x : Nat × Nat × Nat), x.2.1 ≤ (r.foldl (stepP s p d) x).2.1 ∧ x.2.2 ≤ (r.foldl (stepP s p d) x).2.2
  | [], x => ⟨Nat.le_refl _, Nat.le_refl _⟩
  | j :: r, x => by
    have := run_mono s p d r (stepP s p d x j)
    rw [List.foldl_cons]
    have h1 : x.2.1 ≤ (stepP s p d x j).2.1 := by show x.2.1 ≤ max (x.1 + s j) x.2.1 + p j; omega
    have h2 : x.2.2 ≤ (stepP s p d x j).2.2 := Nat.le_add_right _ _
    omega
theorem runP_app (s p d : Nat → Nat) (l r : List Nat) : runP s p d (l ++ r) = r.foldl (stepP s p d) (runP s p d l) := by
  unfold runP; rw [List.foldl_append]
theorem runP_s (s p d : Nat → Nat) (l : List Nat) (j : Nat) : runP s p d (l ++ [j]) = stepP s p d (runP s p d l) j := runP_app s p d l [j]
def betP (s p d : Nat → Nat) (l : List Nat) (b : Nat × Nat × List Nat) : Prop := (runP s p d l).2.2 < b.1 ∨ ((runP s p d l).2.2 = b.1 ∧ (runP s p d l).2.1 < b.2.1)
theorem prune {s p d : Nat → Nat} {b : Nat × Nat × List Nat} {l : List Nat} (hn : ¬ betP s p d l b) : ∀ L : List (List Nat), (L.map (fun r => l ++ r)).foldl (impP s p d) b = b
  | [] => rfl
  | r :: L => by
    rw [List.map_cons, List.foldl_cons]
    have e : impP s p d b (l ++ r) = b := by
      unfold impP
      have := run_mono s p d r (runP s p d l)
      rw [← runP_app] at this
      unfold betP at hn
      rw [if_neg (by omega)]
    rw [e]
    exact prune hn L
def PDf (a k : Nat) : Prop := (29 ≤ a ∧ a ≤ 32) ∨ (a = 25 ∧ (k = 9 ∨ k = 10))
def BsR (h : Hp) (s p d : Nat → Nat) (n : Nat) (b : Nat × Nat × List Nat) : Prop := gI h 25 9 = nI b.1 ∧ gI h 25 10 = nI b.2.1 ∧ b.1 < 2 ^ 31 ∧ b.2.1 < 2 ^ 31 ∧ (b.2.2 ≠ [] → ∀ k, k < n → gI h 31 k = nI (b.2.2.getD k 0) ∧ gI h 32 k = nI (endP s p d b.2.2 k))
def TrR (h : Hp) (s p d : Nat → Nat) (l : List Nat) : Prop := ∀ k, k < l.length → gI h 29 k = nI (l.getD k 0) ∧ gI h 30 k = nI (endP s p d l k)
theorem okC_le {h : Hp} {a b n A B : Nat} (ha : okOb h a 11 = true) (hb : okOb h b 11 = true) (la : gL h a = A) (lb : gL h b = B) (h1 : n ≤ A) (h2 : n ≤ B) (hn : n < 2 ^ 31) : okC h a b 0 0 (nI n) = true := by
  unfold okC
  rw [ha, hb, la, lb, nI_toInt hn, k0]
  simp only [Bool.true_and, Bool.and_eq_true, decide_eq_true_eq]
  omega
theorem bit_t : ∀ U, U < 128 → ∀ j, j < 7 → (((nI U >>> (nI j &&& 31)) &&& (1 : Int32)) = 0 ↔ U.testBit j = false) := by decide +kernel
theorem bit_o : ∀ U, U < 128 → ∀ j, j < 7 → nI U ||| ((1 : Int32) <<< (nI j &&& 31)) = nI (U ||| 2 ^ j) := by decide +kernel
theorem maxI {a b : Nat} (ha : a < 2 ^ 31) (hb : b < 2 ^ 31) : (if nI a < nI b then nI b else nI a) = nI (max a b) := by
  by_cases c : a < b
  · rw [if_pos (nI_lt c hb), Nat.max_eq_right (by omega)]
  · rw [if_neg (nI_nlt (by omega) ha), Nat.max_eq_left (by omega)]
theorem subI {a b : Nat} (ha : a < 2 ^ 30) (hb : b < 2 ^ 30) : (if (0 : Int32) < (nI a - nI b) then (nI a - nI b) else (0 : Int32)) = nI (a - b) := by
  by_cases c : b < a
  · rw [if_pos (by rw [lt_iff, pk_sub_toInt ha hb, k0]; omega), pk_sub (by omega)]
  · rw [if_neg (by rw [lt_iff, pk_sub_toInt ha hb, k0]; omega), show a - b = 0 by omega]; rfl
theorem endP_lt {s p d : Nat → Nat} {l : List Nat} {j k : Nat} (hk : k < l.length) : endP s p d (l ++ [j]) k = endP s p d l k := by
  unfold endP
  rw [List.take_append_of_le_length (by omega)]
theorem endP_last (s p d : Nat → Nat) (l : List Nat) (j : Nat) : endP s p d (l ++ [j]) l.length = (stepP s p d (runP s p d l) j).2.1 := by
  unfold endP
  rw [List.take_of_length_le (by simp), runP_s]
theorem getD_lt {l : List Nat} {j k : Nat} (hk : k < l.length) : (l ++ [j]).getD k 0 = l.getD k 0 := by
  simp [List.getD_eq_getElem?_getD, List.getElem?_append_left hk]
theorem getD_last (l : List Nat) (j : Nat) : (l ++ [j]).getD l.length 0 = j := by
  simp [List.getD_eq_getElem?_getD]
/-- what the leaf leaves -/
def lfH (h : Hp) (n : Nat) (t e : Int32) : Hp := sW (sW (sI (sI h 25 9 t) 25 10 e) 31 (va_cpy (gI h 29) (gI h 31) 0 0 n)) 32 (va_cpy (gI h 30) (gI h 32) 0 0 n)
set_option maxRecDepth 100000 in
theorem dfs_leaf {h : Hp} (hs : SH h) {n : Nat} (hn : n ≤ 7) (e3 : gI h 25 3 = nI n) (fuel : Nat) (U x : Int32) {E T B F : Nat} (hE : E < 2 ^ 31) (hT : T < 2 ^ 31) (hB : B < 2 ^ 31) (hF : F < 2 ^ 31) (e9 : gI h 25 9 = nI B) (e10 : gI h 25 10 = nI F) (hb : T < B ∨ (T = B ∧ E < F)) : f_X4_tryFrom (fuel + 1) h 25 (nI n) U x (nI E) (nI T) = some ((), lfH h n (nI T) (nI E)) := by
  have x1 : ¬ nI B < nI T := nI_nlt (by omega) (by omega)
  have x2 : ¬ nI n < nI n := nI_nlt (Nat.le_refl _) (by omega)
  have x3 : ∀ h' : Hp, SH h' → okC h' 29 31 0 0 (nI n) = true := fun h' w => okC_le (sO29 w) (sO31 w) (sL29 w) (sL31 w) hn hn (by omega)
  have x4 : ∀ h' : Hp, SH h' → okC h' 30 32 0 0 (nI n) = true := fun h' w => okC_le (sO30 w) (sO32 w) (sL30 w) (sL32 w) hn hn (by omega)
  have x5 : (nI n).toNatClampNeg = n := nI_clamp (by omega)
  have s2 : SH (sI (sI h 25 9 (nI T)) 25 10 (nI E)) := hs
  have s3 : SH (sW (sI (sI h 25 9 (nI T)) 25 10 (nI E)) 31 (va_cpy (gI h 29) (gI h 31) 0 0 n)) := hs
  have y3 := x3 _ s2
  have y4 := x4 _ s3
  have z1 : gI (sI (sI h 25 9 (nI T)) 25 10 (nI E)) 29 = gI h 29 := by funext k; simp [xI_sI]
  have z2 : gI (sI (sI h 25 9 (nI T)) 25 10 (nI E)) 31 = gI h 31 := by funext k; simp [xI_sI]
  have z3 : gI (sW (sI (sI h 25 9 (nI T)) 25 10 (nI E)) 31 (va_cpy (gI h 29) (gI h 31) 0 0 n)) 30 = gI h 30 := by funext k; simp [xI_sI, gI_sW]
  have z4 : gI (sW (sI (sI h 25 9 (nI T)) 25 10 (nI E)) 31 (va_cpy (gI h 29) (gI h 31) 0 0 n)) 32 = gI h 32 := by funext k; simp [xI_sI, gI_sW]
  have z5 : gI (sI (sI h 25 9 (nI T)) 25 10 (nI E)) 25 3 = nI n := by simp [xI_sI, e3]
  have z6 : gI (sW (sI (sI h 25 9 (nI T)) 25 10 (nI E)) 31 (va_cpy (gI h 29) (gI h 31) 0 0 n)) 25 3 = nI n := by simp [xI_sI, gI_sW, e3]
  have r4 := sR25_4 hs
  have r5 := sR25_5 hs
  have r6 := sR25_6 hs
  have r7 := sR25_7 hs
  unfold lfH
  rw [f_X4_tryFrom]
  by_cases c : T = B
  · have w1 : nI T = nI B := by rw [c]
    have w2 : nI E < nI F := nI_lt (by omega) hF
    simp only [sO25 hs, gd_e, vl_e, e9, e10, e3, x1, x2, w2, if_false, if_true, xR_sI, xR_sW, r4, r5, r6, r7, un_e, z5, y3, z1, z2, z_cl, x5, z6, y4, z3, z4]
    rw [w1] at y3 y4 z5 z6 z1 z2 z3 z4 ⊢
    simp only [if_true, z5, y3, z1, z2, z6, y4, z3, z4, gd_e, x5]
  · have w1 : ¬ nI T = nI B := fun w => c ((nI_eq hT hB).mp w)
    simp only [sO25 hs, gd_e, vl_e, e9, e3, x1, x2, w1, if_false, xR_sI, xR_sW, r4, r5, r6, r7, un_e, z5, y3, z1, z2, z_cl, x5, z6, y4, z3, z4]
set_option maxRecDepth 100000 in
theorem dfs_prune {h : Hp} (hs : SH h) (fuel : Nat) (a U x : Int32) {E T B F : Nat} (hE : E < 2 ^ 31) (hT : T < 2 ^ 31) (hB : B < 2 ^ 31) (hF : F < 2 ^ 31) (e9 : gI h 25 9 = nI B) (e10 : gI h 25 10 = nI F) (hb : ¬ (T < B ∨ (T = B ∧ E < F))) : f_X4_tryFrom (fuel + 1) h 25 a U x (nI E) (nI T) = some ((), h) := by
  rw [f_X4_tryFrom]
  by_cases c : B < T
  · have x1 : nI B < nI T := nI_lt c hT
    simp only [sO25 hs, gd_e, vl_e, e9, x1, if_true]
  · have c2 : T = B := by omega
    have x1 : ¬ nI B < nI T := nI_nlt (by omega) (by omega)
    have x2 : ¬ nI E < nI F := nI_nlt (by omega) hE
    have x3 : nI T = nI B := by rw [c2]
    simp only [sO25 hs, gd_e, vl_e, e9, e10, x1, x3, x2, if_true, if_false, ite_self]
set_option maxRecDepth 100000 in
theorem dfs_go {h : Hp} (hs : SH h) {n q : Nat} (hn : n ≤ 7) (hq : q < n) (e3 : gI h 25 3 = nI n) (fuel : Nat) (U x : Int32) {E T B F : Nat} (hE : E < 2 ^ 31) (hT : T < 2 ^ 31) (hB : B < 2 ^ 31) (hF : F < 2 ^ 31) (e9 : gI h 25 9 = nI B) (e10 : gI h 25 10 = nI F) (hb : T < B ∨ (T = B ∧ E < F)) : f_X4_tryFrom (fuel + 1) h 25 (nI q) U x (nI E) (nI T) = f_X4_tryFrom_L86 (f_X4_tryFrom fuel) 6000 25 (nI q) U x (nI E) (nI T) 0 h := by
  have x1 : ¬ nI B < nI T := nI_nlt (by omega) (by omega)
  have x2 : nI q < nI n := nI_lt hq (by omega)
  rw [f_X4_tryFrom]
  by_cases c : T = B
  · subst c
    have w2 : nI E < nI F := nI_lt (by omega) hF
    simp only [sO25 hs, gd_e, vl_e, e9, e10, e3, x1, x2, w2, if_false, if_true]
  · have w1 : ¬ nI T = nI B := fun w => c ((nI_eq hT hB).mp w)
    simp only [sO25 hs, gd_e, vl_e, e9, e3, x1, x2, w1, if_false, if_true]
def bdP (s p d : Nat → Nat) (l : List Nat) : Prop := (runP s p d l).1 ≤ 50 * l.length ∧ (runP s p d l).2.1 ≤ 100 * l.length ∧ (runP s p d l).2.2 ≤ 1000 * l.length
theorem bdP_s {s p d : Nat → Nat} {l : List Nat} {j : Nat} (hl : l.length < 7) (h1 : s j ≤ 50) (h2 : p j ≤ 50) (b : bdP s p d l) : bdP s p d (l ++ [j]) := by
  obtain ⟨b1, b2, b3⟩ := b
  unfold bdP
  rw [runP_s, List.length_append, List.length_singleton]
  refine ⟨?_, ?_, ?_⟩
  · show (runP s p d l).1 + s j ≤ _
    omega
  · show max ((runP s p d l).1 + s j) (runP s p d l).2.1 + p j ≤ _
    omega
  · show (runP s p d l).2.2 + (max ((runP s p d l).1 + s j) (runP s p d l).2.1 + p j - d j) ≤ _
    omega
theorem lfH_upd (h : Hp) (n : Nat) (t e : Int32) : Upd h (lfH h n t e) PDf := (((Upd_sI (P := PDf) (by unfold PDf; omega)).tr (Upd_sI (by unfold PDf; omega))).tr (Upd_sW (fun _ => by unfold PDf; omega))).tr (Upd_sW (fun _ => by unfold PDf; omega))
theorem lfH_bs {h : Hp} {s p d : Nat → Nat} {n : Nat} {l : List Nat} (hl : l.length = n) (tr : TrR h s p d l) (hT : (runP s p d l).2.2 < 2 ^ 31) (hE : (runP s p d l).2.1 < 2 ^ 31) : BsR (lfH h n (nI (runP s p d l).2.2) (nI (runP s p d l).2.1)) s p d n ((runP s p d l).2.2, (runP s p d l).2.1, l) := by
  unfold BsR lfH
  refine ⟨by simp [xI_sI, gI_sW], by simp [xI_sI, gI_sW], hT, hE, fun _ k hk => ⟨?_, ?_⟩⟩
  · rw [gI_sW, if_neg (by decide), gI_sW, if_pos rfl, pk_cpy_in (Nat.zero_le _) (by omega)]
    simp only [Nat.zero_add, Nat.sub_zero]
    exact (tr k (by omega)).1
  · rw [gI_sW, if_pos rfl, pk_cpy_in (Nat.zero_le _) (by omega)]
    simp only [Nat.zero_add, Nat.sub_zero]
    exact (tr k (by omega)).2
theorem BsR.fr {h h2 : Hp} {s p d : Nat → Nat} {n : Nat} {b : Nat × Nat × List Nat} {P : Nat → Nat → Prop} (u : Upd h h2 P) (hQ : ¬ P 25 9 ∧ ¬ P 25 10) (hP : ∀ k, ¬ P 31 k ∧ ¬ P 32 k) (r : BsR h s p d n b) : BsR h2 s p d n b := by
  obtain ⟨r1, r2, r3, r4, r5⟩ := r
  refine ⟨by rw [u.2 _ _ hQ.1]; exact r1, by rw [u.2 _ _ hQ.2]; exact r2, r3, r4, fun w k hk => ?_⟩
  rw [u.2 _ _ (hP k).1, u.2 _ _ (hP k).2]; exact r5 w k hk
theorem imp_lt {s p d : Nat → Nat} {b : Nat × Nat × List Nat} {l : List Nat} (h : betP s p d l b) : impP s p d b l = ((runP s p d l).2.2, (runP s p d l).2.1, l) := by
  unfold impP; exact if_pos h
set_option maxRecDepth 100000 in
/-- the class's search goes over all orders that go on with a prefix -/
theorem dfs {s p d : Nat → Nat} {n : Nat} (hn : n ≤ 7) : ∀ (m fuel : Nat) (h : Hp) (U : Nat) (l : List Nat) (b : Nat × Nat × List Nat), SH h → gI h 25 3 = nI n → JD h s p d n → l.length + m = n → m < fuel → U < 128 → TrR h s p d l → BsR h s p d n b → bdP s p d l → ∃ h', f_X4_tryFrom fuel h 25 (nI l.length) (nI U) (nI (runP s p d l).1) (nI (runP s p d l).2.1) (nI (runP s p d l).2.2) = some ((), h') ∧ Upd h h' PDf ∧ (∀ k, k < l.length → gI h' 29 k = gI h 29 k ∧ gI h' 30 k = gI h 30 k) ∧ BsR h' s p d n ((cmps n m l U).foldl (impP s p d) b) := by
  intro m
  induction m with
  | zero =>
    intro fuel h U l b hs e3 jd' hl hf hU tr bs bd
    obtain ⟨r1, r2, r3, r4, r5⟩ := id bs
    obtain ⟨b1, b2, b3⟩ := id bd
    match fuel, hf with
    | fuel + 1, _ =>
      have ec : cmps n 0 l U = [l] := by unfold cmps; simp [pms]
      rw [ec, List.foldl_cons, List.foldl_nil]
      by_cases c : betP s p d l b
      · refine ⟨_, by rw [show l.length = n by omega]; exact dfs_leaf hs hn e3 fuel _ _ (by omega) (by omega) r3 r4 r1 r2 c, lfH_upd _ _ _ _, fun k hk => ⟨?_, ?_⟩, ?_⟩
        · unfold lfH; simp [xI_sI, gI_sW]
        · unfold lfH; simp [xI_sI, gI_sW]
        · rw [imp_lt c]
          exact lfH_bs (by omega) tr (by omega) (by omega)
      · refine ⟨h, dfs_prune hs fuel _ _ _ (by omega) (by omega) r3 r4 r1 r2 c, Upd_rf _ _, fun _ _ => ⟨rfl, rfl⟩, ?_⟩
        have := prune c [[]]
        simp only [List.map_cons, List.map_nil, List.append_nil, List.foldl_cons, List.foldl_nil] at this
        rw [this]; exact bs
  | succ m ih =>
    intro fuel h U l b hs e3 jd' hl hf hU tr bs bd
    obtain ⟨r1, r2, r3, r4, r5⟩ := id bs
    obtain ⟨b1, b2, b3⟩ := id bd
    match fuel, hf with
    | fuel + 1, hf =>
      by_cases c : betP s p d l b
      · rw [dfs_go hs hn (q := l.length) (by omega) e3 fuel _ _ (by omega) (by omega) r3 r4 r1 r2 c, cmps_s]
        refine forL n (fun k j (hh : Hp) => f_X4_tryFrom_L86 (f_X4_tryFrom fuel) k 25 (nI l.length) (nI U) (nI (runP s p d l).1) (nI (runP s p d l).2.1) (nI (runP s p d l).2.2) (nI j) hh) (fun j hh => Upd h hh PDf ∧ (∀ k, k < l.length → gI hh 29 k = gI h 29 k ∧ gI hh 30 k = gI h 30 k) ∧ BsR hh s p d n (((List.range j).flatMap (fun j => if (!U.testBit j) = true then cmps n m (l ++ [j]) (U ||| 2 ^ j) else [])).foldl (impP s p d) b)) (fun r => ∃ h', r = some ((), h') ∧ Upd h h' PDf ∧ (∀ k, k < l.length → gI h' 29 k = gI h 29 k ∧ gI h' 30 k = gI h 30 k) ∧ BsR h' s p d n (((List.range n).flatMap (fun j => if (!U.testBit j) = true then cmps n m (l ++ [j]) (U ||| 2 ^ j) else [])).foldl (impP s p d) b)) ?_ ?_ n 6000 0 h (by omega) (by omega) ⟨Upd_rf _ _, fun _ _ => ⟨rfl, rfl⟩, bs⟩
        · intro k j hh hj ⟨I1, I2, I3⟩
          have hsh := I1.sh hs
          have x3 : gI hh 25 3 = nI n := by rw [I1.2 _ _ (by unfold PDf; omega)]; exact e3
          have x0 : ¬ nI n ≤ nI j := nI_ge hj (by omega)
          have jdh : JD hh s p d n := jd'.fr I1 (fun a k w _ => by unfold PDf; omega)
          rw [flat_s]
          rw [f_X4_tryFrom_L86]
          cases cb : U.testBit j with
          | true =>
            have y1 : ¬ ((nI U >>> (nI j &&& 31)) &&& (1 : Int32)) = 0 := fun w => by
              have := (bit_t U hU j (by omega)).mp w
              rw [cb] at this; exact absurd this (by decide)
            refine Or.inr ⟨hh, ?_, I1, I2, ?_⟩
            · simp only [x3, x0, y1, nI_1, hsh, and_self, if_true, if_false, n_1_0, n_0_0, okOb_sI, okAb_sI, okOb_sW, okAb_sW, vl_e, un_e, nl_s, nl_n, bnd_e, gd_e, SH_sI, SH_sW, xI_sI, xR_sI, xL_sI, xK_sI, xN_sI, gI_sW, xR_sW, xL_sW, xK_sW, xN_sW, sO0, sO1, sO2, sA2, sL2, sO3, sA3, sL3, sO4, sA4, sL4, sO5, sA5, sL5, sO6, sA6, sL6, sO7, sA7, sL7, sO8, sA8, sL8, sO9, sO10, sA10, sL10, sO11, sA11, sL11, sO12, sA12, sL12, sO13, sO14, sA14, sL14, sO15, sA15, sL15, sO16, sA16, sL16, sO17, sA17, sL17, sO18, sA18, sL18, sO19, sA19, sL19, sO20, sO21, sA21, sL21, sO22, sA22, sL22, sO23, sA23, sL23, sO24, sA24, sL24, sO25, sO26, sA26, sL26, sO27, sA27, sL27, sO28, sA28, sL28, sO29, sA29, sL29, sO30, sA30, sL30, sO31, sA31, sL31, sO32, sA32, sL32, sO33, sO34, sA34, sL34, sO35, sA35, sL35, sO36, sA36, sL36, sO37, sO38, sA38, sL38, sO39, sA39, sL39, sO40, sA40, sL40, sO41, sO42, sA42, sL42, sO43, sA43, sL43, sO44, sA44, sL44, sO45, sO46, sA46, sL46, sO47, sA47, sL47, sO48, sA48, sL48, sO49, sA49, sL49, sO50, sA50, sL50, sO51, sA51, sL51, sO52, sA52, sL52, sO53, sA53, sL53, sO54, sA54, sL54, sO55, sA55, sL55, sO56, sA56, sL56, sO57, sA57, sL57, sO58, sA58, sL58, sO59, sA59, sL59, sO60, sA60, sL60, sO61, sA61, sL61, sO62, sA62, sL62, sO63, sA63, sL63, sO64, sA64, sL64, sO65, sA65, sL65, sO66, sA66, sL66, sO67, sA67, sL67, sO68, sA68, sL68, sO69, sA69, sL69, sO70, sA70, sL70, sO71, sA71, sL71, sO72, sA72, sL72, sO73, sA73, sL73, sO74, sA74, sL74, sO75, sA75, sL75, sO76, sA76, sL76, sO77, sA77, sL77, sO78, sA78, sL78, sO79, sA79, sL79, sO80, sA80, sL80, sO81, sA81, sL81, sO82, sA82, sL82, sO83, sA83, sL83, sO84, sA84, sL84, sO85, sA85, sL85, sO86, sA86, sL86, sO87, sA87, sL87, sR0_0, sR0_1, sR0_2, sR0_3, sR0_5, sR0_6, sR0_8, sR0_10, sR0_11, sR0_12, sR0_13, sR1_0, sR6_0, sR6_1, sR6_2, sR9_0, sR9_1, sR9_2, sR13_0, sR13_1, sR13_2, sR13_3, sR13_4, sR13_5, sR20_0, sR20_1, sR20_2, sR20_3, sR25_0, sR25_1, sR25_2, sR25_4, sR25_5, sR25_6, sR25_7, sR33_2, sR33_3, sR37_2, sR37_3, sR41_2, sR41_3, sR45_0, sR45_1, sR45_3, sR45_4, sR45_5, sR45_6, sR45_7, sR45_8, sR45_9, sR45_10, sR45_12, sR45_13, sR45_14, sR45_15, sR45_16, sR45_17, sR45_18, sR45_19, sR45_20, sR45_21, sR45_22, sR45_25, sR45_26, sR45_27, sR45_28, sR45_29, sR45_30, sR45_31, sR45_32, sR45_33, sR45_34, sR45_35, sR45_36, sR45_40, sR45_41, sR45_42, sR45_43, sR45_45, sR45_46, sR45_47, sR45_48, sR45_49]
            · rw [if_neg (by decide), List.foldl_nil]; exact I3
          | false =>
            have y1 : ((nI U >>> (nI j &&& 31)) &&& (1 : Int32)) = 0 := (bit_t U hU j (by omega)).mpr cb
            obtain ⟨⟨g1, -, g2⟩, ⟨g3, -, g4⟩, ⟨g5, -, g6⟩⟩ := jdh j hj
            have z1 : (nI j).toNatClampNeg = j := nI_clamp (by omega)
            have z2 : inB (nI j) 7 = true := inB_nI (by omega) (by decide)
            have z3 : (nI l.length).toNatClampNeg = l.length := nI_clamp (by omega)
            have z4 : inB (nI l.length) 7 = true := inB_nI (by omega) (by decide)
            have bd2 := bdP_s (j := j) (d := d) (by omega) g2 g4 bd
            let l2 := l ++ [j]
            have hl2 : (l ++ [j]).length = l.length + 1 := by simp
            let h3 : Hp := sI (sI hh 29 l.length (nI j)) 30 l.length (nI (stepP s p d (runP s p d l) j).2.1)
            have u3 : Upd hh h3 PDf := (Upd_sI (by unfold PDf; omega)).tr (Upd_sI (by unfold PDf; omega))
            have u3' : Upd hh h3 (fun a k => (a = 29 ∨ a = 30) ∧ k = l.length) := (Upd_sI (by omega)).tr (Upd_sI (by omega))
            have hs3 : SH h3 := u3.sh hsh
            have tr3 : TrR h3 s p d (l ++ [j]) := by
              intro k hk
              rw [hl2] at hk
              by_cases ck : k = l.length
              · subst ck
                rw [getD_last, endP_last]
                exact ⟨by simp [h3, xI_sI], by simp [h3, xI_sI]⟩
              · rw [u3'.2 _ _ (by omega), u3'.2 _ _ (by omega), getD_lt (by omega), endP_lt (by omega), (I2 k (by omega)).1, (I2 k (by omega)).2]
                exact tr k (by omega)
            obtain ⟨h4, q1, q2, q3, q4⟩ := ih fuel h3 (U ||| 2 ^ j) (l ++ [j]) _ hs3 (by rw [u3'.2 _ _ (by omega)]; exact x3) (jdh.fr u3 (fun a k w _ => by unfold PDf; omega)) (by rw [hl2]; omega) (by omega) (Nat.or_lt_two_pow (n := 7) hU (Nat.pow_lt_pow_right (by decide) (by omega))) tr3 (I3.fr u3' (by omega) (by omega)) bd2
            refine Or.inr ⟨h4, ?_, I1.tr (u3.tr q2), fun k hk => ?_, ?_⟩
            · rw [hl2, runP_s] at q1
              have q1' : f_X4_tryFrom fuel h3 25 (nI (l.length + 1)) (nI (U ||| 2 ^ j)) (nI ((runP s p d l).1 + s j)) (nI (max ((runP s p d l).1 + s j) (runP s p d l).2.1 + p j)) (nI ((runP s p d l).2.2 + (max ((runP s p d l).1 + s j) (runP s p d l).2.1 + p j - d j))) = some ((), h4) := q1
              have g5' : gI h3 28 j = nI (d j) := by rw [u3'.2 _ _ (by omega)]; exact g5
              have bl : l.length ≤ 6 := by omega
              have E1 : (if nI ((runP s p d l).1 + s j) < nI (runP s p d l).2.1 then nI (runP s p d l).2.1 else nI ((runP s p d l).1 + s j)) = nI (max ((runP s p d l).1 + s j) (runP s p d l).2.1) := maxI (by omega) (by omega)
              have E2 := subI (a := max ((runP s p d l).1 + s j) (runP s p d l).2.1 + p j) (b := d j) (by omega) (by omega)
              simp only [x3, x0, y1, z1, z2, z3, z4, g1, g3, g5, nI_add, E1, E2, nI_1, bit_o U hU j (by omega), hsh, and_self, if_true, if_false, n_1_0, n_0_0, okOb_sI, okAb_sI, okOb_sW, okAb_sW, vl_e, un_e, nl_s, nl_n, bnd_e, gd_e, SH_sI, SH_sW, xI_sI, xR_sI, xL_sI, xK_sI, xN_sI, gI_sW, xR_sW, xL_sW, xK_sW, xN_sW, sO0, sO1, sO2, sA2, sL2, sO3, sA3, sL3, sO4, sA4, sL4, sO5, sA5, sL5, sO6, sA6, sL6, sO7, sA7, sL7, sO8, sA8, sL8, sO9, sO10, sA10, sL10, sO11, sA11, sL11, sO12, sA12, sL12, sO13, sO14, sA14, sL14, sO15, sA15, sL15, sO16, sA16, sL16, sO17, sA17, sL17, sO18, sA18, sL18, sO19, sA19, sL19, sO20, sO21, sA21, sL21, sO22, sA22, sL22, sO23, sA23, sL23, sO24, sA24, sL24, sO25, sO26, sA26, sL26, sO27, sA27, sL27, sO28, sA28, sL28, sO29, sA29, sL29, sO30, sA30, sL30, sO31, sA31, sL31, sO32, sA32, sL32, sO33, sO34, sA34, sL34, sO35, sA35, sL35, sO36, sA36, sL36, sO37, sO38, sA38, sL38, sO39, sA39, sL39, sO40, sA40, sL40, sO41, sO42, sA42, sL42, sO43, sA43, sL43, sO44, sA44, sL44, sO45, sO46, sA46, sL46, sO47, sA47, sL47, sO48, sA48, sL48, sO49, sA49, sL49, sO50, sA50, sL50, sO51, sA51, sL51, sO52, sA52, sL52, sO53, sA53, sL53, sO54, sA54, sL54, sO55, sA55, sL55, sO56, sA56, sL56, sO57, sA57, sL57, sO58, sA58, sL58, sO59, sA59, sL59, sO60, sA60, sL60, sO61, sA61, sL61, sO62, sA62, sL62, sO63, sA63, sL63, sO64, sA64, sL64, sO65, sA65, sL65, sO66, sA66, sL66, sO67, sA67, sL67, sO68, sA68, sL68, sO69, sA69, sL69, sO70, sA70, sL70, sO71, sA71, sL71, sO72, sA72, sL72, sO73, sA73, sL73, sO74, sA74, sL74, sO75, sA75, sL75, sO76, sA76, sL76, sO77, sA77, sL77, sO78, sA78, sL78, sO79, sA79, sL79, sO80, sA80, sL80, sO81, sA81, sL81, sO82, sA82, sL82, sO83, sA83, sL83, sO84, sA84, sL84, sO85, sA85, sL85, sO86, sA86, sL86, sO87, sA87, sL87, sR0_0, sR0_1, sR0_2, sR0_3, sR0_5, sR0_6, sR0_8, sR0_10, sR0_11, sR0_12, sR0_13, sR1_0, sR6_0, sR6_1, sR6_2, sR9_0, sR9_1, sR9_2, sR13_0, sR13_1, sR13_2, sR13_3, sR13_4, sR13_5, sR20_0, sR20_1, sR20_2, sR20_3, sR25_0, sR25_1, sR25_2, sR25_4, sR25_5, sR25_6, sR25_7, sR33_2, sR33_3, sR37_2, sR37_3, sR41_2, sR41_3, sR45_0, sR45_1, sR45_3, sR45_4, sR45_5, sR45_6, sR45_7, sR45_8, sR45_9, sR45_10, sR45_12, sR45_13, sR45_14, sR45_15, sR45_16, sR45_17, sR45_18, sR45_19, sR45_20, sR45_21, sR45_22, sR45_25, sR45_26, sR45_27, sR45_28, sR45_29, sR45_30, sR45_31, sR45_32, sR45_33, sR45_34, sR45_35, sR45_36, sR45_40, sR45_41, sR45_42, sR45_43, sR45_45, sR45_46, sR45_47, sR45_48, sR45_49]
              simp only [Nat.reduceEqDiff, false_and, if_false, g5, E2, nI_add]
              have q1'' : f_X4_tryFrom fuel (sI (sI hh 29 l.length (nI j)) 30 l.length (nI (max ((runP s p d l).1 + s j) (runP s p d l).2.1 + p j))) 25 (nI (l.length + 1)) (nI (U ||| 2 ^ j)) (nI ((runP s p d l).1 + s j)) (nI (max ((runP s p d l).1 + s j) (runP s p d l).2.1 + p j)) (nI ((runP s p d l).2.2 + (max ((runP s p d l).1 + s j) (runP s p d l).2.1 + p j - d j))) = some ((), h4) := q1'
              rw [q1'', bnd_e]
            · rw [hl2] at q3
              rw [(q3 k (by omega)).1, (q3 k (by omega)).2, u3'.2 _ _ (by omega), u3'.2 _ _ (by omega)]
              exact I2 k hk
            · rw [if_pos (by decide)]; exact q4
        · intro k hh ⟨I1, I2, I3⟩
          have hsh := I1.sh hs
          have x3 : gI hh 25 3 = nI n := by rw [I1.2 _ _ (by unfold PDf; omega)]; exact e3
          have x0 : nI n ≤ nI n := nI_le (Nat.le_refl _) (by omega)
          refine ⟨hh, ?_, I1, I2, I3⟩
          rw [f_X4_tryFrom_L86]
          simp only [x3, x0, hsh, and_self, if_true, if_false, n_1_0, n_0_0, okOb_sI, okAb_sI, okOb_sW, okAb_sW, vl_e, un_e, nl_s, nl_n, bnd_e, gd_e, SH_sI, SH_sW, xI_sI, xR_sI, xL_sI, xK_sI, xN_sI, gI_sW, xR_sW, xL_sW, xK_sW, xN_sW, sO0, sO1, sO2, sA2, sL2, sO3, sA3, sL3, sO4, sA4, sL4, sO5, sA5, sL5, sO6, sA6, sL6, sO7, sA7, sL7, sO8, sA8, sL8, sO9, sO10, sA10, sL10, sO11, sA11, sL11, sO12, sA12, sL12, sO13, sO14, sA14, sL14, sO15, sA15, sL15, sO16, sA16, sL16, sO17, sA17, sL17, sO18, sA18, sL18, sO19, sA19, sL19, sO20, sO21, sA21, sL21, sO22, sA22, sL22, sO23, sA23, sL23, sO24, sA24, sL24, sO25, sO26, sA26, sL26, sO27, sA27, sL27, sO28, sA28, sL28, sO29, sA29, sL29, sO30, sA30, sL30, sO31, sA31, sL31, sO32, sA32, sL32, sO33, sO34, sA34, sL34, sO35, sA35, sL35, sO36, sA36, sL36, sO37, sO38, sA38, sL38, sO39, sA39, sL39, sO40, sA40, sL40, sO41, sO42, sA42, sL42, sO43, sA43, sL43, sO44, sA44, sL44, sO45, sO46, sA46, sL46, sO47, sA47, sL47, sO48, sA48, sL48, sO49, sA49, sL49, sO50, sA50, sL50, sO51, sA51, sL51, sO52, sA52, sL52, sO53, sA53, sL53, sO54, sA54, sL54, sO55, sA55, sL55, sO56, sA56, sL56, sO57, sA57, sL57, sO58, sA58, sL58, sO59, sA59, sL59, sO60, sA60, sL60, sO61, sA61, sL61, sO62, sA62, sL62, sO63, sA63, sL63, sO64, sA64, sL64, sO65, sA65, sL65, sO66, sA66, sL66, sO67, sA67, sL67, sO68, sA68, sL68, sO69, sA69, sL69, sO70, sA70, sL70, sO71, sA71, sL71, sO72, sA72, sL72, sO73, sA73, sL73, sO74, sA74, sL74, sO75, sA75, sL75, sO76, sA76, sL76, sO77, sA77, sL77, sO78, sA78, sL78, sO79, sA79, sL79, sO80, sA80, sL80, sO81, sA81, sL81, sO82, sA82, sL82, sO83, sA83, sL83, sO84, sA84, sL84, sO85, sA85, sL85, sO86, sA86, sL86, sO87, sA87, sL87, sR0_0, sR0_1, sR0_2, sR0_3, sR0_5, sR0_6, sR0_8, sR0_10, sR0_11, sR0_12, sR0_13, sR1_0, sR6_0, sR6_1, sR6_2, sR9_0, sR9_1, sR9_2, sR13_0, sR13_1, sR13_2, sR13_3, sR13_4, sR13_5, sR20_0, sR20_1, sR20_2, sR20_3, sR25_0, sR25_1, sR25_2, sR25_4, sR25_5, sR25_6, sR25_7, sR33_2, sR33_3, sR37_2, sR37_3, sR41_2, sR41_3, sR45_0, sR45_1, sR45_3, sR45_4, sR45_5, sR45_6, sR45_7, sR45_8, sR45_9, sR45_10, sR45_12, sR45_13, sR45_14, sR45_15, sR45_16, sR45_17, sR45_18, sR45_19, sR45_20, sR45_21, sR45_22, sR45_25, sR45_26, sR45_27, sR45_28, sR45_29, sR45_30, sR45_31, sR45_32, sR45_33, sR45_34, sR45_35, sR45_36, sR45_40, sR45_41, sR45_42, sR45_43, sR45_45, sR45_46, sR45_47, sR45_48, sR45_49]
      · refine ⟨h, dfs_prune hs fuel _ _ _ (by omega) (by omega) r3 r4 r1 r2 c, Upd_rf _ _, fun _ _ => ⟨rfl, rfl⟩, ?_⟩
        unfold cmps
        rw [prune c]; exact bs
