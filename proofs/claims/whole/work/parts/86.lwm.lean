/-- the reference's reader -/
theorem sgn_e (h : Hp) {w i : Nat} (hw : w < 4) (hi : i < 6) : f_X10_signOf_ h (nI w) (nI i) = some ((strB.getD w []).getD i 0, h) := by
  match w, hw, i, hi with
  | 0, _, 0, _ => rfl
  | 0, _, 1, _ => rfl
  | 0, _, 2, _ => rfl
  | 0, _, 3, _ => rfl
  | 0, _, 4, _ => rfl
  | 0, _, 5, _ => rfl
  | 1, _, 0, _ => rfl
  | 1, _, 1, _ => rfl
  | 1, _, 2, _ => rfl
  | 1, _, 3, _ => rfl
  | 1, _, 4, _ => rfl
  | 1, _, 5, _ => rfl
  | 2, _, 0, _ => rfl
  | 2, _, 1, _ => rfl
  | 2, _, 2, _ => rfl
  | 2, _, 3, _ => rfl
  | 2, _, 4, _ => rfl
  | 2, _, 5, _ => rfl
  | 3, _, 0, _ => rfl
  | 3, _, 1, _ => rfl
  | 3, _, 2, _ => rfl
  | 3, _, 3, _ => rfl
  | 3, _, 4, _ => rfl
  | 3, _, 5, _ => rfl
theorem sg_0 : ∀ w, w < 4 → ∀ i, i < 6 → ((strB.getD w []).getD i 0 = 0 ↔ ¬ i < strL.getD w 0) := by decide +kernel
theorem bt_1 : ∀ U, U < 16 → ∀ w, w < 4 → (((nI U >>> (nI w &&& 31)) &&& (1 : Int32)) = (1 : Int32) ↔ U.testBit w = true) := by decide +kernel
theorem bt_0 : ∀ U, U < 16 → ∀ w, w < 4 → (((nI U >>> (nI w &&& 31)) &&& (1 : Int32)) = 0 ↔ U.testBit w = false) := by decide +kernel
theorem bt_o : ∀ U, U < 16 → ∀ w, w < 4 → nI U ||| ((1 : Int32) <<< (nI w &&& 31)) = nI (U ||| 2 ^ w) ∧ U ||| 2 ^ w < 16 := by decide +kernel
def bmk (c : Nat → Bool) : Nat := (bif c 0 then 1 else 0) + (bif c 1 then 2 else 0) + (bif c 2 then 4 else 0) + (bif c 3 then 8 else 0)
theorem bmk_lt (c : Nat → Bool) : bmk c < 16 := by
  unfold bmk
  cases c 0 <;> cases c 1 <;> cases c 2 <;> cases c 3 <;> decide
theorem bmk_b (c : Nat → Bool) {w : Nat} (hw : w < 4) : (bmk c).testBit w = c w := by
  unfold bmk
  match w, hw with
  | 0, _ => cases c 0 <;> cases c 1 <;> cases c 2 <;> cases c 3 <;> decide
  | 1, _ => cases c 0 <;> cases c 1 <;> cases c 2 <;> cases c 3 <;> decide
  | 2, _ => cases c 0 <;> cases c 1 <;> cases c 2 <;> cases c 3 <;> decide
  | 3, _ => cases c 0 <;> cases c 1 <;> cases c 2 <;> cases c 3 <;> decide
theorem bmk_0 (c : Nat → Bool) : bmk c = 0 ↔ c 0 = false ∧ c 1 = false ∧ c 2 = false ∧ c 3 = false := by
  unfold bmk
  cases c 0 <;> cases c 1 <;> cases c 2 <;> cases c 3 <;> decide
def nxO (y : Nat → Bool) (w N : Nat) : Nat := bif y w then N ||| 2 ^ w else N
theorem nxO_4 (y : Nat → Bool) : nxO y 3 (nxO y 2 (nxO y 1 (nxO y 0 0))) = bmk y := by
  unfold nxO bmk
  cases y 0 <;> cases y 1 <;> cases y 2 <;> cases y 3 <;> decide
theorem nxO_lt {y : Nat → Bool} {w N : Nat} (hw : w < 4) (hN : N < 16) : nxO y w N < 16 := by
  unfold nxO
  cases y w with
  | false => exact hN
  | true => exact (bt_o N hN w hw).2
def xW (B : Nat → Int32) (p i w : Nat) : Bool := decide (i < strL.getD w 0) && decide (B (p + i) = (strB.getD w []).getD i 0)
def cW (B : Nat → Int32) (p i w : Nat) : Bool := decide (i ≤ mW B p w)
theorem cW_s {B : Nat → Int32} {p i w : Nat} (hw : w < 4) : cW B p (i + 1) w = (cW B p i w && xW B p i w) := by
  have := lcp_s B (strB.getD w []) p i
  rw [(sLB w hw).1] at this
  unfold cW xW mW
  rw [Bool.eq_iff_iff]
  simp only [Bool.and_eq_true, decide_eq_true_eq]
  exact this
set_option maxRecDepth 100000 in
theorem word_13s {h : Hp} (hs : SH h) {B : Nat → Int32} {z p i : Nat} (tp : TpM h B z) (hp : p + i ≤ 1000) (hi : i < 6) (e : gI h 45 44 = nI (p + i)) (c : Nat → Bool) {w N : Nat} (hw : w < 4) (hN : N < 16) (K : Nat → Int32 → Int32 → Int32 → Int32 → Hp → Option (Int32 × Hp)) (fuel : Nat) : f_X10_word_L13 K (fuel + 1) 45 (nI p) (nI (bmk c)) (nI N) (nI w) h = f_X10_word_L13 K fuel 45 (nI p) (nI (bmk c)) (nI (nxO (fun w => c w && xW B p i w) w N)) (nI (w + 1)) h := by
  have x0 : ¬ (4 : Int32) ≤ nI w := nI_ge (b := 4) hw (by decide)
  have x1 : nI (p + i) - nI p = nI i := by rw [pk_sub (by omega)]; congr 1; omega
  have sg := sgn_e h hw hi
  have sn := sign_e hs tp (p := p + i) (by omega) e
  have b1 := bt_1 (bmk c) (bmk_lt c) w hw
  rw [bmk_b c hw] at b1
  have s0 := sg_0 w hw i hi
  rw [f_X10_word_L13]
  unfold nxO xW
  cases cb : c w with
  | false =>
    have y1 : ¬ ((nI (bmk c) >>> (nI w &&& 31)) &&& (1 : Int32)) = (1 : Int32) := fun q => by rw [b1.mp q] at cb; cases cb
    simp only [x0, y1, if_false, vl_e, nI_1, cb, Bool.false_and, cond_false]
  | true =>
    have y1 : ((nI (bmk c) >>> (nI w &&& 31)) &&& (1 : Int32)) = (1 : Int32) := b1.mpr cb
    by_cases c1 : i < strL.getD w 0
    · have y2 : ¬ (strB.getD w []).getD i 0 = 0 := fun q => (s0.mp q) c1
      by_cases c2 : B (p + i) = (strB.getD w []).getD i 0
      · simp only [x0, y1, if_false, if_true, sO45 hs, gd_e, vl_e, e, x1, sg, bnd_e, y2, sn, c2, nI_1, cb, c1, decide_true, Bool.and_self, cond_true, (bt_o N hN w hw).1]
      · have c3 : ¬ (strB.getD w []).getD i 0 = B (p + i) := fun q => c2 q.symm
        simp only [x0, y1, if_false, if_true, sO45 hs, gd_e, vl_e, e, x1, sg, bnd_e, y2, sn, c3, c2, nI_1, cb, c1, decide_true, decide_false, Bool.and_false, cond_false]
    · have y2 : (strB.getD w []).getD i 0 = 0 := s0.mpr c1
      simp only [x0, y1, if_false, if_true, sO45 hs, gd_e, vl_e, e, x1, sg, bnd_e, y2, nI_1, cb, c1, decide_false, Bool.false_and, Bool.and_false, cond_false]
set_option maxRecDepth 100000 in
theorem word_13 {h : Hp} (hs : SH h) {B : Nat → Int32} {z p i : Nat} (tp : TpM h B z) (hp : p + i ≤ 1000) (hi : i < 6) (e : gI h 45 44 = nI (p + i)) (c : Nat → Bool) (K : Nat → Int32 → Int32 → Int32 → Int32 → Hp → Option (Int32 × Hp)) : f_X10_word_L13 K 6000 45 (nI p) (nI (bmk c)) 0 0 h = K 45 (nI p) (nI (bmk c)) (nI (bmk (fun w => c w && xW B p i w))) (nI 4) h := by
  have A0 := word_13s hs tp hp hi e c (w := 0) (N := 0) (by decide) (by decide) K 5999
  have l0 : nxO (fun w => c w && xW B p i w) 0 0 < 16 := nxO_lt (by decide) (by decide)
  have A1 := word_13s hs tp hp hi e c (w := 1) (by decide) l0 K 5998
  have l1 : nxO (fun w => c w && xW B p i w) 1 (nxO (fun w => c w && xW B p i w) 0 0) < 16 := nxO_lt (by decide) l0
  have A2 := word_13s hs tp hp hi e c (w := 2) (by decide) l1 K 5997
  have l2 : nxO (fun w => c w && xW B p i w) 2 (nxO (fun w => c w && xW B p i w) 1 (nxO (fun w => c w && xW B p i w) 0 0)) < 16 := nxO_lt (by decide) l1
  have A3 := word_13s hs tp hp hi e c (w := 3) (by decide) l2 K 5996
  refine A0.trans (A1.trans (A2.trans (A3.trans ?_)))
  rw [nxO_4, f_X10_word_L13, if_pos (by decide)]
def P44 (a k : Nat) : Prop := a = 45 ∧ k = 44
theorem bm_cW {B : Nat → Int32} {p i : Nat} : bmk (fun w => cW B p i w && xW B p i w) = bmk (cW B p (i + 1)) := by
  unfold bmk
  rw [cW_s (by decide), cW_s (by decide), cW_s (by decide), cW_s (by decide)]
theorem bm_c0 {B : Nat → Int32} {p i : Nat} : bmk (cW B p i) = 0 ↔ wMx B p < i := by
  rw [bmk_0]
  unfold cW wMx
  simp only [decide_eq_false_iff_not]
  omega
set_option maxRecDepth 100000 in
theorem word_8 {h : Hp} (hs : SH h) {B : Nat → Int32} {z p : Nat} (tp : TpM h B z) (hp : p ≤ 300) (K : Nat → Int32 → Int32 → Hp → Option (Int32 × Hp)) : ∀ (m i fuel : Nat) (hh : Hp), i + m = wMx B p → m < fuel → Upd h hh P44 → gI hh 45 44 = nI (p + i) → ∃ h2, f_X10_word_L8 K fuel 45 (nI p) (nI (bmk (cW B p i))) hh = K 45 (nI p) (nI (bmk (cW B p (wMx B p)))) h2 ∧ Upd h h2 P44 ∧ gI h2 45 44 = nI (p + wMx B p) := by
  have hM := wMx_le (B := B) (p := p)
  intro m
  induction m with
  | zero =>
    intro i fuel hh hi hf u e
    match fuel, hf with
    | fuel + 1, _ =>
      have hsh := u.sh hs
      have tph : TpM hh B z := tp.fr u (by unfold P44; omega) (fun k => by unfold P44; omega)
      have ei : i = wMx B p := by omega
      refine ⟨hh, ?_, u, by rw [← ei]; exact e⟩
      rw [f_X10_word_L8, word_13 hsh tph (by omega) (by omega) e, bm_cW, bm_c0.mpr (by omega), if_pos (by decide), ei]
  | succ m ih =>
    intro i fuel hh hi hf u e
    match fuel, hf with
    | fuel + 1, hf =>
      have hsh := u.sh hs
      have tph : TpM hh B z := tp.fr u (by unfold P44; omega) (fun k => by unfold P44; omega)
      have nz : ¬ bmk (cW B p (i + 1)) = 0 := fun q => by have := bm_c0.mp q; omega
      have lt := bmk_lt (cW B p (i + 1))
      obtain ⟨h2, q1, q2, q3⟩ := ih (i + 1) fuel (sI hh 45 44 (nI (p + i + 1))) (by omega) (by omega) (u.tr (Upd_sI ⟨rfl, rfl⟩)) (by rw [xI_sI, if_pos ⟨rfl, rfl⟩]; rfl)
      refine ⟨h2, ?_, q2, q3⟩
      rw [f_X10_word_L8, word_13 hsh tph (by omega) (by omega) e, bm_cW, if_neg (nI_ne0 (by omega) (by omega)), sO45 hsh, gd_e, vl_e, vl_e, e, nI_1]
      exact q1
def hitW (B : Nat → Int32) (p w : Nat) : Bool := cW B p (wMx B p) w && !decide (wMx B p = 0) && !decide (wMx B p < strL.getD w 0) && decide (B (p + wMx B p) = 61)
set_option maxRecDepth 100000 in
theorem word_98s {h : Hp} (hs : SH h) {B : Nat → Int32} {z p w : Nat} (tp : TpM h B z) (hp : p ≤ 300) (hw : w < 4) (e : gI h 45 44 = nI (p + wMx B p)) (fuel : Nat) : f_X10_word_L98 (fuel + 1) 45 (nI p) (nI (bmk (cW B p (wMx B p)))) (nI w) h = bif hitW B p w then some (nI w, sI h 45 44 (nI (p + wMx B p + 1))) else f_X10_word_L98 fuel 45 (nI p) (nI (bmk (cW B p (wMx B p)))) (nI (w + 1)) h := by
  have hM := wMx_le (B := B) (p := p)
  have x0 : ¬ (4 : Int32) ≤ nI w := nI_ge (b := 4) hw (by decide)
  have x1 : nI (p + wMx B p) - nI p = nI (wMx B p) := by rw [pk_sub (by omega)]; congr 1; omega
  have sg := sgn_e h hw (show wMx B p < 6 by omega)
  have sn := sign_e hs tp (p := p + wMx B p) (by omega) e
  have b0 := bt_0 (bmk (cW B p (wMx B p))) (bmk_lt _) w hw
  rw [bmk_b _ hw] at b0
  have s0 := sg_0 w hw (wMx B p) (by omega)
  rw [f_X10_word_L98]
  unfold hitW
  cases cb : cW B p (wMx B p) w with
  | false =>
    have y1 := b0.mpr cb
    simp only [x0, y1, if_false, if_true, vl_e, nI_1, Bool.false_and, cond_false]
  | true =>
    have y1 : ¬ ((nI (bmk (cW B p (wMx B p))) >>> (nI w &&& 31)) &&& (1 : Int32)) = 0 := fun q => by rw [b0.mp q] at cb; cases cb
    by_cases c0 : wMx B p = 0
    · have y2 : nI (wMx B p) = 0 := by rw [c0]; rfl
      simp only [x0, y1, if_false, if_true, sO45 hs, gd_e, vl_e, e, x1, y2, nI_1]
      simp [c0]
    · have y2 : ¬ nI (wMx B p) = 0 := nI_ne0 (by omega) (by omega)
      by_cases c1 : wMx B p < strL.getD w 0
      · have y3 : ¬ (strB.getD w []).getD (wMx B p) 0 = 0 := fun q => (s0.mp q) c1
        simp only [x0, y1, if_false, sO45 hs, gd_e, vl_e, e, x1, y2, sg, bnd_e, y3, nI_1, c1, decide_true, Bool.not_true, Bool.and_false, Bool.false_and, cond_false]
      · have y3 : (strB.getD w []).getD (wMx B p) 0 = 0 := s0.mpr c1
        by_cases c2 : B (p + wMx B p) = 61
        · simp only [x0, y1, if_false, if_true, sO45 hs, gd_e, vl_e, e, x1, y2, sg, bnd_e, y3, sn, c2, nI_1, c1, c0, decide_true, decide_false, Bool.not_false, Bool.and_self, cond_true]
        · simp only [x0, y1, if_false, if_true, sO45 hs, gd_e, vl_e, e, x1, y2, sg, bnd_e, y3, sn, c2, nI_1, decide_false, Bool.and_false, cond_false]
def wdP (B : Nat → Int32) (p : Nat) : Option Nat × Nat := if B (p + wMx B p) = 61 ∧ fw B p ≠ none then (fw B p, p + wMx B p + 1) else (none, p + wMx B p)
set_option maxRecDepth 100000 in
theorem word_e {h : Hp} (hs : SH h) {B : Nat → Int32} {z p : Nat} (tp : TpM h B z) (hp : p ≤ 300) (e : gI h 45 44 = nI p) : ∃ h2, f_X10_word h 45 = some (wI (wdP B p).1, h2) ∧ Upd h h2 P44 ∧ gI h2 45 44 = nI (wdP B p).2 := by
  have hM := wMx_le (B := B) (p := p)
  have e15 : bmk (cW B p 0) = 15 := by
    unfold bmk cW
    simp
  obtain ⟨h2, q1, q2, q3⟩ := word_8 hs tp hp (fun y31 y32 y33 h34 => f_X10_word_L98 6000 y31 y32 y33 (0 : Int32) h34) (wMx B p) 0 6000 h (by omega) (by omega) (Upd_rf _ _) e
  rw [e15] at q1
  have E : f_X10_word h 45 = f_X10_word_L98 6000 45 (nI p) (nI (bmk (cW B p (wMx B p)))) 0 h2 := by
    unfold f_X10_word
    rw [sO45 hs, gd_e, vl_e, e]
    exact q1
  have hs2 := q2.sh hs
  have tp2 : TpM h2 B z := tp.fr q2 (by unfold P44; omega) (fun k => by unfold P44; omega)
  have A0 := word_98s hs2 tp2 hp (w := 0) (by decide) q3 5999
  have A1 := word_98s hs2 tp2 hp (w := 1) (by decide) q3 5998
  have A2 := word_98s hs2 tp2 hp (w := 2) (by decide) q3 5997
  have A3 := word_98s hs2 tp2 hp (w := 3) (by decide) q3 5996
  have A4 : f_X10_word_L98 5996 45 (nI p) (nI (bmk (cW B p (wMx B p)))) (nI (3 + 1)) h2 = some (-1, h2) := by
    rw [f_X10_word_L98, if_pos (by decide)]
  have no : (∀ w, w < 4 → hitW B p w = false) → f_X10_word h 45 = some (-1, h2) := fun q => by
    rw [E]
    rw [q 0 (by decide), cond_false] at A0
    rw [q 1 (by decide), cond_false] at A1
    rw [q 2 (by decide), cond_false] at A2
    rw [q 3 (by decide), cond_false] at A3
    exact A0.trans (A1.trans (A2.trans (A3.trans A4)))
  have yes : ∀ w, w < 4 → hitW B p w = true → (∀ v, v < 4 → v ≠ w → hitW B p v = false) → f_X10_word h 45 = some (nI w, sI h2 45 44 (nI (p + wMx B p + 1))) := fun w hw y n => by
    rw [E]
    match w, hw with
    | 0, _ =>
      rw [y, cond_true] at A0
      exact A0
    | 1, _ =>
      rw [n 0 (by decide) (by decide), cond_false] at A0
      rw [y, cond_true] at A1
      exact A0.trans A1
    | 2, _ =>
      rw [n 0 (by decide) (by decide), cond_false] at A0
      rw [n 1 (by decide) (by decide), cond_false] at A1
      rw [y, cond_true] at A2
      exact A0.trans (A1.trans A2)
    | 3, _ =>
      rw [n 0 (by decide) (by decide), cond_false] at A0
      rw [n 1 (by decide) (by decide), cond_false] at A1
      rw [n 2 (by decide) (by decide), cond_false] at A2
      rw [y, cond_true] at A3
      exact A0.trans (A1.trans (A2.trans A3))
  rcases wd_c B p with ⟨w, hw, f1, f2, f3, f4⟩ | ⟨f1, f2⟩
  · have hlen := (sLB w hw).2.1
    have nh : ∀ v, v < 4 → v ≠ w → hitW B p v = false := fun v hv c => by
      have := f4 v hv c
      have : cW B p (wMx B p) v = false := by unfold cW; simp; omega
      unfold hitW
      rw [this]; rfl
    by_cases c : B (p + wMx B p) = 61
    · have hy : hitW B p w = true := by
        have g1 : cW B p (wMx B p) w = true := by unfold cW; rw [f2, f3]; simp
        have g2 : decide (wMx B p = 0) = false := decide_eq_false (by omega)
        have g3 : decide (wMx B p < strL.getD w 0) = false := decide_eq_false (by omega)
        unfold hitW
        rw [g1, g2, g3, c]
        rfl
      have ew : wdP B p = (some w, p + wMx B p + 1) := by unfold wdP; rw [if_pos ⟨c, by rw [f1]; simp⟩, f1]
      refine ⟨_, by rw [yes w hw hy nh, ew]; rfl, q2.tr (Upd_sI ⟨rfl, rfl⟩), by rw [xI_sI, if_pos ⟨rfl, rfl⟩, ew]⟩
    · have ew : wdP B p = (none, p + wMx B p) := by unfold wdP; rw [if_neg (fun q => c q.1)]
      refine ⟨h2, by rw [no (fun v hv => by unfold hitW; simp [c]), ew]; rfl, q2, by rw [ew]; exact q3⟩
  · have ew : wdP B p = (none, p + wMx B p) := by unfold wdP; rw [if_neg (fun q => q.2 f1)]
    refine ⟨h2, ?_, q2, by rw [ew]; exact q3⟩
    rw [no (fun v hv => ?_), ew]
    · rfl
    · unfold hitW
      cases cb : cW B p (wMx B p) v with
      | false => rfl
      | true =>
        unfold cW at cb
        have cb := of_decide_eq_true cb
        have := f2 v hv
        have g : decide (wMx B p < strL.getD v 0) = true := decide_eq_true (by omega)
        rw [g]
        simp
theorem isDig_e (h : Hp) (b : Int32) : f_X10_isDigit h b = some ((match dgt b with
  | none => (0 : Int32)
  | some _ => 1), h) := by
  cases e : dgt b with
  | none =>
    rcases dgt_f e with q | ⟨q1, q2⟩
    · unfold f_X10_isDigit; rw [if_pos q]
    · unfold f_X10_isDigit; rw [if_neg q1, if_pos q2]
  | some d =>
    obtain ⟨q1, q2⟩ := dgt_t e
    have x1 : ¬ nI (48 + d) < (48 : Int32) := nI_nlt (b := 48) (by omega) (by omega)
    have x2 : ¬ (57 : Int32) < nI (48 + d) := nI_nlt (a := 57) (by omega) (by decide)
    unfold f_X10_isDigit
    rw [q2, if_neg x1, if_neg x2]
set_option maxRecDepth 100000 in
theorem num_52 {h : Hp} (hs : SH h) {B : Nat → Int32} {z p v d n : Nat} (tp : TpM h B z) (hp : p ≤ 300) (e : gI h 45 44 = nI p) (hd : dgt (B p) = some d) (x : Int32) (K : Nat → Int32 → Int32 → Int32 → Hp → Option (Int32 × Hp)) : f_X10_number_J52 K 45 x (nI v) (nI n) h = K 45 x (nI (10 * v + d)) (nI (n + 1)) (sI h 45 44 (nI (p + 1))) := by
  have sn := sign_e hs tp (p := p) (by omega) e
  have y : (10 : Int32) * nI v + B p - (48 : Int32) = nI (10 * v + d) := by
    rw [(dgt_t hd).2, show (10 : Int32) = nI 10 from rfl, show (48 : Int32) = nI 48 from rfl, pk_mul, nI_add, pk_sub (by omega)]
    congr 1; omega
  simp only [f_X10_number_J52, sO45 hs, gd_e, sn, bnd_e, vl_e, e, y, nI_1]
set_option maxRecDepth 100000 in
theorem num_29 {h : Hp} (hs : SH h) {B : Nat → Int32} {z : Nat} (tp : TpM h B z) (x : Int32) : ∀ (r fuel v p : Nat) (hh : Hp), r ≤ 3 → r < fuel → p ≤ z → v < 10 ^ (4 - r) → Upd h hh P44 → gI hh 45 44 = nI p → ∃ h2, f_X10_number_L29 fuel 45 x (nI v) (nI (4 - r)) hh = some (nI (numP B r v p).1, h2) ∧ Upd h h2 P44 ∧ gI h2 45 44 = nI (numP B r v p).2 := by
  have hz := tp.2.1
  intro r
  induction r with
  | zero =>
    intro fuel v p hh h1 h2 h3 h4 u e
    match fuel, h2 with
    | fuel + 1, _ =>
      have hsh := u.sh hs
      have tph : TpM hh B z := tp.fr u (by unfold P44; omega) (fun k => by unfold P44; omega)
      have sn := sign_e hsh tph (p := p) (by omega) e
      refine ⟨hh, ?_, u, e⟩
      rw [f_X10_number_L29]
      simp only [sO45 hsh, gd_e, sn, bnd_e, isDig_e]
      cases dgt (B p) with
      | none => rfl
      | some d => rfl
  | succ r ih =>
    intro fuel v p hh h1 h2 h3 h4 u e
    have hv : v < 10000 := by
      have : 10 ^ (4 - (r + 1)) ≤ 10 ^ 4 := Nat.pow_le_pow_right (by decide) (by omega)
      omega
    match fuel, h2 with
    | fuel + 1, h2 =>
      have hsh := u.sh hs
      have tph : TpM hh B z := tp.fr u (by unfold P44; omega) (fun k => by unfold P44; omega)
      have sn := sign_e hsh tph (p := p) (by omega) e
      have x0 : ¬ (4 : Int32) ≤ nI (4 - (r + 1)) := nI_ge (b := 4) (by omega) (by decide)
      have x1 : ¬ nI (4 - (r + 1)) = 0 := nI_ne0 (by omega) (by omega)
      cases ed : dgt (B p) with
      | none =>
        rw [numP_n ed]
        refine ⟨hh, ?_, u, e⟩
        rw [f_X10_number_L29]
        simp only [sO45 hsh, gd_e, sn, bnd_e, isDig_e, ed, if_true]
      | some d =>
        by_cases c : v = 0
        · rw [numP_0 _ c]
          have x2 : nI v ≤ 0 := by rw [c]; decide
          refine ⟨hh, ?_, u, e⟩
          rw [f_X10_number_L29]
          simp only [sO45 hsh, gd_e, sn, bnd_e, isDig_e, ed, n_1_0, x0, x1, x2, if_false, if_true]
        · have x2 : ¬ nI v ≤ 0 := nI_nle (by omega) (by omega)
          rw [numP_s c ed]
          have hd := (dgt_t ed).1
          have hp := in_tape tp.2.2.2 ed
          have e2 : 10 ^ (4 - r) = 10 ^ (4 - (r + 1)) * 10 := by rw [← Nat.pow_succ]; congr 1; omega
          obtain ⟨h2', q1, q2, q3⟩ := ih fuel (10 * v + d) (p + 1) (sI hh 45 44 (nI (p + 1))) (by omega) (by omega) (by omega) (by omega) (u.tr (Upd_sI ⟨rfl, rfl⟩)) (by rw [xI_sI, if_pos ⟨rfl, rfl⟩])
          refine ⟨h2', ?_, q2, q3⟩
          rw [f_X10_number_L29]
          simp only [sO45 hsh, gd_e, sn, bnd_e, isDig_e, ed, n_1_0, x0, x1, x2, if_false]
          rw [num_52 hsh tph (by omega) e ed, show 4 - (r + 1) + 1 = 4 - r by omega]
          exact q1
set_option maxRecDepth 100000 in
theorem number_e {h : Hp} (hs : SH h) {B : Nat → Int32} {z p least : Nat} (tp : TpM h B z) (hl : least ≤ 1) (hp : p ≤ z) (e : gI h 45 44 = nI p) : ∃ h2, f_X10_number h 45 (nI least) = some (wI (numF B least p).1, h2) ∧ Upd h h2 P44 ∧ gI h2 45 44 = nI (numF B least p).2 := by
  have hz := tp.2.1
  have sn := sign_e hs tp (p := p) (by omega) e
  unfold numF
  cases ed : dgt (B p) with
  | none =>
    refine ⟨h, ?_, Upd_rf _ _, e⟩
    simp only [f_X10_number, sO45 hs, gd_e, sn, bnd_e, isDig_e, ed, if_true, wI]
  | some d =>
    obtain ⟨hd, hb⟩ := dgt_t ed
    have hp' := in_tape tp.2.2.2 ed
    obtain ⟨h2, q1, q2, q3⟩ := num_29 hs tp (nI least) 3 5999 d (p + 1) (sI h 45 44 (nI (p + 1))) (by omega) (by omega) (by omega) (by omega) (Upd_sI ⟨rfl, rfl⟩) (by rw [xI_sI, if_pos ⟨rfl, rfl⟩])
    have G : f_X10_number_J25 45 (nI least) h = some (nI (numP B 3 d (p + 1)).1, h2) := by
      unfold f_X10_number_J25
      rw [f_X10_number_L29]
      simp only [sO45 hs, gd_e, sn, bnd_e, isDig_e, ed, n_1_0, n_0_0, if_false, if_true, show ((4 : Int32) ≤ 0) = False by decide]
      have := num_52 hs tp (by omega) e ed (v := 0) (n := 0) (nI least) (f_X10_number_L29 5999)
      rw [Nat.mul_zero, Nat.zero_add, Nat.zero_add] at this
      exact this.trans q1
    by_cases c : d < least
    · have hl1 : least = 1 := by omega
      have d0 : d = 0 := by omega
      simp only [c, if_true]
      have y1 : ¬ nI least = 0 := nI_ne0 (by omega) (by omega)
      have y2 : B p = (48 : Int32) := by rw [hb, d0]; rfl
      refine ⟨h, ?_, Upd_rf _ _, e⟩
      simp only [f_X10_number, sO45 hs, gd_e, sn, bnd_e, isDig_e, show dgt (48 : Int32) = some 0 by decide, n_1_0, if_false, y1, y2, if_true, wI]
    · simp only [c, if_false]
      refine ⟨h2, ?_, q2, q3⟩
      by_cases c0 : least = 0
      · have y1 : nI least = 0 := by rw [c0]; rfl
        simp only [f_X10_number, sO45 hs, gd_e, sn, bnd_e, isDig_e, ed, n_1_0, if_false, wI]
        rw [if_pos y1]
        exact G
      · have y1 : ¬ nI least = 0 := nI_ne0 (by omega) (by omega)
        have y2 : ¬ B p = (48 : Int32) := by rw [hb]; exact fun q => absurd ((nI_eq (b := 48) (by omega) (by decide)).mp q) (by omega)
        simp only [f_X10_number, sO45 hs, gd_e, sn, bnd_e, isDig_e, ed, n_1_0, if_false, y1, y2, wI]
        exact G
