/-- all orders of a list, the least first -/
def pms : Nat → List Nat → List (List Nat)
  | 0, _ => [[]]
  | n + 1, S => S.flatMap (fun j => (pms n (S.filter (fun x => !Nat.beq x j))).map (fun l => j :: l))
def nxI (p : List Nat) : Nat → Option Nat
  | 0 => none
  | m + 1 => bif Nat.ble (p.getD m 0) (p.getD (m + 1) 0) then some m else nxI p m
def nxJ (p : List Nat) (i : Nat) : Nat → Nat
  | 0 => 0
  | m + 1 => bif Nat.ble (p.getD i 0) (p.getD (m + 1) 0) then m + 1 else nxJ p i m
def swp (p : List Nat) (a b : Nat) : List Nat := (p.set a (p.getD b 0)).set b (p.getD a 0)
def rvs : Nat → List Nat → Nat → Nat → List Nat
  | 0, p, _, _ => p
  | n + 1, p, a, b => bif Nat.ble b a then p else rvs n (swp p a b) (a + 1) (b - 1)
def nx (n : Nat) (p : List Nat) : Option (List Nat) := match nxI p (n - 1) with
  | none => none
  | some i => some (rvs n (swp p i (nxJ p i (n - 1))) (i + 1) (n - 1))
def eqL : List Nat → List Nat → Bool
  | [], [] => true
  | a :: x, b :: y => Nat.beq a b && eqL x y
  | _, _ => false
theorem eqL_e : ∀ {x y : List Nat}, eqL x y = true → x = y
  | [], [], _ => rfl
  | a :: x, b :: y, h => by
    simp only [eqL, Bool.and_eq_true] at h
    rw [Nat.eq_of_beq_eq_true h.1, eqL_e h.2]
  | [], _ :: _, h => by simp [eqL] at h
  | _ :: _, [], h => by simp [eqL] at h
def eqO (o : Option (List Nat)) (q : List Nat) : Bool := match o with
  | none => false
  | some p => eqL p q
theorem eqO_e {o : Option (List Nat)} {q : List Nat} (h : eqO o q = true) : o = some q := by
  cases o with
  | none => simp [eqO] at h
  | some p => rw [eqL_e h]
def okp (n : Nat) (p : List Nat) : Bool := Nat.beq p.length n && p.all (fun x => Nat.blt x n)
def chk (n : Nat) : List (List Nat) → Bool
  | [] => false
  | p :: l => okp n p && (match l with
    | [] => (nx n p).isNone
    | q :: _ => eqO (nx n p) q) && (match l with
    | [] => true
    | _ :: _ => chk n l)
theorem chk_1 : chk 1 (pms 1 (List.range 1)) = true := by decide +kernel
theorem chk_2 : chk 2 (pms 2 (List.range 2)) = true := by decide +kernel
theorem chk_3 : chk 3 (pms 3 (List.range 3)) = true := by decide +kernel
theorem chk_4 : chk 4 (pms 4 (List.range 4)) = true := by decide +kernel
theorem chk_5 : chk 5 (pms 5 (List.range 5)) = true := by decide +kernel
theorem chk_6 : chk 6 (pms 6 (List.range 6)) = true := by decide +kernel
theorem chk_7 : chk 7 (pms 7 (List.range 7)) = true := by decide +kernel
