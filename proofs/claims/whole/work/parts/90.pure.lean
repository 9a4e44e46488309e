def hE : Hp := (0, 0, fun _ => 0, fun _ => 0, fun _ _ => 0, fun _ _ => none)
theorem pure_main (sc : Sc) (hL : sc.1 ≤ 3072) : ∃ h' : Hp, f_L_law sc hE = some ((1 : Int32), h') ∧ gN h' - gN hE ≤ 600000 ∧ gS h' - gS hE ≤ 7302250 := sorry
