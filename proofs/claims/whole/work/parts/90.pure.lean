theorem all_S {t : Nat} {h : Hp} (ht : t < 512) (i : IAll t h) : AllSim IAll t h := ⟨feed_S ht i, cast_S ht i, sorts_S ht i, page_S ht i, set_S ht i, misset_S ht i, distribute_S ht i, at_S ht i, faults_S ht i, fault_S ht i, sheet_S ht i, fold_S ht i, impose_S ht i, breakUp_S ht i, paper_S ht i, print_S ht i, forme_S ht i, state_S ht i, read_S ht i, spoil_S ht i, books_S ht i, inBook_S ht i, unlike_S ht i, kinds_S ht i, seen_S ht i, order_S ht i, ordered_S ht i, rivals_S ht i, law_S ht i, wages_S ht i, did_S ht i, job_S ht i, plan_S ht i, planned_S ht i, count_S ht i⟩
set_option maxRecDepth 100000 in
theorem pure_main (sc : Sc) (hL : sc.1 ≤ 3072) : ∃ h' : Hp, f_L_law sc hE = some ((1 : Int32), h') ∧ gN h' - gN hE ≤ 600000 ∧ gS h' - gS hE ≤ room_1.slots := by
  obtain ⟨h8, e, t1, t2, t3⟩ := ini_ex
  have i0 := ini_I t1 t2 t3
  obtain ⟨t', h2, r1, r2, r3⟩ := law_run (Inv := IAll) hL (fun t h i => i.1) (fun t h ht i => all_S ht i) (fun t h i => i.up) 6000 0 h8 i0 (by omega) (by omega) (by omega)
  have b := r2.2.2.2.2.2.2.2.2.2.2.2.2.2.2.2.2.2.2.2.2
  have rm : 100000 + 2000 * 512 ≤ room_1.slots := by decide
  refine ⟨h2, ?_, by omega, by omega⟩
  unfold ini at e
  have e0 : gN hE = 0 := rfl
  unfold f_L_law
  rw [vl_e, e0, vl_e]
  cases e1 : f_X9_init (nw hE 9 14 0) 0 with
  | none => rw [e1] at e; cases e
  | some v =>
    obtain ⟨u, h4⟩ := v
    rw [e1, bnd_e] at e
    rw [bnd_e, vl_e, vl_e]
    cases e2 : Nat.beq (gN h4) 45 with
    | false => rw [e2] at e; cases e
    | true =>
      rw [e2, cond_true] at e
      rw [Nat.eq_of_beq_eq_true e2, e, bnd_e]
      exact r3
