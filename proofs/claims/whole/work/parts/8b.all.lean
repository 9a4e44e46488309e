def IAll (t : Nat) (h : Hp) : Prop := SH h ∧ IGeo h ∧ IPd h ∧ IFix h ∧ ISh h ∧ IFs h ∧ IFo h ∧ ISk h ∧ ISn h ∧ IGd h ∧ ISm h ∧ IC t h ∧ IP h ∧ IB h ∧ IOr h ∧ IT h ∧ IH t h ∧ ILw h ∧ IJ h ∧ IPl h ∧ gN h ≤ 88 + 14 * t ∧ gS h ≤ 100000 + 2000 * t
theorem IAll.up {t : Nat} {h : Hp} (i : IAll t h) : IAll (t + 1) h := by
  obtain ⟨hs, g, dd, x, q, fs, o, k, w, gd', m, ic, ip, ib, io, it, ih, lw, ij, il, b1, b2⟩ := i
  exact ⟨hs, g, dd, x, q, fs, o, k, w, gd', m, ic.up (by omega), ip, ib, io, it, ih.up (by omega), lw, ij, il, by omega, by omega⟩
theorem sim_of {t : Nat} {h : Hp} {P : Nat → Nat → Prop} {post : Hp → Prop} {p : Option (Int32 × Hp)} {q : Hp → Option (Int32 × Hp)} (o : Out h P post p q) (f : ∀ h2, post h2 → Upd h h2 P → IAll (t + 1) h2) : Sim IAll t p q := by
  obtain ⟨r, h1, h2, e1, e2, e3, e4, e5⟩ := o
  exact ⟨r, h1, h2, e1, e2, e3, f h2 e4 e5⟩
theorem dPP {h : Hp} (g : IGeo h) {p r : Nat} (hp : p < nP h) (hr : r < nP h) : p = r ∨ pb h p + 4 ≤ pb h r ∨ pb h r + 4 ≤ pb h p := by
  rcases Nat.lt_trichotomy p r with c | c | c
  · exact Or.inr (Or.inl (g.2.2.2.2.2.2.1 p r c hr))
  · exact Or.inl c
  · exact Or.inr (Or.inr (g.2.2.2.2.2.2.1 r p c hp))
theorem dSS {h : Hp} (g : IGeo h) {p r : Nat} (hp : p < nS h) (hr : r < nS h) : p = r ∨ sb h p + 14 ≤ sb h r ∨ sb h r + 14 ≤ sb h p := by
  rcases Nat.lt_trichotomy p r with c | c | c
  · exact Or.inr (Or.inl (g.2.2.2.2.2.2.2.1 p r c hr))
  · exact Or.inl c
  · exact Or.inr (Or.inr (g.2.2.2.2.2.2.2.1 r p c hp))
theorem dPS {h : Hp} (g : IGeo h) {p s : Nat} (hp : p < nP h) (hs : s < nS h) : pb h p + 4 ≤ sb h s ∨ sb h s + 14 ≤ pb h p := g.2.2.2.2.2.2.2.2 p s hp hs
theorem pr_ {h : Hp} (g : IGeo h) {p : Nat} (hp : p < nP h) : 88 ≤ pb h p ∧ pb h p + 4 ≤ gN h := ⟨(g.2.2.2.2.1 p hp).2.1, (g.2.2.2.2.1 p hp).2.2.1⟩
theorem sr_ {h : Hp} (g : IGeo h) {s : Nat} (hs : s < nS h) : 88 ≤ sb h s ∧ sb h s + 14 ≤ gN h := ⟨(g.2.2.2.2.2.1 s hs).2.1, (g.2.2.2.2.2.1 s hs).2.2.1⟩
theorem fx_of {h : Hp} {P : Nat → Nat → Prop} {f o k : Nat} (e : ¬ P (sb h (f / 2) + (1 + 6 * (f % 2) + o)) k) : ¬ P (fb h f + o) k := by
  rw [show fb h f + o = sb h (f / 2) + (1 + 6 * (f % 2) + o) by unfold fb; omega]
  exact e
theorem IH_eq {t : Nat} {h h2 : Hp} (e : ∀ a k, (10 ≤ a ∧ a ≤ 12 ∨ 56 ≤ a ∧ a ≤ 58) → gI h2 a k = gI h a k) (i : IH t h) : IH t h2 := fun o d ho hd => by
  rw [e _ _ (by omega), e _ _ (by omega)]; exact i o d ho hd
theorem same5 {h h2 : Hp} {P : Nat → Nat → Prop} (u : Upd h h2 P) (g : IGeo h) (q : ISh h) (px : ∀ p, p < nP h → ¬ P (pb h p) 5) : ∀ s k, s < nS h → k < 2 * lv h s → gI h 67 (2 * s + k % 2) ≠ -1 → gI h (pb h (pgS h s k)) 5 = 1 → gI h2 (pb h (pgS h s k)) 5 = 1 := fun s k hs hk _ e => by
  rw [u.2 _ _ (px _ (pgS_lt q hs hk).1)]; exact e
theorem IAll.same {t : Nat} {h h2 : Hp} (u : Upd h h2 (fun _ _ => False)) (i : IAll t h) : IAll (t + 1) h2 := by
  obtain ⟨hs, g, dd, x, q, fs, o, k, w, gd', m, ic, ip, ib, io, it, ih, lw, ij, il, b1, b2⟩ := id i
  have lo : ∀ a k : Nat, True → ¬ (fun _ _ : Nat => False) a k := fun _ _ _ q => q
  have px : ∀ p, p < nP h → ∀ a k : Nat, True → ¬ (fun _ _ : Nat => False) (pb h p + a) k := fun _ _ _ _ _ q => q
  have sx : ∀ p, p < nS h → ∀ a k : Nat, True → ¬ (fun _ _ : Nat => False) (sb h p + a) k := fun _ _ _ _ _ q => q
  have fx : ∀ p, p < 2 * nS h → ∀ a k : Nat, True → ¬ (fun _ _ : Nat => False) (fb h p + a) k := fun _ _ _ _ _ q => q
  exact ⟨u.sh hs, IGeo.fr u ⟨lo 0 4 trivial, lo 0 7 trivial⟩ g, IPd.fr u ⟨lo 0 4 trivial, lo 0 7 trivial, lo 45 11 trivial⟩ (fun a k ha => lo a k trivial) (fun p k hp => ⟨fun hk => px p hp 0 k trivial, px p hp 1 k trivial, px p hp 2 k trivial⟩) dd, IFix.fr u (fun a k ha => lo a k trivial) x, ISh.fr u ⟨lo 0 4 trivial, lo 0 7 trivial, lo 45 23 trivial⟩ (fun a k ha => lo a k trivial) (fun s k hs hk => sx s hs 0 k trivial) q, IFs.fr u ⟨lo 0 4 trivial, lo 0 7 trivial⟩ (fun k => lo 66 k trivial) (fun s hs => sx s hs 0 5 trivial) fs, IFo.fr u g ⟨lo 0 4 trivial, lo 0 7 trivial⟩ (fun a k ha => lo a k trivial) (fun f k hf => ⟨fun hk => fx f hf 0 k trivial, fun o ho => fx f hf o k trivial⟩) o, ISk.fr u g q ⟨lo 0 4 trivial, lo 0 7 trivial⟩ (fun a k ha => lo a k trivial) ⟨fun f hf => fx f hf 0 2 trivial, same5 u g q (fun p hp => px p hp 0 5 trivial)⟩ k, ISn.fr u g q ⟨lo 0 4 trivial, lo 0 7 trivial⟩ (fun a k ha => lo a k trivial) (fun p k hp => px p hp 3 k trivial) w, IGd.fr u g ⟨lo 0 4 trivial, lo 0 7 trivial⟩ (fun k => lo 74 k trivial) (fun s k hs => ⟨sx s hs 0 7 trivial, sx s hs 13 k trivial⟩) gd', ISm.fr u (fun a k ha => lo a k trivial) m, (IC.fr u (fun k => ⟨lo 3 k trivial, lo 47 k trivial⟩) ic).up (by omega), IP.fr u ⟨lo 0 9 trivial, lo 45 24 trivial⟩ ip, IB.fr u (fun k => ⟨lo 14 k trivial, lo 76 k trivial⟩) ib, IOr.fr u (fun k => ⟨lo 19 k trivial, lo 77 k trivial⟩) ⟨lo 13 6 trivial, lo 13 7 trivial, lo 45 37 trivial, lo 45 38 trivial, lo 45 39 trivial⟩ io, IT.fr u (fun k => ⟨lo 2 k trivial, lo 46 k trivial⟩) ⟨lo 1 1 trivial, lo 45 2 trivial⟩ it, (IH.fr u (fun a k ha => lo a k trivial) ih).up (by omega), ILw.fr u (fun a k ha => lo a k trivial) lw, IJ.fr u (fun a k ha => lo a k trivial) ⟨lo 25 3 trivial, lo 45 50 trivial⟩ ij, IPl.fr u (fun a k ha => lo a k trivial) ⟨lo 25 3 trivial, lo 25 8 trivial, lo 25 9 trivial, lo 45 51 trivial⟩ il, by rw [u.1.1]; omega, by rw [u.1.2.1]; omega⟩
theorem sorts_S {t : Nat} {h : Hp} (ht : t < 512) (i : IAll t h) (a0 : Int32) : Sim IAll t (f_X9_sorts h 0 a0) (fun h1 => f_X10_sorts h1 45 a0) := by
  obtain ⟨hs, g, dd, x, q, fs, o, k, w, gd', m, ic, ip, ib, io, it, ih, lw, ij, il, b1, b2⟩ := id i
  exact sim_of (sorts_ok hs ic a0) (fun h2 _ u => i.same u)
theorem at_S {t : Nat} {h : Hp} (ht : t < 512) (i : IAll t h) (a0 : Int32) (a1 : Int32) (a2 : Int32) : Sim IAll t (f_X9_at h 0 a0 a1 a2) (fun h1 => f_X10_at h1 45 a0 a1 a2) := by
  obtain ⟨hs, g, dd, x, q, fs, o, k, w, gd', m, ic, ip, ib, io, it, ih, lw, ij, il, b1, b2⟩ := id i
  exact sim_of (at_ok hs g dd a0 a1 a2) (fun h2 _ u => i.same u)
theorem faults_S {t : Nat} {h : Hp} (ht : t < 512) (i : IAll t h) (a0 : Int32) : Sim IAll t (f_X9_faults h 0 a0) (fun h1 => f_X10_faults h1 45 a0) := by
  obtain ⟨hs, g, dd, x, q, fs, o, k, w, gd', m, ic, ip, ib, io, it, ih, lw, ij, il, b1, b2⟩ := id i
  exact sim_of (faults_ok hs g dd a0) (fun h2 _ u => i.same u)
theorem fault_S {t : Nat} {h : Hp} (ht : t < 512) (i : IAll t h) (a0 : Int32) (a1 : Int32) : Sim IAll t (f_X9_fault h 0 a0 a1) (fun h1 => f_X10_fault h1 45 a0 a1) := by
  obtain ⟨hs, g, dd, x, q, fs, o, k, w, gd', m, ic, ip, ib, io, it, ih, lw, ij, il, b1, b2⟩ := id i
  exact sim_of (fault_ok hs g dd a0 a1) (fun h2 _ u => i.same u)
theorem fold_S {t : Nat} {h : Hp} (ht : t < 512) (i : IAll t h) (a0 : Int32) (a1 : Int32) (a2 : Int32) (a3 : Int32) (a4 : Int32) : Sim IAll t (f_X9_fold h 0 a0 a1 a2 a3 a4) (fun h1 => f_X10_fold h1 45 a0 a1 a2 a3 a4) := by
  obtain ⟨hs, g, dd, x, q, fs, o, k, w, gd', m, ic, ip, ib, io, it, ih, lw, ij, il, b1, b2⟩ := id i
  exact sim_of (fold_ok hs x a0 a1 a2 a3 a4) (fun h2 _ u => i.same u)
theorem forme_S {t : Nat} {h : Hp} (ht : t < 512) (i : IAll t h) (a0 : Int32) (a1 : Int32) : Sim IAll t (f_X9_forme h 0 a0 a1) (fun h1 => f_X10_forme h1 45 a0 a1) := by
  obtain ⟨hs, g, dd, x, q, fs, o, k, w, gd', m, ic, ip, ib, io, it, ih, lw, ij, il, b1, b2⟩ := id i
  exact sim_of (forme_ok hs g q o k fs a0 a1) (fun h2 _ u => i.same u)
theorem state_S {t : Nat} {h : Hp} (ht : t < 512) (i : IAll t h) (a0 : Int32) (a1 : Int32) (a2 : Int32) : Sim IAll t (f_X9_state h 0 a0 a1 a2) (fun h1 => f_X10_state h1 45 a0 a1 a2) := by
  obtain ⟨hs, g, dd, x, q, fs, o, k, w, gd', m, ic, ip, ib, io, it, ih, lw, ij, il, b1, b2⟩ := id i
  exact sim_of (state_ok hs g q o a0 a1 a2) (fun h2 _ u => i.same u)
theorem read_S {t : Nat} {h : Hp} (ht : t < 512) (i : IAll t h) (a0 : Int32) (a1 : Int32) (a2 : Int32) (a3 : Int32) : Sim IAll t (f_X9_read h 0 a0 a1 a2 a3) (fun h1 => f_X10_read h1 45 a0 a1 a2 a3) := by
  obtain ⟨hs, g, dd, x, q, fs, o, k, w, gd', m, ic, ip, ib, io, it, ih, lw, ij, il, b1, b2⟩ := id i
  exact sim_of (read_ok hs g dd q o w a0 a1 a2 a3) (fun h2 _ u => i.same u)
theorem books_S {t : Nat} {h : Hp} (ht : t < 512) (i : IAll t h) : Sim IAll t (f_X9_books h 0) (fun h1 => f_X10_books h1 45) := by
  obtain ⟨hs, g, dd, x, q, fs, o, k, w, gd', m, ic, ip, ib, io, it, ih, lw, ij, il, b1, b2⟩ := id i
  exact sim_of (books_ok hs g q o gd') (fun h2 _ u => i.same u)
theorem inBook_S {t : Nat} {h : Hp} (ht : t < 512) (i : IAll t h) (a0 : Int32) (a1 : Int32) : Sim IAll t (f_X9_inBook h 0 a0 a1) (fun h1 => f_X10_inBook h1 45 a0 a1) := by
  obtain ⟨hs, g, dd, x, q, fs, o, k, w, gd', m, ic, ip, ib, io, it, ih, lw, ij, il, b1, b2⟩ := id i
  exact sim_of (inBook_ok hs g q o gd' a0 a1) (fun h2 _ u => i.same u)
theorem unlike_S {t : Nat} {h : Hp} (ht : t < 512) (i : IAll t h) (a0 : Int32) (a1 : Int32) : Sim IAll t (f_X9_unlike h 0 a0 a1) (fun h1 => f_X10_unlike h1 45 a0 a1) := by
  obtain ⟨hs, g, dd, x, q, fs, o, k, w, gd', m, ic, ip, ib, io, it, ih, lw, ij, il, b1, b2⟩ := id i
  exact sim_of (unlike_ok hs g q o gd' a0 a1) (fun h2 _ u => i.same u)
theorem kinds_S {t : Nat} {h : Hp} (ht : t < 512) (i : IAll t h) : Sim IAll t (f_X9_kinds h 0) (fun h1 => f_X10_kinds h1 45) := by
  obtain ⟨hs, g, dd, x, q, fs, o, k, w, gd', m, ic, ip, ib, io, it, ih, lw, ij, il, b1, b2⟩ := id i
  exact sim_of (kinds_ok hs g q o gd') (fun h2 _ u => i.same u)
theorem ordered_S {t : Nat} {h : Hp} (ht : t < 512) (i : IAll t h) (a0 : Int32) : Sim IAll t (f_X9_ordered h 0 a0) (fun h1 => f_X10_ordered h1 45 a0) := by
  obtain ⟨hs, g, dd, x, q, fs, o, k, w, gd', m, ic, ip, ib, io, it, ih, lw, ij, il, b1, b2⟩ := id i
  exact sim_of (ordered_ok hs io a0) (fun h2 _ u => i.same u)
theorem rivals_S {t : Nat} {h : Hp} (ht : t < 512) (i : IAll t h) : Sim IAll t (f_X9_rivals h 0) (fun h1 => f_X10_rivals h1 45) := by
  obtain ⟨hs, g, dd, x, q, fs, o, k, w, gd', m, ic, ip, ib, io, it, ih, lw, ij, il, b1, b2⟩ := id i
  exact sim_of (rivals_ok hs io) (fun h2 _ u => i.same u)
theorem wages_S {t : Nat} {h : Hp} (ht : t < 512) (i : IAll t h) (a0 : Int32) : Sim IAll t (f_X9_wages h 0 a0) (fun h1 => f_X10_wages h1 45 a0) := by
  obtain ⟨hs, g, dd, x, q, fs, o, k, w, gd', m, ic, ip, ib, io, it, ih, lw, ij, il, b1, b2⟩ := id i
  exact sim_of (wages_ok hs g dd ih lw a0) (fun h2 _ u => i.same u)
theorem did_S {t : Nat} {h : Hp} (ht : t < 512) (i : IAll t h) (a0 : Int32) (a1 : Int32) : Sim IAll t (f_X9_did h 0 a0 a1) (fun h1 => f_X10_did h1 45 a0 a1) := by
  obtain ⟨hs, g, dd, x, q, fs, o, k, w, gd', m, ic, ip, ib, io, it, ih, lw, ij, il, b1, b2⟩ := id i
  exact sim_of (did_ok hs g dd ih a0 a1) (fun h2 _ u => i.same u)
theorem planned_S {t : Nat} {h : Hp} (ht : t < 512) (i : IAll t h) (a0 : Int32) (a1 : Int32) : Sim IAll t (f_X9_planned h 0 a0 a1) (fun h1 => f_X10_planned h1 45 a0 a1) := by
  obtain ⟨hs, g, dd, x, q, fs, o, k, w, gd', m, ic, ip, ib, io, it, ih, lw, ij, il, b1, b2⟩ := id i
  exact sim_of (planned_ok hs ij il a0 a1) (fun h2 _ u => i.same u)
theorem count_S {t : Nat} {h : Hp} (ht : t < 512) (i : IAll t h) (a0 : Int32) : Sim IAll t (f_X9_count h 0 a0) (fun h1 => f_X10_count h1 45 a0) := by
  obtain ⟨hs, g, dd, x, q, fs, o, k, w, gd', m, ic, ip, ib, io, it, ih, lw, ij, il, b1, b2⟩ := id i
  exact sim_of (count_ok hs g dd q k m ip it ij a0) (fun h2 _ u => i.same u)
theorem feed_S {t : Nat} {h : Hp} (ht : t < 512) (i : IAll t h) (a0 : Int64) (a1 : Int32) : Sim IAll t (f_X9_feed h 0 a0 a1) (fun h1 => f_X10_feed h1 45 a0 a1) := by
  obtain ⟨hs, g, dd, x, q, fs, o, k, w, gd', m, ic, ip, ib, io, it, ih, lw, ij, il, b1, b2⟩ := id i
  refine sim_of (feed_ok hs it a0 a1) ?_
  intro h2 pp u
  have p := pp
  have lo : ∀ a k : Nat, ¬ (a = 2 ∨ a = 46 ∨ (a = 1 ∧ k = 1) ∨ (a = 45 ∧ k = 2)) → ¬ PT a k := fun a k h1 h2 => h1 (by unfold PT at h2; omega)
  have px : ∀ p, p < nP h → ∀ a k : Nat, True → ¬ PT (pb h p + a) k := fun p hp a k _ => lo _ _ (by have := pr_ g hp; omega)
  have sx : ∀ p, p < nS h → ∀ a k : Nat, True → ¬ PT (sb h p + a) k := fun p hp a k _ => lo _ _ (by have := sr_ g hp; omega)
  have fx : ∀ p, p < 2 * nS h → ∀ a k : Nat, True → ¬ PT (fb h p + a) k := fun p hp a k _ => fx_of (sx (p / 2) (by omega) _ k trivial)
  exact ⟨u.sh hs, IGeo.fr u ⟨lo 0 4 (by omega), lo 0 7 (by omega)⟩ g, IPd.fr u ⟨lo 0 4 (by omega), lo 0 7 (by omega), lo 45 11 (by omega)⟩ (fun a k ha => lo a k (by omega)) (fun p k hp => ⟨fun hk => px p hp 0 k trivial, px p hp 1 k trivial, px p hp 2 k trivial⟩) dd, IFix.fr u (fun a k ha => lo a k (by omega)) x, ISh.fr u ⟨lo 0 4 (by omega), lo 0 7 (by omega), lo 45 23 (by omega)⟩ (fun a k ha => lo a k (by omega)) (fun s k hs hk => sx s hs 0 k trivial) q, IFs.fr u ⟨lo 0 4 (by omega), lo 0 7 (by omega)⟩ (fun k => lo 66 k (by omega)) (fun s hs => sx s hs 0 5 trivial) fs, IFo.fr u g ⟨lo 0 4 (by omega), lo 0 7 (by omega)⟩ (fun a k ha => lo a k (by omega)) (fun f k hf => ⟨fun hk => fx f hf 0 k trivial, fun o ho => fx f hf o k trivial⟩) o, ISk.fr u g q ⟨lo 0 4 (by omega), lo 0 7 (by omega)⟩ (fun a k ha => lo a k (by omega)) ⟨fun f hf => fx f hf 0 2 trivial, same5 u g q (fun p hp => px p hp 0 5 trivial)⟩ k, ISn.fr u g q ⟨lo 0 4 (by omega), lo 0 7 (by omega)⟩ (fun a k ha => lo a k (by omega)) (fun p k hp => px p hp 3 k trivial) w, IGd.fr u g ⟨lo 0 4 (by omega), lo 0 7 (by omega)⟩ (fun k => lo 74 k (by omega)) (fun s k hs => ⟨sx s hs 0 7 trivial, sx s hs 13 k trivial⟩) gd', ISm.fr u (fun a k ha => lo a k (by omega)) m, (IC.fr u (fun k => ⟨lo 3 k (by omega), lo 47 k (by omega)⟩) ic).up (by omega), IP.fr u ⟨lo 0 9 (by omega), lo 45 24 (by omega)⟩ ip, IB.fr u (fun k => ⟨lo 14 k (by omega), lo 76 k (by omega)⟩) ib, IOr.fr u (fun k => ⟨lo 19 k (by omega), lo 77 k (by omega)⟩) ⟨lo 13 6 (by omega), lo 13 7 (by omega), lo 45 37 (by omega), lo 45 38 (by omega), lo 45 39 (by omega)⟩ io, p, (IH.fr u (fun a k ha => lo a k (by omega)) ih).up (by omega), ILw.fr u (fun a k ha => lo a k (by omega)) lw, IJ.fr u (fun a k ha => lo a k (by omega)) ⟨lo 25 3 (by omega), lo 45 50 (by omega)⟩ ij, IPl.fr u (fun a k ha => lo a k (by omega)) ⟨lo 25 3 (by omega), lo 25 8 (by omega), lo 25 9 (by omega), lo 45 51 (by omega)⟩ il, by rw [u.1.1]; omega, by rw [u.1.2.1]; omega⟩
theorem cast_S {t : Nat} {h : Hp} (ht : t < 512) (i : IAll t h) (a0 : Int32) (a1 : Int32) : Sim IAll t (f_X9_cast h 0 a0 a1) (fun h1 => f_X10_cast h1 45 a0 a1) := by
  obtain ⟨hs, g, dd, x, q, fs, o, k, w, gd', m, ic, ip, ib, io, it, ih, lw, ij, il, b1, b2⟩ := id i
  refine sim_of (cast_ok ht hs ic a0 a1) ?_
  intro h2 pp u
  have p := pp
  have lo : ∀ a k : Nat, ¬ (a = 3 ∨ a = 47) → ¬ PC a k := fun a k h1 h2 => h1 (by unfold PC at h2; omega)
  have px : ∀ p, p < nP h → ∀ a k : Nat, True → ¬ PC (pb h p + a) k := fun p hp a k _ => lo _ _ (by have := pr_ g hp; omega)
  have sx : ∀ p, p < nS h → ∀ a k : Nat, True → ¬ PC (sb h p + a) k := fun p hp a k _ => lo _ _ (by have := sr_ g hp; omega)
  have fx : ∀ p, p < 2 * nS h → ∀ a k : Nat, True → ¬ PC (fb h p + a) k := fun p hp a k _ => fx_of (sx (p / 2) (by omega) _ k trivial)
  exact ⟨u.sh hs, IGeo.fr u ⟨lo 0 4 (by omega), lo 0 7 (by omega)⟩ g, IPd.fr u ⟨lo 0 4 (by omega), lo 0 7 (by omega), lo 45 11 (by omega)⟩ (fun a k ha => lo a k (by omega)) (fun p k hp => ⟨fun hk => px p hp 0 k trivial, px p hp 1 k trivial, px p hp 2 k trivial⟩) dd, IFix.fr u (fun a k ha => lo a k (by omega)) x, ISh.fr u ⟨lo 0 4 (by omega), lo 0 7 (by omega), lo 45 23 (by omega)⟩ (fun a k ha => lo a k (by omega)) (fun s k hs hk => sx s hs 0 k trivial) q, IFs.fr u ⟨lo 0 4 (by omega), lo 0 7 (by omega)⟩ (fun k => lo 66 k (by omega)) (fun s hs => sx s hs 0 5 trivial) fs, IFo.fr u g ⟨lo 0 4 (by omega), lo 0 7 (by omega)⟩ (fun a k ha => lo a k (by omega)) (fun f k hf => ⟨fun hk => fx f hf 0 k trivial, fun o ho => fx f hf o k trivial⟩) o, ISk.fr u g q ⟨lo 0 4 (by omega), lo 0 7 (by omega)⟩ (fun a k ha => lo a k (by omega)) ⟨fun f hf => fx f hf 0 2 trivial, same5 u g q (fun p hp => px p hp 0 5 trivial)⟩ k, ISn.fr u g q ⟨lo 0 4 (by omega), lo 0 7 (by omega)⟩ (fun a k ha => lo a k (by omega)) (fun p k hp => px p hp 3 k trivial) w, IGd.fr u g ⟨lo 0 4 (by omega), lo 0 7 (by omega)⟩ (fun k => lo 74 k (by omega)) (fun s k hs => ⟨sx s hs 0 7 trivial, sx s hs 13 k trivial⟩) gd', ISm.fr u (fun a k ha => lo a k (by omega)) m, p, IP.fr u ⟨lo 0 9 (by omega), lo 45 24 (by omega)⟩ ip, IB.fr u (fun k => ⟨lo 14 k (by omega), lo 76 k (by omega)⟩) ib, IOr.fr u (fun k => ⟨lo 19 k (by omega), lo 77 k (by omega)⟩) ⟨lo 13 6 (by omega), lo 13 7 (by omega), lo 45 37 (by omega), lo 45 38 (by omega), lo 45 39 (by omega)⟩ io, IT.fr u (fun k => ⟨lo 2 k (by omega), lo 46 k (by omega)⟩) ⟨lo 1 1 (by omega), lo 45 2 (by omega)⟩ it, (IH.fr u (fun a k ha => lo a k (by omega)) ih).up (by omega), ILw.fr u (fun a k ha => lo a k (by omega)) lw, IJ.fr u (fun a k ha => lo a k (by omega)) ⟨lo 25 3 (by omega), lo 45 50 (by omega)⟩ ij, IPl.fr u (fun a k ha => lo a k (by omega)) ⟨lo 25 3 (by omega), lo 25 8 (by omega), lo 25 9 (by omega), lo 45 51 (by omega)⟩ il, by rw [u.1.1]; omega, by rw [u.1.2.1]; omega⟩
theorem paper_S {t : Nat} {h : Hp} (ht : t < 512) (i : IAll t h) (a0 : Int32) : Sim IAll t (f_X9_paper h 0 a0) (fun h1 => f_X10_paper h1 45 a0) := by
  obtain ⟨hs, g, dd, x, q, fs, o, k, w, gd', m, ic, ip, ib, io, it, ih, lw, ij, il, b1, b2⟩ := id i
  refine sim_of (paper_ok hs ip a0) ?_
  intro h2 pp u
  have p := pp
  have lo : ∀ a k : Nat, ¬ ((a = 0 ∧ k = 9) ∨ (a = 45 ∧ k = 24)) → ¬ PP a k := fun a k h1 h2 => h1 (by unfold PP at h2; omega)
  have px : ∀ p, p < nP h → ∀ a k : Nat, True → ¬ PP (pb h p + a) k := fun p hp a k _ => lo _ _ (by have := pr_ g hp; omega)
  have sx : ∀ p, p < nS h → ∀ a k : Nat, True → ¬ PP (sb h p + a) k := fun p hp a k _ => lo _ _ (by have := sr_ g hp; omega)
  have fx : ∀ p, p < 2 * nS h → ∀ a k : Nat, True → ¬ PP (fb h p + a) k := fun p hp a k _ => fx_of (sx (p / 2) (by omega) _ k trivial)
  exact ⟨u.sh hs, IGeo.fr u ⟨lo 0 4 (by omega), lo 0 7 (by omega)⟩ g, IPd.fr u ⟨lo 0 4 (by omega), lo 0 7 (by omega), lo 45 11 (by omega)⟩ (fun a k ha => lo a k (by omega)) (fun p k hp => ⟨fun hk => px p hp 0 k trivial, px p hp 1 k trivial, px p hp 2 k trivial⟩) dd, IFix.fr u (fun a k ha => lo a k (by omega)) x, ISh.fr u ⟨lo 0 4 (by omega), lo 0 7 (by omega), lo 45 23 (by omega)⟩ (fun a k ha => lo a k (by omega)) (fun s k hs hk => sx s hs 0 k trivial) q, IFs.fr u ⟨lo 0 4 (by omega), lo 0 7 (by omega)⟩ (fun k => lo 66 k (by omega)) (fun s hs => sx s hs 0 5 trivial) fs, IFo.fr u g ⟨lo 0 4 (by omega), lo 0 7 (by omega)⟩ (fun a k ha => lo a k (by omega)) (fun f k hf => ⟨fun hk => fx f hf 0 k trivial, fun o ho => fx f hf o k trivial⟩) o, ISk.fr u g q ⟨lo 0 4 (by omega), lo 0 7 (by omega)⟩ (fun a k ha => lo a k (by omega)) ⟨fun f hf => fx f hf 0 2 trivial, same5 u g q (fun p hp => px p hp 0 5 trivial)⟩ k, ISn.fr u g q ⟨lo 0 4 (by omega), lo 0 7 (by omega)⟩ (fun a k ha => lo a k (by omega)) (fun p k hp => px p hp 3 k trivial) w, IGd.fr u g ⟨lo 0 4 (by omega), lo 0 7 (by omega)⟩ (fun k => lo 74 k (by omega)) (fun s k hs => ⟨sx s hs 0 7 trivial, sx s hs 13 k trivial⟩) gd', ISm.fr u (fun a k ha => lo a k (by omega)) m, (IC.fr u (fun k => ⟨lo 3 k (by omega), lo 47 k (by omega)⟩) ic).up (by omega), p, IB.fr u (fun k => ⟨lo 14 k (by omega), lo 76 k (by omega)⟩) ib, IOr.fr u (fun k => ⟨lo 19 k (by omega), lo 77 k (by omega)⟩) ⟨lo 13 6 (by omega), lo 13 7 (by omega), lo 45 37 (by omega), lo 45 38 (by omega), lo 45 39 (by omega)⟩ io, IT.fr u (fun k => ⟨lo 2 k (by omega), lo 46 k (by omega)⟩) ⟨lo 1 1 (by omega), lo 45 2 (by omega)⟩ it, (IH.fr u (fun a k ha => lo a k (by omega)) ih).up (by omega), ILw.fr u (fun a k ha => lo a k (by omega)) lw, IJ.fr u (fun a k ha => lo a k (by omega)) ⟨lo 25 3 (by omega), lo 45 50 (by omega)⟩ ij, IPl.fr u (fun a k ha => lo a k (by omega)) ⟨lo 25 3 (by omega), lo 25 8 (by omega), lo 25 9 (by omega), lo 45 51 (by omega)⟩ il, by rw [u.1.1]; omega, by rw [u.1.2.1]; omega⟩
theorem seen_S {t : Nat} {h : Hp} (ht : t < 512) (i : IAll t h) (a0 : Int32) (a1 : Int32) (a2 : Int32) : Sim IAll t (f_X9_seen h 0 a0 a1 a2) (fun h1 => f_X10_seen h1 45 a0 a1 a2) := by
  obtain ⟨hs, g, dd, x, q, fs, o, k, w, gd', m, ic, ip, ib, io, it, ih, lw, ij, il, b1, b2⟩ := id i
  refine sim_of (seen_ok hs ib a0 a1 a2) ?_
  intro h2 pp u
  have p := pp
  have lo : ∀ a k : Nat, ¬ (a = 14 ∨ a = 76) → ¬ PB a k := fun a k h1 h2 => h1 (by unfold PB at h2; omega)
  have px : ∀ p, p < nP h → ∀ a k : Nat, True → ¬ PB (pb h p + a) k := fun p hp a k _ => lo _ _ (by have := pr_ g hp; omega)
  have sx : ∀ p, p < nS h → ∀ a k : Nat, True → ¬ PB (sb h p + a) k := fun p hp a k _ => lo _ _ (by have := sr_ g hp; omega)
  have fx : ∀ p, p < 2 * nS h → ∀ a k : Nat, True → ¬ PB (fb h p + a) k := fun p hp a k _ => fx_of (sx (p / 2) (by omega) _ k trivial)
  exact ⟨u.sh hs, IGeo.fr u ⟨lo 0 4 (by omega), lo 0 7 (by omega)⟩ g, IPd.fr u ⟨lo 0 4 (by omega), lo 0 7 (by omega), lo 45 11 (by omega)⟩ (fun a k ha => lo a k (by omega)) (fun p k hp => ⟨fun hk => px p hp 0 k trivial, px p hp 1 k trivial, px p hp 2 k trivial⟩) dd, IFix.fr u (fun a k ha => lo a k (by omega)) x, ISh.fr u ⟨lo 0 4 (by omega), lo 0 7 (by omega), lo 45 23 (by omega)⟩ (fun a k ha => lo a k (by omega)) (fun s k hs hk => sx s hs 0 k trivial) q, IFs.fr u ⟨lo 0 4 (by omega), lo 0 7 (by omega)⟩ (fun k => lo 66 k (by omega)) (fun s hs => sx s hs 0 5 trivial) fs, IFo.fr u g ⟨lo 0 4 (by omega), lo 0 7 (by omega)⟩ (fun a k ha => lo a k (by omega)) (fun f k hf => ⟨fun hk => fx f hf 0 k trivial, fun o ho => fx f hf o k trivial⟩) o, ISk.fr u g q ⟨lo 0 4 (by omega), lo 0 7 (by omega)⟩ (fun a k ha => lo a k (by omega)) ⟨fun f hf => fx f hf 0 2 trivial, same5 u g q (fun p hp => px p hp 0 5 trivial)⟩ k, ISn.fr u g q ⟨lo 0 4 (by omega), lo 0 7 (by omega)⟩ (fun a k ha => lo a k (by omega)) (fun p k hp => px p hp 3 k trivial) w, IGd.fr u g ⟨lo 0 4 (by omega), lo 0 7 (by omega)⟩ (fun k => lo 74 k (by omega)) (fun s k hs => ⟨sx s hs 0 7 trivial, sx s hs 13 k trivial⟩) gd', ISm.fr u (fun a k ha => lo a k (by omega)) m, (IC.fr u (fun k => ⟨lo 3 k (by omega), lo 47 k (by omega)⟩) ic).up (by omega), IP.fr u ⟨lo 0 9 (by omega), lo 45 24 (by omega)⟩ ip, p, IOr.fr u (fun k => ⟨lo 19 k (by omega), lo 77 k (by omega)⟩) ⟨lo 13 6 (by omega), lo 13 7 (by omega), lo 45 37 (by omega), lo 45 38 (by omega), lo 45 39 (by omega)⟩ io, IT.fr u (fun k => ⟨lo 2 k (by omega), lo 46 k (by omega)⟩) ⟨lo 1 1 (by omega), lo 45 2 (by omega)⟩ it, (IH.fr u (fun a k ha => lo a k (by omega)) ih).up (by omega), ILw.fr u (fun a k ha => lo a k (by omega)) lw, IJ.fr u (fun a k ha => lo a k (by omega)) ⟨lo 25 3 (by omega), lo 45 50 (by omega)⟩ ij, IPl.fr u (fun a k ha => lo a k (by omega)) ⟨lo 25 3 (by omega), lo 25 8 (by omega), lo 25 9 (by omega), lo 45 51 (by omega)⟩ il, by rw [u.1.1]; omega, by rw [u.1.2.1]; omega⟩
theorem order_S {t : Nat} {h : Hp} (ht : t < 512) (i : IAll t h) (a0 : Int32) : Sim IAll t (f_X9_order h 0 a0) (fun h1 => f_X10_order h1 45 a0) := by
  obtain ⟨hs, g, dd, x, q, fs, o, k, w, gd', m, ic, ip, ib, io, it, ih, lw, ij, il, b1, b2⟩ := id i
  refine sim_of (order_ok hs ib io a0) ?_
  intro h2 pp u
  have p := pp
  have lo : ∀ a k : Nat, ¬ (15 ≤ a ∧ a ≤ 19 ∨ (a = 13 ∧ (k = 6 ∨ k = 7)) ∨ a = 75 ∨ a = 77 ∨ a = 78 ∨ (a = 45 ∧ (k = 37 ∨ k = 38 ∨ k = 39))) → ¬ POr a k := fun a k h1 h2 => h1 (by unfold POr PO POm at h2; omega)
  have px : ∀ p, p < nP h → ∀ a k : Nat, True → ¬ POr (pb h p + a) k := fun p hp a k _ => lo _ _ (by have := pr_ g hp; omega)
  have sx : ∀ p, p < nS h → ∀ a k : Nat, True → ¬ POr (sb h p + a) k := fun p hp a k _ => lo _ _ (by have := sr_ g hp; omega)
  have fx : ∀ p, p < 2 * nS h → ∀ a k : Nat, True → ¬ POr (fb h p + a) k := fun p hp a k _ => fx_of (sx (p / 2) (by omega) _ k trivial)
  exact ⟨u.sh hs, IGeo.fr u ⟨lo 0 4 (by omega), lo 0 7 (by omega)⟩ g, IPd.fr u ⟨lo 0 4 (by omega), lo 0 7 (by omega), lo 45 11 (by omega)⟩ (fun a k ha => lo a k (by omega)) (fun p k hp => ⟨fun hk => px p hp 0 k trivial, px p hp 1 k trivial, px p hp 2 k trivial⟩) dd, IFix.fr u (fun a k ha => lo a k (by omega)) x, ISh.fr u ⟨lo 0 4 (by omega), lo 0 7 (by omega), lo 45 23 (by omega)⟩ (fun a k ha => lo a k (by omega)) (fun s k hs hk => sx s hs 0 k trivial) q, IFs.fr u ⟨lo 0 4 (by omega), lo 0 7 (by omega)⟩ (fun k => lo 66 k (by omega)) (fun s hs => sx s hs 0 5 trivial) fs, IFo.fr u g ⟨lo 0 4 (by omega), lo 0 7 (by omega)⟩ (fun a k ha => lo a k (by omega)) (fun f k hf => ⟨fun hk => fx f hf 0 k trivial, fun o ho => fx f hf o k trivial⟩) o, ISk.fr u g q ⟨lo 0 4 (by omega), lo 0 7 (by omega)⟩ (fun a k ha => lo a k (by omega)) ⟨fun f hf => fx f hf 0 2 trivial, same5 u g q (fun p hp => px p hp 0 5 trivial)⟩ k, ISn.fr u g q ⟨lo 0 4 (by omega), lo 0 7 (by omega)⟩ (fun a k ha => lo a k (by omega)) (fun p k hp => px p hp 3 k trivial) w, IGd.fr u g ⟨lo 0 4 (by omega), lo 0 7 (by omega)⟩ (fun k => lo 74 k (by omega)) (fun s k hs => ⟨sx s hs 0 7 trivial, sx s hs 13 k trivial⟩) gd', ISm.fr u (fun a k ha => lo a k (by omega)) m, (IC.fr u (fun k => ⟨lo 3 k (by omega), lo 47 k (by omega)⟩) ic).up (by omega), IP.fr u ⟨lo 0 9 (by omega), lo 45 24 (by omega)⟩ ip, IB.fr u (fun k => ⟨lo 14 k (by omega), lo 76 k (by omega)⟩) ib, p, IT.fr u (fun k => ⟨lo 2 k (by omega), lo 46 k (by omega)⟩) ⟨lo 1 1 (by omega), lo 45 2 (by omega)⟩ it, (IH.fr u (fun a k ha => lo a k (by omega)) ih).up (by omega), ILw.fr u (fun a k ha => lo a k (by omega)) lw, IJ.fr u (fun a k ha => lo a k (by omega)) ⟨lo 25 3 (by omega), lo 45 50 (by omega)⟩ ij, IPl.fr u (fun a k ha => lo a k (by omega)) ⟨lo 25 3 (by omega), lo 25 8 (by omega), lo 25 9 (by omega), lo 45 51 (by omega)⟩ il, by rw [u.1.1]; omega, by rw [u.1.2.1]; omega⟩
theorem law_S {t : Nat} {h : Hp} (ht : t < 512) (i : IAll t h) : Sim IAll t (f_X9_law h 0) (fun h1 => f_X10_law h1 45) := by
  obtain ⟨hs, g, dd, x, q, fs, o, k, w, gd', m, ic, ip, ib, io, it, ih, lw, ij, il, b1, b2⟩ := id i
  refine sim_of (law_ok hs it lw) ?_
  intro h2 pp u
  obtain ⟨p1, p2⟩ := pp
  have lo : ∀ a k : Nat, ¬ (20 ≤ a ∧ a ≤ 24 ∨ (a = 1 ∧ k = 1) ∨ 79 ≤ a ∧ a ≤ 82 ∨ (a = 45 ∧ (k = 44 ∨ k = 2))) → ¬ PLw a k := fun a k h1 h2 => h1 (by unfold PLw PTk PLn at h2; omega)
  have px : ∀ p, p < nP h → ∀ a k : Nat, True → ¬ PLw (pb h p + a) k := fun p hp a k _ => lo _ _ (by have := pr_ g hp; omega)
  have sx : ∀ p, p < nS h → ∀ a k : Nat, True → ¬ PLw (sb h p + a) k := fun p hp a k _ => lo _ _ (by have := sr_ g hp; omega)
  have fx : ∀ p, p < 2 * nS h → ∀ a k : Nat, True → ¬ PLw (fb h p + a) k := fun p hp a k _ => fx_of (sx (p / 2) (by omega) _ k trivial)
  exact ⟨u.sh hs, IGeo.fr u ⟨lo 0 4 (by omega), lo 0 7 (by omega)⟩ g, IPd.fr u ⟨lo 0 4 (by omega), lo 0 7 (by omega), lo 45 11 (by omega)⟩ (fun a k ha => lo a k (by omega)) (fun p k hp => ⟨fun hk => px p hp 0 k trivial, px p hp 1 k trivial, px p hp 2 k trivial⟩) dd, IFix.fr u (fun a k ha => lo a k (by omega)) x, ISh.fr u ⟨lo 0 4 (by omega), lo 0 7 (by omega), lo 45 23 (by omega)⟩ (fun a k ha => lo a k (by omega)) (fun s k hs hk => sx s hs 0 k trivial) q, IFs.fr u ⟨lo 0 4 (by omega), lo 0 7 (by omega)⟩ (fun k => lo 66 k (by omega)) (fun s hs => sx s hs 0 5 trivial) fs, IFo.fr u g ⟨lo 0 4 (by omega), lo 0 7 (by omega)⟩ (fun a k ha => lo a k (by omega)) (fun f k hf => ⟨fun hk => fx f hf 0 k trivial, fun o ho => fx f hf o k trivial⟩) o, ISk.fr u g q ⟨lo 0 4 (by omega), lo 0 7 (by omega)⟩ (fun a k ha => lo a k (by omega)) ⟨fun f hf => fx f hf 0 2 trivial, same5 u g q (fun p hp => px p hp 0 5 trivial)⟩ k, ISn.fr u g q ⟨lo 0 4 (by omega), lo 0 7 (by omega)⟩ (fun a k ha => lo a k (by omega)) (fun p k hp => px p hp 3 k trivial) w, IGd.fr u g ⟨lo 0 4 (by omega), lo 0 7 (by omega)⟩ (fun k => lo 74 k (by omega)) (fun s k hs => ⟨sx s hs 0 7 trivial, sx s hs 13 k trivial⟩) gd', ISm.fr u (fun a k ha => lo a k (by omega)) m, (IC.fr u (fun k => ⟨lo 3 k (by omega), lo 47 k (by omega)⟩) ic).up (by omega), IP.fr u ⟨lo 0 9 (by omega), lo 45 24 (by omega)⟩ ip, IB.fr u (fun k => ⟨lo 14 k (by omega), lo 76 k (by omega)⟩) ib, IOr.fr u (fun k => ⟨lo 19 k (by omega), lo 77 k (by omega)⟩) ⟨lo 13 6 (by omega), lo 13 7 (by omega), lo 45 37 (by omega), lo 45 38 (by omega), lo 45 39 (by omega)⟩ io, p1, (IH.fr u (fun a k ha => lo a k (by omega)) ih).up (by omega), p2, IJ.fr u (fun a k ha => lo a k (by omega)) ⟨lo 25 3 (by omega), lo 45 50 (by omega)⟩ ij, IPl.fr u (fun a k ha => lo a k (by omega)) ⟨lo 25 3 (by omega), lo 25 8 (by omega), lo 25 9 (by omega), lo 45 51 (by omega)⟩ il, by rw [u.1.1]; omega, by rw [u.1.2.1]; omega⟩
theorem job_S {t : Nat} {h : Hp} (ht : t < 512) (i : IAll t h) (a0 : Int32) (a1 : Int32) (a2 : Int32) : Sim IAll t (f_X9_job h 0 a0 a1 a2) (fun h1 => f_X10_job h1 45 a0 a1 a2) := by
  obtain ⟨hs, g, dd, x, q, fs, o, k, w, gd', m, ic, ip, ib, io, it, ih, lw, ij, il, b1, b2⟩ := id i
  refine sim_of (job_ok hs ij il a0 a1 a2) ?_
  intro h2 pp u
  obtain ⟨p1, p2⟩ := pp
  have lo : ∀ a k : Nat, ¬ (26 ≤ a ∧ a ≤ 28 ∨ 83 ≤ a ∧ a ≤ 85 ∨ (a = 25 ∧ k = 3) ∨ (a = 45 ∧ k = 50)) → ¬ PJb a k := fun a k h1 h2 => h1 (by unfold PJb at h2; omega)
  have px : ∀ p, p < nP h → ∀ a k : Nat, True → ¬ PJb (pb h p + a) k := fun p hp a k _ => lo _ _ (by have := pr_ g hp; omega)
  have sx : ∀ p, p < nS h → ∀ a k : Nat, True → ¬ PJb (sb h p + a) k := fun p hp a k _ => lo _ _ (by have := sr_ g hp; omega)
  have fx : ∀ p, p < 2 * nS h → ∀ a k : Nat, True → ¬ PJb (fb h p + a) k := fun p hp a k _ => fx_of (sx (p / 2) (by omega) _ k trivial)
  exact ⟨u.sh hs, IGeo.fr u ⟨lo 0 4 (by omega), lo 0 7 (by omega)⟩ g, IPd.fr u ⟨lo 0 4 (by omega), lo 0 7 (by omega), lo 45 11 (by omega)⟩ (fun a k ha => lo a k (by omega)) (fun p k hp => ⟨fun hk => px p hp 0 k trivial, px p hp 1 k trivial, px p hp 2 k trivial⟩) dd, IFix.fr u (fun a k ha => lo a k (by omega)) x, ISh.fr u ⟨lo 0 4 (by omega), lo 0 7 (by omega), lo 45 23 (by omega)⟩ (fun a k ha => lo a k (by omega)) (fun s k hs hk => sx s hs 0 k trivial) q, IFs.fr u ⟨lo 0 4 (by omega), lo 0 7 (by omega)⟩ (fun k => lo 66 k (by omega)) (fun s hs => sx s hs 0 5 trivial) fs, IFo.fr u g ⟨lo 0 4 (by omega), lo 0 7 (by omega)⟩ (fun a k ha => lo a k (by omega)) (fun f k hf => ⟨fun hk => fx f hf 0 k trivial, fun o ho => fx f hf o k trivial⟩) o, ISk.fr u g q ⟨lo 0 4 (by omega), lo 0 7 (by omega)⟩ (fun a k ha => lo a k (by omega)) ⟨fun f hf => fx f hf 0 2 trivial, same5 u g q (fun p hp => px p hp 0 5 trivial)⟩ k, ISn.fr u g q ⟨lo 0 4 (by omega), lo 0 7 (by omega)⟩ (fun a k ha => lo a k (by omega)) (fun p k hp => px p hp 3 k trivial) w, IGd.fr u g ⟨lo 0 4 (by omega), lo 0 7 (by omega)⟩ (fun k => lo 74 k (by omega)) (fun s k hs => ⟨sx s hs 0 7 trivial, sx s hs 13 k trivial⟩) gd', ISm.fr u (fun a k ha => lo a k (by omega)) m, (IC.fr u (fun k => ⟨lo 3 k (by omega), lo 47 k (by omega)⟩) ic).up (by omega), IP.fr u ⟨lo 0 9 (by omega), lo 45 24 (by omega)⟩ ip, IB.fr u (fun k => ⟨lo 14 k (by omega), lo 76 k (by omega)⟩) ib, IOr.fr u (fun k => ⟨lo 19 k (by omega), lo 77 k (by omega)⟩) ⟨lo 13 6 (by omega), lo 13 7 (by omega), lo 45 37 (by omega), lo 45 38 (by omega), lo 45 39 (by omega)⟩ io, IT.fr u (fun k => ⟨lo 2 k (by omega), lo 46 k (by omega)⟩) ⟨lo 1 1 (by omega), lo 45 2 (by omega)⟩ it, (IH.fr u (fun a k ha => lo a k (by omega)) ih).up (by omega), ILw.fr u (fun a k ha => lo a k (by omega)) lw, p1, p2, by rw [u.1.1]; omega, by rw [u.1.2.1]; omega⟩
theorem plan_S {t : Nat} {h : Hp} (ht : t < 512) (i : IAll t h) : Sim IAll t (f_X9_plan h 0) (fun h1 => f_X10_plan h1 45) := by
  obtain ⟨hs, g, dd, x, q, fs, o, k, w, gd', m, ic, ip, ib, io, it, ih, lw, ij, il, b1, b2⟩ := id i
  refine sim_of (plan_ok hs ij il) ?_
  intro h2 pp u
  obtain ⟨p1, p2⟩ := pp
  have lo : ∀ a k : Nat, ¬ (a = 75 ∨ a = 86 ∨ a = 87 ∨ (a = 45 ∧ (k = 51 ∨ k = 52)) ∨ 29 ≤ a ∧ a ≤ 32 ∨ (a = 25 ∧ (k = 8 ∨ k = 9 ∨ k = 10))) → ¬ PPl a k := fun a k h1 h2 => h1 (by unfold PPl at h2; omega)
  have px : ∀ p, p < nP h → ∀ a k : Nat, True → ¬ PPl (pb h p + a) k := fun p hp a k _ => lo _ _ (by have := pr_ g hp; omega)
  have sx : ∀ p, p < nS h → ∀ a k : Nat, True → ¬ PPl (sb h p + a) k := fun p hp a k _ => lo _ _ (by have := sr_ g hp; omega)
  have fx : ∀ p, p < 2 * nS h → ∀ a k : Nat, True → ¬ PPl (fb h p + a) k := fun p hp a k _ => fx_of (sx (p / 2) (by omega) _ k trivial)
  exact ⟨u.sh hs, IGeo.fr u ⟨lo 0 4 (by omega), lo 0 7 (by omega)⟩ g, IPd.fr u ⟨lo 0 4 (by omega), lo 0 7 (by omega), lo 45 11 (by omega)⟩ (fun a k ha => lo a k (by omega)) (fun p k hp => ⟨fun hk => px p hp 0 k trivial, px p hp 1 k trivial, px p hp 2 k trivial⟩) dd, IFix.fr u (fun a k ha => lo a k (by omega)) x, ISh.fr u ⟨lo 0 4 (by omega), lo 0 7 (by omega), lo 45 23 (by omega)⟩ (fun a k ha => lo a k (by omega)) (fun s k hs hk => sx s hs 0 k trivial) q, IFs.fr u ⟨lo 0 4 (by omega), lo 0 7 (by omega)⟩ (fun k => lo 66 k (by omega)) (fun s hs => sx s hs 0 5 trivial) fs, IFo.fr u g ⟨lo 0 4 (by omega), lo 0 7 (by omega)⟩ (fun a k ha => lo a k (by omega)) (fun f k hf => ⟨fun hk => fx f hf 0 k trivial, fun o ho => fx f hf o k trivial⟩) o, ISk.fr u g q ⟨lo 0 4 (by omega), lo 0 7 (by omega)⟩ (fun a k ha => lo a k (by omega)) ⟨fun f hf => fx f hf 0 2 trivial, same5 u g q (fun p hp => px p hp 0 5 trivial)⟩ k, ISn.fr u g q ⟨lo 0 4 (by omega), lo 0 7 (by omega)⟩ (fun a k ha => lo a k (by omega)) (fun p k hp => px p hp 3 k trivial) w, IGd.fr u g ⟨lo 0 4 (by omega), lo 0 7 (by omega)⟩ (fun k => lo 74 k (by omega)) (fun s k hs => ⟨sx s hs 0 7 trivial, sx s hs 13 k trivial⟩) gd', ISm.fr u (fun a k ha => lo a k (by omega)) m, (IC.fr u (fun k => ⟨lo 3 k (by omega), lo 47 k (by omega)⟩) ic).up (by omega), IP.fr u ⟨lo 0 9 (by omega), lo 45 24 (by omega)⟩ ip, IB.fr u (fun k => ⟨lo 14 k (by omega), lo 76 k (by omega)⟩) ib, IOr.fr u (fun k => ⟨lo 19 k (by omega), lo 77 k (by omega)⟩) ⟨lo 13 6 (by omega), lo 13 7 (by omega), lo 45 37 (by omega), lo 45 38 (by omega), lo 45 39 (by omega)⟩ io, IT.fr u (fun k => ⟨lo 2 k (by omega), lo 46 k (by omega)⟩) ⟨lo 1 1 (by omega), lo 45 2 (by omega)⟩ it, (IH.fr u (fun a k ha => lo a k (by omega)) ih).up (by omega), ILw.fr u (fun a k ha => lo a k (by omega)) lw, p1, p2, by rw [u.1.1]; omega, by rw [u.1.2.1]; omega⟩
theorem tape_I {t : Nat} {h h2 : Hp} (i : IAll t h) (p : IT h2) (u : Upd h h2 PT) : IAll (t + 1) h2 := by
  obtain ⟨hs, g, dd, x, q, fs, o, k, w, gd', m, ic, ip, ib, io, it, ih, lw, ij, il, b1, b2⟩ := id i
  have lo : ∀ a k : Nat, ¬ (a = 2 ∨ a = 46 ∨ (a = 1 ∧ k = 1) ∨ (a = 45 ∧ k = 2)) → ¬ PT a k := fun a k h1 h2 => h1 (by unfold PT at h2; omega)
  have px : ∀ p, p < nP h → ∀ a k : Nat, (0 ≤ a) → ¬ PT (pb h p + a) k := fun p hp a k _ => lo _ _ (by have := pr_ g hp; omega)
  have sx : ∀ p, p < nS h → ∀ a k : Nat, (0 ≤ a) → ¬ PT (sb h p + a) k := fun p hp a k _ => lo _ _ (by have := sr_ g hp; omega)
  have fx : ∀ p, p < 2 * nS h → ∀ a k : Nat, (0 ≤ a) → ¬ PT (fb h p + a) k := fun p hp a k _ => fx_of (sx (p / 2) (by omega) _ k (Nat.zero_le _))
  exact ⟨u.sh hs, IGeo.fr u ⟨lo 0 4 (by omega), lo 0 7 (by omega)⟩ g, IPd.fr u ⟨lo 0 4 (by omega), lo 0 7 (by omega), lo 45 11 (by omega)⟩ (fun a k ha => lo a k (by omega)) (fun p k hp => ⟨fun hk => px p hp 0 k (by omega), px p hp 1 k (by omega), px p hp 2 k (by omega)⟩) dd, IFix.fr u (fun a k ha => lo a k (by omega)) x, ISh.fr u ⟨lo 0 4 (by omega), lo 0 7 (by omega), lo 45 23 (by omega)⟩ (fun a k ha => lo a k (by omega)) (fun s k hs hk => sx s hs 0 k (by omega)) q, IFs.fr u ⟨lo 0 4 (by omega), lo 0 7 (by omega)⟩ (fun k => lo 66 k (by omega)) (fun s hs => sx s hs 0 5 (by omega)) fs, IFo.fr u g ⟨lo 0 4 (by omega), lo 0 7 (by omega)⟩ (fun a k ha => lo a k (by omega)) (fun f k hf => ⟨fun hk => fx f hf 0 k (by omega), fun o ho => fx f hf o k (by omega)⟩) o, ISk.fr u g q ⟨lo 0 4 (by omega), lo 0 7 (by omega)⟩ (fun a k ha => lo a k (by omega)) ⟨fun f hf => fx f hf 0 2 (by omega), same5 u g q (fun p hp => px p hp 0 5 (by omega))⟩ k, ISn.fr u g q ⟨lo 0 4 (by omega), lo 0 7 (by omega)⟩ (fun a k ha => lo a k (by omega)) (fun p k hp => px p hp 3 k (by omega)) w, IGd.fr u g ⟨lo 0 4 (by omega), lo 0 7 (by omega)⟩ (fun k => lo 74 k (by omega)) (fun s k hs => ⟨sx s hs 0 7 (by omega), sx s hs 13 k (by omega)⟩) gd', ISm.fr u (fun a k ha => lo a k (by omega)) m, (IC.fr u (fun k => ⟨lo 3 k (by omega), lo 47 k (by omega)⟩) ic).up (by omega), IP.fr u ⟨lo 0 9 (by omega), lo 45 24 (by omega)⟩ ip, IB.fr u (fun k => ⟨lo 14 k (by omega), lo 76 k (by omega)⟩) ib, IOr.fr u (fun k => ⟨lo 19 k (by omega), lo 77 k (by omega)⟩) ⟨lo 13 6 (by omega), lo 13 7 (by omega), lo 45 37 (by omega), lo 45 38 (by omega), lo 45 39 (by omega)⟩ io, p, (IH.fr u (fun a k ha => lo a k (by omega)) ih).up (by omega), ILw.fr u (fun a k ha => lo a k (by omega)) lw, IJ.fr u (fun a k ha => lo a k (by omega)) ⟨lo 25 3 (by omega), lo 45 50 (by omega)⟩ ij, IPl.fr u (fun a k ha => lo a k (by omega)) ⟨lo 25 3 (by omega), lo 25 8 (by omega), lo 25 9 (by omega), lo 45 51 (by omega)⟩ il, by rw [u.1.1]; omega, by rw [u.1.2.1]; omega⟩
theorem set_S {t : Nat} {h : Hp} (ht : t < 512) (i : IAll t h) (a0 : Int32) (a1 : Int32) : Sim IAll t (f_X9_set h 0 a0 a1) (fun h1 => f_X10_set h1 45 a0 a1) := by
  obtain ⟨hs, g, dd, x, q, fs, o, k, w, gd', m, ic, ip, ib, io, it, ih, lw, ij, il, b1, b2⟩ := id i
  refine sim_of (set_ok ht hs g dd ic ih a0 a1) ?_
  intro h2 pp u
  obtain ⟨p1, p2, p3, p4⟩ := pp
  have lo : ∀ a k : Nat, (a < 88 ∧ a ≠ 3 ∧ a ≠ 4 ∧ a ≠ 47 ∧ a ≠ 10 ∧ a ≠ 56 ∧ a ≠ 50 ∧ a ≠ 52) → ¬ (fun a j => ∃ p, p < nP h ∧ PSt h p a j) a k := fun a k hc pp => by
    obtain ⟨p', hp', w'⟩ := pp
    have r := pr_ g hp'
    unfold PSt at w'
    omega
  have px : ∀ p, p < nP h → ∀ i k : Nat, (i = 1 ∨ i = 3) → ¬ (fun a j => ∃ p, p < nP h ∧ PSt h p a j) (pb h p + i) k := fun p hp i k hc pp => by
    have r1 := pr_ g hp
    obtain ⟨p', hp', w'⟩ := pp
    have r := pr_ g hp'
    have d := dPP g hp hp'
    unfold PSt at w'
    have e : p = p' → pb h p = pb h p' := fun z => by rw [z]
    omega
  have sx : ∀ s, s < nS h → ∀ i k : Nat, (i < 14) → ¬ (fun a j => ∃ p, p < nP h ∧ PSt h p a j) (sb h s + i) k := fun s hs i k hc pp => by
    have r1 := sr_ g hs
    obtain ⟨p', hp', w'⟩ := pp
    have r := pr_ g hp'
    have d := dPS g hp' hs
    unfold PSt at w'
    omega
  have fx : ∀ f, f < 2 * nS h → ∀ o k : Nat, (o < 6) → ¬ (fun a j => ∃ p, p < nP h ∧ PSt h p a j) (fb h f + o) k := fun f hf o k hc => fx_of (h := h) (P := fun a j => ∃ p, p < nP h ∧ PSt h p a j) (f := f) (o := o) (k := k) (sx (f / 2) (by omega) (1 + 6 * (f % 2) + o) k (by omega))
  exact ⟨u.sh hs, IGeo.fr u ⟨lo 0 4 (by omega), lo 0 7 (by omega)⟩ g, p1, IFix.fr u (fun a k ha => lo a k (by omega)) x, ISh.fr u ⟨lo 0 4 (by omega), lo 0 7 (by omega), lo 45 23 (by omega)⟩ (fun a k ha => lo a k (by omega)) (fun s k hs hk => sx s hs 0 k (by omega)) q, IFs.fr u ⟨lo 0 4 (by omega), lo 0 7 (by omega)⟩ (fun k => lo 66 k (by omega)) (fun s hs => sx s hs 0 5 (by omega)) fs, IFo.fr u g ⟨lo 0 4 (by omega), lo 0 7 (by omega)⟩ (fun a k ha => lo a k (by omega)) (fun f k hf => ⟨fun hk => fx f hf 0 k (by omega), fun o ho => fx f hf o k (by omega)⟩) o, ISk.fr u g q ⟨lo 0 4 (by omega), lo 0 7 (by omega)⟩ (fun a k ha => lo a k (by omega)) ⟨fun f hf => fx f hf 0 2 (by omega), (fun s k hs hk _ e => p4 _ (pgS_lt q hs hk).1 e)⟩ k, ISn.fr u g q ⟨lo 0 4 (by omega), lo 0 7 (by omega)⟩ (fun a k ha => lo a k (by omega)) (fun p k hp => px p hp 3 k (by omega)) w, IGd.fr u g ⟨lo 0 4 (by omega), lo 0 7 (by omega)⟩ (fun k => lo 74 k (by omega)) (fun s k hs => ⟨sx s hs 0 7 (by omega), sx s hs 13 k (by omega)⟩) gd', ISm.fr u (fun a k ha => lo a k (by omega)) m, p2, IP.fr u ⟨lo 0 9 (by omega), lo 45 24 (by omega)⟩ ip, IB.fr u (fun k => ⟨lo 14 k (by omega), lo 76 k (by omega)⟩) ib, IOr.fr u (fun k => ⟨lo 19 k (by omega), lo 77 k (by omega)⟩) ⟨lo 13 6 (by omega), lo 13 7 (by omega), lo 45 37 (by omega), lo 45 38 (by omega), lo 45 39 (by omega)⟩ io, IT.fr u (fun k => ⟨lo 2 k (by omega), lo 46 k (by omega)⟩) ⟨lo 1 1 (by omega), lo 45 2 (by omega)⟩ it, p3, ILw.fr u (fun a k ha => lo a k (by omega)) lw, IJ.fr u (fun a k ha => lo a k (by omega)) ⟨lo 25 3 (by omega), lo 45 50 (by omega)⟩ ij, IPl.fr u (fun a k ha => lo a k (by omega)) ⟨lo 25 3 (by omega), lo 25 8 (by omega), lo 25 9 (by omega), lo 45 51 (by omega)⟩ il, by rw [u.1.1]; omega, by rw [u.1.2.1]; omega⟩
theorem distribute_S {t : Nat} {h : Hp} (ht : t < 512) (i : IAll t h) (a0 : Int32) : Sim IAll t (f_X9_distribute h 0 a0) (fun h1 => f_X10_distribute h1 45 a0) := by
  obtain ⟨hs, g, dd, x, q, fs, o, k, w, gd', m, ic, ip, ib, io, it, ih, lw, ij, il, b1, b2⟩ := id i
  refine sim_of (distribute_ok ht hs g dd q k ic a0) ?_
  intro h2 pp u
  obtain ⟨p1, p2, p3, p4⟩ := pp
  have lo : ∀ a k : Nat, (a < 88 ∧ a ≠ 3 ∧ a ≠ 4 ∧ a ≠ 47 ∧ a ≠ 10 ∧ a ≠ 56 ∧ a ≠ 50 ∧ a ≠ 52) → ¬ (fun a j => ∃ p, p < nP h ∧ PSt h p a j) a k := fun a k hc pp => by
    obtain ⟨p', hp', w'⟩ := pp
    have r := pr_ g hp'
    unfold PSt at w'
    omega
  have px : ∀ p, p < nP h → ∀ i k : Nat, (i = 1 ∨ i = 3) → ¬ (fun a j => ∃ p, p < nP h ∧ PSt h p a j) (pb h p + i) k := fun p hp i k hc pp => by
    have r1 := pr_ g hp
    obtain ⟨p', hp', w'⟩ := pp
    have r := pr_ g hp'
    have d := dPP g hp hp'
    unfold PSt at w'
    have e : p = p' → pb h p = pb h p' := fun z => by rw [z]
    omega
  have sx : ∀ s, s < nS h → ∀ i k : Nat, (i < 14) → ¬ (fun a j => ∃ p, p < nP h ∧ PSt h p a j) (sb h s + i) k := fun s hs i k hc pp => by
    have r1 := sr_ g hs
    obtain ⟨p', hp', w'⟩ := pp
    have r := pr_ g hp'
    have d := dPS g hp' hs
    unfold PSt at w'
    omega
  have fx : ∀ f, f < 2 * nS h → ∀ o k : Nat, (o < 6) → ¬ (fun a j => ∃ p, p < nP h ∧ PSt h p a j) (fb h f + o) k := fun f hf o k hc => fx_of (h := h) (P := fun a j => ∃ p, p < nP h ∧ PSt h p a j) (f := f) (o := o) (k := k) (sx (f / 2) (by omega) (1 + 6 * (f % 2) + o) k (by omega))
  exact ⟨u.sh hs, IGeo.fr u ⟨lo 0 4 (by omega), lo 0 7 (by omega)⟩ g, p1, IFix.fr u (fun a k ha => lo a k (by omega)) x, ISh.fr u ⟨lo 0 4 (by omega), lo 0 7 (by omega), lo 45 23 (by omega)⟩ (fun a k ha => lo a k (by omega)) (fun s k hs hk => sx s hs 0 k (by omega)) q, IFs.fr u ⟨lo 0 4 (by omega), lo 0 7 (by omega)⟩ (fun k => lo 66 k (by omega)) (fun s hs => sx s hs 0 5 (by omega)) fs, IFo.fr u g ⟨lo 0 4 (by omega), lo 0 7 (by omega)⟩ (fun a k ha => lo a k (by omega)) (fun f k hf => ⟨fun hk => fx f hf 0 k (by omega), fun o ho => fx f hf o k (by omega)⟩) o, ISk.fr u g q ⟨lo 0 4 (by omega), lo 0 7 (by omega)⟩ (fun a k ha => lo a k (by omega)) ⟨fun f hf => fx f hf 0 2 (by omega), p4⟩ k, ISn.fr u g q ⟨lo 0 4 (by omega), lo 0 7 (by omega)⟩ (fun a k ha => lo a k (by omega)) (fun p k hp => px p hp 3 k (by omega)) w, IGd.fr u g ⟨lo 0 4 (by omega), lo 0 7 (by omega)⟩ (fun k => lo 74 k (by omega)) (fun s k hs => ⟨sx s hs 0 7 (by omega), sx s hs 13 k (by omega)⟩) gd', ISm.fr u (fun a k ha => lo a k (by omega)) m, p2, IP.fr u ⟨lo 0 9 (by omega), lo 45 24 (by omega)⟩ ip, IB.fr u (fun k => ⟨lo 14 k (by omega), lo 76 k (by omega)⟩) ib, IOr.fr u (fun k => ⟨lo 19 k (by omega), lo 77 k (by omega)⟩) ⟨lo 13 6 (by omega), lo 13 7 (by omega), lo 45 37 (by omega), lo 45 38 (by omega), lo 45 39 (by omega)⟩ io, IT.fr u (fun k => ⟨lo 2 k (by omega), lo 46 k (by omega)⟩) ⟨lo 1 1 (by omega), lo 45 2 (by omega)⟩ it, (IH_eq (fun a k ha => (if c : a = 10 ∨ a = 56 then p3 a k c else u.2 a k (lo a k (by omega)))) ih).up (by omega), ILw.fr u (fun a k ha => lo a k (by omega)) lw, IJ.fr u (fun a k ha => lo a k (by omega)) ⟨lo 25 3 (by omega), lo 45 50 (by omega)⟩ ij, IPl.fr u (fun a k ha => lo a k (by omega)) ⟨lo 25 3 (by omega), lo 25 8 (by omega), lo 25 9 (by omega), lo 45 51 (by omega)⟩ il, by rw [u.1.1]; omega, by rw [u.1.2.1]; omega⟩
theorem misset_S {t : Nat} {h : Hp} (ht : t < 512) (i : IAll t h) (a0 : Int32) (a1 : Int32) (a2 : Int32) : Sim IAll t (f_X9_misset h 0 a0 a1 a2) (fun h1 => f_X10_misset h1 45 a0 a1 a2) := by
  obtain ⟨hs, g, dd, x, q, fs, o, k, w, gd', m, ic, ip, ib, io, it, ih, lw, ij, il, b1, b2⟩ := id i
  refine sim_of (misset_ok ht hs g dd q k o ic a0 a1 a2) ?_
  intro h2 pp u
  obtain ⟨p1, p2, p3⟩ := pp
  have lo : ∀ a k : Nat, (a < 88 ∧ a ≠ 3 ∧ a ≠ 47 ∧ a ≠ 50 ∧ a ≠ 69 ∧ a ≠ 71 ∧ a ≠ 72 ∧ a ≠ 73) → ¬ (fun a j => (∃ p, p < nP h ∧ PSt h p a j ∧ a ≠ 10 ∧ a ≠ 56 ∧ a ≠ 4 ∧ a ≠ 52 ∧ (∀ q, q < nP h → a ≠ pb h q)) ∨ ∃ f, f < 2 * nS h ∧ PNt h f a j) a k := fun a k hc pp => by
    rcases pp with ⟨p', hp', w', n1, n2, n3, n4, n5⟩ | ⟨f, hf, w'⟩
    · have r := pr_ g hp'
      unfold PSt at w'
      omega
    · have r := sr_ g (s := f / 2) (by omega)
      unfold PNt fb at w'
      omega
  have px : ∀ p, p < nP h → ∀ i k : Nat, (i = 0 ∨ i = 1 ∨ i = 3) → ¬ (fun a j => (∃ p, p < nP h ∧ PSt h p a j ∧ a ≠ 10 ∧ a ≠ 56 ∧ a ≠ 4 ∧ a ≠ 52 ∧ (∀ q, q < nP h → a ≠ pb h q)) ∨ ∃ f, f < 2 * nS h ∧ PNt h f a j) (pb h p + i) k := fun p hp i k hc pp => by
    have r1 := pr_ g hp
    rcases pp with ⟨p', hp', w', n1, n2, n3, n4, n5⟩ | ⟨f, hf, w'⟩
    · have r := pr_ g hp'
      have d := dPP g hp hp'
      have e : p = p' → pb h p = pb h p' := fun z => by rw [z]
      have n6 := n5 p hp
      have n7 := n5 p' hp'
      unfold PSt at w'
      omega
    · have r := dPS g hp (s := f / 2) (by omega)
      have r2 := sr_ g (s := f / 2) (by omega)
      unfold PNt fb at w'
      omega
  have sx : ∀ s, s < nS h → ∀ i k : Nat, (i = 0 ∨ i = 13 ∨ i = 5 ∨ i = 6 ∨ i = 11 ∨ i = 12 ∨ ((i = 1 ∨ i = 7) ∧ k ≠ 4)) → ¬ (fun a j => (∃ p, p < nP h ∧ PSt h p a j ∧ a ≠ 10 ∧ a ≠ 56 ∧ a ≠ 4 ∧ a ≠ 52 ∧ (∀ q, q < nP h → a ≠ pb h q)) ∨ ∃ f, f < 2 * nS h ∧ PNt h f a j) (sb h s + i) k := fun s hs i k hc pp => by
    have r1 := sr_ g hs
    rcases pp with ⟨p', hp', w', n1, n2, n3, n4, n5⟩ | ⟨f, hf, w'⟩
    · have r := pr_ g hp'
      have d := dPS g hp' hs
      unfold PSt at w'
      omega
    · have r := dSS g hs (r := f / 2) (by omega)
      have r2 := sr_ g (s := f / 2) (by omega)
      have e : s = f / 2 → sb h s = sb h (f / 2) := fun z => by rw [← z]
      unfold PNt fb at w'
      omega
  have fx : ∀ f, f < 2 * nS h → ∀ o k : Nat, (o = 0 ∧ k ≠ 4) → ¬ (fun a j => (∃ p, p < nP h ∧ PSt h p a j ∧ a ≠ 10 ∧ a ≠ 56 ∧ a ≠ 4 ∧ a ≠ 52 ∧ (∀ q, q < nP h → a ≠ pb h q)) ∨ ∃ f, f < 2 * nS h ∧ PNt h f a j) (fb h f + o) k := fun f hf o k hc => fx_of (h := h) (P := fun a j => (∃ p, p < nP h ∧ PSt h p a j ∧ a ≠ 10 ∧ a ≠ 56 ∧ a ≠ 4 ∧ a ≠ 52 ∧ (∀ q, q < nP h → a ≠ pb h q)) ∨ ∃ f, f < 2 * nS h ∧ PNt h f a j) (f := f) (o := o) (k := k) (sx (f / 2) (by omega) (1 + 6 * (f % 2) + o) k (by omega))
  exact ⟨u.sh hs, IGeo.fr u ⟨lo 0 4 (by omega), lo 0 7 (by omega)⟩ g, p1, IFix.fr u (fun a k ha => lo a k (by omega)) x, ISh.fr u ⟨lo 0 4 (by omega), lo 0 7 (by omega), lo 45 23 (by omega)⟩ (fun a k ha => lo a k (by omega)) (fun s k hs hk => sx s hs 0 k (by omega)) q, IFs.fr u ⟨lo 0 4 (by omega), lo 0 7 (by omega)⟩ (fun k => lo 66 k (by omega)) (fun s hs => sx s hs 0 5 (by omega)) fs, p3, ISk.fr u g q ⟨lo 0 4 (by omega), lo 0 7 (by omega)⟩ (fun a k ha => lo a k (by omega)) ⟨fun f hf => fx f hf 0 2 (by omega), same5 u g q (fun p hp => px p hp 0 5 (by omega))⟩ k, ISn.fr u g q ⟨lo 0 4 (by omega), lo 0 7 (by omega)⟩ (fun a k ha => lo a k (by omega)) (fun p k hp => px p hp 3 k (by omega)) w, IGd.fr u g ⟨lo 0 4 (by omega), lo 0 7 (by omega)⟩ (fun k => lo 74 k (by omega)) (fun s k hs => ⟨sx s hs 0 7 (by omega), sx s hs 13 k (by omega)⟩) gd', ISm.fr u (fun a k ha => lo a k (by omega)) m, p2, IP.fr u ⟨lo 0 9 (by omega), lo 45 24 (by omega)⟩ ip, IB.fr u (fun k => ⟨lo 14 k (by omega), lo 76 k (by omega)⟩) ib, IOr.fr u (fun k => ⟨lo 19 k (by omega), lo 77 k (by omega)⟩) ⟨lo 13 6 (by omega), lo 13 7 (by omega), lo 45 37 (by omega), lo 45 38 (by omega), lo 45 39 (by omega)⟩ io, IT.fr u (fun k => ⟨lo 2 k (by omega), lo 46 k (by omega)⟩) ⟨lo 1 1 (by omega), lo 45 2 (by omega)⟩ it, (IH.fr u (fun a k ha => lo a k (by omega)) ih).up (by omega), ILw.fr u (fun a k ha => lo a k (by omega)) lw, IJ.fr u (fun a k ha => lo a k (by omega)) ⟨lo 25 3 (by omega), lo 45 50 (by omega)⟩ ij, IPl.fr u (fun a k ha => lo a k (by omega)) ⟨lo 25 3 (by omega), lo 25 8 (by omega), lo 25 9 (by omega), lo 45 51 (by omega)⟩ il, by rw [u.1.1]; omega, by rw [u.1.2.1]; omega⟩
theorem impose_S {t : Nat} {h : Hp} (ht : t < 512) (i : IAll t h) (a0 : Int32) (a1 : Int32) : Sim IAll t (f_X9_impose h 0 a0 a1) (fun h1 => f_X10_impose h1 45 a0 a1) := by
  obtain ⟨hs, g, dd, x, q, fs, o, k, w, gd', m, ic, ip, ib, io, it, ih, lw, ij, il, b1, b2⟩ := id i
  refine sim_of (impose_ok hs g x q dd o k m a0 a1) ?_
  intro h2 pp u
  obtain ⟨p1, p2⟩ := pp
  have lo : ∀ a k : Nat, (a < 88 ∧ a ≠ 8 ∧ a ≠ 67 ∧ a ≠ 53) → ¬ (fun a j => ∃ f, f < 2 * nS h ∧ PK h f a j) a k := fun a k hc pp => by
    obtain ⟨f, hf, w'⟩ := pp
    have r := sr_ g (s := f / 2) (by omega)
    unfold PK fb at w'
    omega
  have px : ∀ p, p < nP h → ∀ i k : Nat, (i < 4) → ¬ (fun a j => ∃ f, f < 2 * nS h ∧ PK h f a j) (pb h p + i) k := fun p hp i k hc pp => by
    have r1 := pr_ g hp
    obtain ⟨f, hf, w'⟩ := pp
    have r := dPS g hp (s := f / 2) (by omega)
    have r2 := sr_ g (s := f / 2) (by omega)
    unfold PK fb at w'
    omega
  have sx : ∀ s, s < nS h → ∀ i k : Nat, (i < 14 ∧ ((i ≠ 1 ∧ i ≠ 7) ∨ k ≠ 2)) → ¬ (fun a j => ∃ f, f < 2 * nS h ∧ PK h f a j) (sb h s + i) k := fun s hs i k hc pp => by
    have r1 := sr_ g hs
    obtain ⟨f, hf, w'⟩ := pp
    have r := dSS g hs (r := f / 2) (by omega)
    have r2 := sr_ g (s := f / 2) (by omega)
    have e : s = f / 2 → sb h s = sb h (f / 2) := fun z => by rw [← z]
    unfold PK fb at w'
    omega
  have fx : ∀ f, f < 2 * nS h → ∀ o k : Nat, (o < 6 ∧ (o ≠ 0 ∨ k ≠ 2)) → ¬ (fun a j => ∃ f, f < 2 * nS h ∧ PK h f a j) (fb h f + o) k := fun f hf o k hc => fx_of (h := h) (P := fun a j => ∃ f, f < 2 * nS h ∧ PK h f a j) (f := f) (o := o) (k := k) (sx (f / 2) (by omega) (1 + 6 * (f % 2) + o) k (by omega))
  exact ⟨u.sh hs, IGeo.fr u ⟨lo 0 4 (by omega), lo 0 7 (by omega)⟩ g, IPd.fr u ⟨lo 0 4 (by omega), lo 0 7 (by omega), lo 45 11 (by omega)⟩ (fun a k ha => lo a k (by omega)) (fun p k hp => ⟨fun hk => px p hp 0 k (by omega), px p hp 1 k (by omega), px p hp 2 k (by omega)⟩) dd, IFix.fr u (fun a k ha => lo a k (by omega)) x, ISh.fr u ⟨lo 0 4 (by omega), lo 0 7 (by omega), lo 45 23 (by omega)⟩ (fun a k ha => lo a k (by omega)) (fun s k hs hk => sx s hs 0 k (by omega)) q, IFs.fr u ⟨lo 0 4 (by omega), lo 0 7 (by omega)⟩ (fun k => lo 66 k (by omega)) (fun s hs => sx s hs 0 5 (by omega)) fs, IFo.fr u g ⟨lo 0 4 (by omega), lo 0 7 (by omega)⟩ (fun a k ha => lo a k (by omega)) (fun f k hf => ⟨fun hk => fx f hf 0 k (by omega), fun o ho => fx f hf o k (by omega)⟩) o, p1, ISn.fr u g q ⟨lo 0 4 (by omega), lo 0 7 (by omega)⟩ (fun a k ha => lo a k (by omega)) (fun p k hp => px p hp 3 k (by omega)) w, IGd.fr u g ⟨lo 0 4 (by omega), lo 0 7 (by omega)⟩ (fun k => lo 74 k (by omega)) (fun s k hs => ⟨sx s hs 0 7 (by omega), sx s hs 13 k (by omega)⟩) gd', p2, (IC.fr u (fun k => ⟨lo 3 k (by omega), lo 47 k (by omega)⟩) ic).up (by omega), IP.fr u ⟨lo 0 9 (by omega), lo 45 24 (by omega)⟩ ip, IB.fr u (fun k => ⟨lo 14 k (by omega), lo 76 k (by omega)⟩) ib, IOr.fr u (fun k => ⟨lo 19 k (by omega), lo 77 k (by omega)⟩) ⟨lo 13 6 (by omega), lo 13 7 (by omega), lo 45 37 (by omega), lo 45 38 (by omega), lo 45 39 (by omega)⟩ io, IT.fr u (fun k => ⟨lo 2 k (by omega), lo 46 k (by omega)⟩) ⟨lo 1 1 (by omega), lo 45 2 (by omega)⟩ it, (IH.fr u (fun a k ha => lo a k (by omega)) ih).up (by omega), ILw.fr u (fun a k ha => lo a k (by omega)) lw, IJ.fr u (fun a k ha => lo a k (by omega)) ⟨lo 25 3 (by omega), lo 45 50 (by omega)⟩ ij, IPl.fr u (fun a k ha => lo a k (by omega)) ⟨lo 25 3 (by omega), lo 25 8 (by omega), lo 25 9 (by omega), lo 45 51 (by omega)⟩ il, by rw [u.1.1]; omega, by rw [u.1.2.1]; omega⟩
theorem breakUp_S {t : Nat} {h : Hp} (ht : t < 512) (i : IAll t h) (a0 : Int32) : Sim IAll t (f_X9_breakUp h 0 a0) (fun h1 => f_X10_breakUp h1 45 a0) := by
  obtain ⟨hs, g, dd, x, q, fs, o, k, w, gd', m, ic, ip, ib, io, it, ih, lw, ij, il, b1, b2⟩ := id i
  refine sim_of (breakUp_ok hs g x q o k m a0) ?_
  intro h2 pp u
  obtain ⟨p1, p2⟩ := pp
  have lo : ∀ a k : Nat, (a < 88 ∧ a ≠ 8 ∧ a ≠ 67 ∧ a ≠ 53) → ¬ (fun a j => ∃ f, f < 2 * nS h ∧ PK h f a j) a k := fun a k hc pp => by
    obtain ⟨f, hf, w'⟩ := pp
    have r := sr_ g (s := f / 2) (by omega)
    unfold PK fb at w'
    omega
  have px : ∀ p, p < nP h → ∀ i k : Nat, (i < 4) → ¬ (fun a j => ∃ f, f < 2 * nS h ∧ PK h f a j) (pb h p + i) k := fun p hp i k hc pp => by
    have r1 := pr_ g hp
    obtain ⟨f, hf, w'⟩ := pp
    have r := dPS g hp (s := f / 2) (by omega)
    have r2 := sr_ g (s := f / 2) (by omega)
    unfold PK fb at w'
    omega
  have sx : ∀ s, s < nS h → ∀ i k : Nat, (i < 14 ∧ ((i ≠ 1 ∧ i ≠ 7) ∨ k ≠ 2)) → ¬ (fun a j => ∃ f, f < 2 * nS h ∧ PK h f a j) (sb h s + i) k := fun s hs i k hc pp => by
    have r1 := sr_ g hs
    obtain ⟨f, hf, w'⟩ := pp
    have r := dSS g hs (r := f / 2) (by omega)
    have r2 := sr_ g (s := f / 2) (by omega)
    have e : s = f / 2 → sb h s = sb h (f / 2) := fun z => by rw [← z]
    unfold PK fb at w'
    omega
  have fx : ∀ f, f < 2 * nS h → ∀ o k : Nat, (o < 6 ∧ (o ≠ 0 ∨ k ≠ 2)) → ¬ (fun a j => ∃ f, f < 2 * nS h ∧ PK h f a j) (fb h f + o) k := fun f hf o k hc => fx_of (h := h) (P := fun a j => ∃ f, f < 2 * nS h ∧ PK h f a j) (f := f) (o := o) (k := k) (sx (f / 2) (by omega) (1 + 6 * (f % 2) + o) k (by omega))
  exact ⟨u.sh hs, IGeo.fr u ⟨lo 0 4 (by omega), lo 0 7 (by omega)⟩ g, IPd.fr u ⟨lo 0 4 (by omega), lo 0 7 (by omega), lo 45 11 (by omega)⟩ (fun a k ha => lo a k (by omega)) (fun p k hp => ⟨fun hk => px p hp 0 k (by omega), px p hp 1 k (by omega), px p hp 2 k (by omega)⟩) dd, IFix.fr u (fun a k ha => lo a k (by omega)) x, ISh.fr u ⟨lo 0 4 (by omega), lo 0 7 (by omega), lo 45 23 (by omega)⟩ (fun a k ha => lo a k (by omega)) (fun s k hs hk => sx s hs 0 k (by omega)) q, IFs.fr u ⟨lo 0 4 (by omega), lo 0 7 (by omega)⟩ (fun k => lo 66 k (by omega)) (fun s hs => sx s hs 0 5 (by omega)) fs, IFo.fr u g ⟨lo 0 4 (by omega), lo 0 7 (by omega)⟩ (fun a k ha => lo a k (by omega)) (fun f k hf => ⟨fun hk => fx f hf 0 k (by omega), fun o ho => fx f hf o k (by omega)⟩) o, p1, ISn.fr u g q ⟨lo 0 4 (by omega), lo 0 7 (by omega)⟩ (fun a k ha => lo a k (by omega)) (fun p k hp => px p hp 3 k (by omega)) w, IGd.fr u g ⟨lo 0 4 (by omega), lo 0 7 (by omega)⟩ (fun k => lo 74 k (by omega)) (fun s k hs => ⟨sx s hs 0 7 (by omega), sx s hs 13 k (by omega)⟩) gd', p2, (IC.fr u (fun k => ⟨lo 3 k (by omega), lo 47 k (by omega)⟩) ic).up (by omega), IP.fr u ⟨lo 0 9 (by omega), lo 45 24 (by omega)⟩ ip, IB.fr u (fun k => ⟨lo 14 k (by omega), lo 76 k (by omega)⟩) ib, IOr.fr u (fun k => ⟨lo 19 k (by omega), lo 77 k (by omega)⟩) ⟨lo 13 6 (by omega), lo 13 7 (by omega), lo 45 37 (by omega), lo 45 38 (by omega), lo 45 39 (by omega)⟩ io, IT.fr u (fun k => ⟨lo 2 k (by omega), lo 46 k (by omega)⟩) ⟨lo 1 1 (by omega), lo 45 2 (by omega)⟩ it, (IH.fr u (fun a k ha => lo a k (by omega)) ih).up (by omega), ILw.fr u (fun a k ha => lo a k (by omega)) lw, IJ.fr u (fun a k ha => lo a k (by omega)) ⟨lo 25 3 (by omega), lo 45 50 (by omega)⟩ ij, IPl.fr u (fun a k ha => lo a k (by omega)) ⟨lo 25 3 (by omega), lo 25 8 (by omega), lo 25 9 (by omega), lo 45 51 (by omega)⟩ il, by rw [u.1.1]; omega, by rw [u.1.2.1]; omega⟩
theorem print_S {t : Nat} {h : Hp} (ht : t < 512) (i : IAll t h) (a0 : Int32) (a1 : Int32) (a2 : Int32) : Sim IAll t (f_X9_print h 0 a0 a1 a2) (fun h1 => f_X10_print h1 45 a0 a1 a2) := by
  obtain ⟨hs, g, dd, x, q, fs, o, k, w, gd', m, ic, ip, ib, io, it, ih, lw, ij, il, b1, b2⟩ := id i
  refine sim_of (print_ok hs g x q dd o k fs w m ip ih a0 a1 a2) ?_
  intro h2 pp u
  obtain ⟨⟨p1, p2, p3⟩, p4, p5, p6⟩ := pp
  have lo : ∀ a k : Nat, (a < 88 ∧ ¬ (a = 0 ∧ k = 9) ∧ ¬ (a = 45 ∧ k = 24) ∧ a ≠ 11 ∧ a ≠ 57 ∧ a ≠ 51 ∧ a ≠ 66 ∧ a ≠ 68 ∧ a ≠ 70) → ¬ (fun a j => ∃ f, f < 2 * nS h ∧ PPr h f a j) a k := fun a k hc pp => by
    obtain ⟨f, hf, w'⟩ := pp
    have r := sr_ g (s := f / 2) (by omega)
    unfold PPr Pim fb at w'
    have w2 : (∃ p, p < nP h ∧ a = pb h p + 3) → False := fun ⟨p, hp, e⟩ => by have := pr_ g hp; omega
    rcases w' with w' | w' | w' | w' | w' | w' | w' | w' | w' | w' | w' | w'
    all_goals first | exact w2 w' | omega
  have px : ∀ p, p < nP h → ∀ i k : Nat, (i < 3) → ¬ (fun a j => ∃ f, f < 2 * nS h ∧ PPr h f a j) (pb h p + i) k := fun p hp i k hc pp => by
    have r1 := pr_ g hp
    obtain ⟨f, hf, w'⟩ := pp
    have r := dPS g hp (s := f / 2) (by omega)
    have r2 := sr_ g (s := f / 2) (by omega)
    unfold PPr Pim fb at w'
    have w2 : (∃ p', p' < nP h ∧ pb h p + i = pb h p' + 3) → False := fun ⟨p', hp', e⟩ => by
      have d := dPP g hp hp'
      have e : p = p' → pb h p = pb h p' := fun z => by rw [z]
      omega
    rcases w' with w' | w' | w' | w' | w' | w' | w' | w' | w' | w' | w' | w'
    all_goals first | exact w2 w' | omega
  have sx : ∀ s, s < nS h → ∀ i k : Nat, (i = 0 ∧ k ≠ 5 ∨ i = 13 ∨ ((i = 1 ∨ i = 7) ∧ k = 2)) → ¬ (fun a j => ∃ f, f < 2 * nS h ∧ PPr h f a j) (sb h s + i) k := fun s hs i k hc pp => by
    have r1 := sr_ g hs
    obtain ⟨f, hf, w'⟩ := pp
    have r := dSS g hs (r := f / 2) (by omega)
    have r2 := sr_ g (s := f / 2) (by omega)
    have e : s = f / 2 → sb h s = sb h (f / 2) := fun z => by rw [← z]
    unfold PPr Pim fb at w'
    have w2 : (∃ p', p' < nP h ∧ sb h s + i = pb h p' + 3) → False := fun ⟨p', hp', e⟩ => by
      have d := dPS g hp' hs
      omega
    rcases w' with w' | w' | w' | w' | w' | w' | w' | w' | w' | w' | w' | w'
    all_goals first | exact w2 w' | omega
  have fx : ∀ f, f < 2 * nS h → ∀ o k : Nat, (o = 0 ∧ k = 2) → ¬ (fun a j => ∃ f, f < 2 * nS h ∧ PPr h f a j) (fb h f + o) k := fun f hf o k hc => fx_of (h := h) (P := fun a j => ∃ f, f < 2 * nS h ∧ PPr h f a j) (f := f) (o := o) (k := k) (sx (f / 2) (by omega) (1 + 6 * (f % 2) + o) k (by omega))
  exact ⟨u.sh hs, IGeo.fr u ⟨lo 0 4 (by omega), lo 0 7 (by omega)⟩ g, IPd.fr u ⟨lo 0 4 (by omega), lo 0 7 (by omega), lo 45 11 (by omega)⟩ (fun a k ha => lo a k (by omega)) (fun p k hp => ⟨fun hk => px p hp 0 k (by omega), px p hp 1 k (by omega), px p hp 2 k (by omega)⟩) dd, IFix.fr u (fun a k ha => lo a k (by omega)) x, ISh.fr u ⟨lo 0 4 (by omega), lo 0 7 (by omega), lo 45 23 (by omega)⟩ (fun a k ha => lo a k (by omega)) (fun s k hs hk => sx s hs 0 k (by omega)) q, p1, p2, ISk.fr u g q ⟨lo 0 4 (by omega), lo 0 7 (by omega)⟩ (fun a k ha => lo a k (by omega)) ⟨fun f hf => fx f hf 0 2 (by omega), same5 u g q (fun p hp => px p hp 0 5 (by omega))⟩ k, p3, IGd.fr u g ⟨lo 0 4 (by omega), lo 0 7 (by omega)⟩ (fun k => lo 74 k (by omega)) (fun s k hs => ⟨sx s hs 0 7 (by omega), sx s hs 13 k (by omega)⟩) gd', p4, (IC.fr u (fun k => ⟨lo 3 k (by omega), lo 47 k (by omega)⟩) ic).up (by omega), p5, IB.fr u (fun k => ⟨lo 14 k (by omega), lo 76 k (by omega)⟩) ib, IOr.fr u (fun k => ⟨lo 19 k (by omega), lo 77 k (by omega)⟩) ⟨lo 13 6 (by omega), lo 13 7 (by omega), lo 45 37 (by omega), lo 45 38 (by omega), lo 45 39 (by omega)⟩ io, IT.fr u (fun k => ⟨lo 2 k (by omega), lo 46 k (by omega)⟩) ⟨lo 1 1 (by omega), lo 45 2 (by omega)⟩ it, p6, ILw.fr u (fun a k ha => lo a k (by omega)) lw, IJ.fr u (fun a k ha => lo a k (by omega)) ⟨lo 25 3 (by omega), lo 45 50 (by omega)⟩ ij, IPl.fr u (fun a k ha => lo a k (by omega)) ⟨lo 25 3 (by omega), lo 25 8 (by omega), lo 25 9 (by omega), lo 45 51 (by omega)⟩ il, by rw [u.1.1]; omega, by rw [u.1.2.1]; omega⟩
theorem spoil_S {t : Nat} {h : Hp} (ht : t < 512) (i : IAll t h) (a0 : Int32) (a1 : Int32) (a2 : Int32) : Sim IAll t (f_X9_spoil h 0 a0 a1 a2) (fun h1 => f_X10_spoil h1 45 a0 a1 a2) := by
  obtain ⟨hs, g, dd, x, q, fs, o, k, w, gd', m, ic, ip, ib, io, it, ih, lw, ij, il, b1, b2⟩ := id i
  refine sim_of (spoil_ok hs g q o gd' m ih a0 a1 a2) ?_
  intro h2 pp u
  obtain ⟨p1, p2, p3⟩ := pp
  have lo : ∀ a k : Nat, (a < 88 ∧ a ≠ 12 ∧ a ≠ 58 ∧ a ≠ 74) → ¬ (fun a j => ∃ s, s < nS h ∧ PSp h s a j) a k := fun a k hc pp => by
    obtain ⟨f, hf, w'⟩ := pp
    have r := sr_ g hf
    unfold PSp at w'
    omega
  have px : ∀ p, p < nP h → ∀ i k : Nat, (i < 4) → ¬ (fun a j => ∃ s, s < nS h ∧ PSp h s a j) (pb h p + i) k := fun p hp i k hc pp => by
    have r1 := pr_ g hp
    obtain ⟨f, hf, w'⟩ := pp
    have r := dPS g hp hf
    have r2 := sr_ g hf
    unfold PSp at w'
    omega
  have sx : ∀ s, s < nS h → ∀ i k : Nat, (i < 13 ∧ (i ≠ 0 ∨ k ≠ 7)) → ¬ (fun a j => ∃ s, s < nS h ∧ PSp h s a j) (sb h s + i) k := fun s hs i k hc pp => by
    have r1 := sr_ g hs
    obtain ⟨f, hf, w'⟩ := pp
    have r := dSS g hs hf
    have r2 := sr_ g hf
    have e : s = f → sb h s = sb h f := fun z => by rw [z]
    unfold PSp at w'
    omega
  have fx : ∀ f, f < 2 * nS h → ∀ o k : Nat, (o < 6) → ¬ (fun a j => ∃ s, s < nS h ∧ PSp h s a j) (fb h f + o) k := fun f hf o k hc => fx_of (h := h) (P := fun a j => ∃ s, s < nS h ∧ PSp h s a j) (f := f) (o := o) (k := k) (sx (f / 2) (by omega) (1 + 6 * (f % 2) + o) k (by omega))
  exact ⟨u.sh hs, IGeo.fr u ⟨lo 0 4 (by omega), lo 0 7 (by omega)⟩ g, IPd.fr u ⟨lo 0 4 (by omega), lo 0 7 (by omega), lo 45 11 (by omega)⟩ (fun a k ha => lo a k (by omega)) (fun p k hp => ⟨fun hk => px p hp 0 k (by omega), px p hp 1 k (by omega), px p hp 2 k (by omega)⟩) dd, IFix.fr u (fun a k ha => lo a k (by omega)) x, ISh.fr u ⟨lo 0 4 (by omega), lo 0 7 (by omega), lo 45 23 (by omega)⟩ (fun a k ha => lo a k (by omega)) (fun s k hs hk => sx s hs 0 k (by omega)) q, IFs.fr u ⟨lo 0 4 (by omega), lo 0 7 (by omega)⟩ (fun k => lo 66 k (by omega)) (fun s hs => sx s hs 0 5 (by omega)) fs, IFo.fr u g ⟨lo 0 4 (by omega), lo 0 7 (by omega)⟩ (fun a k ha => lo a k (by omega)) (fun f k hf => ⟨fun hk => fx f hf 0 k (by omega), fun o ho => fx f hf o k (by omega)⟩) o, ISk.fr u g q ⟨lo 0 4 (by omega), lo 0 7 (by omega)⟩ (fun a k ha => lo a k (by omega)) ⟨fun f hf => fx f hf 0 2 (by omega), same5 u g q (fun p hp => px p hp 0 5 (by omega))⟩ k, ISn.fr u g q ⟨lo 0 4 (by omega), lo 0 7 (by omega)⟩ (fun a k ha => lo a k (by omega)) (fun p k hp => px p hp 3 k (by omega)) w, p1, p2, (IC.fr u (fun k => ⟨lo 3 k (by omega), lo 47 k (by omega)⟩) ic).up (by omega), IP.fr u ⟨lo 0 9 (by omega), lo 45 24 (by omega)⟩ ip, IB.fr u (fun k => ⟨lo 14 k (by omega), lo 76 k (by omega)⟩) ib, IOr.fr u (fun k => ⟨lo 19 k (by omega), lo 77 k (by omega)⟩) ⟨lo 13 6 (by omega), lo 13 7 (by omega), lo 45 37 (by omega), lo 45 38 (by omega), lo 45 39 (by omega)⟩ io, IT.fr u (fun k => ⟨lo 2 k (by omega), lo 46 k (by omega)⟩) ⟨lo 1 1 (by omega), lo 45 2 (by omega)⟩ it, p3, ILw.fr u (fun a k ha => lo a k (by omega)) lw, IJ.fr u (fun a k ha => lo a k (by omega)) ⟨lo 25 3 (by omega), lo 45 50 (by omega)⟩ ij, IPl.fr u (fun a k ha => lo a k (by omega)) ⟨lo 25 3 (by omega), lo 25 8 (by omega), lo 25 9 (by omega), lo 45 51 (by omega)⟩ il, by rw [u.1.1]; omega, by rw [u.1.2.1]; omega⟩
