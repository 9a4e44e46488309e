def okO (h : Hp) (a ci : Nat) : Prop := a < gN h ∧ gK h a = ci
def okA (h : Hp) (a kd : Nat) (i : Int32) : Prop := a < gN h ∧ gK h a = kd ∧ 0 ≤ i.toInt ∧ i.toInt < gL h a
theorem okA.o {h : Hp} {a kd : Nat} {i : Int32} (q : okA h a kd i) : okO h a kd := ⟨q.1, q.2.1⟩
theorem okA.i {h : Hp} {a kd : Nat} {i : Int32} (q : okA h a kd i) : vp_in i (gL h a) := vp_in_iff.mpr q.2.2
theorem FX.x {X : Cx} {M : MI} {p : Program} {s : State} {m : MethodId} {args : Array Value} {meth : Method} {c : Code} (F : FX X M p s m args meth c) : p.tables.exec = Jvm.exec := F.1
theorem FX.b {X : Cx} {M : MI} {p : Program} {s : State} {m : MethodId} {args : Array Value} {meth : Method} {c : Code} (F : FX X M p s m args meth c) : c.code = M.2.1 := F.2.1
theorem FX.ml {X : Cx} {M : MI} {p : Program} {s : State} {m : MethodId} {args : Array Value} {meth : Method} {c : Code} (F : FX X M p s m args meth c) : c.maxLocals = M.2.2.1 := F.2.2.1
theorem FX.r {X : Cx} {M : MI} {p : Program} {s : State} {m : MethodId} {args : Array Value} {meth : Method} {c : Code} (F : FX X M p s m args meth c) : meth.sig.returnType = M.2.2.2 := F.2.2.2.1
theorem FX.lk {X : Cx} {M : MI} {p : Program} {s : State} {m : MethodId} {args : Array Value} {meth : Method} {c : Code} (F : FX X M p s m args meth c) : meth.locks = false := F.2.2.2.2.1
theorem FX.own {X : Cx} {M : MI} {p : Program} {s : State} {m : MethodId} {args : Array Value} {meth : Method} {c : Code} (F : FX X M p s m args meth c) : s.vm.findClass M.1.cls = some m.cls := F.2.2.2.2.2.1
theorem FX.ts {X : Cx} {M : MI} {p : Program} {s : State} {m : MethodId} {args : Array Value} {meth : Method} {c : Code} (F : FX X M p s m args meth c) : ∀ w ∈ TG, w.before args s = true := F.2.2.2.2.2.2.1
theorem FX.K {X : Cx} {M : MI} {p : Program} {s : State} {m : MethodId} {args : Array Value} {meth : Method} {c : Code} (F : FX X M p s m args meth c) : va_K (xD X) vwCl (tyl X) s := F.2.2.2.2.2.2.2.1
theorem FX.nm {X : Cx} {M : MI} {p : Program} {s : State} {m : MethodId} {args : Array Value} {meth : Method} {c : Code} (F : FX X M p s m args meth c) : M.1.name = "<init>" → meth.name = "<init>" := F.2.2.2.2.2.2.2.2.1
theorem FX.sx {X : Cx} {M : MI} {p : Program} {s : State} {m : MethodId} {args : Array Value} {meth : Method} {c : Code} (F : FX X M p s m args meth c) : SX X s s.heap := F.2.2.2.2.2.2.2.2.2.1
theorem FX.bs {X : Cx} {M : MI} {p : Program} {s : State} {m : MethodId} {args : Array Value} {meth : Method} {c : Code} (F : FX X M p s m args meth c) : xB X ≤ s.heap.size := F.2.2.2.2.2.2.2.2.2.2
theorem FX.A {X : Cx} {M : MI} {p : Program} {s : State} {m : MethodId} {args : Array Value} {meth : Method} {c : Code} (F : FX X M p s m args meth c) : ∀ q, s.heap.size ≤ q → AX X q := fun _ hq => Nat.le_trans F.bs hq
theorem cE_obj {X : Cx} {h : Hp} {a ci : Nat} (ho : gK h a = ci) (hc : ci < 11) : cE X h a = .inr (ci, (List.range (nFl ci)).map (fv X h a)) := by
  unfold cE
  rw [ho, if_pos hc]
theorem cE_int {X : Cx} {h : Hp} {a kd : Nat} (ho : gK h a = kd) (h1 : 11 ≤ kd) (h2 : kd < 13) : cE X h a = .inl (xC X kd, gL h a, .inl (gI h a)) := by
  unfold cE
  rw [ho, if_neg (by omega), if_pos h2]
theorem cE_ref {X : Cx} {h : Hp} {a kd : Nat} (ho : gK h a = kd) (h1 : 13 ≤ kd) : cE X h a = .inl (xC X kd, gL h a, .inr (.inr (.inr (.inr (fun j => (gR h a j).map (xB X + ·)))))) := by
  unfold cE
  rw [ho, if_neg (by omega), if_neg (by omega)]
theorem cE_congr {X : Cx} {h h2 : Hp} {a : Nat} (e1 : gK h2 a = gK h a) (e2 : gL h2 a = gL h a) (e3 : ∀ j, gI h2 a j = gI h a j) (e4 : ∀ j, gR h2 a j = gR h a j) : cE X h2 a = cE X h a := by
  have f3 : gI h2 a = gI h a := funext e3
  have f4 : fv X h2 a = fv X h a := funext fun k => by unfold fv; rw [e1, e3, e4]
  unfold cE
  rw [e1, e2, f3, f4]
  simp only [e4]
theorem fl_at {X : Cx} {h : Hp} {a n k : Nat} (hk : k < n) : ((List.range n).map (fv X h a))[k]? = some (fv X h a k) := by
  simp [List.getElem?_map, List.getElem?_range hk]
theorem fl_set {X : Cx} {h h2 : Hp} {a n k : Nat} {v : Value} (hv : fv X h2 a k = v) (ho : ∀ j, j ≠ k → fv X h2 a j = fv X h a j) : (List.range n).map (fv X h2 a) = ((List.range n).map (fv X h a)).set k v := by
  apply List.ext_getElem?
  intro j
  by_cases hj : j < n
  · rw [fl_at hj]
    by_cases hjk : j = k
    · subst hjk
      rw [List.getElem?_set_self (by simpa using hj), hv]
    · rw [List.getElem?_set_ne (Ne.symm hjk), fl_at hj, ho j hjk]
  · rw [List.getElem?_eq_none (by simp; omega), List.getElem?_eq_none (by simp; omega)]
theorem wld_sI {X : Cx} {h : Hp} {a ci k : Nat} {x : Int32} (ho : gK h a = ci) (hc : ci < 11) (hr : isRf ci k = false) : (wld X h).set a (xB X + a, .inr (ci, ((List.range (nFl ci)).map (fv X h a)).set k (.int x))) = wld X (sI h a k x) := by
  refine wld_set rfl ?_ (fun c hc => cE_congr rfl rfl (fun j => by rw [gI_sI, if_neg (fun q => hc q.1)]) (fun j => rfl))
  rw [cE_obj (h := sI h a k x) ho hc]
  refine congrArg (fun l => Sum.inr (ci, l)) (fl_set ?_ (fun j hj => ?_))
  · unfold fv
    rw [show gK (sI h a k x) a = ci from ho, if_neg (by rw [hr]; decide), gI_sI, if_pos ⟨rfl, rfl⟩]
  · unfold fv
    have e9 : gI (sI h a k x) a j = gI h a j := by rw [gI_sI]; exact if_neg (fun q => hj q.2)
    rw [show gK (sI h a k x) a = gK h a from rfl, e9, gR_sI]
theorem wld_sR {X : Cx} {h : Hp} {a ci k : Nat} {x : Option Nat} (ho : gK h a = ci) (hc : ci < 11) (hr : isRf ci k = true) : (wld X h).set a (xB X + a, .inr (ci, ((List.range (nFl ci)).map (fv X h a)).set k (va_rf (x.map (xB X + ·))))) = wld X (sR h a k x) := by
  refine wld_set rfl ?_ (fun c hc => cE_congr rfl rfl (fun j => rfl) (fun j => by rw [gR_sR, if_neg (fun q => hc q.1)]))
  rw [cE_obj (h := sR h a k x) ho hc]
  refine congrArg (fun l => Sum.inr (ci, l)) (fl_set ?_ (fun j hj => ?_))
  · unfold fv
    rw [show gK (sR h a k x) a = ci from ho, if_pos hr, gR_sR, if_pos ⟨rfl, rfl⟩]
  · unfold fv
    have e9 : gR (sR h a k x) a j = gR h a j := by rw [gR_sR]; exact if_neg (fun q => hj q.2)
    rw [show gK (sR h a k x) a = gK h a from rfl, e9, gI_sR]
theorem wld_aI {X : Cx} {h : Hp} {a kd k : Nat} {x : Int32} (ho : gK h a = kd) (h1 : 11 ≤ kd) (h2 : kd < 13) : (wld X h).set a (xB X + a, .inl (xC X kd, gL h a, .inl (upd (gI h a) k x))) = wld X (sI h a k x) := by
  refine wld_set rfl ?_ (fun c hc => cE_congr rfl rfl (fun j => by rw [gI_sI, if_neg (fun q => hc q.1)]) (fun j => rfl))
  rw [cE_int (h := sI h a k x) ho h1 h2]
  have e : gI (sI h a k x) a = upd (gI h a) k x := funext fun j => by rw [gI_sI]; unfold upd; simp
  rw [e]; rfl
theorem wld_aW {X : Cx} {h : Hp} {a kd : Nat} {f : Nat → Int32} (ho : gK h a = kd) (h1 : 11 ≤ kd) (h2 : kd < 13) : (wld X h).set a (xB X + a, .inl (xC X kd, gL h a, .inl f)) = wld X (sW h a f) := by
  refine wld_set rfl ?_ (fun c hc => cE_congr rfl rfl (fun j => by rw [gI_sW, if_neg hc]) (fun j => rfl))
  rw [cE_int (h := sW h a f) ho h1 h2]
  have e : gI (sW h a f) a = f := funext fun j => by rw [gI_sW, if_pos rfl]
  rw [e]; rfl
theorem wld_aR {X : Cx} {h : Hp} {a kd k v : Nat} (ho : gK h a = kd) (h1 : 13 ≤ kd) : (wld X h).set a (xB X + a, .inl (xC X kd, gL h a, .inr (.inr (.inr (.inr (va_up (fun j => (gR h a j).map (xB X + ·)) k (some (xB X + v)))))))) = wld X (sR h a k (some v)) := by
  refine wld_set rfl ?_ (fun c hc => cE_congr rfl rfl (fun j => rfl) (fun j => by rw [gR_sR, if_neg (fun q => hc q.1)]))
  rw [cE_ref (h := sR h a k (some v)) ho h1]
  have e : (fun j => (gR (sR h a k (some v)) a j).map (xB X + ·)) = va_up (fun j => (gR h a j).map (xB X + ·)) k (some (xB X + v)) := funext fun j => by
    rw [gR_sR]; unfold va_up
    by_cases hj : j = k
    · rw [if_pos ⟨rfl, hj⟩, if_pos hj]; rfl
    · rw [if_neg (fun q => hj q.2), if_neg hj]
  rw [e]; rfl
def FGp (own : String) (idx ci k : Nat) : Prop := ci < 11 ∧ k < nFl ci ∧ ∃ (C : String) (T : u_T) (N : Nat), vwCl[ci]? = some (C, T, N) ∧ k < N ∧ (∀ w ∈ u_ws C T N, w ∈ TG) ∧ Cond.fieldLink own idx (T k).1 (T k).2.1 (T k).2.2.1 ∈ TG
/-- what a field's link needs of the tables -/
def FDp (own : String) (idx ci k : Nat) (fin : Bool) (ty : FieldType) : Prop := ci < 11 ∧ k < nFl ci ∧ ∃ (C : String) (T : u_T) (N : Nat) (t0 : Nat → FieldType), vwCl[ci]? = some (C, T, N) ∧ k < N ∧ (∀ w ∈ u_ws C T N, w ∈ TG) ∧ Cond.fieldLink own idx (T k).1 (T k).2.1 (T k).2.2.1 ∈ TG ∧ (∀ j, j < N → parseFieldDescriptor (T j).2.2.1 = some (t0 j)) ∧ (∀ a, a < N → ∀ b, b < N → a ≠ b → (T a).2.1 ≠ (T b).2.1) ∧ (T k).2.2.2 = fin ∧ parseFieldDescriptor (T k).2.2.1 = some ty ∧ (fin = true → (T k).1 = own)
theorem ev_getI {X : Cx} {M : MI} {d : Nat} {h0 : Hp} {r : Option Value} {h' : Hp} {pc : Nat} {loc : List (Option Value)} {stk : List Value} {h : Hp} {idx ci k a : Nat} (hd : decode M.2.1 pc = .ok (.getfield idx, 3)) (hf : FGp M.1.cls idx ci k) (hr : isRf ci k = false) (ho : okO h a ci) (kk : EV X M d h0 r h' (pc + 3) (loc) (.int (gI h a k) :: stk) (h)) : EV X M d h0 r h' (pc) (loc) (.ref a :: stk) (h) := by
  obtain ⟨h1, h2, C, T, N, e1, e2, e3, e4⟩ := hf
  refine ⟨kk.1, fun g1 g2 p e s m args below meth c H locs ls F Hx L => ?_⟩
  have he : (wld X h)[a]? = some (xB X + a, .inr (ci, (List.range (nFl ci)).map (fv X h a))) := by rw [wld_at ho.1, cE_obj ho.2 h1]
  have hv : ((List.range (nFl ci)).map (fv X h a))[k]? = some (cv X (.int (gI h a k))) := by
    rw [fl_at h2]; unfold fv; rw [ho.2, if_neg (by rw [hr]; decide)]; rfl
  exact va_get (D := xD X) (ci := ci) (C := C) (T := T) (N := N) F.x F.b F.ts e3 F.own F.K Hx.2.1 a he e1 k e2 (F.ts _ e4) (fun _ q => q) hv hd (kk.2 g1 g2 p e s m args below meth c H locs ls F Hx L)
theorem ev_getR {X : Cx} {M : MI} {d : Nat} {h0 : Hp} {r : Option Value} {h' : Hp} {pc : Nat} {loc : List (Option Value)} {stk : List Value} {h : Hp} {idx ci k a : Nat} (hd : decode M.2.1 pc = .ok (.getfield idx, 3)) (hf : FGp M.1.cls idx ci k) (hr : isRf ci k = true) (ho : okO h a ci) (kk : EV X M d h0 r h' (pc + 3) (loc) (rv (gR h a k) :: stk) (h)) : EV X M d h0 r h' (pc) (loc) (.ref a :: stk) (h) := by
  obtain ⟨h1, h2, C, T, N, e1, e2, e3, e4⟩ := hf
  refine ⟨kk.1, fun g1 g2 p e s m args below meth c H locs ls F Hx L => ?_⟩
  have he : (wld X h)[a]? = some (xB X + a, .inr (ci, (List.range (nFl ci)).map (fv X h a))) := by rw [wld_at ho.1, cE_obj ho.2 h1]
  have hv : ((List.range (nFl ci)).map (fv X h a))[k]? = some (cv X (rv (gR h a k))) := by
    rw [fl_at h2]; unfold fv; rw [ho.2, if_pos hr, cv_rv]
  exact va_get (D := xD X) (ci := ci) (C := C) (T := T) (N := N) F.x F.b F.ts e3 F.own F.K Hx.2.1 a he e1 k e2 (F.ts _ e4) (fun _ q => q) hv hd (kk.2 g1 g2 p e s m args below meth c H locs ls F Hx L)
theorem zput {p : Program} {l : Launch} {e : Env} {R : Room} {s : State} {m : MethodId} {args : Array Value} {below : List Frame} {meth : Method} {c : Code} {H : Heap} {locs : List Loc} {cells slots : Nat} {Q : State → Prop} {pc : Nat} {ls : Array Slot} {rest : List Value} {X : Cx} {h : Hp} {cc : ByteArray} {own : String} {ci k a idx : Nat} {ty : FieldType} {v : Value} (hx : p.tables.exec = Jvm.exec) (hb : c.code = cc) (hts : ∀ w ∈ TG, w.before args s = true) (hown : s.vm.findClass own = some m.cls) (hK : va_K (xD X) vwCl (tyl X) s) (hP : va_P (xD X) vwCl (wld X h) H) (hS : va_S (AX X) s.heap H locs) (hf : FDp own idx ci k false ty) (ho : okO h a ci)  (hn : narrow ty v = v) (hfit : fits ty v = true) (hdg : decode cc pc = .ok (.putfield idx, 3))
    (kk : ∀ (H1 : Heap) (locs1 : List Loc), H1.size = H.size → va_P (xD X) vwCl ((wld X h).set a (xB X + a, .inr (ci, ((List.range (nFl ci)).map (fv X h a)).set k v))) H1 → va_S (AX X) s.heap H1 locs1 → W p l e R s m args below meth c H1 locs1 cells slots Q (F0 m (pc + 3) ls rest)) : W p l e R s m args below meth c H locs cells slots Q (F0 m pc ls (v :: .ref (xB X + a) :: rest)) := by
  obtain ⟨h1, h3, C, T, N, t0, hc, hk, hin, hl0, hty, hnm, hfin, hd, hdecl⟩ := hf
  have hlink := hts _ hl0
  have he : (wld X h)[a]? = some (xB X + a, .inr (ci, (List.range (nFl ci)).map (fv X h a))) := by rw [wld_at ho.1, cE_obj ho.2 h1]
  have hap := va_apart (own := own) hts hin t0 hty hnm hK hc
  obtain ⟨rr, w1, cell, q1, q2, q3, q4⟩ := hP a _ he
  have hr : rr = (C, T, N) := Option.some.inj (w1.symm.trans hc)
  subst hr
  obtain ⟨hSl, hfc, kC, hkC, hkind⟩ := hK.1 ci _ hc
  obtain ⟨cf, kf, fi, f, hi, hsl⟩ := hSl k hk
  have hlay := hts _ (hin _ (u_in_lay hk))
  unfold u_lay at hlay
  have hst := (u_facts hfc hkC (u_lays hts hin hk) hi).1
  have hlen : k < ((List.range (nFl ci)).map (fv X h a)).length := by simpa using h3
  rw [if_neg (by rw [hfin]; decide)] at hlay
  have h6 := u_store hfc hkC hkind hlay hi hd hn hfit
  refine W.putK hx hb (f := f) ⟨hown, hlink, ⟨_, _, _, hi⟩, hst⟩ (by rw [q2]; exact h6) q1 q3 (by rw [hsl]; exact k2_hasslot (q4 k hk)) rfl rfl hdg fun H1 e1 e2 e3 => ?_
  rw [hsl] at e1 ⊢
  exact kk H1 _ e2 (hP.set (wld_D X h) he ⟨_, hc, t_OB.to (V := updV (vp_V ((List.range (nFl ci)).map (fv X h a))) k v) ⟨_, e1, q2, q3, t_set q4 hap hk v⟩ (fun j _ => vp_updV_set hlen v j)⟩ e3) (hS.put e2 e3 ((wld_D X h).2 a _ he))
theorem zputF {p : Program} {l : Launch} {e : Env} {R : Room} {s : State} {m : MethodId} {args : Array Value} {below : List Frame} {meth : Method} {c : Code} {H : Heap} {locs : List Loc} {cells slots : Nat} {Q : State → Prop} {pc : Nat} {ls : Array Slot} {rest : List Value} {X : Cx} {h : Hp} {cc : ByteArray} {own : String} {ci k a idx : Nat} {ty : FieldType} {v : Value} (hx : p.tables.exec = Jvm.exec) (hb : c.code = cc) (hts : ∀ w ∈ TG, w.before args s = true) (hown : s.vm.findClass own = some m.cls) (hK : va_K (xD X) vwCl (tyl X) s) (hP : va_P (xD X) vwCl (wld X h) H) (hS : va_S (AX X) s.heap H locs) (hf : FDp own idx ci k true ty) (ho : okO h a ci) (hin2 : meth.name = "<init>") (hn : narrow ty v = v) (hfit : fits ty v = true) (hdg : decode cc pc = .ok (.putfield idx, 3))
    (kk : ∀ (H1 : Heap) (locs1 : List Loc), H1.size = H.size → va_P (xD X) vwCl ((wld X h).set a (xB X + a, .inr (ci, ((List.range (nFl ci)).map (fv X h a)).set k v))) H1 → va_S (AX X) s.heap H1 locs1 → W p l e R s m args below meth c H1 locs1 cells slots Q (F0 m (pc + 3) ls rest)) : W p l e R s m args below meth c H locs cells slots Q (F0 m pc ls (v :: .ref (xB X + a) :: rest)) := by
  obtain ⟨h1, h3, C, T, N, t0, hc, hk, hin, hl0, hty, hnm, hfin, hd, hdecl⟩ := hf
  have hlink := hts _ hl0
  have he : (wld X h)[a]? = some (xB X + a, .inr (ci, (List.range (nFl ci)).map (fv X h a))) := by rw [wld_at ho.1, cE_obj ho.2 h1]
  have hap := va_apart (own := own) hts hin t0 hty hnm hK hc
  obtain ⟨rr, w1, cell, q1, q2, q3, q4⟩ := hP a _ he
  have hr : rr = (C, T, N) := Option.some.inj (w1.symm.trans hc)
  subst hr
  obtain ⟨hSl, hfc, kC, hkC, hkind⟩ := hK.1 ci _ hc
  obtain ⟨cf, kf, fi, f, hi, hsl⟩ := hSl k hk
  have hlay := hts _ (hin _ (u_in_lay hk))
  unfold u_lay at hlay
  have hst := (u_facts hfc hkC (u_lays hts hin hk) hi).1
  have hlen : k < ((List.range (nFl ci)).map (fv X h a)).length := by simpa using h3
  rw [if_pos hfin] at hlay
  have hcf : m.cls = cf := by
    obtain ⟨_, _, c', _, _, _, -, -, hf', -, -, -, hown2, -⟩ := Cond.laysFinal_spec hlay
    have e1 : c' = cf := by have := hi.symm.trans hf'; simp at this; exact this.1.symm
    rw [hdecl rfl] at hown2
    rw [← e1]; exact Option.some.inj (hown.symm.trans hown2)
  have h6 := u_fits hfc hkC hkind (Or.inr hlay) hi hd hn hfit
  refine W.putFinK hx hb hown hlink hi hst hcf hin2 (by rw [q2]; exact h6) q1 q3 (by rw [hsl]; exact k2_hasslot (q4 k hk)) rfl rfl hdg fun H1 e1 e2 e3 => ?_
  rw [hsl] at e1 ⊢
  exact kk H1 _ e2 (hP.set (wld_D X h) he ⟨_, hc, t_OB.to (V := updV (vp_V ((List.range (nFl ci)).map (fv X h a))) k v) ⟨_, e1, q2, q3, t_set q4 hap hk v⟩ (fun j _ => vp_updV_set hlen v j)⟩ e3) (hS.put e2 e3 ((wld_D X h).2 a _ he))
theorem ev_putI {X : Cx} {M : MI} {d : Nat} {h0 : Hp} {r : Option Value} {h' : Hp} {pc : Nat} {loc : List (Option Value)} {stk : List Value} {h : Hp} {idx ci k a : Nat} {x : Int32} {ty : FieldType} {h2 : Hp} (hd : decode M.2.1 pc = .ok (.putfield idx, 3)) (hf : FDp M.1.cls idx ci k false ty) (hr : isRf ci k = false) (hn : narrow ty (.int x) = .int x) (hfit : fits ty (.int x) = true) (ho : okO h a ci) (eh : h2 = sI h a k x) (kk : EV X M d h0 r h' (pc + 3) (loc) (stk) (h2)) : EV X M d h0 r h' (pc) (loc) (.int x :: .ref a :: stk) (h) := by
  subst eh
  refine ⟨kk.1, fun g1 g2 p e s m args below meth c H locs ls F Hx L => ?_⟩
  refine zput (X := X) (h := h) (v := .int x) F.x F.b F.ts F.own F.K Hx.2.1 Hx.2.2 hf ho  hn hfit hd (fun H1 locs1 p0 p1 p3 => ?_)
  rw [wld_sI ho.2 hf.1 hr] at p1
  exact kk.2 g1 g2 p e s m args below meth c H1 locs1 ls F ⟨p0.trans Hx.1, p1, p3⟩ L
theorem ev_putIF {X : Cx} {M : MI} {d : Nat} {h0 : Hp} {r : Option Value} {h' : Hp} {pc : Nat} {loc : List (Option Value)} {stk : List Value} {h : Hp} {idx ci k a : Nat} {x : Int32} {ty : FieldType} {h2 : Hp} (hd : decode M.2.1 pc = .ok (.putfield idx, 3)) (hf : FDp M.1.cls idx ci k true ty) (hr : isRf ci k = false) (hn : narrow ty (.int x) = .int x) (hfit : fits ty (.int x) = true) (hi : M.1.name = "<init>") (ho : okO h a ci) (eh : h2 = sI h a k x) (kk : EV X M d h0 r h' (pc + 3) (loc) (stk) (h2)) : EV X M d h0 r h' (pc) (loc) (.int x :: .ref a :: stk) (h) := by
  subst eh
  refine ⟨kk.1, fun g1 g2 p e s m args below meth c H locs ls F Hx L => ?_⟩
  refine zputF (X := X) (h := h) (v := .int x) F.x F.b F.ts F.own F.K Hx.2.1 Hx.2.2 hf ho (F.nm hi) hn hfit hd (fun H1 locs1 p0 p1 p3 => ?_)
  rw [wld_sI ho.2 hf.1 hr] at p1
  exact kk.2 g1 g2 p e s m args below meth c H1 locs1 ls F ⟨p0.trans Hx.1, p1, p3⟩ L
theorem ev_putR {X : Cx} {M : MI} {d : Nat} {h0 : Hp} {r : Option Value} {h' : Hp} {pc : Nat} {loc : List (Option Value)} {stk : List Value} {h : Hp} {idx ci k a : Nat} {x : Option Nat} {ty : FieldType} {h2 : Hp} (hd : decode M.2.1 pc = .ok (.putfield idx, 3)) (hf : FDp M.1.cls idx ci k false ty) (hr : isRf ci k = true) (hty : (∃ n, ty = .object n) ∨ ∃ t, ty = .array t) (ho : okO h a ci) (eh : h2 = sR h a k x) (kk : EV X M d h0 r h' (pc + 3) (loc) (stk) (h2)) : EV X M d h0 r h' (pc) (loc) (rv x :: .ref a :: stk) (h) := by
  subst eh
  refine ⟨kk.1, fun g1 g2 p e s m args below meth c H locs ls F Hx L => ?_⟩
  have hn : narrow ty (va_rf (x.map (xB X + ·))) = va_rf (x.map (xB X + ·)) ∧ fits ty (va_rf (x.map (xB X + ·))) = true := by
    rcases hty with ⟨n, rfl⟩ | ⟨t, rfl⟩ <;> cases x <;> exact ⟨rfl, rfl⟩
  rw [List.map_cons, cv_rv]
  refine zput (X := X) (h := h) (v := va_rf (x.map (xB X + ·))) F.x F.b F.ts F.own F.K Hx.2.1 Hx.2.2 hf ho  hn.1 hn.2 hd (fun H1 locs1 p0 p1 p3 => ?_)
  rw [wld_sR ho.2 hf.1 hr] at p1
  exact kk.2 g1 g2 p e s m args below meth c H1 locs1 ls F ⟨p0.trans Hx.1, p1, p3⟩ L
theorem ev_putRF {X : Cx} {M : MI} {d : Nat} {h0 : Hp} {r : Option Value} {h' : Hp} {pc : Nat} {loc : List (Option Value)} {stk : List Value} {h : Hp} {idx ci k a : Nat} {x : Option Nat} {ty : FieldType} {h2 : Hp} (hd : decode M.2.1 pc = .ok (.putfield idx, 3)) (hf : FDp M.1.cls idx ci k true ty) (hr : isRf ci k = true) (hty : (∃ n, ty = .object n) ∨ ∃ t, ty = .array t) (hi : M.1.name = "<init>") (ho : okO h a ci) (eh : h2 = sR h a k x) (kk : EV X M d h0 r h' (pc + 3) (loc) (stk) (h2)) : EV X M d h0 r h' (pc) (loc) (rv x :: .ref a :: stk) (h) := by
  subst eh
  refine ⟨kk.1, fun g1 g2 p e s m args below meth c H locs ls F Hx L => ?_⟩
  have hn : narrow ty (va_rf (x.map (xB X + ·))) = va_rf (x.map (xB X + ·)) ∧ fits ty (va_rf (x.map (xB X + ·))) = true := by
    rcases hty with ⟨n, rfl⟩ | ⟨t, rfl⟩ <;> cases x <;> exact ⟨rfl, rfl⟩
  rw [List.map_cons, cv_rv]
  refine zputF (X := X) (h := h) (v := va_rf (x.map (xB X + ·))) F.x F.b F.ts F.own F.K Hx.2.1 Hx.2.2 hf ho (F.nm hi) hn.1 hn.2 hd (fun H1 locs1 p0 p1 p3 => ?_)
  rw [wld_sR ho.2 hf.1 hr] at p1
  exact kk.2 g1 g2 p e s m args below meth c H1 locs1 ls F ⟨p0.trans Hx.1, p1, p3⟩ L
theorem ev_iald {X : Cx} {M : MI} {d : Nat} {h0 : Hp} {r : Option Value} {h' : Hp} {pc : Nat} {loc : List (Option Value)} {stk : List Value} {h : Hp} {a : Nat} {i : Int32} (hd : decode M.2.1 pc = .ok (.iaload, 1)) (ho : okA h a 11 i) (kk : EV X M d h0 r h' (pc + 1) (loc) (.int (gI h a i.toNatClampNeg) :: stk) (h)) : EV X M d h0 r h' (pc) (loc) (.int i :: .ref a :: stk) (h) := ⟨kk.1, fun g1 g2 p e s m args below meth c H locs ls F Hx L => by
  have he : (wld X h)[a]? = some (xB X + a, .inl (xC X 11, gL h a, .inl (gI h a))) := by rw [wld_at ho.1, cE_int ho.2.1 (by decide) (by decide)]
  exact va_iald F.x F.b F.K Hx.2.1 a 0 he rfl ho.i hd (kk.2 g1 g2 p e s m args below meth c H locs ls F Hx L)⟩
theorem ev_zald {X : Cx} {M : MI} {d : Nat} {h0 : Hp} {r : Option Value} {h' : Hp} {pc : Nat} {loc : List (Option Value)} {stk : List Value} {h : Hp} {a : Nat} {i : Int32} (hd : decode M.2.1 pc = .ok (.baload, 1)) (ho : okA h a 12 i) (kk : EV X M d h0 r h' (pc + 1) (loc) (.int (gI h a i.toNatClampNeg) :: stk) (h)) : EV X M d h0 r h' (pc) (loc) (.int i :: .ref a :: stk) (h) := ⟨kk.1, fun g1 g2 p e s m args below meth c H locs ls F Hx L => by
  have he : (wld X h)[a]? = some (xB X + a, .inl (xC X 12, gL h a, .inl (gI h a))) := by rw [wld_at ho.1, cE_int ho.2.1 (by decide) (by decide)]
  exact va_zald F.x F.b F.K Hx.2.1 a 1 he rfl ho.i hd (kk.2 g1 g2 p e s m args below meth c H locs ls F Hx L)⟩
theorem ev_iast {X : Cx} {M : MI} {d : Nat} {h0 : Hp} {r : Option Value} {h' : Hp} {pc : Nat} {loc : List (Option Value)} {stk : List Value} {h : Hp} {a : Nat} {i x : Int32} {h2 : Hp} (hd : decode M.2.1 pc = .ok (.iastore, 1))  (ho : okA h a 11 i) (eh : h2 = sI h a i.toNatClampNeg x) (kk : EV X M d h0 r h' (pc + 1) (loc) (stk) (h2)) : EV X M d h0 r h' (pc) (loc) (.int x :: .int i :: .ref a :: stk) (h) := by
  subst eh
  refine ⟨kk.1, fun g1 g2 p e s m args below meth c H locs ls F Hx L => ?_⟩
  have he : (wld X h)[a]? = some (xB X + a, .inl (xC X 11, gL h a, .inl (gI h a))) := by rw [wld_at ho.1, cE_int ho.2.1 (by decide) (by decide)]
  refine W.iast F.x F.b (Hx.2.1 a _ he) ((F.K.2 0 _ rfl).1 (gL h a) (fun j => .int (gI h a j))) (fun q => by cases q) (by show ¬ (i < 0 ∨ (arrV _ _ _).slots.size ≤ _); rw [arrV_size]; exact ho.i) rfl rfl hd fun H1 e1 z oq => ?_
  have p1 : va_P (xD X) vwCl ((wld X h).set a (xB X + a, .inl (xC X 11, gL h a, .inl (upd (gI h a) i.toNatClampNeg x)))) H1 := by
    refine Hx.2.1.set (wld_D X h) he ?_ oq
    show H1[xB X + a]? = some (vp_cell _ _)
    rw [e1, vp_cell_i, vp_cell_i, arrV_store]
    congr 2
    funext q
    by_cases hq : q = i.toNatClampNeg
    · subst hq; simp [updV, upd]
    · simp [updV, upd, hq]
  rw [wld_aI ho.2.1 (by decide) (by decide)] at p1
  exact kk.2 g1 g2 p e s m args below meth c H1 _ ls F ⟨z.trans Hx.1, p1, Hx.2.2.put z oq ((wld_D X h).2 a _ he)⟩ L
theorem ev_zast {X : Cx} {M : MI} {d : Nat} {h0 : Hp} {r : Option Value} {h' : Hp} {pc : Nat} {loc : List (Option Value)} {stk : List Value} {h : Hp} {a : Nat} {i x : Int32} {h2 : Hp} (hd : decode M.2.1 pc = .ok (.bastore, 1)) (hn : narrow .boolean (.int x) = .int x) (ho : okA h a 12 i) (eh : h2 = sI h a i.toNatClampNeg x) (kk : EV X M d h0 r h' (pc + 1) (loc) (stk) (h2)) : EV X M d h0 r h' (pc) (loc) (.int x :: .int i :: .ref a :: stk) (h) := by
  subst eh
  refine ⟨kk.1, fun g1 g2 p e s m args below meth c H locs ls F Hx L => ?_⟩
  have he : (wld X h)[a]? = some (xB X + a, .inl (xC X 12, gL h a, .inl (gI h a))) := by rw [wld_at ho.1, cE_int ho.2.1 (by decide) (by decide)]
  refine W.zast F.x F.b (Hx.2.1 a _ he) ((F.K.2 1 _ rfl).1 (gL h a) (fun j => .int (gI h a j))) (fun q => by cases q) (by show ¬ (i < 0 ∨ (arrV _ _ _).slots.size ≤ _); rw [arrV_size]; exact ho.i) rfl rfl hd fun H1 e1 z oq => ?_
  have p1 : va_P (xD X) vwCl ((wld X h).set a (xB X + a, .inl (xC X 12, gL h a, .inl (upd (gI h a) i.toNatClampNeg x)))) H1 := by
    refine Hx.2.1.set (wld_D X h) he ?_ oq
    show H1[xB X + a]? = some (vp_cell _ _)
    rw [e1, hn, vp_cell_i, vp_cell_i, arrV_store]
    congr 2
    funext q
    by_cases hq : q = i.toNatClampNeg
    · subst hq; simp [updV, upd]
    · simp [updV, upd, hq]
  rw [wld_aI ho.2.1 (by decide) (by decide)] at p1
  exact kk.2 g1 g2 p e s m args below meth c H1 _ ls F ⟨z.trans Hx.1, p1, Hx.2.2.put z oq ((wld_D X h).2 a _ he)⟩ L
theorem ev_aald {X : Cx} {M : MI} {d : Nat} {h0 : Hp} {r : Option Value} {h' : Hp} {pc : Nat} {loc : List (Option Value)} {stk : List Value} {h : Hp} {a kd t0 : Nat} {i : Int32} {C : String} (hd : decode M.2.1 pc = .ok (.aaload, 1)) (hk : 13 ≤ kd) (ht : ∀ X : Cx, (tyl X)[t0]? = some (xC X kd, .object C)) (ho : okA h a kd i) (kk : EV X M d h0 r h' (pc + 1) (loc) (rv (gR h a i.toNatClampNeg) :: stk) (h)) : EV X M d h0 r h' (pc) (loc) (.int i :: .ref a :: stk) (h) := ⟨kk.1, fun g1 g2 p e s m args below meth c H locs ls F Hx L => by
  have he : (wld X h)[a]? = some (xB X + a, .inl (xC X kd, gL h a, .inr (.inr (.inr (.inr (fun j => (gR h a j).map (xB X + ·))))))) := by rw [wld_at ho.1, cE_ref ho.2.1 hk]
  have k2 := kk.2 g1 g2 p e s m args below meth c H locs ls F Hx L
  rw [List.map_cons, cv_rv] at k2
  exact va_aldq F.x F.b F.K Hx.2.1 a t0 he (ht X) ho.i hd k2⟩
theorem ev_aast {X : Cx} {M : MI} {d : Nat} {h0 : Hp} {r : Option Value} {h' : Hp} {pc : Nat} {loc : List (Option Value)} {stk : List Value} {h : Hp} {a kd t0 v ci : Nat} {i : Int32} {rr : vw_C} {h2 : Hp} (hd : decode M.2.1 pc = .ok (.aastore, 1)) (hk : 13 ≤ kd) (hc : vwCl[ci]? = some rr) (hci : ci < 11) (ht : ∀ X : Cx, (tyl X)[t0]? = some (xC X kd, .object rr.1)) (hv : okO h v ci) (ho : okA h a kd i) (eh : h2 = sR h a i.toNatClampNeg (some v)) (kk : EV X M d h0 r h' (pc + 1) (loc) (stk) (h2)) : EV X M d h0 r h' (pc) (loc) (.ref v :: .int i :: .ref a :: stk) (h) := by
  subst eh
  refine ⟨kk.1, fun g1 g2 p e s m args below meth c H locs ls F Hx L => ?_⟩
  have he : (wld X h)[a]? = some (xB X + a, .inl (xC X kd, gL h a, .inr (.inr (.inr (.inr (fun j => (gR h a j).map (xB X + ·))))))) := by rw [wld_at ho.1, cE_ref ho.2.1 hk]
  have hvv : (wld X h)[v]? = some (xB X + v, .inr (ci, (List.range (nFl ci)).map (fv X h v))) := by rw [wld_at hv.1, cE_obj hv.2 hci]
  obtain ⟨r', hr', cellV, c1, c2, c3, -⟩ := Hx.2.1 v _ hvv
  have hcls := (F.K.1 ci rr hc).2
  obtain ⟨kA, comp, k1, k2, k3, -⟩ := (F.K.2 t0 _ (ht X)).2
  have hcomp : comp = (xD X).1 ci := Option.some.inj (k3.symm.trans hcls.1)
  subst hcomp
  obtain ⟨kC, hkC, -⟩ := hcls.2
  have hin := ho.i
  refine W.aast F.x F.b (Hx.2.1 a _ he) (fun q hq => by cases hq) (fun hq => by cases hq) k1 k2 rfl hkC ⟨fun q => hin (Or.inl q), by show _ < (arrV _ _ _).slots.size; rw [arrV_size]; exact Nat.not_le.mp fun q => hin (Or.inr q)⟩ c1 (fun q hq => by rw [c3] at hq; cases hq) (by rw [c2]; exact hkC) (by rw [c2]; exact va_assign hcls) rfl rfl hd fun H1 e1 z oq => ?_
  have p1 : va_P (xD X) vwCl ((wld X h).set a (xB X + a, .inl (xC X kd, gL h a, .inr (.inr (.inr (.inr (va_up (fun j => (gR h a j).map (xB X + ·)) i.toNatClampNeg (some (xB X + v))))))))) H1 := by
    refine Hx.2.1.set (wld_D X h) he ?_ oq
    show H1[xB X + a]? = some (vp_cell _ _)
    rw [e1, vp_cell_q, vp_cell_q, arrV_store]
    congr 2
    funext q
    by_cases hq : q = i.toNatClampNeg
    · subst hq; simp [updV, va_up, va_rf]
    · simp [updV, va_up, hq]
  rw [wld_aR ho.2.1 hk] at p1
  exact kk.2 g1 g2 p e s m args below meth c H1 _ ls F ⟨z.trans Hx.1, p1, Hx.2.2.put z oq ((wld_D X h).2 a _ he)⟩ L
theorem ev_alen {X : Cx} {M : MI} {d : Nat} {h0 : Hp} {r : Option Value} {h' : Hp} {pc : Nat} {loc : List (Option Value)} {stk : List Value} {h : Hp} {a kd t0 : Nat} {ty : FieldType} (hd : decode M.2.1 pc = .ok (.arraylength, 1)) (hk : 11 ≤ kd) (ht : ∀ X : Cx, (tyl X)[t0]? = some (xC X kd, ty)) (ho : okO h a kd) (kk : EV X M d h0 r h' (pc + 1) (loc) (.int (Int32.ofNat (gL h a)) :: stk) (h)) : EV X M d h0 r h' (pc) (loc) (.ref a :: stk) (h) := ⟨kk.1, fun g1 g2 p e s m args below meth c H locs ls F Hx L => by
  by_cases h13 : kd < 13
  · have he : (wld X h)[a]? = some (xB X + a, .inl (xC X kd, gL h a, .inl (gI h a))) := by rw [wld_at ho.1, cE_int ho.2 hk h13]
    exact va_alen F.x F.b F.K Hx.2.1 a t0 he (ht X) rfl hd (kk.2 g1 g2 p e s m args below meth c H locs ls F Hx L)
  · have he : (wld X h)[a]? = some (xB X + a, .inl (xC X kd, gL h a, .inr (.inr (.inr (.inr (fun j => (gR h a j).map (xB X + ·))))))) := by rw [wld_at ho.1, cE_ref ho.2 (by omega)]
    exact va_alen F.x F.b F.K Hx.2.1 a t0 he (ht X) rfl hd (kk.2 g1 g2 p e s m args below meth c H locs ls F Hx L)⟩
theorem ev_iret {X : Cx} {M : MI} {d : Nat} {h0 : Hp} {pc : Nat} {loc : List (Option Value)} {h : Hp} {v : Int32} {ty : FieldType} (hd : decode M.2.1 pc = .ok (.ireturn, 1)) (hr : M.2.2.2 = some ty) (hn : narrow ty (.int v) = .int v) : EV X M d h0 (some (.int v)) h pc loc [.int v] h := ⟨Ext.rf _, fun g1 g2 p e s m args below meth c H locs ls F Hx L => W.zret F.x F.b (F.r.trans hr) hn (fun t ht hW => ⟨⟨rfl, by rw [ht]; exact Hx.1, by rw [ht]; exact Hx.2.1⟩, Hx.2.2.F ht⟩) Hx.2.2.2.2 hd F.lk⟩
theorem ev_lret {X : Cx} {M : MI} {d : Nat} {h0 : Hp} {pc : Nat} {loc : List (Option Value)} {h : Hp} {v : Int64}  (hd : decode M.2.1 pc = .ok (.lreturn, 1)) (hr : M.2.2.2 = some .long)  : EV X M d h0 (some (.long v)) h pc loc [.long v] h := ⟨Ext.rf _, fun g1 g2 p e s m args below meth c H locs ls F Hx L => W.lret F.x F.b (F.r.trans hr)  (fun t ht hW => ⟨⟨rfl, by rw [ht]; exact Hx.1, by rw [ht]; exact Hx.2.1⟩, Hx.2.2.F ht⟩) Hx.2.2.2.2 hd F.lk⟩
theorem ev_vret {X : Cx} {M : MI} {d : Nat} {h0 : Hp} {pc : Nat} {loc : List (Option Value)} {h : Hp} (hd : decode M.2.1 pc = .ok (.return_, 1)) (hr : M.2.2.2 = none) : EV X M d h0 none h pc loc [] h := ⟨Ext.rf _, fun g1 g2 p e s m args below meth c H locs ls F Hx L => W.vret F.x F.b (F.r.trans hr) (fun t ht hW => ⟨⟨rfl, by rw [ht]; exact Hx.1, by rw [ht]; exact Hx.2.1⟩, Hx.2.2.F ht⟩) Hx.2.2.2.2 hd F.lk⟩
theorem ev_aret {X : Cx} {M : MI} {d : Nat} {h0 : Hp} {pc : Nat} {loc : List (Option Value)} {h : Hp} {v : Value} {rt : FieldType} (hd : decode M.2.1 pc = .ok (.areturn, 1)) (hr : M.2.2.2 = some rt) (hrt : (∃ n, rt = .object n) ∨ ∃ t, rt = .array t) (hv : isA v = true) : EV X M d h0 (some v) h pc loc [v] h := ⟨Ext.rf _, fun g1 g2 p e s m args below meth c H locs ls F Hx L => W.aret F.x F.b (F.r.trans hr) hrt (by cases v <;> first | exact Or.inl rfl | exact Or.inr ⟨_, rfl⟩ | exact Bool.noConfusion hv) (fun t ht hW => ⟨⟨rfl, by rw [ht]; exact Hx.1, by rw [ht]; exact Hx.2.1⟩, Hx.2.2.F ht⟩) Hx.2.2.2.2 hd F.lk⟩
