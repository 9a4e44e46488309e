theorem wld_nw {X : Cx} {h : Hp} {kd n ln : Nat} {e : va_E} (he : cE X (nw h kd n ln) (gN h) = e) : wld X h ++ [(xB X + gN h, e)] = wld X (nw h kd n ln) := by
  refine wld_push rfl he (fun c hc => cE_congr ?_ ?_ (fun j => ?_) (fun j => ?_))
  · rw [gK_nw, if_neg (Nat.ne_of_lt hc)]
  · rw [gL_nw, if_neg (Nat.ne_of_lt hc)]
  · rw [gI_nw, if_neg (Nat.ne_of_lt hc)]
  · rw [gR_nw, if_neg (Nat.ne_of_lt hc)]
theorem va_P_push {D : va_G} {ws : va_W} {H H1 : Heap} {q : Nat} {e : va_E} (hP : va_P D vwCl ws H) (ho : ∀ x : Nat, x < H.size → H1[x]? = H[x]?) (hq : va_at D vwCl (q, e) H1) : va_P D vwCl (ws ++ [(q, e)]) H1 := by
  refine (hP.kept (fun k x hx => ho x.1 (hP k x hx).lt)).app (fun k x hx => ?_)
  have hz : k < 1 := (List.getElem?_eq_some_iff.mp hx).1
  rw [show k = 0 by omega] at hx
  cases hx
  exact hq
def NDp (own : String) (idx ci : Nat) : Prop := ci < 11 ∧ ∃ (C : String) (T : u_T) (N : Nat) (t0 : Nat → FieldType), vwCl[ci]? = some (C, T, N) ∧ N = nFl ci ∧ (∀ w ∈ u_ws C T N, w ∈ TG) ∧ (∀ j, j < N → parseFieldDescriptor (T j).2.2.1 = some (t0 j)) ∧ Cond.classLink own idx C ∈ TG ∧ Cond.instantiable C N ∈ TG ∧ Cond.initialized C ∈ TG ∧ ∀ j, j < N → defaultValue (t0 j) = if isRf ci j = true then .null else .int 0
theorem ev_new {X : Cx} {M : MI} {d : Nat} {h0 : Hp} {r : Option Value} {h' : Hp} {pc : Nat} {loc : List (Option Value)} {stk : List Value} {h : Hp} {idx ci : Nat} {h2 : Hp} (hd : decode M.2.1 pc = .ok (.new idx, 3)) (hf : NDp M.1.cls idx ci) (eh : h2 = nw h ci (nFl ci) 0) (kk : EV X M d h0 r h' (pc + 3) (loc) (.ref (gN h) :: stk) (h2)) : EV X M d h0 r h' (pc) (loc) (stk) (h) := by
  subst eh
  obtain ⟨hci, C, T, N, t0, hc, hN, hin, hty, l1, l2, l3, hdf⟩ := hf
  have kx := kk.1
  have k1 := And.intro kx.1 kx.2.1
  rw [gN_nw, gS_nw] at k1
  refine ⟨(Ext.nw h _ _ _).tr kx, fun g1 g2 p e s m args below meth c H locs ls F Hx L => ?_⟩
  have hKn := F.K.1 ci _ hc
  refine W.newcK F.x F.b F.own (F.ts _ l1) (F.ts _ l2) (F.ts _ l3) rfl hd (by show gN h - gN h0 + 1 ≤ gN h' - gN h0; omega) (by show gS h - gS h0 + N ≤ gS h' - gS h0; omega) hKn.2.1 Hx.1 fun H1 kC hkC e1 z1 o1 => ?_
  have hcell : cE X (nw h ci (nFl ci) 0) (gN h) = .inr (ci, (List.range (nFl ci)).map (fv X (nw h ci (nFl ci) 0) (gN h))) := cE_obj (by rw [gK_nw, if_pos rfl]) hci
  have hP1 : va_P (xD X) vwCl (wld X (nw h ci (nFl ci) 0)) H1 := by
    rw [← wld_nw hcell]
    refine va_P_push Hx.2.1 (fun x hx => o1 x (by rw [← Hx.1]; exact hx)) ⟨_, hc, (u_born t0 F.ts hin hKn hkC e1 hty).to (fun j hj => ?_)⟩
    show defaultValue (t0 j) = vp_V ((List.range (nFl ci)).map (fv X (nw h ci (nFl ci) 0) (gN h))) j
    have hj2 : j < nFl ci := hN ▸ hj
    unfold vp_V
    rw [List.getD_eq_getElem?_getD, fl_at hj2, hdf j hj]
    unfold fv
    rw [gK_nw, if_pos rfl, gR_nw, if_pos rfl, gI_nw, if_pos rfl]
    by_cases q : isRf ci j = true
    · rw [if_pos q, if_pos q]; rfl
    · rw [if_neg q, if_neg q]; rfl
  have k2 := kk.2 (by rw [gN_nw]; omega) (by rw [gS_nw]; omega) p e s m args below meth c H1 locs ls F ⟨by rw [gN_nw, z1]; rfl, hP1, ⟨by rw [z1]; have := Hx.2.2.1; have := Hx.1; omega, fun x h1 h2 => (o1 x (by rw [← Hx.1]; exact Nat.lt_of_lt_of_le h1 Hx.2.2.1)).trans (Hx.2.2.2.1 x h1 h2), Hx.2.2.2.2⟩⟩ L
  rw [gN_nw, gS_nw, show gN h + 1 - gN h0 = gN h - gN h0 + 1 by omega, show gS h + nFl ci - gS h0 = gS h - gS h0 + N by omega] at k2
  exact k2
theorem ev_newaI {X : Cx} {M : MI} {d : Nat} {h0 : Hp} {r : Option Value} {h' : Hp} {pc : Nat} {loc : List (Option Value)} {stk : List Value} {h : Hp} {n : Int32} {N : Nat} {h2 : Hp} (hd : decode M.2.1 pc = .ok (.newarray .int, 2)) (hw : Cond.arrayClass .int ∈ TG) (hn : 0 ≤ n.toInt ∧ n.toInt ≤ 65536) (hN : n.toNatClampNeg = N) (eh : h2 = nw h 11 N N) (kk : EV X M d h0 r h' (pc + 2) (loc) (.ref (gN h) :: stk) (h2)) : EV X M d h0 r h' (pc) (loc) (.int n :: stk) (h) := by
  subst eh
  have kx := kk.1
  have k1 := And.intro kx.1 kx.2.1
  rw [gN_nw, gS_nw] at k1
  have hn0 : ¬ n < 0 := fun q => by have := Int32.lt_iff_toInt_lt.mp q; rw [Int32.toInt_zero] at this; omega
  have hNb : N ≤ 65536 := by rw [← hN]; show n.toInt.toNat ≤ 65536; omega
  refine ⟨(Ext.nw h _ _ _).tr kx, fun g1 g2 p e s m args below meth c H locs ls F Hx L => ?_⟩
  refine va_newaK (atype := .int) F.x F.b (F.ts _ hw) rfl hd rfl hn0 hN (by show N * componentBytes .int ≤ _; simp only [componentBytes]; omega) (by show gN h - gN h0 + 1 ≤ gN h' - gN h0; omega) (by show gS h - gS h0 + N ≤ gS h' - gS h0; omega) Hx.1 fun H1 cA e1 z1 o1 hAr hNm => ?_
  have hcA : cA = xC X 11 := Option.some.inj (hNm.symm.trans (F.K.2 0 _ rfl).2)
  subst hcA
  have hP1 : va_P (xD X) vwCl (wld X (nw h 11 N N)) H1 := by
    rw [← wld_nw (cE_int (by rw [gK_nw, if_pos rfl]) (by decide) (by decide))]
    refine va_P_push Hx.2.1 (fun x hx => o1 x (by rw [← Hx.1]; exact hx)) ?_
    show H1[xB X + gN h]? = some (vp_cell _ _)
    rw [e1, vp_cell_i]
    have ef : (fun j => Value.int (gI (nw h 11 N N) (gN h) j)) = fun _ => defaultValue .int := funext fun j => by rw [gI_nw, if_pos rfl]; rfl
    rw [ef, gL_nw, if_pos rfl]
    rfl
  have k2 := kk.2 (by rw [gN_nw]; omega) (by rw [gS_nw]; omega) p e s m args below meth c H1 locs ls F ⟨by rw [gN_nw, z1]; rfl, hP1, ⟨by rw [z1]; have := Hx.2.2.1; have := Hx.1; omega, fun x h1 h2 => (o1 x (by rw [← Hx.1]; exact Nat.lt_of_lt_of_le h1 Hx.2.2.1)).trans (Hx.2.2.2.1 x h1 h2), Hx.2.2.2.2⟩⟩ L
  rw [gN_nw, gS_nw, show gN h + 1 - gN h0 = gN h - gN h0 + 1 by omega, show gS h + N - gS h0 = gS h - gS h0 + N by omega] at k2
  exact k2
theorem ev_newaZ {X : Cx} {M : MI} {d : Nat} {h0 : Hp} {r : Option Value} {h' : Hp} {pc : Nat} {loc : List (Option Value)} {stk : List Value} {h : Hp} {n : Int32} {N : Nat} {h2 : Hp} (hd : decode M.2.1 pc = .ok (.newarray .boolean, 2)) (hw : Cond.arrayClass .boolean ∈ TG) (hn : 0 ≤ n.toInt ∧ n.toInt ≤ 65536) (hN : n.toNatClampNeg = N) (eh : h2 = nw h 12 N N) (kk : EV X M d h0 r h' (pc + 2) (loc) (.ref (gN h) :: stk) (h2)) : EV X M d h0 r h' (pc) (loc) (.int n :: stk) (h) := by
  subst eh
  have kx := kk.1
  have k1 := And.intro kx.1 kx.2.1
  rw [gN_nw, gS_nw] at k1
  have hn0 : ¬ n < 0 := fun q => by have := Int32.lt_iff_toInt_lt.mp q; rw [Int32.toInt_zero] at this; omega
  have hNb : N ≤ 65536 := by rw [← hN]; show n.toInt.toNat ≤ 65536; omega
  refine ⟨(Ext.nw h _ _ _).tr kx, fun g1 g2 p e s m args below meth c H locs ls F Hx L => ?_⟩
  refine va_newaK (atype := .boolean) F.x F.b (F.ts _ hw) rfl hd rfl hn0 hN (by show N * componentBytes .boolean ≤ _; simp only [componentBytes]; omega) (by show gN h - gN h0 + 1 ≤ gN h' - gN h0; omega) (by show gS h - gS h0 + N ≤ gS h' - gS h0; omega) Hx.1 fun H1 cA e1 z1 o1 hAr hNm => ?_
  have hcA : cA = xC X 12 := Option.some.inj (hNm.symm.trans (F.K.2 1 _ rfl).2)
  subst hcA
  have hP1 : va_P (xD X) vwCl (wld X (nw h 12 N N)) H1 := by
    rw [← wld_nw (cE_int (by rw [gK_nw, if_pos rfl]) (by decide) (by decide))]
    refine va_P_push Hx.2.1 (fun x hx => o1 x (by rw [← Hx.1]; exact hx)) ?_
    show H1[xB X + gN h]? = some (vp_cell _ _)
    rw [e1, vp_cell_i]
    have ef : (fun j => Value.int (gI (nw h 12 N N) (gN h) j)) = fun _ => defaultValue .boolean := funext fun j => by rw [gI_nw, if_pos rfl]; rfl
    rw [ef, gL_nw, if_pos rfl]
    rfl
  have k2 := kk.2 (by rw [gN_nw]; omega) (by rw [gS_nw]; omega) p e s m args below meth c H1 locs ls F ⟨by rw [gN_nw, z1]; rfl, hP1, ⟨by rw [z1]; have := Hx.2.2.1; have := Hx.1; omega, fun x h1 h2 => (o1 x (by rw [← Hx.1]; exact Nat.lt_of_lt_of_le h1 Hx.2.2.1)).trans (Hx.2.2.2.1 x h1 h2), Hx.2.2.2.2⟩⟩ L
  rw [gN_nw, gS_nw, show gN h + 1 - gN h0 = gN h - gN h0 + 1 by omega, show gS h + N - gS h0 = gS h - gS h0 + N by omega] at k2
  exact k2
theorem ev_newaR {X : Cx} {M : MI} {d : Nat} {h0 : Hp} {r : Option Value} {h' : Hp} {pc : Nat} {loc : List (Option Value)} {stk : List Value} {h : Hp} {n : Int32} {N idx kd t0 : Nat} {C : String} {h2 : Hp} (hd : decode M.2.1 pc = .ok (.anewarray idx, 3)) (hk : 13 ≤ kd) (hw : Cond.classLink M.1.cls idx C ∈ TG) (hao : C ∈ aoL) (ht : ∀ X : Cx, (tyl X)[t0]? = some (xC X kd, .object C)) (hn : 0 ≤ n.toInt ∧ n.toInt ≤ 65536) (hN : n.toNatClampNeg = N) (eh : h2 = nw h kd N N) (kk : EV X M d h0 r h' (pc + 3) (loc) (.ref (gN h) :: stk) (h2)) : EV X M d h0 r h' (pc) (loc) (.int n :: stk) (h) := by
  subst eh
  have kx := kk.1
  have k1 := And.intro kx.1 kx.2.1
  rw [gN_nw, gS_nw] at k1
  have hn0 : ¬ n < 0 := fun q => by have := Int32.lt_iff_toInt_lt.mp q; rw [Int32.toInt_zero] at this; omega
  have hNb : N ≤ 65536 := by rw [← hN]; show n.toInt.toNat ≤ 65536; omega
  subst hN
  refine ⟨(Ext.nw h _ _ _).tr kx, fun g1 g2 p e s m args below meth c H locs ls F Hx L => ?_⟩
  refine W.anew F.x F.b F.own (F.ts _ hw) (va_AO.use (F.sx.2.2.2.1 C hao)) rfl hd rfl hn0 (by omega) (by show gN h - gN h0 + 1 ≤ gN h' - gN h0; omega) (by show gS h - gS h0 + _ ≤ gS h' - gS h0; omega) fun cA kA comp f1 f2 f3 f4 => ?_
  generalize hH1 : H.push ({ cls := cA, slots := Array.replicate n.toNatClampNeg .null, vm := .none } : Cell) = H1
  have z1 : H1.size = H.size + 1 := by rw [← hH1, Array.size_push]
  have e1 : H1[H.size]? = some (arrV cA n.toNatClampNeg (fun _ => .null)) := by rw [← hH1, Array.getElem?_push_size, ← arrV_new]
  have o1 : ∀ q : Nat, q < H.size → H1[q]? = H[q]? := fun q hq => by rw [← hH1, Array.getElem?_push, if_neg (Nat.ne_of_lt hq)]
  obtain ⟨kA2, comp2, -, -, -, r4⟩ := (F.K.2 t0 _ (ht X)).2
  have hcA : cA = xC X kd := Option.some.inj (f1.symm.trans r4)
  subst hcA
  have hP1 : va_P (xD X) vwCl (wld X (nw h kd n.toNatClampNeg n.toNatClampNeg)) H1 := by
    rw [← wld_nw (cE_ref (by rw [gK_nw, if_pos rfl]) hk)]
    refine va_P_push Hx.2.1 o1 ?_
    show H1[xB X + gN h]? = some (vp_cell _ _)
    rw [← Hx.1, e1, vp_cell_q]
    have ef : (fun j => va_rf ((gR (nw h kd n.toNatClampNeg n.toNatClampNeg) (gN h) j).map (xB X + ·))) = fun _ => Value.null := funext fun j => by rw [gR_nw, if_pos rfl]; rfl
    rw [ef, gL_nw, if_pos rfl]
  have k2 := kk.2 (by rw [gN_nw]; omega) (by rw [gS_nw]; omega) p e s m args below meth c H1 locs ls F ⟨by rw [gN_nw, z1, Hx.1]; rfl, hP1, ⟨by rw [z1]; have := Hx.2.2.1; omega, fun x h1 h2 => (o1 x (Nat.lt_of_lt_of_le h1 Hx.2.2.1)).trans (Hx.2.2.2.1 x h1 h2), Hx.2.2.2.2⟩⟩ L
  rw [gN_nw, gS_nw, show gN h + 1 - gN h0 = gN h - gN h0 + 1 by omega, show gS h + n.toNatClampNeg - gS h0 = gS h - gS h0 + n.toNatClampNeg by omega] at k2
  rw [Hx.1]
  exact k2
theorem ev_obj {X : Cx} {M : MI} {d : Nat} {h0 : Hp} {r : Option Value} {h' : Hp} {pc : Nat} {loc : List (Option Value)} {stk : List Value} {h : Hp} {idx : Nat} {v : Value} (hd : decode M.2.1 pc = .ok (.invokespecial idx, 3)) (hv : ∃ a, v = .ref a) (hl : Cond.methodLink M.1.cls idx objectInit ∈ TG) (hi : Cond.instanceMethod objectInit ∈ TG) (hc : Cond.code objectInit ⟨#[0xb1]⟩ 1 none ∈ TG) (h1 : 1 ≤ d) (hs : (stk.map Value.category).sum ≤ 8) (kk : EV X M d h0 r h' (pc + 3) (loc) (stk) (h)) : EV X M d h0 r h' (pc) (loc) (v :: stk) (h) := by
  obtain ⟨a, rfl⟩ := hv
  refine ⟨kk.1, fun g1 g2 p e s m args below meth c H locs ls F Hx L => ?_⟩
  have hcat : ((stk.map (cv X)).map fun v => v.category).sum ≤ 8 := by rw [List.map_map]; refine Nat.le_trans (Nat.le_of_eq (congrArg List.sum (List.map_congr_left (fun v _ => cv_cat X v)))) hs
  exact W.objInit F.x F.b F.own (F.ts _ hl) (F.ts _ hi) (F.ts _ hc) rfl (by rw [F.ml]; exact L.1) rfl hd (by show 1 ≤ d; exact h1) (by show 2 * 0 + _ + 12 ≤ 64 * d; omega) (kk.2 g1 g2 p e s m args below meth c H locs ls F Hx L)
theorem ev_copy {X : Cx} {M : MI} {d : Nat} {h0 : Hp} {r : Option Value} {h' : Hp} {pc : Nat} {loc : List (Option Value)} {stk : List Value} {h : Hp} {idx a b : Nat} {sp dp n : Int32} {h2 : Hp} (hd : decode M.2.1 pc = .ok (.invokestatic idx, 3)) (w1 : Cond.methodLink M.1.cls idx arraycopyName ∈ TG) (w2 : Cond.native arraycopyName ∈ TG) (w3 : Cond.static arraycopyName ∈ TG) (w4 : Cond.initialized "java/lang/System" ∈ TG) (h1 : 1 ≤ d) (hs : (stk.map Value.category).sum ≤ 8)
    (ha : okO h a 11) (hb : okO h b 11) (hp : 0 ≤ sp.toInt ∧ 0 ≤ dp.toInt ∧ 0 ≤ n.toInt ∧ sp.toInt + n.toInt ≤ gL h a ∧ dp.toInt + n.toInt ≤ gL h b) (eh : h2 = sW h b (va_cpy (gI h a) (gI h b) sp.toNatClampNeg dp.toNatClampNeg n.toNatClampNeg)) (kk : EV X M d h0 r h' (pc + 3) (loc) (stk) (h2)) : EV X M d h0 r h' (pc) (loc) (.int n :: .int dp :: .ref b :: .int sp :: .ref a :: stk) (h) := by
  subst eh
  refine ⟨kk.1, fun g1 g2 p e s m args below meth c H locs ls F Hx L => ?_⟩
  have hcat : ((stk.map (cv X)).map fun v => v.category).sum ≤ 8 := by rw [List.map_map]; refine Nat.le_trans (Nat.le_of_eq (congrArg List.sum (List.map_congr_left (fun v _ => cv_cat X v)))) hs
  have nn : ∀ z : Int32, 0 ≤ z.toInt → ¬ z < 0 := fun z hz q => by have := Int32.lt_iff_toInt_lt.mp q; rw [Int32.toInt_zero] at this; omega
  have cl : ∀ z : Int32, 0 ≤ z.toInt → z.toInt = (z.toNatClampNeg : Int) := fun z hz => by show z.toInt = ((z.toInt.toNat : Nat) : Int); omega
  obtain ⟨p1, p2, p3, p4, p5⟩ := hp
  have c1 := cl sp p1
  have c2 := cl dp p2
  have c3 := cl n p3
  have e0 : (wld X h)[a]? = some (xB X + a, .inl (xC X 11, gL h a, .inl (gI h a))) := by rw [wld_at ha.1, cE_int ha.2 (by decide) (by decide)]
  have e1 : (wld X h)[b]? = some (xB X + b, .inl (xC X 11, gL h b, .inl (gI h b))) := by rw [wld_at hb.1, cE_int hb.2 (by decide) (by decide)]
  have nf : nativeFrameWords "java/lang/System" "arraycopy" 5 ≤ 40 := by decide +kernel
  intro T hT Xs
  have hc0 : H[xB X + a]? = some (vp_cell (xC X 11) (gL h a, .inl (gI h a))) := Hx.2.1 a _ e0
  have hc1 : H[xB X + b]? = some (vp_cell (xC X 11) (gL h b, .inl (gI h b))) := Hx.2.1 b _ e1
  obtain ⟨-, k0, hk0, cm0, hkk0⟩ := (F.K.2 0 _ rfl).1 (gL h a) (fun j => .int (gI h a j))
  obtain ⟨-, k1, hk1, cm1, hkk1⟩ := (F.K.2 0 _ rfl).1 (gL h b) (fun j => .int (gI h b j))
  obtain ⟨vm', X', step⟩ := Xs.arraycopy F.x F.own (F.ts _ w1) (F.ts _ w2) (F.ts _ w3) (F.ts _ w4) (src := xB X + a) (dst := xB X + b) (cs := vp_cell (xC X 11) (gL h a, .inl (gI h a))) (cd := vp_cell (xC X 11) (gL h b, .inl (gI h b))) (srcPos := sp) (destPos := dp) (n := n) (by rw [hT]; exact hc0) (by rw [hT]; exact hc1)
    (fun _ h => by cases h) (fun _ h => by cases h) (fun h => by cases h) (fun h => by cases h) hk0 hk1 hkk0 hkk1 (by simp [refKind]) (nn sp p1) (nn dp p2) (nn n p3)
    (by show ¬ _ > ((arrV _ (gL h a) (fun j => .int (gI h a j))).slots.size : Int); rw [arrV_size]; omega)
    (by show ¬ _ > ((arrV _ (gL h b) (fun j => .int (gI h b j))).slots.size : Int); rw [arrV_size]; omega)
    (fun vm₁ _ i hi => by
      have ee : (vp_cell (xC X 11) (gL h a, .inl (gI h a))).slots.getD (sp.toNatClampNeg + i) .null = .int (gI h a (sp.toNatClampNeg + i)) := by
        show (arrV _ (gL h a) (fun j => .int (gI h a j))).slots.getD _ _ = _
        rw [Array.getD_eq_getD_getElem?, arrV_read _ _ (by omega)]
        rfl
      refine ⟨?_, ?_⟩
      · rw [ee]; rfl
      · rw [ee]; exact trivial)
    (g := F0 m pc ls ((.int n :: .int dp :: .ref b :: .int sp :: .ref a :: stk).map (cv X))) rfl (by rw [F.ml]; exact L.1) (rest := stk.map (cv X)) rfl (by rw [F.b]; exact hd) (by show 1 ≤ d; exact h1) (by show 2 * 0 + _ + _ ≤ 64 * d; omega)
  have ec : copied (vp_cell (xC X 11) (gL h a, .inl (gI h a))) (vp_cell (xC X 11) (gL h b, .inl (gI h b))) sp dp n = vp_cell (xC X 11) (gL h b, .inl (va_cpy (gI h a) (gI h b) sp.toNatClampNeg dp.toNatClampNeg n.toNatClampNeg)) := va_copied (fun z => .int z) (xC X 11) (xC X 11) (gI h a) (gI h b) (by omega)
  rw [ec] at X' step
  have hl : xB X + b < H.size := (Array.getElem?_eq_some_iff.mp hc1).1
  generalize hcell : vp_cell (xC X 11) (gL h b, .inl (va_cpy (gI h a) (gI h b) sp.toNatClampNeg dp.toNatClampNeg n.toNatClampNeg)) = cell at X' step
  have hheap : ((T.setVm vm').setCell (xB X + b) cell).heap = H.setIfInBounds (xB X + b) cell := by rw [← hT]; rfl
  have oq : ∀ q : Nat, q ≠ xB X + b → (H.setIfInBounds (xB X + b) cell)[q]? = H[q]? := fun q hq => by simp [Array.getElem?_setIfInBounds, Ne.symm hq]
  have hP1 : va_P (xD X) vwCl ((wld X h).set b (xB X + b, .inl (xC X 11, gL h b, .inl (va_cpy (gI h a) (gI h b) sp.toNatClampNeg dp.toNatClampNeg n.toNatClampNeg)))) (H.setIfInBounds (xB X + b) cell) := Hx.2.1.set (wld_D X h) e1 (by show (H.setIfInBounds _ _)[_]? = some (vp_cell _ _); rw [hcell]; simp [Array.getElem?_setIfInBounds, hl]) oq
  rw [wld_aW hb.2 (by decide) (by decide)] at hP1
  obtain ⟨t, a1, b1⟩ := kk.2 g1 g2 p e s m args below meth c _ _ ls F ⟨by simp; exact Hx.1, hP1, ⟨by simp; exact Hx.2.2.1, fun q g3 g4 => by
      rw [oq q (fun ee => g4 (by rw [ee]; exact Nat.le_add_right _ _))]
      exact Hx.2.2.2.1 q g3 g4, fun q hq => by
      rcases List.mem_append.mp hq with h | h
      · exact Hx.2.2.2.2 q h
      · obtain ⟨z, -, hz⟩ := List.mem_map.mp h
        rw [← hz]
        exact Nat.le_add_right _ _⟩⟩ L _ hheap X'
  exact ⟨t, step t a1, b1⟩
theorem PIN.blind (X : Cx) (as : List Value) (h : Hp) : FrameBlind (va_Pc as (PIN X h)) := fun a U g mk q => by
  obtain ⟨q0, q1, qP, qK, qS⟩ := q
  exact ⟨q0, q1, qP, va_K.moved (u := U) (U := U.calling g mk a) (Vm.Alike.refl U.vm) qK, SX.same (s := U) (U := U.calling g mk a) rfl qS⟩
theorem PIN.at {X : Cx} {s : State} {h : Hp} {H : Heap} {locs : List Loc} (hK : va_K (xD X) vwCl (tyl X) s) (hX : SX X s s.heap) (Hx : HX X s h H locs) : ∀ U : State, U.heap = H → s.WarmedH U.vm → PIN X h U := fun U hU hW => ⟨by rw [hU]; exact Hx.1, by rw [hU]; exact Hx.2.1, va_K.moved hW.alike hK, by rw [hU]; exact SX.warm hW (hX.kept Hx.2.2.2.1)⟩
theorem call_go {p : Program} {l : Launch} {e : Env} {R : Room} {s : State} {m : MethodId} {args : Array Value} {below : List Frame} {meth : Method} {c : Code} {H : Heap} {locs : List Loc} {cells slots mc ms pc : Nat} {Q : State → Prop} {ls : Array Slot} {rest st0 : List Value} {X : Cx} {r1 : Option Value} {h1 : Hp} {a : Array Value}
    (hr : va_Run p l e R s m args below meth c H locs cells slots mc ms (F0 m pc ls st0) rest (PQ X r1 h1 a) (AX X)) (hS : va_S (AX X) s.heap H locs)
    (kk : ∀ (H1 : Heap) (locs1 : List Loc), HX X s h1 H1 locs1 → W p l e R s m args below meth c H1 locs1 (cells + mc) (slots + ms) Q (F0 m (pc + 3) ls ((r1.map (cv X)).toList ++ rest))) : W p l e R s m args below meth c H locs cells slots Q (F0 m pc ls st0) := by
  intro T hT Xs
  obtain ⟨v, st₀, t, T', L, hh, X', hL, e1, e2, ⟨⟨hv, hsz, hP⟩, hz, hk⟩, st⟩ := hr T hT Xs
  have hv2 : v = r1.map (cv X) := by cases hv; rfl
  subst hv2
  rw [hh] at hz hk
  obtain ⟨t2, a1, b1⟩ := kk T'.heap (locs ++ L) ⟨by rw [e1]; exact hsz, by rw [e1]; exact hP, Nat.le_trans hS.1 (by rw [e1]; exact hz), fun q g1 g2 => by rw [e1, hk q (Nat.lt_of_lt_of_le g1 hS.1) g2]; exact hS.2.1 q g1 g2, fun q hq => by
      rcases List.mem_append.mp hq with h | h
      · exact hS.2.2 q h
      · exact hL q h⟩ T' rfl X'
  exact ⟨t2, st t2 a1, b1⟩
/-- what a callee needs of the tables -/
def MOK (M : MI) (n : Nat) : Prop := Cond.code M.1 M.2.1 M.2.2.1 M.2.2.2 ∈ TG ∧ Cond.initialized M.1.cls ∈ TG ∧ (M.1.cls ≠ "java/lang/invoke/MethodHandle" ∧ M.1.cls ≠ "java/lang/invoke/VarHandle" ∧ (parseMethodDescriptor M.1.desc).map (fun d => d.parameters.length) = some n) ∧ M.2.2.1 ≤ 45
theorem mws_good {M : MI} (h : Cond.code M.1 M.2.1 M.2.2.1 M.2.2.2 ∈ TG) : GoodIn TG (mws M) := fun w hw => by
  rcases List.mem_cons.mp hw with rfl | hw
  · exact TG_good _ h
  · exact TG_good _ hw
theorem roomOk {M : MI} {d d2 n : Nat} {h0 h h1 h' : Hp} (hm : MOK M n) (hd : d2 + 1 ≤ d) : (rmX d2 h h1).frames + 1 ≤ (rmX d h0 h').frames ∧ 8 + (M.2.2.1 + 11) + (rmX d2 h h1).locals ≤ (rmX d h0 h').locals := by
  have := hm.2.2.2
  refine ⟨hd, ?_⟩
  show 8 + (M.2.2.1 + 11) + 64 * d2 ≤ 64 * d
  omega
def okOb (h : Hp) (a ci : Nat) : Bool := decide (a < gN h) && decide (gK h a = ci)
def okAb (h : Hp) (a kd : Nat) (i : Int32) : Bool := decide (a < gN h) && decide (gK h a = kd) && decide (0 ≤ i.toInt) && decide (i.toInt < gL h a)
def okC (h : Hp) (a b : Nat) (sp dp n : Int32) : Bool := okOb h a 11 && okOb h b 11 && decide (0 ≤ sp.toInt) && decide (0 ≤ dp.toInt) && decide (0 ≤ n.toInt) && decide (sp.toInt + n.toInt ≤ gL h a) && decide (dp.toInt + n.toInt ≤ gL h b)
def okN (n : Int32) : Bool := decide (0 ≤ n.toInt) && decide (n.toInt ≤ 65536)
theorem okOb.p {h : Hp} {a ci : Nat} (q : okOb h a ci = true) : okO h a ci := by
  simp only [okOb, Bool.and_eq_true, decide_eq_true_eq] at q; exact q
theorem okAb.p {h : Hp} {a kd : Nat} {i : Int32} (q : okAb h a kd i = true) : okA h a kd i := by
  simp only [okAb, Bool.and_eq_true, decide_eq_true_eq] at q; exact ⟨q.1.1.1, q.1.1.2, q.1.2, q.2⟩
theorem okN.p {n : Int32} (q : okN n = true) : 0 ≤ n.toInt ∧ n.toInt ≤ 65536 := by
  simp only [okN, Bool.and_eq_true, decide_eq_true_eq] at q; exact q
theorem okC.p {h : Hp} {a b : Nat} {sp dp n : Int32} (q : okC h a b sp dp n = true) : okO h a 11 ∧ okO h b 11 ∧ (0 ≤ sp.toInt ∧ 0 ≤ dp.toInt ∧ 0 ≤ n.toInt ∧ sp.toInt + n.toInt ≤ gL h a ∧ dp.toInt + n.toInt ≤ gL h b) := by
  simp only [okC, Bool.and_eq_true, decide_eq_true_eq] at q
  obtain ⟨⟨⟨⟨⟨⟨q1, q2⟩, q3⟩, q4⟩, q5⟩, q6⟩, q7⟩ := q
  exact ⟨okOb.p q1, okOb.p q2, q3, q4, q5, q6, q7⟩
theorem okO_ext {h h2 : Hp} {a ci : Nat} (w : Ext h h2) (q : okO h a ci) : okO h2 a ci := ⟨Nat.lt_of_lt_of_le q.1 w.1, (w.2.2 a q.1).1.trans q.2⟩
theorem okO_sI {h h2 : Hp} {a ci b k : Nat} {v : Int32} (e : h2 = sI h b k v) (q : okO h a ci) : okO h2 a ci := by subst e; exact q
theorem okO_sR {h h2 : Hp} {a ci b k : Nat} {v : Option Nat} (e : h2 = sR h b k v) (q : okO h a ci) : okO h2 a ci := by subst e; exact q
theorem okO_sW {h h2 : Hp} {a ci b : Nat} {f : Nat → Int32} (e : h2 = sW h b f) (q : okO h a ci) : okO h2 a ci := by subst e; exact q
theorem okO_nw {h h2 : Hp} {a ci kd n ln : Nat} (e : h2 = nw h kd n ln) (q : okO h a ci) : okO h2 a ci := by subst e; exact okO_ext (Ext.nw h kd n ln) q
theorem okO_new {h h2 : Hp} {kd n ln : Nat} (e : h2 = nw h kd n ln) : okO h2 (gN h) kd := by subst e; exact ⟨Nat.lt_succ_self _, by rw [gK_nw, if_pos rfl]⟩
def bnd {α β : Type} (o : Option (α × Hp)) (k : α → Hp → Option β) : Option β := match o with
  | some q => k q.1 q.2
  | none => none
def gd {β : Type} (c : Bool) (x : Option β) : Option β := if c = true then x else none
def un {β : Type} (o : Option Nat) (k : Nat → Option β) : Option β := match o with
  | some a => k a
  | none => none
def nl {β : Type} (o : Option Nat) (x : Option β) (k : Nat → Option β) : Option β := match o with
  | some a => k a
  | none => x
def vl {α β : Type} (v : α) (k : α → Option β) : Option β := k v
theorem bnd_some {α β : Type} {o : Option (α × Hp)} {k : α → Hp → Option β} {r : β} (H : bnd o k = some r) : ∃ v h, o = some (v, h) ∧ k v h = some r := by
  cases o with
  | none => cases H
  | some q => exact ⟨q.1, q.2, rfl, H⟩
theorem gd_some {β : Type} {c : Bool} {x : Option β} {r : β} (H : gd c x = some r) : c = true ∧ x = some r := by
  cases c with
  | false => cases H
  | true => exact ⟨rfl, H⟩
theorem un_some {β : Type} {o : Option Nat} {k : Nat → Option β} {r : β} (H : un o k = some r) : ∃ a, o = some a ∧ k a = some r := by
  cases o with
  | none => cases H
  | some a => exact ⟨a, rfl, H⟩
theorem nl_some {β : Type} {o : Option Nat} {x : Option β} {k : Nat → Option β} {r : β} (H : nl o x k = some r) : (o = none ∧ x = some r) ∨ ∃ a, o = some a ∧ k a = some r := by
  cases o with
  | none => exact Or.inl ⟨rfl, H⟩
  | some a => exact Or.inr ⟨a, rfl, H⟩
theorem vl_some {α β : Type} {v : α} {k : α → Option β} {r : β} (H : vl v k = some r) : ∃ x, x = v ∧ k x = some r := ⟨v, rfl, H⟩
theorem rv_cat (q : Option Nat) : (rv q).category = 1 := by cases q <;> rfl
theorem ev_callV {X : Cx} {M : MI} {d : Nat} {h0 : Hp} {r : Option Value} {h' : Hp} {pc : Nat} {loc : List (Option Value)} {stk : List Value} {h : Hp} {M2 : MI} {idx d2 n : Nat} {a : Nat} {as : List Value} {r1 : Option Value} {h1 : Hp} {S : List Value} (hd : decode M.2.1 pc = .ok (.invokevirtual idx, 3)) (hm : PM X M2 d2 (.ref a :: as) h r1 h1) (hmo : MOK M2 n) (hdd : d2 + 1 ≤ d) (hn : as.length = n) (w1 : Cond.methodLink M.1.cls idx M2.1 ∈ TG) (w2 : Cond.instanceMethod M2.1 ∈ TG) (w3 : Cond.selects M2.1.cls M2.1 M2.1 ∈ TG) {ci : Nat} {rr : vw_C} (hci : ci < 11) (hc : vwCl[ci]? = some rr) (hcn : rr.1 = M2.1.cls) (ho : okO h a ci) (hs : S = as.reverse ++ .ref a :: stk) (hcs : (stk.map Value.category).sum ≤ 8) (kk : EV X M d h0 r h' (pc + 3) (loc) (r1.toList ++ stk) (h1)) : EV X M d h0 r h' (pc) (loc) (S) (h) := by
  have k1 := And.intro kk.1.1 kk.1.2.1
  have m1 := And.intro hm.1.1 hm.1.2.1
  subst hs
  refine ⟨hm.1.tr kk.1, fun g1 g2 p e s m args below meth c H locs ls F Hx L => ?_⟩
  have hcat : ((stk.map (cv X)).map fun v => v.category).sum ≤ 8 := by rw [List.map_map]; refine Nat.le_trans (Nat.le_of_eq (congrArg List.sum (List.map_congr_left (fun v _ => cv_cat X v)))) hcs
  refine call_go (X := X) (r1 := r1) (h1 := h1) (va_runV (C := M2.1.cls) (As := as.map (cv X)) (rest := stk.map (cv X)) (b := xB X + a) (n := n) ⟨F.x, F.b, F.ml, F.own, F.ts⟩ hm.2 ⟨callB_of n F.ts (mws_good hmo.1) rfl rfl rfl (F.ts _ hmo.2.1) (F.ts _ w1) hmo.2.2.1 (roomOk hmo hdd), F.ts _ w2, F.ts _ w3⟩ ⟨PIN.blind X _ h, by rw [← hcn]; exact va_recv F.K Hx.2.1 hc (q0 := a) (by rw [wld_at ho.1, cE_obj ho.2 hci]), fun U hU hW => ⟨rfl, PIN.at F.K F.sx Hx U hU hW⟩⟩ rfl (by simpa using hn) L.1 (by simp [cv]) (lv_room hcat) hd ⟨by show gN h - gN h0 + (gN h1 - gN h) ≤ gN h' - gN h0; omega, by show gS h - gS h0 + (gS h1 - gS h) ≤ gS h' - gS h0; omega⟩) Hx.2.2 (fun H1 locs1 hx1 => ?_)
  have k2 := kk.2 (by omega) (by omega) p e s m args below meth c H1 locs1 ls F hx1 L
  rw [show gN h1 - gN h0 = gN h - gN h0 + (gN h1 - gN h) by omega, show gS h1 - gS h0 = gS h - gS h0 + (gS h1 - gS h) by omega] at k2
  rw [show (r1.map (cv X)).toList ++ stk.map (cv X) = (r1.toList ++ stk).map (cv X) by cases r1 <;> rfl]
  exact k2
theorem ev_callI {X : Cx} {M : MI} {d : Nat} {h0 : Hp} {r : Option Value} {h' : Hp} {pc : Nat} {loc : List (Option Value)} {stk : List Value} {h : Hp} {M2 : MI} {idx d2 n : Nat} {a : Nat} {as : List Value} {r1 : Option Value} {h1 : Hp} {S : List Value} (hd : decode M.2.1 pc = .ok (.invokespecial idx, 3)) (hm : PM X M2 d2 (.ref a :: as) h r1 h1) (hmo : MOK M2 n) (hdd : d2 + 1 ≤ d) (hn : as.length = n) (w1 : Cond.methodLink M.1.cls idx M2.1 ∈ TG) (w2 : Cond.instanceMethod M2.1 ∈ TG) (hnm : M2.1.name = "<init>") (hret : M2.2.2.2 = none) (hs : S = as.reverse ++ .ref a :: stk) (hcs : (stk.map Value.category).sum ≤ 8) (kk : EV X M d h0 r h' (pc + 3) (loc) (r1.toList ++ stk) (h1)) : EV X M d h0 r h' (pc) (loc) (S) (h) := by
  have k1 := And.intro kk.1.1 kk.1.2.1
  have m1 := And.intro hm.1.1 hm.1.2.1
  subst hs
  refine ⟨hm.1.tr kk.1, fun g1 g2 p e s m args below meth c H locs ls F Hx L => ?_⟩
  have hcat : ((stk.map (cv X)).map fun v => v.category).sum ≤ 8 := by rw [List.map_map]; refine Nat.le_trans (Nat.le_of_eq (congrArg List.sum (List.map_congr_left (fun v _ => cv_cat X v)))) hcs
  refine call_go (X := X) (r1 := r1) (h1 := h1) (va_runI (As := as.map (cv X)) (rest := stk.map (cv X)) (b := xB X + a) (n := n) ⟨F.x, F.b, F.ml, F.own, F.ts⟩ hm.2 ⟨by have q := callB_of (R := rmX d h0 h') n F.ts (mws_good hmo.1) rfl rfl rfl (F.ts _ hmo.2.1) (F.ts _ w1) hmo.2.2.1 (roomOk (h := h) (h1 := h1) hmo hdd); rw [hret] at q; exact q, hnm, F.ts _ w2⟩ ⟨PIN.blind X _ h, fun U hU hW => ⟨rfl, PIN.at F.K F.sx Hx U hU hW⟩⟩ rfl (by simpa using hn) L.1 (by simp [cv]) (lv_room hcat) hd ⟨by show gN h - gN h0 + (gN h1 - gN h) ≤ gN h' - gN h0; omega, by show gS h - gS h0 + (gS h1 - gS h) ≤ gS h' - gS h0; omega⟩) Hx.2.2 (fun H1 locs1 hx1 => ?_)
  have k2 := kk.2 (by omega) (by omega) p e s m args below meth c H1 locs1 ls F hx1 L
  rw [show gN h1 - gN h0 = gN h - gN h0 + (gN h1 - gN h) by omega, show gS h1 - gS h0 = gS h - gS h0 + (gS h1 - gS h) by omega] at k2
  rw [show (r1.map (cv X)).toList ++ stk.map (cv X) = (r1.toList ++ stk).map (cv X) by cases r1 <;> rfl]
  exact k2
theorem ev_callIN {X : Cx} {M : MI} {d : Nat} {h0 : Hp} {r : Option Value} {h' : Hp} {pc : Nat} {loc : List (Option Value)} {stk : List Value} {h : Hp} {M2 : MI} {idx d2 n : Nat} {a : Nat} {as : List Value} {r1 : Option Value} {h1 : Hp} {S : List Value} (hd : decode M.2.1 pc = .ok (.invokespecial idx, 3)) (hm : PM X M2 d2 (.ref a :: as) h r1 h1) (hmo : MOK M2 n) (hdd : d2 + 1 ≤ d) (hn : as.length = n) {host : String} (w1 : (M.1.cls, idx, M2.1, host) ∈ nestL) (w2 : Cond.instanceMethod M2.1 ∈ TG) (hnm : M2.1.name = "<init>") (hret : M2.2.2.2 = none) (hs : S = as.reverse ++ .ref a :: stk) (hcs : (stk.map Value.category).sum ≤ 8) (kk : EV X M d h0 r h' (pc + 3) (loc) (r1.toList ++ stk) (h1)) : EV X M d h0 r h' (pc) (loc) (S) (h) := by
  have k1 := And.intro kk.1.1 kk.1.2.1
  have m1 := And.intro hm.1.1 hm.1.2.1
  subst hs
  refine ⟨hm.1.tr kk.1, fun g1 g2 p e s m args below meth c H locs ls F Hx L => ?_⟩
  have hcat : ((stk.map (cv X)).map fun v => v.category).sum ≤ 8 := by rw [List.map_map]; refine Nat.le_trans (Nat.le_of_eq (congrArg List.sum (List.map_congr_left (fun v _ => cv_cat X v)))) hcs
  refine call_go (X := X) (r1 := r1) (h1 := h1) (va_runIN (host := host) (As := as.map (cv X)) (rest := stk.map (cv X)) (b := xB X + a) (n := n) ⟨F.x, F.b, F.ml, F.own, F.ts⟩ hm.2 ⟨by have q := va_cnB (R := rmX d h0 h') n F.ts (mws_good hmo.1) rfl rfl rfl (F.sx.2.2.2.2.1 _ w1) (F.ts _ hmo.2.1) hmo.2.2.1 (roomOk (h := h) (h1 := h1) hmo hdd); rw [hret] at q; exact q, hnm, F.ts _ w2⟩ ⟨PIN.blind X _ h, fun U hU hW => ⟨rfl, PIN.at F.K F.sx Hx U hU hW⟩⟩ rfl (by simpa using hn) L.1 (by simp [cv]) (lv_room hcat) hd ⟨by show gN h - gN h0 + (gN h1 - gN h) ≤ gN h' - gN h0; omega, by show gS h - gS h0 + (gS h1 - gS h) ≤ gS h' - gS h0; omega⟩) Hx.2.2 (fun H1 locs1 hx1 => ?_)
  have k2 := kk.2 (by omega) (by omega) p e s m args below meth c H1 locs1 ls F hx1 L
  rw [show gN h1 - gN h0 = gN h - gN h0 + (gN h1 - gN h) by omega, show gS h1 - gS h0 = gS h - gS h0 + (gS h1 - gS h) by omega] at k2
  rw [show (r1.map (cv X)).toList ++ stk.map (cv X) = (r1.toList ++ stk).map (cv X) by cases r1 <;> rfl]
  exact k2
theorem ev_callS {X : Cx} {M : MI} {d : Nat} {h0 : Hp} {r : Option Value} {h' : Hp} {pc : Nat} {loc : List (Option Value)} {stk : List Value} {h : Hp} {M2 : MI} {idx d2 n : Nat} {as : List Value} {r1 : Option Value} {h1 : Hp} {S : List Value} (hd : decode M.2.1 pc = .ok (.invokestatic idx, 3)) (hm : PM X M2 d2 (as) h r1 h1) (hmo : MOK M2 n) (hdd : d2 + 1 ≤ d) (hn : as.length = n) (w1 : Cond.methodLink M.1.cls idx M2.1 ∈ TG) (w2 : Cond.static M2.1 ∈ TG) (hs : S = as.reverse ++ stk) (hcs : (stk.map Value.category).sum ≤ 8) (kk : EV X M d h0 r h' (pc + 3) (loc) (r1.toList ++ stk) (h1)) : EV X M d h0 r h' (pc) (loc) (S) (h) := by
  have k1 := And.intro kk.1.1 kk.1.2.1
  have m1 := And.intro hm.1.1 hm.1.2.1
  subst hs
  refine ⟨hm.1.tr kk.1, fun g1 g2 p e s m args below meth c H locs ls F Hx L => ?_⟩
  have hcat : ((stk.map (cv X)).map fun v => v.category).sum ≤ 8 := by rw [List.map_map]; refine Nat.le_trans (Nat.le_of_eq (congrArg List.sum (List.map_congr_left (fun v _ => cv_cat X v)))) hcs
  refine call_go (X := X) (r1 := r1) (h1 := h1) (va_runS (As := as.map (cv X)) (rest := stk.map (cv X)) (n := n) ⟨F.x, F.b, F.ml, F.own, F.ts⟩ hm.2 ⟨callB_of n F.ts (mws_good hmo.1) rfl rfl rfl (F.ts _ hmo.2.1) (F.ts _ w1) hmo.2.2.1 (roomOk hmo hdd), F.ts _ w2⟩ ⟨PIN.blind X _ h, fun U hU hW => ⟨rfl, PIN.at F.K F.sx Hx U hU hW⟩⟩ rfl (by simpa using hn) L.1 (by simp) (lv_room hcat) hd ⟨by show gN h - gN h0 + (gN h1 - gN h) ≤ gN h' - gN h0; omega, by show gS h - gS h0 + (gS h1 - gS h) ≤ gS h' - gS h0; omega⟩) Hx.2.2 (fun H1 locs1 hx1 => ?_)
  have k2 := kk.2 (by omega) (by omega) p e s m args below meth c H1 locs1 ls F hx1 L
  rw [show gN h1 - gN h0 = gN h - gN h0 + (gN h1 - gN h) by omega, show gS h1 - gS h0 = gS h - gS h0 + (gS h1 - gS h) by omega] at k2
  rw [show (r1.map (cv X)).toList ++ stk.map (cv X) = (r1.toList ++ stk).map (cv X) by cases r1 <;> rfl]
  exact k2
theorem ev_callSN {X : Cx} {M : MI} {d : Nat} {h0 : Hp} {r : Option Value} {h' : Hp} {pc : Nat} {loc : List (Option Value)} {stk : List Value} {h : Hp} {M2 : MI} {idx d2 n : Nat} {as : List Value} {r1 : Option Value} {h1 : Hp} {S : List Value} (hd : decode M.2.1 pc = .ok (.invokestatic idx, 3)) (hm : PM X M2 d2 (as) h r1 h1) (hmo : MOK M2 n) (hdd : d2 + 1 ≤ d) (hn : as.length = n) {host : String} (w1 : (M.1.cls, idx, M2.1, host) ∈ nestL) (w2 : Cond.static M2.1 ∈ TG) (hs : S = as.reverse ++ stk) (hcs : (stk.map Value.category).sum ≤ 8) (kk : EV X M d h0 r h' (pc + 3) (loc) (r1.toList ++ stk) (h1)) : EV X M d h0 r h' (pc) (loc) (S) (h) := by
  have k1 := And.intro kk.1.1 kk.1.2.1
  have m1 := And.intro hm.1.1 hm.1.2.1
  subst hs
  refine ⟨hm.1.tr kk.1, fun g1 g2 p e s m args below meth c H locs ls F Hx L => ?_⟩
  have hcat : ((stk.map (cv X)).map fun v => v.category).sum ≤ 8 := by rw [List.map_map]; refine Nat.le_trans (Nat.le_of_eq (congrArg List.sum (List.map_congr_left (fun v _ => cv_cat X v)))) hcs
  refine call_go (X := X) (r1 := r1) (h1 := h1) (va_runSN (host := host) (As := as.map (cv X)) (rest := stk.map (cv X)) (n := n) ⟨F.x, F.b, F.ml, F.own, F.ts⟩ hm.2 ⟨va_cnB n F.ts (mws_good hmo.1) rfl rfl rfl (F.sx.2.2.2.2.1 _ w1) (F.ts _ hmo.2.1) hmo.2.2.1 (roomOk hmo hdd), F.ts _ w2, trivial⟩ ⟨PIN.blind X _ h, fun U hU hW => ⟨rfl, PIN.at F.K F.sx Hx U hU hW⟩⟩ rfl (by simpa using hn) L.1 (by simp) (lv_room hcat) hd ⟨by show gN h - gN h0 + (gN h1 - gN h) ≤ gN h' - gN h0; omega, by show gS h - gS h0 + (gS h1 - gS h) ≤ gS h' - gS h0; omega⟩) Hx.2.2 (fun H1 locs1 hx1 => ?_)
  have k2 := kk.2 (by omega) (by omega) p e s m args below meth c H1 locs1 ls F hx1 L
  rw [show gN h1 - gN h0 = gN h - gN h0 + (gN h1 - gN h) by omega, show gS h1 - gS h0 = gS h - gS h0 + (gS h1 - gS h) by omega] at k2
  rw [show (r1.map (cv X)).toList ++ stk.map (cv X) = (r1.toList ++ stk).map (cv X) by cases r1 <;> rfl]
  exact k2
theorem ev_getIx {X : Cx} {M : MI} {d : Nat} {h0 : Hp} {r : Option Value} {h' : Hp} {pc : Nat} {loc : List (Option Value)} {stk : List Value} {h : Hp} {idx ci k a : Nat} {x : Int32} (hd : decode M.2.1 pc = .ok (.getfield idx, 3)) (hf : FGp M.1.cls idx ci k) (hr : isRf ci k = false) (ho : okO h a ci) (ex : x = gI h a k) (kk : EV X M d h0 r h' (pc + 3) (loc) (.int x :: stk) (h)) : EV X M d h0 r h' (pc) (loc) (.ref a :: stk) (h) := by subst ex; exact ev_getI hd hf hr ho kk
theorem ev_getRx {X : Cx} {M : MI} {d : Nat} {h0 : Hp} {r : Option Value} {h' : Hp} {pc : Nat} {loc : List (Option Value)} {stk : List Value} {h : Hp} {idx ci k a : Nat} {x : Option Nat} (hd : decode M.2.1 pc = .ok (.getfield idx, 3)) (hf : FGp M.1.cls idx ci k) (hr : isRf ci k = true) (ho : okO h a ci) (ex : x = gR h a k) (kk : EV X M d h0 r h' (pc + 3) (loc) (rv x :: stk) (h)) : EV X M d h0 r h' (pc) (loc) (.ref a :: stk) (h) := by subst ex; exact ev_getR hd hf hr ho kk
theorem ev_ialdx {X : Cx} {M : MI} {d : Nat} {h0 : Hp} {r : Option Value} {h' : Hp} {pc : Nat} {loc : List (Option Value)} {stk : List Value} {h : Hp} {a : Nat} {i : Int32} {x : Int32} (hd : decode M.2.1 pc = .ok (.iaload, 1)) (ho : okA h a 11 i) (ex : x = gI h a i.toNatClampNeg) (kk : EV X M d h0 r h' (pc + 1) (loc) (.int x :: stk) (h)) : EV X M d h0 r h' (pc) (loc) (.int i :: .ref a :: stk) (h) := by subst ex; exact ev_iald hd ho kk
theorem ev_zaldx {X : Cx} {M : MI} {d : Nat} {h0 : Hp} {r : Option Value} {h' : Hp} {pc : Nat} {loc : List (Option Value)} {stk : List Value} {h : Hp} {a : Nat} {i : Int32} {x : Int32} (hd : decode M.2.1 pc = .ok (.baload, 1)) (ho : okA h a 12 i) (ex : x = gI h a i.toNatClampNeg) (kk : EV X M d h0 r h' (pc + 1) (loc) (.int x :: stk) (h)) : EV X M d h0 r h' (pc) (loc) (.int i :: .ref a :: stk) (h) := by subst ex; exact ev_zald hd ho kk
theorem ev_aaldx {X : Cx} {M : MI} {d : Nat} {h0 : Hp} {r : Option Value} {h' : Hp} {pc : Nat} {loc : List (Option Value)} {stk : List Value} {h : Hp} {a kd t0 : Nat} {i : Int32} {C : String} {x : Option Nat} (hd : decode M.2.1 pc = .ok (.aaload, 1)) (hk : 13 ≤ kd) (ht : ∀ X : Cx, (tyl X)[t0]? = some (xC X kd, .object C)) (ho : okA h a kd i) (ex : x = gR h a i.toNatClampNeg) (kk : EV X M d h0 r h' (pc + 1) (loc) (rv x :: stk) (h)) : EV X M d h0 r h' (pc) (loc) (.int i :: .ref a :: stk) (h) := by subst ex; exact ev_aald hd hk ht ho kk
theorem ev_istorex {X : Cx} {M : MI} {d : Nat} {h0 : Hp} {r : Option Value} {h' : Hp} {pc : Nat} {loc : List (Option Value)} {stk : List Value} {h : Hp} {i : Nat} {x y : Int32} {loc2 : List (Option Value)} (hd : decode M.2.1 pc = .ok (.istore i, 2))  (hn : i < M.2.2.1) (ey : y = x) (hl : st1 loc i (.int y) = loc2) (kk : EV X M d h0 r h' (pc + 2) (loc2) (stk) (h)) : EV X M d h0 r h' (pc) (loc) (.int x :: stk) (h) := by subst ey; exact ev_istore hd  hn hl kk
theorem ev_lstorex {X : Cx} {M : MI} {d : Nat} {h0 : Hp} {r : Option Value} {h' : Hp} {pc : Nat} {loc : List (Option Value)} {stk : List Value} {h : Hp} {i : Nat} {x y : Int64} {loc2 : List (Option Value)} (hd : decode M.2.1 pc = .ok (.lstore i, 2))  (hn : i + 1 < M.2.2.1) (ey : y = x) (hl : st2 loc i (.long y) = loc2) (kk : EV X M d h0 r h' (pc + 2) (loc2) (stk) (h)) : EV X M d h0 r h' (pc) (loc) (.long x :: stk) (h) := by subst ey; exact ev_lstore hd  hn hl kk
theorem ev_istore_nx {X : Cx} {M : MI} {d : Nat} {h0 : Hp} {r : Option Value} {h' : Hp} {pc : Nat} {loc : List (Option Value)} {stk : List Value} {h : Hp} {j : Fin 4} {i : Nat} {x y : Int32} {loc2 : List (Option Value)} (hd : decode M.2.1 pc = .ok (.istore_n j, 1)) (hi : (j : Nat) = i) (hn : i < M.2.2.1) (ey : y = x) (hl : st1 loc i (.int y) = loc2) (kk : EV X M d h0 r h' (pc + 1) (loc2) (stk) (h)) : EV X M d h0 r h' (pc) (loc) (.int x :: stk) (h) := by subst ey; exact ev_istore_n hd hi hn hl kk
theorem ev_lstore_nx {X : Cx} {M : MI} {d : Nat} {h0 : Hp} {r : Option Value} {h' : Hp} {pc : Nat} {loc : List (Option Value)} {stk : List Value} {h : Hp} {j : Fin 4} {i : Nat} {x y : Int64} {loc2 : List (Option Value)} (hd : decode M.2.1 pc = .ok (.lstore_n j, 1)) (hi : (j : Nat) = i) (hn : i + 1 < M.2.2.1) (ey : y = x) (hl : st2 loc i (.long y) = loc2) (kk : EV X M d h0 r h' (pc + 1) (loc2) (stk) (h)) : EV X M d h0 r h' (pc) (loc) (.long x :: stk) (h) := by subst ey; exact ev_lstore_n hd hi hn hl kk
theorem ev_iincx {X : Cx} {M : MI} {d : Nat} {h0 : Hp} {r : Option Value} {h' : Hp} {pc : Nat} {loc : List (Option Value)} {stk : List Value} {h : Hp} {i : Nat} {n : Int} {x y c : Int32} {loc2 : List (Option Value)} (hd : decode M.2.1 pc = .ok (.iinc i n, 3)) (hx : loc[i]? = some (some (.int x))) (hc : Int32.ofInt n = c) (ey : y = x + c) (hn : i < M.2.2.1) (hl : st1 loc i (.int y) = loc2) (kk : EV X M d h0 r h' (pc + 3) (loc2) (stk) (h)) : EV X M d h0 r h' (pc) (loc) (stk) (h) := by subst ey; subst hc; exact ev_iinc hd hx rfl hn hl kk
theorem ts_out {x : Int32} {lo : Int} {n : Nat} (hb : -1000 < lo) (hb2 : lo + n < 1000) (h : ∀ j, j < n → ¬ x = Int32.ofInt (lo + j)) : x.toInt < lo ∨ lo + (n : Int) - 1 < x.toInt := by
  by_cases h1 : x.toInt < lo
  · exact Or.inl h1
  · by_cases h2 : lo + (n : Int) - 1 < x.toInt
    · exact Or.inr h2
    · exfalso
      refine h (x.toInt - lo).toNat (by omega) ?_
      apply Int32.toInt_inj.mp
      rw [show lo + ((x.toInt - lo).toNat : Int) = x.toInt by omega, Int32.ofInt_toInt]
theorem ev_mmin {X : Cx} {M : MI} {d : Nat} {h0 : Hp} {r : Option Value} {h' : Hp} {pc : Nat} {loc : List (Option Value)} {stk : List Value} {h : Hp} {idx : Nat} {x y : Int32} (hd : decode M.2.1 pc = .ok (.invokestatic idx, 3)) (w1 : Cond.methodLink M.1.cls idx Lib.Math.min.name ∈ TG) (w2 : Cond.static Lib.Math.min.name ∈ TG) (w3 : Cond.initialized "java/lang/Math" ∈ TG) (w4 : Cond.code Lib.Math.min.name Lib.Math.min.code 2 (some .int) ∈ TG) (h1 : 1 ≤ d) (hs : (stk.map Value.category).sum ≤ 8) (kk : EV X M d h0 r h' (pc + 3) (loc) (.int (if y < x then y else x) :: stk) (h)) : EV X M d h0 r h' (pc) (loc) (.int y :: .int x :: stk) (h) := by
  refine ⟨kk.1, fun g1 g2 p e s m args below meth c H locs ls F Hx L => ?_⟩
  have q1 := kk.1.1
  have q2 := kk.1.2.1
  have hcat : ((stk.map (cv X)).map fun v => v.category).sum ≤ 8 := by rw [List.map_map]; refine Nat.le_trans (Nat.le_of_eq (congrArg List.sum (List.map_congr_left (fun v _ => cv_cat X v)))) hs
  exact va_mmin F.x F.b (F.ml.trans L.1.symm) F.own (F.ts _ w1) (F.ts _ w2) (F.ts _ w3) (F.ts _ w4) (by show 1 ≤ d; exact h1) (by show _ + 13 ≤ 64 * d; omega) (by show gN h - gN h0 ≤ gN h' - gN h0; omega) (by show gS h - gS h0 ≤ gS h' - gS h0; omega) hd (kk.2 g1 g2 p e s m args below meth c H locs ls F Hx L)
theorem ev_mmax {X : Cx} {M : MI} {d : Nat} {h0 : Hp} {r : Option Value} {h' : Hp} {pc : Nat} {loc : List (Option Value)} {stk : List Value} {h : Hp} {idx : Nat} {x y : Int32} (hd : decode M.2.1 pc = .ok (.invokestatic idx, 3)) (w1 : Cond.methodLink M.1.cls idx Lib.Math.max.name ∈ TG) (w2 : Cond.static Lib.Math.max.name ∈ TG) (w3 : Cond.initialized "java/lang/Math" ∈ TG) (w4 : Cond.code Lib.Math.max.name Lib.Math.max.code 2 (some .int) ∈ TG) (h1 : 1 ≤ d) (hs : (stk.map Value.category).sum ≤ 8) (kk : EV X M d h0 r h' (pc + 3) (loc) (.int (if x < y then y else x) :: stk) (h)) : EV X M d h0 r h' (pc) (loc) (.int y :: .int x :: stk) (h) := by
  refine ⟨kk.1, fun g1 g2 p e s m args below meth c H locs ls F Hx L => ?_⟩
  have q1 := kk.1.1
  have q2 := kk.1.2.1
  have hcat : ((stk.map (cv X)).map fun v => v.category).sum ≤ 8 := by rw [List.map_map]; refine Nat.le_trans (Nat.le_of_eq (congrArg List.sum (List.map_congr_left (fun v _ => cv_cat X v)))) hs
  exact va_mmax F.x F.b (F.ml.trans L.1.symm) F.own (F.ts _ w1) (F.ts _ w2) (F.ts _ w3) (F.ts _ w4) (by show 1 ≤ d; exact h1) (by show _ + 13 ≤ 64 * d; omega) (by show gN h - gN h0 ≤ gN h' - gN h0; omega) (by show gS h - gS h0 ≤ gS h' - gS h0; omega) hd (kk.2 g1 g2 p e s m args below meth c H locs ls F Hx L)
theorem ev_mmaxL {X : Cx} {M : MI} {d : Nat} {h0 : Hp} {r : Option Value} {h' : Hp} {pc : Nat} {loc : List (Option Value)} {stk : List Value} {h : Hp} {idx : Nat} {x y : Int64} (hd : decode M.2.1 pc = .ok (.invokestatic idx, 3)) (w1 : Cond.methodLink M.1.cls idx Lib.MathLoose.max_long.x ∈ TG) (w2 : Cond.static Lib.MathLoose.max_long.x ∈ TG) (w3 : Cond.initialized "java/lang/Math" ∈ TG) (w4 : Cond.code Lib.MathLoose.max_long.x Lib.MathLoose.max_long.code 4 (some .long) ∈ TG) (h1 : 1 ≤ d) (hs : (stk.map Value.category).sum ≤ 8) (kk : EV X M d h0 r h' (pc + 3) (loc) (.long (if y < x then x else y) :: stk) (h)) : EV X M d h0 r h' (pc) (loc) (.long y :: .long x :: stk) (h) := by
  refine ⟨kk.1, fun g1 g2 p e s m args below meth c H locs ls F Hx L => ?_⟩
  have q1 := kk.1.1
  have q2 := kk.1.2.1
  have hcat : ((stk.map (cv X)).map fun v => v.category).sum ≤ 8 := by rw [List.map_map]; refine Nat.le_trans (Nat.le_of_eq (congrArg List.sum (List.map_congr_left (fun v _ => cv_cat X v)))) hs
  exact va_mmax_long F.x F.b (F.ml.trans L.1.symm) F.own (F.ts _ w1) (F.ts _ w2) (F.ts _ w3) (F.ts _ w4) (by show 1 ≤ d; exact h1) (by show _ + 15 ≤ 64 * d; omega) (by show gN h - gN h0 ≤ gN h' - gN h0; omega) (by show gS h - gS h0 ≤ gS h' - gS h0; omega) hd (kk.2 g1 g2 p e s m args below meth c H locs ls F Hx L)
theorem okO_newx {h h2 : Hp} {a kd n ln : Nat} (ea : a = gN h) (e : h2 = nw h kd n ln) : okO h2 a kd := by subst ea; exact okO_new e
theorem ev_newx {X : Cx} {M : MI} {d : Nat} {h0 : Hp} {r : Option Value} {h' : Hp} {pc : Nat} {loc : List (Option Value)} {stk : List Value} {h : Hp} {idx ci a : Nat} {h2 : Hp} (hd : decode M.2.1 pc = .ok (.new idx, 3)) (hf : NDp M.1.cls idx ci) (ea : a = gN h) (eh : h2 = nw h ci (nFl ci) 0) (kk : EV X M d h0 r h' (pc + 3) (loc) (.ref a :: stk) (h2)) : EV X M d h0 r h' (pc) (loc) (stk) (h) := by subst ea; exact ev_new hd hf eh kk
theorem ev_newaIx {X : Cx} {M : MI} {d : Nat} {h0 : Hp} {r : Option Value} {h' : Hp} {pc : Nat} {loc : List (Option Value)} {stk : List Value} {h : Hp} {n : Int32} {N a : Nat} {h2 : Hp} (hd : decode M.2.1 pc = .ok (.newarray .int, 2)) (hw : Cond.arrayClass .int ∈ TG) (hn : 0 ≤ n.toInt ∧ n.toInt ≤ 65536) (hN : n.toNatClampNeg = N) (ea : a = gN h) (eh : h2 = nw h 11 N N) (kk : EV X M d h0 r h' (pc + 2) (loc) (.ref a :: stk) (h2)) : EV X M d h0 r h' (pc) (loc) (.int n :: stk) (h) := by subst ea; exact ev_newaI hd hw hn hN eh kk
theorem ev_newaZx {X : Cx} {M : MI} {d : Nat} {h0 : Hp} {r : Option Value} {h' : Hp} {pc : Nat} {loc : List (Option Value)} {stk : List Value} {h : Hp} {n : Int32} {N a : Nat} {h2 : Hp} (hd : decode M.2.1 pc = .ok (.newarray .boolean, 2)) (hw : Cond.arrayClass .boolean ∈ TG) (hn : 0 ≤ n.toInt ∧ n.toInt ≤ 65536) (hN : n.toNatClampNeg = N) (ea : a = gN h) (eh : h2 = nw h 12 N N) (kk : EV X M d h0 r h' (pc + 2) (loc) (.ref a :: stk) (h2)) : EV X M d h0 r h' (pc) (loc) (.int n :: stk) (h) := by subst ea; exact ev_newaZ hd hw hn hN eh kk
theorem ev_newaRx {X : Cx} {M : MI} {d : Nat} {h0 : Hp} {r : Option Value} {h' : Hp} {pc : Nat} {loc : List (Option Value)} {stk : List Value} {h : Hp} {n : Int32} {N idx kd t0 a : Nat} {C : String} {h2 : Hp} (hd : decode M.2.1 pc = .ok (.anewarray idx, 3)) (hk : 13 ≤ kd) (hw : Cond.classLink M.1.cls idx C ∈ TG) (hao : C ∈ aoL) (ht : ∀ X : Cx, (tyl X)[t0]? = some (xC X kd, .object C)) (hn : 0 ≤ n.toInt ∧ n.toInt ≤ 65536) (hN : n.toNatClampNeg = N) (ea : a = gN h) (eh : h2 = nw h kd N N) (kk : EV X M d h0 r h' (pc + 3) (loc) (.ref a :: stk) (h2)) : EV X M d h0 r h' (pc) (loc) (.int n :: stk) (h) := by subst ea; exact ev_newaR hd hk hw hao ht hn hN eh kk
def boOk (t : Int32) : Bool := decide (narrow .boolean (.int t) = .int t)
def chOk (t : Int32) : Bool := decide (narrow .char (.int t) = .int t)
def byOk (t : Int32) : Bool := decide (narrow .byte (.int t) = .int t)
theorem ev_iretx {X : Cx} {M : MI} {d : Nat} {h0 h' : Hp} {pc : Nat} {loc : List (Option Value)} {h : Hp} {t v : Int32} {ty : FieldType} (hd : decode M.2.1 pc = .ok (.ireturn, 1)) (hr : M.2.2.2 = some ty) (hn : narrow ty (.int t) = .int t) (H : some (t, h) = some (v, h')) : EV X M d h0 (some (.int v)) h' pc loc [.int t] h := by cases H; exact ev_iret hd hr hn
theorem ev_lretx {X : Cx} {M : MI} {d : Nat} {h0 h' : Hp} {pc : Nat} {loc : List (Option Value)} {h : Hp} {t v : Int64} (hd : decode M.2.1 pc = .ok (.lreturn, 1)) (hr : M.2.2.2 = some .long) (H : some (t, h) = some (v, h')) : EV X M d h0 (some (.long v)) h' pc loc [.long t] h := by cases H; exact ev_lret hd hr
theorem ev_vretx {X : Cx} {M : MI} {d : Nat} {h0 h' : Hp} {pc : Nat} {loc : List (Option Value)} {h : Hp} {v : Unit} (hd : decode M.2.1 pc = .ok (.return_, 1)) (hr : M.2.2.2 = none) (H : some ((), h) = some (v, h')) : EV X M d h0 none h' pc loc [] h := by cases H; exact ev_vret hd hr
theorem ev_aretx {X : Cx} {M : MI} {d : Nat} {h0 h' : Hp} {pc : Nat} {loc : List (Option Value)} {h : Hp} {t v : Option Nat} {rt : FieldType} (hd : decode M.2.1 pc = .ok (.areturn, 1)) (hr : M.2.2.2 = some rt) (hrt : (∃ n, rt = .object n) ∨ ∃ t, rt = .array t) (H : some (t, h) = some (v, h')) : EV X M d h0 (some (rv v)) h' pc loc [rv t] h := by cases H; exact ev_aret hd hr hrt (isA_rv _)
theorem ev_aretS {X : Cx} {M : MI} {d : Nat} {h0 h' : Hp} {pc : Nat} {loc : List (Option Value)} {h : Hp} {t v : Nat} {rt : FieldType} (hd : decode M.2.1 pc = .ok (.areturn, 1)) (hr : M.2.2.2 = some rt) (hrt : (∃ n, rt = .object n) ∨ ∃ t, rt = .array t) (H : some (t, h) = some (v, h')) : EV X M d h0 (some (.float (UInt32.ofNat v))) h' pc loc [.float (UInt32.ofNat t)] h := by cases H; exact ev_aret hd hr hrt rfl
theorem ev_callStr {X : Cx} {M : MI} {d : Nat} {h0 : Hp} {r : Option Value} {h' : Hp} {pc : Nat} {loc : List (Option Value)} {stk : List Value} {h : Hp} {M2 : MI} {idx d2 n i : Nat} {as : List Value} {r1 : Option Value} {h1 : Hp} {S : List Value} (hd : decode M.2.1 pc = .ok (.invokevirtual idx, 3)) (hm : PM X M2 d2 (.float (UInt32.ofNat i) :: as) h r1 h1) (hmo : MOK M2 n) (hdd : d2 + 1 ≤ d) (hn : as.length = n) (w1 : Cond.methodLink M.1.cls idx M2.1 ∈ TG) (w2 : Cond.instanceMethod M2.1 ∈ TG) (w3 : Cond.selects M2.1.cls M2.1 M2.1 ∈ TG) (hi : i < 4) (hcn : M2.1.cls = "java/lang/String") (hs : S = as.reverse ++ .float (UInt32.ofNat i) :: stk) (hcs : (stk.map Value.category).sum ≤ 8) (kk : EV X M d h0 r h' (pc + 3) (loc) (r1.toList ++ stk) (h1)) : EV X M d h0 r h' (pc) (loc) (S) (h) := by
  have k1 := And.intro kk.1.1 kk.1.2.1
  have m1 := And.intro hm.1.1 hm.1.2.1
  subst hs
  refine ⟨hm.1.tr kk.1, fun g1 g2 p e s m args below meth c H locs ls F Hx L => ?_⟩
  have hcat : ((stk.map (cv X)).map fun v => v.category).sum ≤ 8 := by rw [List.map_map]; refine Nat.le_trans (Nat.le_of_eq (congrArg List.sum (List.map_congr_left (fun v _ => cv_cat X v)))) hcs
  have hui : (UInt32.ofNat i).toNat = i := by (match i, hi with | 0, _ => rfl | 1, _ => rfl | 2, _ => rfl | 3, _ => rfl)
  refine call_go (X := X) (r1 := r1) (h1 := h1) (va_runV (C := M2.1.cls) (As := as.map (cv X)) (rest := stk.map (cv X)) (b := xK X (UInt32.ofNat i).toNat) (n := n) ⟨F.x, F.b, F.ml, F.own, F.ts⟩ hm.2 ⟨callB_of n F.ts (mws_good hmo.1) rfl rfl rfl (F.ts _ hmo.2.1) (F.ts _ w1) hmo.2.2.1 (roomOk hmo hdd), F.ts _ w2, F.ts _ w3⟩ ⟨PIN.blind X _ h, by rw [hcn, hui]; exact vk_recv F.sx.2.1 hi Hx.2.2, fun U hU hW => ⟨rfl, PIN.at F.K F.sx Hx U hU hW⟩⟩ rfl (by simpa using hn) L.1 (by simp [cv]) (lv_room hcat) hd ⟨by show gN h - gN h0 + (gN h1 - gN h) ≤ gN h' - gN h0; omega, by show gS h - gS h0 + (gS h1 - gS h) ≤ gS h' - gS h0; omega⟩) Hx.2.2 (fun H1 locs1 hx1 => ?_)
  have k2 := kk.2 (by omega) (by omega) p e s m args below meth c H1 locs1 ls F hx1 L
  rw [show gN h1 - gN h0 = gN h - gN h0 + (gN h1 - gN h) by omega, show gS h1 - gS h0 = gS h - gS h0 + (gS h1 - gS h) by omega] at k2
  rw [show (r1.map (cv X)).toList ++ stk.map (cv X) = (r1.toList ++ stk).map (cv X) by cases r1 <;> rfl]
  exact k2
theorem u32n {t : Nat} (h : t < 9) : (UInt32.ofNat t).toNat = t := by
  match t, h with
  | 0, _ => rfl
  | 1, _ => rfl
  | 2, _ => rfl
  | 3, _ => rfl
  | 4, _ => rfl
  | 5, _ => rfl
  | 6, _ => rfl
  | 7, _ => rfl
  | 8, _ => rfl
theorem ev_i2c {X : Cx} {M : MI} {d : Nat} {h0 : Hp} {r : Option Value} {h' : Hp} {pc : Nat} {loc : List (Option Value)} {stk : List Value} {h : Hp} {x v : Int32} (hd : decode M.2.1 pc = .ok (.i2c, 1)) (hv : (x.toUInt32 % 65536).toInt32 = v) (k : EV X M d h0 r h' (pc + 1) (loc) (.int v :: stk) (h)) : EV X M d h0 r h' (pc) (loc) (.int x :: stk) (h) := ⟨k.1, fun g1 g2 p e s m args below meth c H locs ls F Hx L => lv_i2c F.1 F.2.1 hd hv (k.2 g1 g2 p e s m args below meth c H locs ls F Hx L)⟩
theorem ev_pop {X : Cx} {M : MI} {d : Nat} {h0 : Hp} {r : Option Value} {h' : Hp} {pc : Nat} {loc : List (Option Value)} {stk : List Value} {h : Hp} {v : Value} (hd : decode M.2.1 pc = .ok (.pop, 1)) (hv : v.category = 1) (k : EV X M d h0 r h' (pc + 1) (loc) (stk) (h)) : EV X M d h0 r h' (pc) (loc) (v :: stk) (h) := ⟨k.1, fun g1 g2 p e s m args below meth c H locs ls F Hx L => lv_pop F.1 F.2.1 hd (by rw [cv_cat]; exact hv) (k.2 g1 g2 p e s m args below meth c H locs ls F Hx L)⟩
theorem ev_gsC {X : Cx} {M : MI} {d : Nat} {h0 : Hp} {r : Option Value} {h' : Hp} {pc : Nat} {loc : List (Option Value)} {stk : List Value} {h : Hp} {idx : Nat} (hd : decode M.2.1 pc = .ok (.getstatic idx, 3)) (hl : Cond.fieldLink M.1.cls idx "java/lang/String" "COMPACT_STRINGS" "Z" ∈ TG) (k : EV X M d h0 r h' (pc + 3) (loc) (.int 1 :: stk) (h)) : EV X M d h0 r h' (pc) (loc) (stk) (h) := ⟨k.1, fun g1 g2 p e s m args below meth c H locs ls F Hx L => va_gets F.x F.b F.sx.1 Hx.2.2 F.own (F.ts _ hl) (fun _ q => q) hd (k.2 g1 g2 p e s m args below meth c H locs ls F Hx L)⟩
theorem ev_gsF {X : Cx} {M : MI} {d : Nat} {h0 : Hp} {r : Option Value} {h' : Hp} {pc : Nat} {loc : List (Option Value)} {stk : List Value} {h : Hp} {idx : Nat} (hd : decode M.2.1 pc = .ok (.getstatic idx, 3)) (hl : Cond.fieldLink M.1.cls idx "jdk/internal/util/Preconditions" "SIOOBE_FORMATTER" "Ljava/util/function/BiFunction;" ∈ TG) (k : EV X M d h0 r h' (pc + 3) (loc) (.retAddr 1 :: stk) (h)) : EV X M d h0 r h' (pc) (loc) (stk) (h) := ⟨k.1, fun g1 g2 p e s m args below meth c H locs ls F Hx L => va_gets F.x F.b F.sx.2.2.2.2.2 Hx.2.2 F.own (F.ts _ hl) (fun _ q => q) hd (k.2 g1 g2 p e s m args below meth c H locs ls F Hx L)⟩
theorem ev_sVal {X : Cx} {M : MI} {d : Nat} {h0 : Hp} {r : Option Value} {h' : Hp} {pc : Nat} {loc : List (Option Value)} {stk : List Value} {h : Hp} {idx i : Nat} (hd : decode M.2.1 pc = .ok (.getfield idx, 3)) (hi : i < 4) (hl : Cond.fieldLink M.1.cls idx "java/lang/String" "value" "[B" ∈ TG) (k : EV X M d h0 r h' (pc + 3) (loc) (.float (UInt32.ofNat (4 + i)) :: stk) (h)) : EV X M d h0 r h' (pc) (loc) (.float (UInt32.ofNat i) :: stk) (h) := ⟨k.1, fun g1 g2 p e s m args below meth c H locs ls F Hx L => by
  have k2 := k.2 g1 g2 p e s m args below meth c H locs ls F Hx L
  rw [List.map_cons] at k2 ⊢
  simp only [cv] at k2 ⊢
  rw [u32n (by omega)] at k2 ⊢
  exact vk_getf F.x F.b (F.sx.2.1.1 i hi).2.2.1 Hx.2.2 F.own (F.ts _ hl) (fun _ q => q) hd k2⟩
theorem ev_sCod {X : Cx} {M : MI} {d : Nat} {h0 : Hp} {r : Option Value} {h' : Hp} {pc : Nat} {loc : List (Option Value)} {stk : List Value} {h : Hp} {idx i : Nat} (hd : decode M.2.1 pc = .ok (.getfield idx, 3)) (hi : i < 4) (hl : Cond.fieldLink M.1.cls idx "java/lang/String" "coder" "B" ∈ TG) (k : EV X M d h0 r h' (pc + 3) (loc) (.int 0 :: stk) (h)) : EV X M d h0 r h' (pc) (loc) (.float (UInt32.ofNat i) :: stk) (h) := ⟨k.1, fun g1 g2 p e s m args below meth c H locs ls F Hx L => by
  have k2 := k.2 g1 g2 p e s m args below meth c H locs ls F Hx L
  rw [List.map_cons] at k2 ⊢
  simp only [cv] at k2 ⊢
  rw [u32n (by omega)]
  exact vk_getf F.x F.b (F.sx.2.1.1 i hi).2.1 Hx.2.2 F.own (F.ts _ hl) (fun _ q => q) hd k2⟩
theorem ev_sLen {X : Cx} {M : MI} {d : Nat} {h0 : Hp} {r : Option Value} {h' : Hp} {pc : Nat} {loc : List (Option Value)} {stk : List Value} {h : Hp} {i : Nat} (hd : decode M.2.1 pc = .ok (.arraylength, 1)) (hi : i < 4) (k : EV X M d h0 r h' (pc + 1) (loc) (.int (Int32.ofNat (strL.getD i 0)) :: stk) (h)) : EV X M d h0 r h' (pc) (loc) (.float (UInt32.ofNat (4 + i)) :: stk) (h) := ⟨k.1, fun g1 g2 p e s m args below meth c H locs ls F Hx L => by
  have k2 := k.2 g1 g2 p e s m args below meth c H locs ls F Hx L
  rw [List.map_cons] at k2 ⊢
  simp only [cv] at k2 ⊢
  rw [u32n (by omega)]
  exact va_tlen F.x F.b (F.sx.2.1.1 i hi).2.2.2 Hx.2.2 rfl hd k2⟩
def okS (i : Nat) (k : Int32) : Bool := decide (i < 4) && decide (0 ≤ k.toInt) && decide (k.toInt < (strL.getD i 0 : Nat))
theorem okS.p {i : Nat} {k : Int32} (q : okS i k = true) : i < 4 ∧ vp_in k (strL.getD i 0) := by
  simp only [okS, Bool.and_eq_true, decide_eq_true_eq] at q
  exact ⟨q.1.1, vp_in_iff.mpr ⟨q.1.2, q.2⟩⟩
theorem ev_sBal {X : Cx} {M : MI} {d : Nat} {h0 : Hp} {r : Option Value} {h' : Hp} {pc : Nat} {loc : List (Option Value)} {stk : List Value} {h : Hp} {i : Nat} {x : Int32} (hd : decode M.2.1 pc = .ok (.baload, 1)) (hi : i < 4 ∧ vp_in x (strL.getD i 0)) (k : EV X M d h0 r h' (pc + 1) (loc) (.int ((strB.getD i []).getD x.toNatClampNeg 0) :: stk) (h)) : EV X M d h0 r h' (pc) (loc) (.int x :: .float (UInt32.ofNat (4 + i)) :: stk) (h) := ⟨k.1, fun g1 g2 p e s m args below meth c H locs ls F Hx L => by
  have k2 := k.2 g1 g2 p e s m args below meth c H locs ls F Hx L
  simp only [List.map_cons, cv] at k2 ⊢
  rw [u32n (by have := hi.1; omega)]
  exact va_tb F.x F.b (F.sx.2.1.1 i hi.1).2.2.2 Hx.2.2 hi.2 rfl hd k2⟩
