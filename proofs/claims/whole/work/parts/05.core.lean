abbrev Hp : Type := Nat × Nat × (Nat → Nat) × (Nat → Nat) × (Nat → Nat → Int32) × (Nat → Nat → Option Nat)
/-- cells, slots in all, kinds, lengths, numbers, references -/
def gN (h : Hp) : Nat := h.1
def gS (h : Hp) : Nat := h.2.1
def gK (h : Hp) (a : Nat) : Nat := h.2.2.1 a
def gL (h : Hp) (a : Nat) : Nat := h.2.2.2.1 a
def gI (h : Hp) (a k : Nat) : Int32 := h.2.2.2.2.1 a k
def gR (h : Hp) (a k : Nat) : Option Nat := h.2.2.2.2.2 a k
def u1 {α : Type} (f : Nat → α) (a : Nat) (v : α) : Nat → α := fun b => if b = a then v else f b
def u2 {α : Type} (f : Nat → Nat → α) (a k : Nat) (v : α) : Nat → Nat → α := fun b j => if b = a ∧ j = k then v else f b j
def sI (h : Hp) (a k : Nat) (v : Int32) : Hp := (h.1, h.2.1, h.2.2.1, h.2.2.2.1, u2 h.2.2.2.2.1 a k v, h.2.2.2.2.2)
def sR (h : Hp) (a k : Nat) (v : Option Nat) : Hp := (h.1, h.2.1, h.2.2.1, h.2.2.2.1, h.2.2.2.2.1, u2 h.2.2.2.2.2 a k v)
def sW (h : Hp) (a : Nat) (f : Nat → Int32) : Hp := (h.1, h.2.1, h.2.2.1, h.2.2.2.1, u1 h.2.2.2.2.1 a f, h.2.2.2.2.2)
def nw (h : Hp) (kd n ln : Nat) : Hp := (h.1 + 1, h.2.1 + n, u1 h.2.2.1 h.1 kd, u1 h.2.2.2.1 h.1 ln, u1 h.2.2.2.2.1 h.1 (fun _ => 0), u1 h.2.2.2.2.2 h.1 (fun _ => none))
theorem gN_sI (h : Hp) (a k : Nat) (v : Int32) : gN (sI h a k v) = gN h := rfl
theorem gS_sI (h : Hp) (a k : Nat) (v : Int32) : gS (sI h a k v) = gS h := rfl
theorem gK_sI (h : Hp) (a k : Nat) (v : Int32) (b : Nat) : gK (sI h a k v) b = gK h b := rfl
theorem gL_sI (h : Hp) (a k : Nat) (v : Int32) (b : Nat) : gL (sI h a k v) b = gL h b := rfl
theorem gR_sI (h : Hp) (a k : Nat) (v : Int32) (b j : Nat) : gR (sI h a k v) b j = gR h b j := rfl
theorem gI_sI (h : Hp) (a k : Nat) (v : Int32) (b j : Nat) : gI (sI h a k v) b j = if b = a ∧ j = k then v else gI h b j := rfl
theorem gN_sR (h : Hp) (a k : Nat) (v : Option Nat) : gN (sR h a k v) = gN h := rfl
theorem gS_sR (h : Hp) (a k : Nat) (v : Option Nat) : gS (sR h a k v) = gS h := rfl
theorem gK_sR (h : Hp) (a k : Nat) (v : Option Nat) (b : Nat) : gK (sR h a k v) b = gK h b := rfl
theorem gL_sR (h : Hp) (a k : Nat) (v : Option Nat) (b : Nat) : gL (sR h a k v) b = gL h b := rfl
theorem gI_sR (h : Hp) (a k : Nat) (v : Option Nat) (b j : Nat) : gI (sR h a k v) b j = gI h b j := rfl
theorem gR_sR (h : Hp) (a k : Nat) (v : Option Nat) (b j : Nat) : gR (sR h a k v) b j = if b = a ∧ j = k then v else gR h b j := rfl
theorem gN_sW (h : Hp) (a : Nat) (f : Nat → Int32) : gN (sW h a f) = gN h := rfl
theorem gS_sW (h : Hp) (a : Nat) (f : Nat → Int32) : gS (sW h a f) = gS h := rfl
theorem gK_sW (h : Hp) (a : Nat) (f : Nat → Int32) (b : Nat) : gK (sW h a f) b = gK h b := rfl
theorem gL_sW (h : Hp) (a : Nat) (f : Nat → Int32) (b : Nat) : gL (sW h a f) b = gL h b := rfl
theorem gR_sW (h : Hp) (a : Nat) (f : Nat → Int32) (b j : Nat) : gR (sW h a f) b j = gR h b j := rfl
theorem gI_sW (h : Hp) (a : Nat) (f : Nat → Int32) (b j : Nat) : gI (sW h a f) b j = if b = a then f j else gI h b j := by
  show u1 h.2.2.2.2.1 a f b j = _
  unfold u1
  by_cases e : b = a
  · rw [if_pos e, if_pos e]
  · rw [if_neg e, if_neg e]; rfl
theorem gN_nw (h : Hp) (kd n ln : Nat) : gN (nw h kd n ln) = gN h + 1 := rfl
theorem gS_nw (h : Hp) (kd n ln : Nat) : gS (nw h kd n ln) = gS h + n := rfl
theorem gK_nw (h : Hp) (kd n ln b : Nat) : gK (nw h kd n ln) b = if b = gN h then kd else gK h b := rfl
theorem gL_nw (h : Hp) (kd n ln b : Nat) : gL (nw h kd n ln) b = if b = gN h then ln else gL h b := rfl
theorem gI_nw (h : Hp) (kd n ln b j : Nat) : gI (nw h kd n ln) b j = if b = gN h then 0 else gI h b j := by
  show u1 h.2.2.2.2.1 h.1 _ b j = _
  unfold u1
  by_cases e : b = gN h
  · rw [if_pos e, if_pos (show b = h.1 from e)]
  · rw [if_neg e, if_neg (show ¬ b = h.1 from e)]; rfl
theorem gR_nw (h : Hp) (kd n ln b j : Nat) : gR (nw h kd n ln) b j = if b = gN h then none else gR h b j := by
  show u1 h.2.2.2.2.2 h.1 _ b j = _
  unfold u1
  by_cases e : b = gN h
  · rw [if_pos e, if_pos (show b = h.1 from e)]
  · rw [if_neg e, if_neg (show ¬ b = h.1 from e)]; rfl
def Ext (h h2 : Hp) : Prop := gN h ≤ gN h2 ∧ gS h ≤ gS h2 ∧ ∀ a, a < gN h → gK h2 a = gK h a ∧ gL h2 a = gL h a
theorem Ext.rf (h : Hp) : Ext h h := ⟨Nat.le_refl _, Nat.le_refl _, fun _ _ => ⟨rfl, rfl⟩⟩
theorem Ext.tr {h h1 h2 : Hp} (q : Ext h h1) (w : Ext h1 h2) : Ext h h2 := ⟨Nat.le_trans q.1 w.1, Nat.le_trans q.2.1 w.2.1, fun a ha => ⟨((w.2.2 a (Nat.lt_of_lt_of_le ha q.1)).1).trans (q.2.2 a ha).1, ((w.2.2 a (Nat.lt_of_lt_of_le ha q.1)).2).trans (q.2.2 a ha).2⟩⟩
theorem Ext.nw (h : Hp) (kd n ln : Nat) : Ext h (nw h kd n ln) := ⟨Nat.le_succ _, Nat.le_add_right _ _, fun a ha => ⟨by rw [gK_nw, if_neg (Nat.ne_of_lt ha)], by rw [gL_nw, if_neg (Nat.ne_of_lt ha)]⟩⟩
def aoL : List String := [RX6, RX1, RX7]
def nestL : List (String × Nat × MethodName × String) := [(RX9, 9, yX8_init, RX9), (RX9, 47, yX3_init, RX9), (RX9, 68, yX4_init, RX9), (RX6, 34, yX9_isLetter, RX9)]
def nfT : List Nat := [8, 4, 10, 3, 11, 5, 8, 8, 2, 14, 53]
def nFl (ci : Nat) : Nat := nfT.getD ci 0
def rfT : List (List Bool) := [[true, true, true, true, true, true, false, false], [false, false, true, true], [true, true, false, false, false, false, false, true, true, true], [true, true, true], [true, true, true, false, true, true, true, true, false, false, false], [true, true, true, true, false], [false, true, true, true, false, false, false, true], [false, false, false, true, true, false, true, false], [true, false], [true, true, true, true, false, true, true, false, true, false, true, true, true, true], [true, true, false, true, true, true, true, true, true, true, true, false, true, true, true, true, true, true, true, true, true, true, true, false, false, true, true, true, true, true, true, true, true, true, true, true, true, false, false, false, true, true, true, true, false, true, true, true, true, true, false, false, false]]
def isRf (ci k : Nat) : Bool := (rfT.getD ci []).getD k false
abbrev Cx : Type := Launch × va_G × (Nat → ClassId) × Nat × (Nat → Nat) × Nat × Option Nat
abbrev MI : Type := MethodName × ByteArray × Nat × Option FieldType
def xD (X : Cx) : va_G := X.2.1
def xC (X : Cx) : Nat → ClassId := X.2.2.1
def xB (X : Cx) : Nat := X.2.2.2.1
def xK (X : Cx) : Nat → Nat := X.2.2.2.2.1
def xS (X : Cx) : Nat := X.2.2.2.2.2.1
def xF (X : Cx) : Option Nat := X.2.2.2.2.2.2
def rv (r : Option Nat) : Value := match r with
  | none => .null
  | some a => .ref a
def cv (X : Cx) (v : Value) : Value := match v with
  | .ref k => .ref (xB X + k)
  | .float u => .ref (xK X u.toNat)
  | .retAddr 0 => .ref (xS X)
  | .retAddr _ => va_rf (xF X)
  | v => v
def AX (X : Cx) : Nat → Prop := fun q => xB X ≤ q
def fv (X : Cx) (h : Hp) (a k : Nat) : Value := if isRf (gK h a) k = true then va_rf ((gR h a k).map (xB X + ·)) else .int (gI h a k)
def cE (X : Cx) (h : Hp) (a : Nat) : va_E :=
  if gK h a < 11 then .inr (gK h a, (List.range (nFl (gK h a))).map (fv X h a))
  else if gK h a < 13 then .inl (xC X (gK h a), gL h a, .inl (gI h a))
  else .inl (xC X (gK h a), gL h a, .inr (.inr (.inr (.inr (fun j => (gR h a j).map (xB X + ·))))))
def wld (X : Cx) (h : Hp) : va_W := (List.range (gN h)).map (fun a => (xB X + a, cE X h a))
def tyl (X : Cx) : List (ClassId × FieldType) := [(xC X 11, .int), (xC X 12, .boolean), (xC X 13, .object RX1), (xC X 14, .object RX6), (xC X 15, .object RX7)]
theorem wld_at {X : Cx} {h : Hp} {a : Nat} (ha : a < gN h) : (wld X h)[a]? = some (xB X + a, cE X h a) := by
  simp [wld, List.getElem?_map, List.getElem?_range ha]
theorem wld_inv {X : Cx} {h : Hp} {k : Nat} {q : Nat × va_E} (hk : (wld X h)[k]? = some q) : k < gN h ∧ q = (xB X + k, cE X h k) := by
  have hl : k < gN h := by
    have h1 := (List.getElem?_eq_some_iff.mp hk).1
    simpa [wld] using h1
  rw [wld_at hl] at hk
  exact ⟨hl, (Option.some.inj hk).symm⟩
theorem wld_D (X : Cx) (h : Hp) : va_D (AX X) (wld X h) := by
  refine ⟨fun i j p q hp hq e => ?_, fun k q hq => ?_⟩
  · obtain ⟨-, rfl⟩ := wld_inv hp
    obtain ⟨-, rfl⟩ := wld_inv hq
    have e : xB X + i = xB X + j := e
    omega
  · obtain ⟨-, rfl⟩ := wld_inv hq
    exact Nat.le_add_right _ _
theorem wld_set {X : Cx} {h h2 : Hp} {a : Nat} {e : va_E} (hn : gN h2 = gN h) (he : cE X h2 a = e) (ho : ∀ c, c ≠ a → cE X h2 c = cE X h c) : (wld X h).set a (xB X + a, e) = wld X h2 := by
  apply List.ext_getElem?
  intro k
  by_cases hk : k < gN h
  · rw [wld_at (h := h2) (by omega)]
    by_cases hka : k = a
    · subst hka
      rw [List.getElem?_set_self (by simpa [wld] using hk), he]
    · rw [List.getElem?_set_ne (Ne.symm hka), wld_at hk, ho k hka]
  · rw [List.getElem?_eq_none (by simp [wld]; omega), List.getElem?_eq_none (by simp [wld]; omega)]
theorem wld_push {X : Cx} {h h2 : Hp} {e : va_E} (hn : gN h2 = gN h + 1) (he : cE X h2 (gN h) = e) (ho : ∀ c, c < gN h → cE X h2 c = cE X h c) : wld X h ++ [(xB X + gN h, e)] = wld X h2 := by
  unfold wld
  rw [hn, List.range_succ, List.map_append]
  congr 1
  · refine List.map_congr_left (fun a ha => ?_)
    rw [ho a (List.mem_range.mp ha)]
  · simp [he]
/-- the strings that the Law knows: their bytes -/
def strL : List Nat := [3, 5, 5, 5]
def strB : List (List Int32) := [[115, 101, 116], [102, 97, 117, 108, 116], [112, 114, 105, 110, 116], [115, 112, 111, 105, 108]]
def strI (i : Nat) : Nat := [85, 87, 89, 91].getD i 0
def strT (i : Nat) : String := ["set", "fault", "print", "spoil"].getD i ""
def SX (X : Cx) (U : State) (H : Heap) : Prop := va_Z "java/lang/String" "COMPACT_STRINGS" "Z" (.int 1) (AX X) U H ∧ vk_S 4 strL strB (xK X) (fun i => xK X (4 + i)) (AX X) U H ∧ (∀ i, i < 4 → vk_R RX5 (strI i) (strT i) (xK X i) U) ∧ (∀ C ∈ aoL, va_AO C U) ∧ (∀ q ∈ nestL, va_Nw (.methodLinkNest q.1 q.2.1 q.2.2.1 q.2.2.2) U) ∧ va_Z "jdk/internal/util/Preconditions" "SIOOBE_FORMATTER" "Ljava/util/function/BiFunction;" (va_rf (xF X)) (AX X) U H
theorem SX.warm {X : Cx} {s U : State} {H : Heap} (hW : s.WarmedH U.vm) (h : SX X s H) : SX X U H := ⟨va_Z.moved hW.alike h.1, vk_S.moved hW.alike h.2.1, fun i hi => (h.2.2.1 i hi).warm hW, fun C hC => (h.2.2.2.1 C hC).moved hW.alike, fun q hq => (h.2.2.2.2.1 q hq).warmM hW, va_Z.moved hW.alike h.2.2.2.2.2⟩
theorem SX.same {X : Cx} {s U : State} {H : Heap} (hv : U.vm = s.vm) (h : SX X s H) : SX X U H := ⟨va_Z.moved (by rw [hv]; exact Vm.Alike.refl _) h.1, vk_S.moved (by rw [hv]; exact Vm.Alike.refl _) h.2.1, fun i hi => (h.2.2.1 i hi).same hv, fun C hC => (h.2.2.2.1 C hC).moved (by rw [hv]; exact Vm.Alike.refl _), fun q hq => (h.2.2.2.2.1 q hq).same rfl hv.symm, va_Z.moved (by rw [hv]; exact Vm.Alike.refl _) h.2.2.2.2.2⟩
theorem SX.kept {X : Cx} {s : State} {H H1 : Heap} (hq : ∀ a : Nat, a < H.size → ¬ AX X a → H1[a]? = H[a]?) (h : SX X s H) : SX X s H1 := ⟨va_Z.kept h.1 hq, vk_S.kept h.2.1 hq, h.2.2.1, h.2.2.2.1, h.2.2.2.2.1, va_Z.kept h.2.2.2.2.2 hq⟩
def PIN (X : Cx) (h : Hp) (U : State) : Prop := U.heap.size = xB X + gN h ∧ va_P (xD X) vwCl (wld X h) U.heap ∧ va_K (xD X) vwCl (tyl X) U ∧ SX X U U.heap
def PQ (X : Cx) (r : Option Value) (h' : Hp) : Array Value → State → Outcome → State → Prop := fun _ st oc t => (oc = .returned (r.map (cv X)) ∧ t.heap.size = xB X + gN h' ∧ va_P (xD X) vwCl (wld X h') t.heap) ∧ va_F (AX X) st t
def rmX (d : Nat) (h0 h' : Hp) : Room := { frames := d, cells := gN h' - gN h0, slots := gS h' - gS h0, locals := 64 * d }
def mws (M : MI) : List Cond := .code M.1 M.2.1 M.2.2.1 M.2.2.2 :: TG
def PM (X : Cx) (M : MI) (d : Nat) (as : List Value) (h : Hp) (r : Option Value) (h' : Hp) : Prop :=
  Ext h h' ∧ Met X.1 M.1 (mws M) (rmX d h h') (va_Pc (as.map (cv X)) (PIN X h)) (PQ X r h') (gN h' - gN h) (gS h' - gS h) (AX X)
def FX (X : Cx) (M : MI) (p : Program) (s : State) (m : MethodId) (args : Array Value) (meth : Method) (c : Code) : Prop :=
  p.tables.exec = Jvm.exec ∧ c.code = M.2.1 ∧ c.maxLocals = M.2.2.1 ∧ meth.sig.returnType = M.2.2.2 ∧ meth.locks = false ∧ s.vm.findClass M.1.cls = some m.cls ∧ (∀ w ∈ TG, w.before args s = true) ∧ va_K (xD X) vwCl (tyl X) s ∧ (M.1.name = "<init>" → meth.name = "<init>") ∧ SX X s s.heap ∧ xB X ≤ s.heap.size
def LV (X : Cx) (ls : Array Slot) (nL : Nat) (loc : List (Option Value)) : Prop := ls.size = nL ∧ lv_wf ls ∧ ∀ (i : Nat) (v : Value), loc[i]? = some (some v) → ls[i]? = some (.val (cv X v))
def HX (X : Cx) (s : State) (h : Hp) (H : Heap) (locs : List Loc) : Prop := H.size = xB X + gN h ∧ va_P (xD X) vwCl (wld X h) H ∧ va_S (AX X) s.heap H locs
def EV (X : Cx) (M : MI) (d : Nat) (h0 : Hp) (r : Option Value) (h' : Hp) (pc : Nat) (loc : List (Option Value)) (stk : List Value) (h : Hp) : Prop :=
  Ext h h' ∧ (gN h0 ≤ gN h → gS h0 ≤ gS h → ∀ (p : Program) (e : Env) (s : State) (m : MethodId) (args : Array Value) (below : List Frame) (meth : Method) (c : Code) (H : Heap) (locs : List Loc) (ls : Array Slot), FX X M p s m args meth c → HX X s h H locs → LV X ls M.2.2.1 loc →
    W p X.1 e (rmX d h0 h') s m args below meth c H locs (gN h - gN h0) (gS h - gS h0) (MQ below (PQ X r h') args s (gN h' - gN h0) (gS h' - gS h0) (AX X)) (F0 m pc ls (stk.map (cv X))))
theorem cv_cat (X : Cx) (v : Value) : (cv X v).category = v.category := by
  cases v with
  | retAddr n => cases n with
    | zero => rfl
    | succ n => show (va_rf (xF X)).category = 1; cases xF X <;> rfl
  | _ => rfl
/-- the locals at a method's start -/
def entL : List Value → List (Option Value)
  | [] => []
  | v :: vs => if v.category = 2 then some v :: none :: entL vs else some v :: entL vs
def ent (n : Nat) (as : List Value) : List (Option Value) := entL as ++ List.replicate (n - (entL as).length) none
theorem entL_in (X : Cx) : ∀ (as : List Value) (i : Nat) (v : Value) (o : Nat), (entL as)[i]? = some (some v) → (o + i, cv X v) ∈ lv_args o (as.map (cv X)) := by
  intro as
  induction as with
  | nil => intro i v o h; simp [entL] at h
  | cons w ws ih =>
    intro i v o h
    show (o + i, cv X v) ∈ (o, cv X w) :: lv_args (if (cv X w).category = 2 then o + 2 else o + 1) (ws.map (cv X))
    rw [cv_cat]
    unfold entL at h
    by_cases hc : w.category = 2
    · rw [if_pos hc] at h ⊢
      match i, h with
      | 0, h => simp at h; subst h; exact List.mem_cons_self
      | 1, h => simp at h
      | j + 2, h =>
        have h1 := ih j v (o + 2) (by simpa using h)
        rw [show o + (j + 2) = o + 2 + j by omega]
        exact List.mem_cons_of_mem _ h1
    · rw [if_neg hc] at h ⊢
      match i, h with
      | 0, h => simp at h; subst h; exact List.mem_cons_self
      | j + 1, h =>
        have h1 := ih j v (o + 1) (by simpa using h)
        rw [show o + (j + 1) = o + 1 + j by omega]
        exact List.mem_cons_of_mem _ h1
theorem entL_len (X : Cx) : ∀ as : List Value, (lg_sl (as.map (cv X))).length = (entL as).length := by
  intro as
  induction as with
  | nil => rfl
  | cons w ws ih =>
    have e1 : lg_sl ((w :: ws).map (cv X)) = lg_sl [cv X w] ++ lg_sl (ws.map (cv X)) := by simp [lg_sl]
    have e2 : entL (w :: ws) = if w.category = 2 then some w :: none :: entL ws else some w :: entL ws := rfl
    rw [e1, List.length_append, ih, e2]
    have e3 : (lg_sl [cv X w]).length = if w.category = 2 then 2 else 1 := by
      rw [← cv_cat X w]
      cases cv X w <;> simp [lg_sl, Value.category]
    rw [e3]
    by_cases hc : w.category = 2
    · rw [if_pos hc, if_pos hc]; simp; omega
    · rw [if_neg hc, if_neg hc]; simp; omega
theorem PM.of {X : Cx} {M : MI} {d : Nat} {as : List Value} {h h' : Hp} {r : Option Value} {loc : List (Option Value)} (hy : plainName M.1.cls = true) (hl : ent M.2.2.1 as = loc) (hn : (entL as).length ≤ M.2.2.1) (k : EV X M d h r h' 0 loc [] h) : PM X M d as h r h' := by
  refine ⟨k.1, Met.ofW (cc := M.2.1) (maxL := M.2.2.1) (ret := M.2.2.2) hy rfl ?_⟩
  intro p e s m args below meth c s₁ B hml hv
  obtain ⟨rfl, hsz, hP, hK, hSX⟩ := hv
  have hts := atoms_spec (ws := mws M) B.pre
  have hown : s.vm.findClass M.1.cls = some m.cls := findClass_of_methodNamed B.named
  have hin : meth.name = M.1.name := (name_of_methodNamed B.named B.method).1
  have hle := lv_entry (as.map (cv X)) (n := M.2.2.1) (by rw [entL_len]; exact hn)
  rw [lg_entry_eq]
  generalize (lg_sl (as.map (cv X)) ++ List.replicate (M.2.2.1 - (lg_sl (as.map (cv X))).length) Slot.unset).toArray = ls at hle ⊢
  have key := k.2 (Nat.le_refl _) (Nat.le_refl _) p e s m (as.map (cv X)).toArray below meth c s.heap [] ls ⟨B.exec, B.bytes, hml, B.returns, B.notSynchronized, hown, fun w hw => hts w (List.mem_cons_of_mem _ hw), hK, fun q => hin.trans q, hSX, by rw [hsz]; exact Nat.le_add_right _ _⟩ ⟨hsz, hP, va_S.rf⟩ ⟨hle.1, hle.2.1, fun i v hi => ?_⟩
  · rw [Nat.sub_self, Nat.sub_self] at key
    exact key
  · subst hl
    have hi2 : (entL as)[i]? = some (some v) := by
      unfold ent at hi
      by_cases hlt : i < (entL as).length
      · rw [List.getElem?_append_left hlt] at hi
        exact hi
      · rw [List.getElem?_append_right (by omega)] at hi
        have := List.eq_of_mem_replicate (List.mem_of_getElem? hi)
        cases this
    have h3 := entL_in X as i v 0 hi2
    rw [Nat.zero_add] at h3
    exact hle.2.2 _ h3
