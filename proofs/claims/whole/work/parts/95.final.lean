set_option maxHeartbeats 4000000 in
set_option maxRecDepth 100000 in
/-- THE LAW, from its entry -/
theorem whole_start {p : Program} {e : Env} {s : State} {m : MethodId} {below : List Frame} {meth : Method} {c : Code} (l : Launch) {b L : Nat} {xs : Nat → Int32} (hL : L ≤ 3072) (C0 : lw_At p s m meth c b L xs) : W p l e room_1 s m #[Value.ref b] below meth c s.heap [] 0 0 (lw_Z below #[Value.ref b] s) (entryFrame m ([Value.ref b] : List Value).toArray 4) := by
  obtain ⟨hx, hb, hr, hml, hown, hts0, hX, hbl, hlocks, hgv⟩ := id C0
  have hts : ∀ w ∈ TG, w.before #[Value.ref b] s = true := fun w hw => hts0 w (TG_in w hw)
  have hs := flat_of_before _ hgv
  have hA : ∀ a : Nat, a < s.heap.size → ¬ (fun q : Nat => s.heap.size ≤ q) a := fun a h1 h2 => by have h2 : s.heap.size ≤ a := h2; omega
  obtain ⟨c0, i0, n0⟩ := u_known (C := RX0) (T := TX0) (N := 8) (n := 8) hts lay0 (hts _ k1_72)
  obtain ⟨c1, i1, n1⟩ := u_known (C := RX1) (T := TX1) (N := 4) (n := 4) hts lay1 (hts _ k1_175)
  obtain ⟨c2, i2, n2⟩ := u_known (C := RX2) (T := TX2) (N := 10) (n := 10) hts lay2 (hts _ k2_170)
  obtain ⟨c3, i3, n3⟩ := u_known (C := RX3) (T := TX3) (N := 3) (n := 3) hts lay3 (hts _ k1_52)
  obtain ⟨c4, i4, n4⟩ := u_known (C := RX4) (T := TX4) (N := 11) (n := 11) hts lay4 (hts _ k1_132)
  obtain ⟨c5, i5, n5⟩ := u_known (C := RX5) (T := TX5) (N := 5) (n := 5) hts lay5 (hts _ k1_109)
  obtain ⟨c6, i6, n6⟩ := u_known (C := RX6) (T := TX6) (N := 8) (n := 8) hts lay6 (hts _ k2_43)
  obtain ⟨c7, i7, n7⟩ := u_known (C := RX7) (T := TX7) (N := 8) (n := 8) hts lay7 (hts _ k2_164)
  obtain ⟨c8, i8, n8⟩ := u_known (C := RX8) (T := TX8) (N := 2) (n := 2) hts lay8 (hts _ k1_29)
  obtain ⟨c9, i9, n9⟩ := u_known (C := RX9) (T := TX9) (N := 14) (n := 14) hts lay9 (hts _ k1_21)
  obtain ⟨c10, i10, n10⟩ := u_known (C := RX10) (T := TX10) (N := 53) (n := 53) hts lay10 (hts _ k4_141)
  obtain ⟨dC, dI, hKc⟩ : ∃ (dC : Nat → ClassId) (dI : Nat → Nat → Nat), ∀ (k : Nat) (q : vw_C), vwCl[k]? = some q → u_Kn s q.1 q.2.1 q.2.2 (dC k) (dI k) := by
    refine ⟨fun k => [c0, c1, c2, c3, c4, c5, c6, c7, c8, c9, c10].getD k c0, fun k => [i0, i1, i2, i3, i4, i5, i6, i7, i8, i9, i10].getD k i0, ?_⟩
    intro k q hq
    match k, hq with
    | 0, hq => cases hq; exact n0
    | 1, hq => cases hq; exact n1
    | 2, hq => cases hq; exact n2
    | 3, hq => cases hq; exact n3
    | 4, hq => cases hq; exact n4
    | 5, hq => cases hq; exact n5
    | 6, hq => cases hq; exact n6
    | 7, hq => cases hq; exact n7
    | 8, hq => cases hq; exact n8
    | 9, hq => cases hq; exact n9
    | 10, hq => cases hq; exact n10
    | k + 11, hq => simp [vwCl] at hq
  obtain ⟨y11, kA11, cm11, f11, g11, q11⟩ := Cond.arrayClass_spec (hts _ k1_44)
  obtain ⟨y12, kA12, cm12, f12, g12, q12⟩ := Cond.arrayClass_spec (hts _ k1_70)
  have ao13 := hts0 _ k1_48
  obtain ⟨cm13, y13, kA13, f13, -, g13, q13, j13⟩ := Cond.arrayOver_spec ao13
  have ao14 := hts0 _ k1_46
  obtain ⟨cm14, y14, kA14, f14, -, g14, q14, j14⟩ := Cond.arrayOver_spec ao14
  have ao15 := hts0 _ k1_50
  obtain ⟨cm15, y15, kA15, f15, -, g15, q15, j15⟩ := Cond.arrayOver_spec ao15
  have hz1 : va_Z "java/lang/String" "COMPACT_STRINGS" "Z" (.int 1) (fun q : Nat => s.heap.size ≤ q) s s.heap := va_Zof (hts0 _ (TB_4 17 (w := Cond.laysStatic "java/lang/String" "COMPACT_STRINGS" "Z") (by decide +kernel))) (hts _ k1_16) (va_eqi (hs _ (by decide +kernel))) hA
  have hz2 : va_Zq "jdk/internal/util/Preconditions" "SIOOBE_FORMATTER" "Ljava/util/function/BiFunction;" (fun q : Nat => s.heap.size ≤ q) s s.heap := va_Zqof (hts0 _ (TB_4 34 (w := Cond.laysStatic "jdk/internal/util/Preconditions" "SIOOBE_FORMATTER" "Ljava/util/function/BiFunction;") (by decide +kernel))) (hts _ k1_18) (hs _ (by decide +kernel)) hA
  obtain ⟨xf, hz3⟩ : ∃ xf : Option Nat, va_Z "jdk/internal/util/Preconditions" "SIOOBE_FORMATTER" "Ljava/util/function/BiFunction;" (va_rf xf) (fun q : Nat => s.heap.size ≤ q) s s.heap := by
    rcases hz2 with h | ⟨t, h⟩
    · exact ⟨none, h⟩
    · exact ⟨some t, h⟩
  have four : ∀ {P : Nat → Prop}, P 0 → P 1 → P 2 → P 3 → ∀ i : Nat, i < 4 → P i := by
    intro P h0 h1 h2 h3 i hi
    match i, hi with
    | 0, _ => exact h0
    | 1, _ => exact h1
    | 2, _ => exact h2
    | 3, _ => exact h3
  have hst : ∃ adK adV : Nat → Nat, vk_S 4 strL strB adK adV (fun q : Nat => s.heap.size ≤ q) s s.heap ∧ ∀ i : Nat, i < 4 → (Term.string "TypeHouse$Law" (strI i)).eval #[Value.ref b] s none [] s = some (.ref (adK i)) := by
    refine vk_Sof (tm := fun i => Term.string "TypeHouse$Law" (strI i)) (four (by decide) (by decide) (by decide) (by decide)) ?_ ?_ ?_ ?_ ?_ ?_ hA
    · exact four (hs _ (by decide +kernel)) (hs _ (by decide +kernel)) (hs _ (by decide +kernel)) (hs _ (by decide +kernel))
    · exact four (hs _ (by decide +kernel)) (hs _ (by decide +kernel)) (hs _ (by decide +kernel)) (hs _ (by decide +kernel))
    · exact four (hs _ (by decide +kernel)) (hs _ (by decide +kernel)) (hs _ (by decide +kernel)) (hs _ (by decide +kernel))
    · exact four (hs _ (by decide +kernel)) (hs _ (by decide +kernel)) (hs _ (by decide +kernel)) (hs _ (by decide +kernel))
    · refine four ?_ ?_ ?_ ?_
      · intro j hj
        match j, hj with
        | 0, _ => exact hs _ (by decide +kernel)
        | 1, _ => exact hs _ (by decide +kernel)
        | 2, _ => exact hs _ (by decide +kernel)
      · intro j hj
        match j, hj with
        | 0, _ => exact hs _ (by decide +kernel)
        | 1, _ => exact hs _ (by decide +kernel)
        | 2, _ => exact hs _ (by decide +kernel)
        | 3, _ => exact hs _ (by decide +kernel)
        | 4, _ => exact hs _ (by decide +kernel)
      · intro j hj
        match j, hj with
        | 0, _ => exact hs _ (by decide +kernel)
        | 1, _ => exact hs _ (by decide +kernel)
        | 2, _ => exact hs _ (by decide +kernel)
        | 3, _ => exact hs _ (by decide +kernel)
        | 4, _ => exact hs _ (by decide +kernel)
      · intro j hj
        match j, hj with
        | 0, _ => exact hs _ (by decide +kernel)
        | 1, _ => exact hs _ (by decide +kernel)
        | 2, _ => exact hs _ (by decide +kernel)
        | 3, _ => exact hs _ (by decide +kernel)
        | 4, _ => exact hs _ (by decide +kernel)
    · intro i j hi hj hij
      have hd : ∀ u v : Nat, u < v → v < 4 → (Cond.not (Cond.eq (Term.string "TypeHouse$Law" (strI u)) (Term.string "TypeHouse$Law" (strI v)))).before #[Value.ref b] s = true := by
        intro u v h1 h2
        match v, u, h1, h2 with
        | 1, 0, _, _ => exact hs _ (by decide +kernel)
        | 2, 0, _, _ => exact hs _ (by decide +kernel)
        | 2, 1, _, _ => exact hs _ (by decide +kernel)
        | 3, 0, _, _ => exact hs _ (by decide +kernel)
        | 3, 1, _, _ => exact hs _ (by decide +kernel)
        | 3, 2, _, _ => exact hs _ (by decide +kernel)
      rcases Nat.lt_or_gt_of_ne hij with h | h
      · exact Or.inl (hd i j h hj)
      · exact Or.inr (hd j i h hi)
  obtain ⟨adK, adV, hS1, hS2⟩ := hst
  obtain ⟨h2, hfun, hn1, hn2⟩ := pure_main (L, xs) hL
  have hXx : ∃ X : Cx, X = (l, (dC, dI), (fun k => if k = 11 then y11 else if k = 12 then y12 else if k = 13 then y13 else if k = 14 then y14 else y15), s.heap.size, (fun i => if i < 4 then adK i else adV (i - 4)), b, xf) := ⟨_, rfl⟩
  obtain ⟨X, eX⟩ := hXx
  have eB : xB X = s.heap.size := by rw [eX]; rfl
  have eS : xS X = b := by rw [eX]; rfl
  have eA : AX X = (fun q : Nat => s.heap.size ≤ q) := by unfold AX; rw [eB]
  have key := t_L_law (X := X) hfun
  have hK : va_K (xD X) vwCl (tyl X) s := by
    rw [eX]
    refine ⟨hKc, fun k q h => ?_⟩
    match k, h with
    | 0, h => cases h; exact ⟨fun n z => ⟨fun k h => (by cases h), kA11, g11, cm11, q11⟩, f11⟩
    | 1, h => cases h; exact ⟨fun n z => ⟨fun k h => (by cases h), kA12, g12, cm12, q12⟩, f12⟩
    | 2, h => cases h; exact ⟨fun n z => ⟨fun k h => (by cases h), kA13, g13, cm13, q13⟩, kA13, cm13, g13, q13, f13, j13⟩
    | 3, h => cases h; exact ⟨fun n z => ⟨fun k h => (by cases h), kA14, g14, cm14, q14⟩, kA14, cm14, g14, q14, f14, j14⟩
    | 4, h => cases h; exact ⟨fun n z => ⟨fun k h => (by cases h), kA15, g15, cm15, q15⟩, kA15, cm15, g15, q15, f15, j15⟩
    | k + 5, h => simp [tyl] at h
  have hSX : SX X s s.heap := by
    refine ⟨by rw [eA]; exact hz1, ?_, ?_, ?_, ?_, by rw [eA, eX]; exact hz3⟩
    · rw [eA, eX]
      refine ⟨fun i hi => ?_, fun i j hi hj hij => ?_⟩
      · show va_O _ (if i < 4 then adK i else adV (i - 4)) _ _ _ ∧ va_OF _ _ _ _ (if i < 4 then adK i else adV (i - 4)) _ _ _ ∧ va_OF _ _ _ (.ref (if 4 + i < 4 then adK (4 + i) else adV (4 + i - 4))) (if i < 4 then adK i else adV (i - 4)) _ _ _ ∧ va_T _ (if 4 + i < 4 then adK (4 + i) else adV (4 + i - 4)) _ _ _ _ _
        rw [if_pos hi, if_neg (by omega), show 4 + i - 4 = i by omega]
        exact hS1.1 i hi
      · have hij : (if i < 4 then adK i else adV (i - 4)) = (if j < 4 then adK j else adV (j - 4)) := hij
        rw [if_pos hi, if_pos hj] at hij
        exact hS1.2 i j hi hj hij
    · intro i hi
      have ek : xK X i = adK i := by rw [eX]; show (if i < 4 then adK i else adV (i - 4)) = adK i; rw [if_pos hi]
      rw [ek]
      refine vk_R.of (A := #[Value.ref b]) ?_ (hS2 i hi)
      exact four (P := fun i => (Cond.stringRef RX5 (strI i) (strT i)).before #[Value.ref b] s = true) (hts0 _ k4_0) (hts0 _ k4_1) (hts0 _ k4_2) (hts0 _ k4_3) i hi
    · intro C hC
      rcases List.mem_cons.mp hC with rfl | hC
      · exact va_AO.of (hts0 _ k1_46)
      rcases List.mem_cons.mp hC with rfl | hC
      · exact va_AO.of (hts0 _ k1_48)
      rcases List.mem_cons.mp hC with rfl | hC
      · exact va_AO.of (hts0 _ k1_50)
      cases hC
    · intro q hq
      rcases List.mem_cons.mp hq with rfl | hq
      · exact va_Nw.of rfl (hts0 _ k1_30)
      rcases List.mem_cons.mp hq with rfl | hq
      · exact va_Nw.of rfl (hts0 _ k1_53)
      rcases List.mem_cons.mp hq with rfl | hq
      · exact va_Nw.of rfl (hts0 _ k1_133)
      rcases List.mem_cons.mp hq with rfl | hq
      · exact va_Nw.of rfl (hts0 _ k2_49)
      cases hq
  have hl := lv_entry ([.ref b]) (n := 4) (Nat.le_of_ble_eq_true rfl)
  rw [lg_entry_eq]
  generalize (lg_sl ([.ref b]) ++ List.replicate (4 - (lg_sl ([.ref b])).length) Slot.unset).toArray = ls at hl ⊢
  have F : FX X mL_law p s m #[Value.ref (xS X)] meth c := ⟨hx, hb, hml, hr, hlocks, hown, by rw [eS]; exact hts, hK, ?_, hSX, by rw [eB]; exact Nat.le_refl _⟩
  · have hLV : LV X ls 4 [some (.retAddr 0), none, none, none] := by
      refine ⟨hl.1, hl.2.1, fun i v hi => ?_⟩
      match i, hi with
      | 0, hi => cases hi; show ls[0]? = some (.val (.ref (xS X))); rw [eS]; exact hl.2.2 (0, .ref b) List.mem_cons_self
      | 1, hi => cases hi
      | 2, hi => cases hi
      | 3, hi => cases hi
      | i + 4, hi => simp at hi
    have hHX : HX X s hE s.heap [] := ⟨by rw [eB]; rfl, fun k q h => by simp [wld, gN, hE] at h, by rw [eA]; exact va_S.rf⟩
    have fin := key.2 (Nat.le_refl _) (Nat.le_refl _) hn1 hn2 p e s m below meth c s.heap [] ls F ⟨by rw [eS]; exact hX, by rw [eS, eB]; exact hbl, eB⟩ hHX hLV
    rw [eS] at fin
    have e1 : X.1 = l := by rw [eX]
    rw [e1] at fin
    exact fin
  · intro q; exact absurd q (by decide)
-- ===== YOUR PART ENDS =====
set_option maxHeartbeats 4000000 in
theorem lw_walk (l : Launch) (b : Addr) (xs : List Int32) : MetFree l x (headSpec (Jvm.Cond.code x code maxLocals ret :: tables_1) room_1) (lw_P b xs) (fun _ _ _ _ _ => True) lw_Q := by
  refine MetFree.of_bodyS (code := code) (maxLocals := maxLocals) (ret := ret) (by decide) ?_ ?_
  · intro args s m h hn
    obtain ⟨meth, c, h1, h2, h3, h4, h5, h6, -, -⟩ := Cond.code_spec hn (atoms_spec (ws := Jvm.Cond.code x code maxLocals ret :: tables_1) h _ List.mem_cons_self)
    exact ⟨meth, c, h1, h2, h3, h4, h5, h6⟩
  · intro p e s m args below meth c s₁ B hml0 hP _
    obtain ⟨rfl, hx, hbd, hgv⟩ := hP
    obtain ⟨scr, harrAt, hlist, hof, hsmall⟩ := hx
    obtain ⟨hcb, hkn, -, -⟩ := State.arrayAt?_spec harrAt
    have hown : s.vm.findClass R_law = some m.cls := findClass_of_methodNamed B.named
    have hts0 : ∀ c ∈ (Jvm.Cond.code x code maxLocals ret :: tables_1), c.before #[Value.ref b] s = true := atoms_spec (ws := Jvm.Cond.code x code maxLocals ret :: tables_1) B.pre
    have hts : ∀ w ∈ lw_tbl, w.before #[Value.ref b] s = true := k2_hts_sels lw_privs (fun w hw => hts0 w (List.mem_cons_of_mem _ hw)) lw_privs_ok
    have hml : c.maxLocals = 4 := B.maxLocals_eq (hts0 _ List.mem_cons_self)
    have X₀ : Stand p l e room_1 s m #[Value.ref b] below meth c s₁ [] 0 0 := Stand.of_body B
    have hh0 : s₁.heap = s.heap := by rw [B.state]; rfl
    have hsz : scr.slots.size = xs.length := by rw [← Array.length_toList, hlist, List.length_map]
    have hval : ∀ j : Nat, j < xs.length → scr.slots[j]? = some (.int (xs.getD j 0)) := fun j hj => by
      rw [← Array.getElem?_toList, hlist]
      simp [hj]
    have hbl : b < s.heap.size := (Array.getElem?_eq_some_iff.mp hcb).1
    have hX : va_X b xs.length (fun j => xs.getD j 0) s s.heap := ⟨scr, hcb, hof, hkn, hsz, hval⟩
    have K : W p l e room_1 s m #[Value.ref b] below meth c s₁.heap [] 0 0 (lw_Z below #[Value.ref b] s) (entryFrame m ([Value.ref b] : List Value).toArray 4) := by
      rw [hh0]
      exact whole_start l hbd ⟨B.exec, B.bytes, B.returns, hml, hown, hts, hX, hbl, B.notSynchronized, hgv⟩
    obtain ⟨t, a1, o, b1, b2, b3⟩ := K s₁ rfl X₀
    exact ⟨t, o, a1, b1, b2, b3⟩
theorem lw_pre_spec {args : Array Value} {s : State} (h : (Jvm.Cond.and given_1 narrow_1).before args s = true) (hr : rest_1_c.before args s = true) : ∃ (b : Addr) (xs : List Int32), lw_P b xs args s := by
  have hs := flat_of_before _ h
  have hq := flat_of_before _ hr
  have hc : (Cond.count 1).before args s = true := hs _ (by decide +kernel)
  have harr : (Cond.arrayOf (.arg 0) .int).before args s = true := hs _ (by decide +kernel)
  have hle : (Cond.le (.length (.arg 0)) (.int 3072)).before args s = true := hs _ (by decide +kernel)
  have hlen : (Cond.isInt (.length (.arg 0))).before args s = true := hq _ (by decide +kernel)
  have hall : (Cond.all (.arg 0) (.isInt (.elem (.arg 0) (.index 0)))).before args s = true := hq _ (by decide +kernel)
  obtain ⟨b, xs, hb, hx⟩ := State.ints_of_pre rfl harr hlen hall
  have hsm : xs.length < 2 ^ 31 := hx.choose_spec.2.2.2
  have hev : (Term.length (.arg 0)).eval args s none [] s = some (.int xs.length.toInt32) := hx.length_eval hb
  have hv := Cond.le_ints hev (show (Term.int 3072).eval args s none [] s = some (.int 3072) from rfl)
  have hd : xs.length.toInt32 ≤ 3072 := by
    simpa [Cond.before, Cond.holds, hv] using hle
  have hN : xs.length ≤ 3072 := (Int32.ofNat_le_ofNat hsm (by decide)).mp (show Int32.ofNat xs.length ≤ Int32.ofNat 3072 from hd)
  exact ⟨b, xs, Cond.one_arg hc (show args[0]? = some (.ref b) from hb), hx, hN, h⟩
theorem lw_comes (l : Launch) : Comes l x (Jvm.Cond.code x code maxLocals ret :: tables_1) room_1 (fun tb e args s => Calls_1 tb e args s ∧ rest_1 tb e args s ∧ Pre_1 tb e args s)
    (fun _ _ args s o t => lw_Q args s o t) := by
  intro p e ha hc hk s m args below hf hfit hheap happ hpre
  obtain ⟨b, xs, hP⟩ := lw_pre_spec hpre.2.2 hpre.2.1
  obtain ⟨k, o, h1, h2, h3, hQ⟩ := lw_walk l b xs p e ha hc hk s m args below hf ((Spec.applies_iff_loose hf).mp happ).1 hP trivial
  exact ⟨k, o, h1, h2, h3, hQ⟩
theorem lw_frame {s t : State} {o : Outcome} {args : Array Value} (h : Framed s o t [] 600000 room_1.slots) :
    Framed s o t (fieldLocs frame_1_writes args s ++ arrayLocs frame_1_arrays args s ++ staticLocs frame_1_statics s) 600000 room_1.slots := h
theorem lw_limb (L : Cond) (hL : ∀ (args : Array Value) (s t : State), L.after args s (.returned (some (.int 1))) t = true) :
    ArmFor flags0 classFile x code maxLocals ret World_1 tables_1 room_1 Calls_1 rest_1 Pre_1
      (fun tb e a s o t => postC L tb e a s o t ∧ Framed s o t (fieldLocs frame_1_writes a s ++ arrayLocs frame_1_arrays a s ++ staticLocs frame_1_statics s) 600000 room_1.slots) := by
  intro l _ _ _ p e ha hc hk s m args below hf hfit hheap happ hpre
  obtain ⟨k, o, h1, h2, h3, rfl, hF⟩ := lw_comes l p e ha hc hk s m args below hf hfit hheap happ hpre
  exact ⟨k, _, h1, h2, h3, hL args s _, lw_frame hF⟩
theorem i_vc : Claimed_1_1 ∧ Claimed_1_2 := ⟨lw_limb limb_1_1 (fun args s t => by simp [limb_1_1, Cond.after, Cond.holds, Cond.value]), lw_limb limb_1_2 (fun args s t => Cond.after_iff.mpr (by
  first | (rw [show limb_1_2 = Cond.eq .result (.int 1) from rfl, Cond.eq_ints (x := 1) (y := 1) rfl rfl]; simp; done) | (simp [limb_1_2, Cond.value, Term.eval]; done)))⟩

