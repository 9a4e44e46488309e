def f_L_law_J188 (sc : Sc) (k18 : Unit → Nat → Nat → Int32 → Hp → Option (Int32 × Hp)) (l0 : Unit) (l1 : Nat) (l2 : Nat) (l3 : Int32) (h : Hp) : Option (Int32 × Hp) :=
gd (okSc sc (l3 + (1 : Int32))) <|
gd (okSc sc (l3 + (2 : Int32))) <|
gd (okSc sc (l3 + (3 : Int32))) <|
gd (okOb h l1 9) <|
bnd (f_X9_feed h l1 ((((sc.2 (l3 + (1 : Int32)).toNatClampNeg).toInt64) <<< ((32 : Int32).toInt64 &&& 63)) ||| (((sc.2 (l3 + (2 : Int32)).toNatClampNeg).toInt64) &&& (4294967295 : Int64))) (sc.2 (l3 + (3 : Int32)).toNatClampNeg)) fun v16 h17 =>
gd (okSc sc (l3 + (1 : Int32))) <|
gd (okSc sc (l3 + (2 : Int32))) <|
gd (okSc sc (l3 + (3 : Int32))) <|
gd (okOb h17 l2 10) <|
bnd (f_X10_feed h17 l2 ((((sc.2 (l3 + (1 : Int32)).toNatClampNeg).toInt64) <<< ((32 : Int32).toInt64 &&& 63)) ||| (((sc.2 (l3 + (2 : Int32)).toNatClampNeg).toInt64) &&& (4294967295 : Int64))) (sc.2 (l3 + (3 : Int32)).toNatClampNeg)) fun v22 h23 =>
if v16 = v22 then (
vl (l3 + (6 : Int32)) fun x25 =>
k18 l0 l1 l2 x25 h23) else (
some ((0 : Int32), h23))
set_option maxHeartbeats 4000000 in
set_option maxRecDepth 100000 in
theorem t_L_law_J188 {sc : Sc} {X : Cx} {h0 h' : Hp} {k18 : Unit → Nat → Nat → Int32 → Hp → Option (Int32 × Hp)} (hk18 : ∀ (z0 : Unit) (z1 : Nat) (z2 : Nat) (z3 : Int32) (h : Hp), k18 z0 z1 z2 z3 h = some ((1 : Int32), h') → LW sc X mL_law h0 h' 18 [some (.retAddr 0), some (.ref z1), some (.ref z2), some (.int z3)] [] h) : ∀ (l0 : Unit) (l1 : Nat) (l2 : Nat) (l3 : Int32) (h : Hp), f_L_law_J188 sc k18 l0 l1 l2 l3 h = some ((1 : Int32), h') → LW sc X mL_law h0 h' 188 [some (.retAddr 0), some (.ref l1), some (.ref l2), some (.int l3)] [] h := by
  intro l0 l1 l2 l3 h H
  unfold f_L_law_J188 at H
  refine lw_aload_n dL_law_188 rfl rfl ?_
  refine lw_aload_s dL_law_189 rfl rfl ?_
  refine lw_iload_n dL_law_190 rfl rfl ?_
  refine lw_iconst (v := (1 : Int32)) dL_law_191 (by decide) ?_
  refine lw_iadd dL_law_192 ?_
  replace H := gd_some H
  obtain ⟨g12, H⟩ := H
  refine lw_sld dL_law_193 (okSc.p g12) ?_
  refine lw_i2l dL_law_194 rfl ?_
  refine lw_bipush (v := (32 : Int32)) dL_law_195 (by decide) ?_
  refine lw_lshl dL_law_197 rfl ?_
  refine lw_aload_s dL_law_198 rfl rfl ?_
  refine lw_iload_n dL_law_199 rfl rfl ?_
  refine lw_iconst (v := (2 : Int32)) dL_law_200 (by decide) ?_
  refine lw_iadd dL_law_201 ?_
  replace H := gd_some H
  obtain ⟨g13, H⟩ := H
  refine lw_sld dL_law_202 (okSc.p g13) ?_
  refine lw_i2l dL_law_203 rfl ?_
  refine lw_ldc2 (v := (4294967295 : Int64)) dL_law_204 k6_114 ?_
  refine lw_land dL_law_207 ?_
  refine lw_lor dL_law_208 ?_
  refine lw_aload_s dL_law_209 rfl rfl ?_
  refine lw_iload_n dL_law_210 rfl rfl ?_
  refine lw_iconst (v := (3 : Int32)) dL_law_211 (by decide) ?_
  refine lw_iadd dL_law_212 ?_
  replace H := gd_some H
  obtain ⟨g14, H⟩ := H
  refine lw_sld dL_law_213 (okSc.p g14) ?_
  replace H := gd_some H
  obtain ⟨g15, H⟩ := H
  replace H := bnd_some H
  obtain ⟨v16, h17, eh17, H⟩ := H
  have ph17 := t_X9_feed (X := X) (d := 2) (Nat.le_refl _) eh17
  refine lw_callV (as := [.long ((((sc.2 (l3 + (1 : Int32)).toNatClampNeg).toInt64) <<< ((32 : Int32).toInt64 &&& 63)) ||| (((sc.2 (l3 + (2 : Int32)).toNatClampNeg).toInt64) &&& (4294967295 : Int64))), .int (sc.2 (l3 + (3 : Int32)).toNatClampNeg)]) dL_law_214 ph17 ok_X9_feed (by decide) rfl k2_5 k2_6 k2_7 (ci := 9) (by decide) rfl rfl (okOb.p g15) rfl (Nat.le_of_ble_eq_true rfl) ?_
  refine lw_aload_n dL_law_217 rfl rfl ?_
  refine lw_aload_s dL_law_218 rfl rfl ?_
  refine lw_iload_n dL_law_219 rfl rfl ?_
  refine lw_iconst (v := (1 : Int32)) dL_law_220 (by decide) ?_
  refine lw_iadd dL_law_221 ?_
  replace H := gd_some H
  obtain ⟨g18, H⟩ := H
  refine lw_sld dL_law_222 (okSc.p g18) ?_
  refine lw_i2l dL_law_223 rfl ?_
  refine lw_bipush (v := (32 : Int32)) dL_law_224 (by decide) ?_
  refine lw_lshl dL_law_226 rfl ?_
  refine lw_aload_s dL_law_227 rfl rfl ?_
  refine lw_iload_n dL_law_228 rfl rfl ?_
  refine lw_iconst (v := (2 : Int32)) dL_law_229 (by decide) ?_
  refine lw_iadd dL_law_230 ?_
  replace H := gd_some H
  obtain ⟨g19, H⟩ := H
  refine lw_sld dL_law_231 (okSc.p g19) ?_
  refine lw_i2l dL_law_232 rfl ?_
  refine lw_ldc2 (v := (4294967295 : Int64)) dL_law_233 k6_114 ?_
  refine lw_land dL_law_236 ?_
  refine lw_lor dL_law_237 ?_
  refine lw_aload_s dL_law_238 rfl rfl ?_
  refine lw_iload_n dL_law_239 rfl rfl ?_
  refine lw_iconst (v := (3 : Int32)) dL_law_240 (by decide) ?_
  refine lw_iadd dL_law_241 ?_
  replace H := gd_some H
  obtain ⟨g20, H⟩ := H
  refine lw_sld dL_law_242 (okSc.p g20) ?_
  replace H := gd_some H
  obtain ⟨g21, H⟩ := H
  replace H := bnd_some H
  obtain ⟨v22, h23, eh23, H⟩ := H
  have ph23 := t_X10_feed (X := X) (d := 2) (Nat.le_refl _) eh23
  refine lw_callV (as := [.long ((((sc.2 (l3 + (1 : Int32)).toNatClampNeg).toInt64) <<< ((32 : Int32).toInt64 &&& 63)) ||| (((sc.2 (l3 + (2 : Int32)).toNatClampNeg).toInt64) &&& (4294967295 : Int64))), .int (sc.2 (l3 + (3 : Int32)).toNatClampNeg)]) dL_law_243 ph23 ok_X10_feed (by decide) rfl k5_83 k5_84 k5_85 (ci := 10) (by decide) rfl rfl (okOb.p g21) rfl (Nat.le_of_ble_eq_true rfl) ?_
  refine lw_icmp_eq (tgt := 1293) dL_law_246 (by decide) (fun c24 => ?_) (fun c24 => ?_)
  · rw [if_pos c24] at H
    replace H := vl_some H
    obtain ⟨x25, ex25, H⟩ := H
    refine lw_iincx (loc2 := [some (.retAddr 0), some (.ref l1), some (.ref l2), some (.int x25)]) dL_law_1293 rfl (by decide) ex25 (by decide) rfl ?_
    refine lw_goto (tgt := 18) dL_law_1296 (by decide) ?_
    exact hk18 l0 l1 l2 x25 h23 H
  · rw [if_neg c24] at H
    refine lw_iconst (v := (0 : Int32)) dL_law_249 (by decide) ?_
    exact lw_iret rfl rfl dL_law_250 H
def f_L_law_J251 (sc : Sc) (k18 : Unit → Nat → Nat → Int32 → Hp → Option (Int32 × Hp)) (l0 : Unit) (l1 : Nat) (l2 : Nat) (l3 : Int32) (h : Hp) : Option (Int32 × Hp) :=
gd (okSc sc (l3 + (1 : Int32))) <|
gd (okSc sc (l3 + (2 : Int32))) <|
gd (okOb h l1 9) <|
bnd (f_X9_cast h l1 (sc.2 (l3 + (1 : Int32)).toNatClampNeg) (sc.2 (l3 + (2 : Int32)).toNatClampNeg)) fun v30 h31 =>
gd (okSc sc (l3 + (1 : Int32))) <|
gd (okSc sc (l3 + (2 : Int32))) <|
gd (okOb h31 l2 10) <|
bnd (f_X10_cast h31 l2 (sc.2 (l3 + (1 : Int32)).toNatClampNeg) (sc.2 (l3 + (2 : Int32)).toNatClampNeg)) fun v35 h36 =>
if v30 = v35 then (
vl (l3 + (6 : Int32)) fun x38 =>
k18 l0 l1 l2 x38 h36) else (
some ((0 : Int32), h36))
set_option maxHeartbeats 4000000 in
set_option maxRecDepth 100000 in
theorem t_L_law_J251 {sc : Sc} {X : Cx} {h0 h' : Hp} {k18 : Unit → Nat → Nat → Int32 → Hp → Option (Int32 × Hp)} (hk18 : ∀ (z0 : Unit) (z1 : Nat) (z2 : Nat) (z3 : Int32) (h : Hp), k18 z0 z1 z2 z3 h = some ((1 : Int32), h') → LW sc X mL_law h0 h' 18 [some (.retAddr 0), some (.ref z1), some (.ref z2), some (.int z3)] [] h) : ∀ (l0 : Unit) (l1 : Nat) (l2 : Nat) (l3 : Int32) (h : Hp), f_L_law_J251 sc k18 l0 l1 l2 l3 h = some ((1 : Int32), h') → LW sc X mL_law h0 h' 251 [some (.retAddr 0), some (.ref l1), some (.ref l2), some (.int l3)] [] h := by
  intro l0 l1 l2 l3 h H
  unfold f_L_law_J251 at H
  refine lw_aload_n dL_law_251 rfl rfl ?_
  refine lw_aload_s dL_law_252 rfl rfl ?_
  refine lw_iload_n dL_law_253 rfl rfl ?_
  refine lw_iconst (v := (1 : Int32)) dL_law_254 (by decide) ?_
  refine lw_iadd dL_law_255 ?_
  replace H := gd_some H
  obtain ⟨g27, H⟩ := H
  refine lw_sld dL_law_256 (okSc.p g27) ?_
  refine lw_aload_s dL_law_257 rfl rfl ?_
  refine lw_iload_n dL_law_258 rfl rfl ?_
  refine lw_iconst (v := (2 : Int32)) dL_law_259 (by decide) ?_
  refine lw_iadd dL_law_260 ?_
  replace H := gd_some H
  obtain ⟨g28, H⟩ := H
  refine lw_sld dL_law_261 (okSc.p g28) ?_
  replace H := gd_some H
  obtain ⟨g29, H⟩ := H
  replace H := bnd_some H
  obtain ⟨v30, h31, eh31, H⟩ := H
  have ph31 := t_X9_cast (X := X) (d := 2) (Nat.le_refl _) eh31
  refine lw_callV (as := [.int (sc.2 (l3 + (1 : Int32)).toNatClampNeg), .int (sc.2 (l3 + (2 : Int32)).toNatClampNeg)]) dL_law_262 ph31 ok_X9_cast (by decide) rfl k2_13 k2_14 k2_15 (ci := 9) (by decide) rfl rfl (okOb.p g29) rfl (Nat.le_of_ble_eq_true rfl) ?_
  refine lw_aload_n dL_law_265 rfl rfl ?_
  refine lw_aload_s dL_law_266 rfl rfl ?_
  refine lw_iload_n dL_law_267 rfl rfl ?_
  refine lw_iconst (v := (1 : Int32)) dL_law_268 (by decide) ?_
  refine lw_iadd dL_law_269 ?_
  replace H := gd_some H
  obtain ⟨g32, H⟩ := H
  refine lw_sld dL_law_270 (okSc.p g32) ?_
  refine lw_aload_s dL_law_271 rfl rfl ?_
  refine lw_iload_n dL_law_272 rfl rfl ?_
  refine lw_iconst (v := (2 : Int32)) dL_law_273 (by decide) ?_
  refine lw_iadd dL_law_274 ?_
  replace H := gd_some H
  obtain ⟨g33, H⟩ := H
  refine lw_sld dL_law_275 (okSc.p g33) ?_
  replace H := gd_some H
  obtain ⟨g34, H⟩ := H
  replace H := bnd_some H
  obtain ⟨v35, h36, eh36, H⟩ := H
  have ph36 := t_X10_cast (X := X) (d := 2) (Nat.le_refl _) eh36
  refine lw_callV (as := [.int (sc.2 (l3 + (1 : Int32)).toNatClampNeg), .int (sc.2 (l3 + (2 : Int32)).toNatClampNeg)]) dL_law_276 ph36 ok_X10_cast (by decide) rfl k5_92 k5_93 k5_94 (ci := 10) (by decide) rfl rfl (okOb.p g34) rfl (Nat.le_of_ble_eq_true rfl) ?_
  refine lw_icmp_eq (tgt := 1293) dL_law_279 (by decide) (fun c37 => ?_) (fun c37 => ?_)
  · rw [if_pos c37] at H
    replace H := vl_some H
    obtain ⟨x38, ex38, H⟩ := H
    refine lw_iincx (loc2 := [some (.retAddr 0), some (.ref l1), some (.ref l2), some (.int x38)]) dL_law_1293 rfl (by decide) ex38 (by decide) rfl ?_
    refine lw_goto (tgt := 18) dL_law_1296 (by decide) ?_
    exact hk18 l0 l1 l2 x38 h36 H
  · rw [if_neg c37] at H
    refine lw_iconst (v := (0 : Int32)) dL_law_282 (by decide) ?_
    exact lw_iret rfl rfl dL_law_283 H
def f_L_law_J284 (sc : Sc) (k18 : Unit → Nat → Nat → Int32 → Hp → Option (Int32 × Hp)) (l0 : Unit) (l1 : Nat) (l2 : Nat) (l3 : Int32) (h : Hp) : Option (Int32 × Hp) :=
gd (okSc sc (l3 + (1 : Int32))) <|
gd (okOb h l1 9) <|
bnd (f_X9_sorts h l1 (sc.2 (l3 + (1 : Int32)).toNatClampNeg)) fun v42 h43 =>
gd (okSc sc (l3 + (1 : Int32))) <|
gd (okOb h43 l2 10) <|
bnd (f_X10_sorts h43 l2 (sc.2 (l3 + (1 : Int32)).toNatClampNeg)) fun v46 h47 =>
if v42 = v46 then (
vl (l3 + (6 : Int32)) fun x49 =>
k18 l0 l1 l2 x49 h47) else (
some ((0 : Int32), h47))
set_option maxHeartbeats 4000000 in
set_option maxRecDepth 100000 in
theorem t_L_law_J284 {sc : Sc} {X : Cx} {h0 h' : Hp} {k18 : Unit → Nat → Nat → Int32 → Hp → Option (Int32 × Hp)} (hk18 : ∀ (z0 : Unit) (z1 : Nat) (z2 : Nat) (z3 : Int32) (h : Hp), k18 z0 z1 z2 z3 h = some ((1 : Int32), h') → LW sc X mL_law h0 h' 18 [some (.retAddr 0), some (.ref z1), some (.ref z2), some (.int z3)] [] h) : ∀ (l0 : Unit) (l1 : Nat) (l2 : Nat) (l3 : Int32) (h : Hp), f_L_law_J284 sc k18 l0 l1 l2 l3 h = some ((1 : Int32), h') → LW sc X mL_law h0 h' 284 [some (.retAddr 0), some (.ref l1), some (.ref l2), some (.int l3)] [] h := by
  intro l0 l1 l2 l3 h H
  unfold f_L_law_J284 at H
  refine lw_aload_n dL_law_284 rfl rfl ?_
  refine lw_aload_s dL_law_285 rfl rfl ?_
  refine lw_iload_n dL_law_286 rfl rfl ?_
  refine lw_iconst (v := (1 : Int32)) dL_law_287 (by decide) ?_
  refine lw_iadd dL_law_288 ?_
  replace H := gd_some H
  obtain ⟨g40, H⟩ := H
  refine lw_sld dL_law_289 (okSc.p g40) ?_
  replace H := gd_some H
  obtain ⟨g41, H⟩ := H
  replace H := bnd_some H
  obtain ⟨v42, h43, eh43, H⟩ := H
  have ph43 := t_X9_sorts (X := X) (d := 2) (Nat.le_refl _) eh43
  refine lw_callV (as := [.int (sc.2 (l3 + (1 : Int32)).toNatClampNeg)]) dL_law_290 ph43 ok_X9_sorts (by decide) rfl k2_20 k2_21 k2_22 (ci := 9) (by decide) rfl rfl (okOb.p g41) rfl (Nat.le_of_ble_eq_true rfl) ?_
  refine lw_aload_n dL_law_293 rfl rfl ?_
  refine lw_aload_s dL_law_294 rfl rfl ?_
  refine lw_iload_n dL_law_295 rfl rfl ?_
  refine lw_iconst (v := (1 : Int32)) dL_law_296 (by decide) ?_
  refine lw_iadd dL_law_297 ?_
  replace H := gd_some H
  obtain ⟨g44, H⟩ := H
  refine lw_sld dL_law_298 (okSc.p g44) ?_
  replace H := gd_some H
  obtain ⟨g45, H⟩ := H
  replace H := bnd_some H
  obtain ⟨v46, h47, eh47, H⟩ := H
  have ph47 := t_X10_sorts (X := X) (d := 2) (Nat.le_refl _) eh47
  refine lw_callV (as := [.int (sc.2 (l3 + (1 : Int32)).toNatClampNeg)]) dL_law_299 ph47 ok_X10_sorts (by decide) rfl k5_100 k5_101 k5_102 (ci := 10) (by decide) rfl rfl (okOb.p g45) rfl (Nat.le_of_ble_eq_true rfl) ?_
  refine lw_icmp_eq (tgt := 1293) dL_law_302 (by decide) (fun c48 => ?_) (fun c48 => ?_)
  · rw [if_pos c48] at H
    replace H := vl_some H
    obtain ⟨x49, ex49, H⟩ := H
    refine lw_iincx (loc2 := [some (.retAddr 0), some (.ref l1), some (.ref l2), some (.int x49)]) dL_law_1293 rfl (by decide) ex49 (by decide) rfl ?_
    refine lw_goto (tgt := 18) dL_law_1296 (by decide) ?_
    exact hk18 l0 l1 l2 x49 h47 H
  · rw [if_neg c48] at H
    refine lw_iconst (v := (0 : Int32)) dL_law_305 (by decide) ?_
    exact lw_iret rfl rfl dL_law_306 H
def f_L_law_J307 (sc : Sc) (k18 : Unit → Nat → Nat → Int32 → Hp → Option (Int32 × Hp)) (l0 : Unit) (l1 : Nat) (l2 : Nat) (l3 : Int32) (h : Hp) : Option (Int32 × Hp) :=
gd (okOb h l1 9) <|
bnd (f_X9_page h l1) fun v52 h53 =>
gd (okOb h53 l2 10) <|
bnd (f_X10_page h53 l2) fun v55 h56 =>
if v52 = v55 then (
vl (l3 + (6 : Int32)) fun x58 =>
k18 l0 l1 l2 x58 h56) else (
some ((0 : Int32), h56))
set_option maxHeartbeats 4000000 in
set_option maxRecDepth 100000 in
theorem t_L_law_J307 {sc : Sc} {X : Cx} {h0 h' : Hp} {k18 : Unit → Nat → Nat → Int32 → Hp → Option (Int32 × Hp)} (hk18 : ∀ (z0 : Unit) (z1 : Nat) (z2 : Nat) (z3 : Int32) (h : Hp), k18 z0 z1 z2 z3 h = some ((1 : Int32), h') → LW sc X mL_law h0 h' 18 [some (.retAddr 0), some (.ref z1), some (.ref z2), some (.int z3)] [] h) : ∀ (l0 : Unit) (l1 : Nat) (l2 : Nat) (l3 : Int32) (h : Hp), f_L_law_J307 sc k18 l0 l1 l2 l3 h = some ((1 : Int32), h') → LW sc X mL_law h0 h' 307 [some (.retAddr 0), some (.ref l1), some (.ref l2), some (.int l3)] [] h := by
  intro l0 l1 l2 l3 h H
  unfold f_L_law_J307 at H
  refine lw_aload_n dL_law_307 rfl rfl ?_
  replace H := gd_some H
  obtain ⟨g51, H⟩ := H
  replace H := bnd_some H
  obtain ⟨v52, h53, eh53, H⟩ := H
  have ph53 := t_X9_page (X := X) (d := 4) (Nat.le_refl _) eh53
  refine lw_callV (as := []) dL_law_308 ph53 ok_X9_page (by decide) rfl k2_24 k2_25 k2_26 (ci := 9) (by decide) rfl rfl (okOb.p g51) rfl (Nat.le_of_ble_eq_true rfl) ?_
  refine lw_aload_n dL_law_311 rfl rfl ?_
  replace H := gd_some H
  obtain ⟨g54, H⟩ := H
  replace H := bnd_some H
  obtain ⟨v55, h56, eh56, H⟩ := H
  have ph56 := t_X10_page (X := X) (d := 2) (Nat.le_refl _) eh56
  refine lw_callV (as := []) dL_law_312 ph56 ok_X10_page (by decide) rfl k5_104 k5_105 k5_106 (ci := 10) (by decide) rfl rfl (okOb.p g54) rfl (Nat.le_of_ble_eq_true rfl) ?_
  refine lw_icmp_eq (tgt := 1293) dL_law_315 (by decide) (fun c57 => ?_) (fun c57 => ?_)
  · rw [if_pos c57] at H
    replace H := vl_some H
    obtain ⟨x58, ex58, H⟩ := H
    refine lw_iincx (loc2 := [some (.retAddr 0), some (.ref l1), some (.ref l2), some (.int x58)]) dL_law_1293 rfl (by decide) ex58 (by decide) rfl ?_
    refine lw_goto (tgt := 18) dL_law_1296 (by decide) ?_
    exact hk18 l0 l1 l2 x58 h56 H
  · rw [if_neg c57] at H
    refine lw_iconst (v := (0 : Int32)) dL_law_318 (by decide) ?_
    exact lw_iret rfl rfl dL_law_319 H
def f_L_law_J320 (sc : Sc) (k18 : Unit → Nat → Nat → Int32 → Hp → Option (Int32 × Hp)) (l0 : Unit) (l1 : Nat) (l2 : Nat) (l3 : Int32) (h : Hp) : Option (Int32 × Hp) :=
gd (okSc sc (l3 + (1 : Int32))) <|
gd (okSc sc (l3 + (2 : Int32))) <|
gd (okOb h l1 9) <|
bnd (f_X9_set h l1 (sc.2 (l3 + (1 : Int32)).toNatClampNeg) (sc.2 (l3 + (2 : Int32)).toNatClampNeg)) fun v63 h64 =>
gd (okSc sc (l3 + (1 : Int32))) <|
gd (okSc sc (l3 + (2 : Int32))) <|
gd (okOb h64 l2 10) <|
bnd (f_X10_set h64 l2 (sc.2 (l3 + (1 : Int32)).toNatClampNeg) (sc.2 (l3 + (2 : Int32)).toNatClampNeg)) fun v68 h69 =>
if v63 = v68 then (
vl (l3 + (6 : Int32)) fun x71 =>
k18 l0 l1 l2 x71 h69) else (
some ((0 : Int32), h69))
set_option maxHeartbeats 4000000 in
set_option maxRecDepth 100000 in
theorem t_L_law_J320 {sc : Sc} {X : Cx} {h0 h' : Hp} {k18 : Unit → Nat → Nat → Int32 → Hp → Option (Int32 × Hp)} (hk18 : ∀ (z0 : Unit) (z1 : Nat) (z2 : Nat) (z3 : Int32) (h : Hp), k18 z0 z1 z2 z3 h = some ((1 : Int32), h') → LW sc X mL_law h0 h' 18 [some (.retAddr 0), some (.ref z1), some (.ref z2), some (.int z3)] [] h) : ∀ (l0 : Unit) (l1 : Nat) (l2 : Nat) (l3 : Int32) (h : Hp), f_L_law_J320 sc k18 l0 l1 l2 l3 h = some ((1 : Int32), h') → LW sc X mL_law h0 h' 320 [some (.retAddr 0), some (.ref l1), some (.ref l2), some (.int l3)] [] h := by
  intro l0 l1 l2 l3 h H
  unfold f_L_law_J320 at H
  refine lw_aload_n dL_law_320 rfl rfl ?_
  refine lw_aload_s dL_law_321 rfl rfl ?_
  refine lw_iload_n dL_law_322 rfl rfl ?_
  refine lw_iconst (v := (1 : Int32)) dL_law_323 (by decide) ?_
  refine lw_iadd dL_law_324 ?_
  replace H := gd_some H
  obtain ⟨g60, H⟩ := H
  refine lw_sld dL_law_325 (okSc.p g60) ?_
  refine lw_aload_s dL_law_326 rfl rfl ?_
  refine lw_iload_n dL_law_327 rfl rfl ?_
  refine lw_iconst (v := (2 : Int32)) dL_law_328 (by decide) ?_
  refine lw_iadd dL_law_329 ?_
  replace H := gd_some H
  obtain ⟨g61, H⟩ := H
  refine lw_sld dL_law_330 (okSc.p g61) ?_
  replace H := gd_some H
  obtain ⟨g62, H⟩ := H
  replace H := bnd_some H
  obtain ⟨v63, h64, eh64, H⟩ := H
  have ph64 := t_X9_set (X := X) (d := 3) (Nat.le_refl _) eh64
  refine lw_callV (as := [.int (sc.2 (l3 + (1 : Int32)).toNatClampNeg), .int (sc.2 (l3 + (2 : Int32)).toNatClampNeg)]) dL_law_331 ph64 ok_X9_set (by decide) rfl k2_86 k2_87 k2_88 (ci := 9) (by decide) rfl rfl (okOb.p g62) rfl (Nat.le_of_ble_eq_true rfl) ?_
  refine lw_aload_n dL_law_334 rfl rfl ?_
  refine lw_aload_s dL_law_335 rfl rfl ?_
  refine lw_iload_n dL_law_336 rfl rfl ?_
  refine lw_iconst (v := (1 : Int32)) dL_law_337 (by decide) ?_
  refine lw_iadd dL_law_338 ?_
  replace H := gd_some H
  obtain ⟨g65, H⟩ := H
  refine lw_sld dL_law_339 (okSc.p g65) ?_
  refine lw_aload_s dL_law_340 rfl rfl ?_
  refine lw_iload_n dL_law_341 rfl rfl ?_
  refine lw_iconst (v := (2 : Int32)) dL_law_342 (by decide) ?_
  refine lw_iadd dL_law_343 ?_
  replace H := gd_some H
  obtain ⟨g66, H⟩ := H
  refine lw_sld dL_law_344 (okSc.p g66) ?_
  replace H := gd_some H
  obtain ⟨g67, H⟩ := H
  replace H := bnd_some H
  obtain ⟨v68, h69, eh69, H⟩ := H
  have ph69 := t_X10_set (X := X) (d := 3) (Nat.le_refl _) eh69
  refine lw_callV (as := [.int (sc.2 (l3 + (1 : Int32)).toNatClampNeg), .int (sc.2 (l3 + (2 : Int32)).toNatClampNeg)]) dL_law_345 ph69 ok_X10_set (by decide) rfl k5_111 k5_112 k5_113 (ci := 10) (by decide) rfl rfl (okOb.p g67) rfl (Nat.le_of_ble_eq_true rfl) ?_
  refine lw_icmp_eq (tgt := 1293) dL_law_348 (by decide) (fun c70 => ?_) (fun c70 => ?_)
  · rw [if_pos c70] at H
    replace H := vl_some H
    obtain ⟨x71, ex71, H⟩ := H
    refine lw_iincx (loc2 := [some (.retAddr 0), some (.ref l1), some (.ref l2), some (.int x71)]) dL_law_1293 rfl (by decide) ex71 (by decide) rfl ?_
    refine lw_goto (tgt := 18) dL_law_1296 (by decide) ?_
    exact hk18 l0 l1 l2 x71 h69 H
  · rw [if_neg c70] at H
    refine lw_iconst (v := (0 : Int32)) dL_law_351 (by decide) ?_
    exact lw_iret rfl rfl dL_law_352 H
def f_L_law_J353 (sc : Sc) (k18 : Unit → Nat → Nat → Int32 → Hp → Option (Int32 × Hp)) (l0 : Unit) (l1 : Nat) (l2 : Nat) (l3 : Int32) (h : Hp) : Option (Int32 × Hp) :=
gd (okSc sc (l3 + (1 : Int32))) <|
gd (okSc sc (l3 + (2 : Int32))) <|
gd (okSc sc (l3 + (3 : Int32))) <|
gd (okOb h l1 9) <|
bnd (f_X9_misset h l1 (sc.2 (l3 + (1 : Int32)).toNatClampNeg) (sc.2 (l3 + (2 : Int32)).toNatClampNeg) (sc.2 (l3 + (3 : Int32)).toNatClampNeg)) fun v77 h78 =>
gd (okSc sc (l3 + (1 : Int32))) <|
gd (okSc sc (l3 + (2 : Int32))) <|
gd (okSc sc (l3 + (3 : Int32))) <|
gd (okOb h78 l2 10) <|
bnd (f_X10_misset h78 l2 (sc.2 (l3 + (1 : Int32)).toNatClampNeg) (sc.2 (l3 + (2 : Int32)).toNatClampNeg) (sc.2 (l3 + (3 : Int32)).toNatClampNeg)) fun v83 h84 =>
if v77 = v83 then (
vl (l3 + (6 : Int32)) fun x86 =>
k18 l0 l1 l2 x86 h84) else (
some ((0 : Int32), h84))
set_option maxHeartbeats 4000000 in
set_option maxRecDepth 100000 in
theorem t_L_law_J353 {sc : Sc} {X : Cx} {h0 h' : Hp} {k18 : Unit → Nat → Nat → Int32 → Hp → Option (Int32 × Hp)} (hk18 : ∀ (z0 : Unit) (z1 : Nat) (z2 : Nat) (z3 : Int32) (h : Hp), k18 z0 z1 z2 z3 h = some ((1 : Int32), h') → LW sc X mL_law h0 h' 18 [some (.retAddr 0), some (.ref z1), some (.ref z2), some (.int z3)] [] h) : ∀ (l0 : Unit) (l1 : Nat) (l2 : Nat) (l3 : Int32) (h : Hp), f_L_law_J353 sc k18 l0 l1 l2 l3 h = some ((1 : Int32), h') → LW sc X mL_law h0 h' 353 [some (.retAddr 0), some (.ref l1), some (.ref l2), some (.int l3)] [] h := by
  intro l0 l1 l2 l3 h H
  unfold f_L_law_J353 at H
  refine lw_aload_n dL_law_353 rfl rfl ?_
  refine lw_aload_s dL_law_354 rfl rfl ?_
  refine lw_iload_n dL_law_355 rfl rfl ?_
  refine lw_iconst (v := (1 : Int32)) dL_law_356 (by decide) ?_
  refine lw_iadd dL_law_357 ?_
  replace H := gd_some H
  obtain ⟨g73, H⟩ := H
  refine lw_sld dL_law_358 (okSc.p g73) ?_
  refine lw_aload_s dL_law_359 rfl rfl ?_
  refine lw_iload_n dL_law_360 rfl rfl ?_
  refine lw_iconst (v := (2 : Int32)) dL_law_361 (by decide) ?_
  refine lw_iadd dL_law_362 ?_
  replace H := gd_some H
  obtain ⟨g74, H⟩ := H
  refine lw_sld dL_law_363 (okSc.p g74) ?_
  refine lw_aload_s dL_law_364 rfl rfl ?_
  refine lw_iload_n dL_law_365 rfl rfl ?_
  refine lw_iconst (v := (3 : Int32)) dL_law_366 (by decide) ?_
  refine lw_iadd dL_law_367 ?_
  replace H := gd_some H
  obtain ⟨g75, H⟩ := H
  refine lw_sld dL_law_368 (okSc.p g75) ?_
  replace H := gd_some H
  obtain ⟨g76, H⟩ := H
  replace H := bnd_some H
  obtain ⟨v77, h78, eh78, H⟩ := H
  have ph78 := t_X9_misset (X := X) (d := 3) (Nat.le_refl _) eh78
  refine lw_callV (as := [.int (sc.2 (l3 + (1 : Int32)).toNatClampNeg), .int (sc.2 (l3 + (2 : Int32)).toNatClampNeg), .int (sc.2 (l3 + (3 : Int32)).toNatClampNeg)]) dL_law_369 ph78 ok_X9_misset (by decide) rfl k2_109 k2_110 k2_111 (ci := 9) (by decide) rfl rfl (okOb.p g76) rfl (Nat.le_of_ble_eq_true rfl) ?_
  refine lw_aload_n dL_law_372 rfl rfl ?_
  refine lw_aload_s dL_law_373 rfl rfl ?_
  refine lw_iload_n dL_law_374 rfl rfl ?_
  refine lw_iconst (v := (1 : Int32)) dL_law_375 (by decide) ?_
  refine lw_iadd dL_law_376 ?_
  replace H := gd_some H
  obtain ⟨g79, H⟩ := H
  refine lw_sld dL_law_377 (okSc.p g79) ?_
  refine lw_aload_s dL_law_378 rfl rfl ?_
  refine lw_iload_n dL_law_379 rfl rfl ?_
  refine lw_iconst (v := (2 : Int32)) dL_law_380 (by decide) ?_
  refine lw_iadd dL_law_381 ?_
  replace H := gd_some H
  obtain ⟨g80, H⟩ := H
  refine lw_sld dL_law_382 (okSc.p g80) ?_
  refine lw_aload_s dL_law_383 rfl rfl ?_
  refine lw_iload_n dL_law_384 rfl rfl ?_
  refine lw_iconst (v := (3 : Int32)) dL_law_385 (by decide) ?_
  refine lw_iadd dL_law_386 ?_
  replace H := gd_some H
  obtain ⟨g81, H⟩ := H
  refine lw_sld dL_law_387 (okSc.p g81) ?_
  replace H := gd_some H
  obtain ⟨g82, H⟩ := H
  replace H := bnd_some H
  obtain ⟨v83, h84, eh84, H⟩ := H
  have ph84 := t_X10_misset (X := X) (d := 3) (Nat.le_refl _) eh84
  refine lw_callV (as := [.int (sc.2 (l3 + (1 : Int32)).toNatClampNeg), .int (sc.2 (l3 + (2 : Int32)).toNatClampNeg), .int (sc.2 (l3 + (3 : Int32)).toNatClampNeg)]) dL_law_388 ph84 ok_X10_misset (by decide) rfl k5_126 k5_127 k5_128 (ci := 10) (by decide) rfl rfl (okOb.p g82) rfl (Nat.le_of_ble_eq_true rfl) ?_
  refine lw_icmp_eq (tgt := 1293) dL_law_391 (by decide) (fun c85 => ?_) (fun c85 => ?_)
  · rw [if_pos c85] at H
    replace H := vl_some H
    obtain ⟨x86, ex86, H⟩ := H
    refine lw_iincx (loc2 := [some (.retAddr 0), some (.ref l1), some (.ref l2), some (.int x86)]) dL_law_1293 rfl (by decide) ex86 (by decide) rfl ?_
    refine lw_goto (tgt := 18) dL_law_1296 (by decide) ?_
    exact hk18 l0 l1 l2 x86 h84 H
  · rw [if_neg c85] at H
    refine lw_iconst (v := (0 : Int32)) dL_law_394 (by decide) ?_
    exact lw_iret rfl rfl dL_law_395 H
def f_L_law_J396 (sc : Sc) (k18 : Unit → Nat → Nat → Int32 → Hp → Option (Int32 × Hp)) (l0 : Unit) (l1 : Nat) (l2 : Nat) (l3 : Int32) (h : Hp) : Option (Int32 × Hp) :=
gd (okSc sc (l3 + (1 : Int32))) <|
gd (okOb h l1 9) <|
bnd (f_X9_distribute h l1 (sc.2 (l3 + (1 : Int32)).toNatClampNeg)) fun v90 h91 =>
gd (okSc sc (l3 + (1 : Int32))) <|
gd (okOb h91 l2 10) <|
bnd (f_X10_distribute h91 l2 (sc.2 (l3 + (1 : Int32)).toNatClampNeg)) fun v94 h95 =>
if v90 = v94 then (
vl (l3 + (6 : Int32)) fun x97 =>
k18 l0 l1 l2 x97 h95) else (
some ((0 : Int32), h95))
set_option maxHeartbeats 4000000 in
set_option maxRecDepth 100000 in
theorem t_L_law_J396 {sc : Sc} {X : Cx} {h0 h' : Hp} {k18 : Unit → Nat → Nat → Int32 → Hp → Option (Int32 × Hp)} (hk18 : ∀ (z0 : Unit) (z1 : Nat) (z2 : Nat) (z3 : Int32) (h : Hp), k18 z0 z1 z2 z3 h = some ((1 : Int32), h') → LW sc X mL_law h0 h' 18 [some (.retAddr 0), some (.ref z1), some (.ref z2), some (.int z3)] [] h) : ∀ (l0 : Unit) (l1 : Nat) (l2 : Nat) (l3 : Int32) (h : Hp), f_L_law_J396 sc k18 l0 l1 l2 l3 h = some ((1 : Int32), h') → LW sc X mL_law h0 h' 396 [some (.retAddr 0), some (.ref l1), some (.ref l2), some (.int l3)] [] h := by
  intro l0 l1 l2 l3 h H
  unfold f_L_law_J396 at H
  refine lw_aload_n dL_law_396 rfl rfl ?_
  refine lw_aload_s dL_law_397 rfl rfl ?_
  refine lw_iload_n dL_law_398 rfl rfl ?_
  refine lw_iconst (v := (1 : Int32)) dL_law_399 (by decide) ?_
  refine lw_iadd dL_law_400 ?_
  replace H := gd_some H
  obtain ⟨g88, H⟩ := H
  refine lw_sld dL_law_401 (okSc.p g88) ?_
  replace H := gd_some H
  obtain ⟨g89, H⟩ := H
  replace H := bnd_some H
  obtain ⟨v90, h91, eh91, H⟩ := H
  have ph91 := t_X9_distribute (X := X) (d := 3) (Nat.le_refl _) eh91
  refine lw_callV (as := [.int (sc.2 (l3 + (1 : Int32)).toNatClampNeg)]) dL_law_402 ph91 ok_X9_distribute (by decide) rfl k2_129 k2_130 k2_131 (ci := 9) (by decide) rfl rfl (okOb.p g89) rfl (Nat.le_of_ble_eq_true rfl) ?_
  refine lw_aload_n dL_law_405 rfl rfl ?_
  refine lw_aload_s dL_law_406 rfl rfl ?_
  refine lw_iload_n dL_law_407 rfl rfl ?_
  refine lw_iconst (v := (1 : Int32)) dL_law_408 (by decide) ?_
  refine lw_iadd dL_law_409 ?_
  replace H := gd_some H
  obtain ⟨g92, H⟩ := H
  refine lw_sld dL_law_410 (okSc.p g92) ?_
  replace H := gd_some H
  obtain ⟨g93, H⟩ := H
  replace H := bnd_some H
  obtain ⟨v94, h95, eh95, H⟩ := H
  have ph95 := t_X10_distribute (X := X) (d := 3) (Nat.le_refl _) eh95
  refine lw_callV (as := [.int (sc.2 (l3 + (1 : Int32)).toNatClampNeg)]) dL_law_411 ph95 ok_X10_distribute (by decide) rfl k5_134 k5_135 k5_136 (ci := 10) (by decide) rfl rfl (okOb.p g93) rfl (Nat.le_of_ble_eq_true rfl) ?_
  refine lw_icmp_eq (tgt := 1293) dL_law_414 (by decide) (fun c96 => ?_) (fun c96 => ?_)
  · rw [if_pos c96] at H
    replace H := vl_some H
    obtain ⟨x97, ex97, H⟩ := H
    refine lw_iincx (loc2 := [some (.retAddr 0), some (.ref l1), some (.ref l2), some (.int x97)]) dL_law_1293 rfl (by decide) ex97 (by decide) rfl ?_
    refine lw_goto (tgt := 18) dL_law_1296 (by decide) ?_
    exact hk18 l0 l1 l2 x97 h95 H
  · rw [if_neg c96] at H
    refine lw_iconst (v := (0 : Int32)) dL_law_417 (by decide) ?_
    exact lw_iret rfl rfl dL_law_418 H
def f_L_law_J419 (sc : Sc) (k18 : Unit → Nat → Nat → Int32 → Hp → Option (Int32 × Hp)) (l0 : Unit) (l1 : Nat) (l2 : Nat) (l3 : Int32) (h : Hp) : Option (Int32 × Hp) :=
gd (okSc sc (l3 + (1 : Int32))) <|
gd (okSc sc (l3 + (2 : Int32))) <|
gd (okSc sc (l3 + (3 : Int32))) <|
gd (okOb h l1 9) <|
bnd (f_X9_at h l1 (sc.2 (l3 + (1 : Int32)).toNatClampNeg) (sc.2 (l3 + (2 : Int32)).toNatClampNeg) (sc.2 (l3 + (3 : Int32)).toNatClampNeg)) fun v103 h104 =>
gd (okSc sc (l3 + (1 : Int32))) <|
gd (okSc sc (l3 + (2 : Int32))) <|
gd (okSc sc (l3 + (3 : Int32))) <|
gd (okOb h104 l2 10) <|
bnd (f_X10_at h104 l2 (sc.2 (l3 + (1 : Int32)).toNatClampNeg) (sc.2 (l3 + (2 : Int32)).toNatClampNeg) (sc.2 (l3 + (3 : Int32)).toNatClampNeg)) fun v109 h110 =>
if v103 = v109 then (
vl (l3 + (6 : Int32)) fun x112 =>
k18 l0 l1 l2 x112 h110) else (
some ((0 : Int32), h110))
set_option maxHeartbeats 4000000 in
set_option maxRecDepth 100000 in
theorem t_L_law_J419 {sc : Sc} {X : Cx} {h0 h' : Hp} {k18 : Unit → Nat → Nat → Int32 → Hp → Option (Int32 × Hp)} (hk18 : ∀ (z0 : Unit) (z1 : Nat) (z2 : Nat) (z3 : Int32) (h : Hp), k18 z0 z1 z2 z3 h = some ((1 : Int32), h') → LW sc X mL_law h0 h' 18 [some (.retAddr 0), some (.ref z1), some (.ref z2), some (.int z3)] [] h) : ∀ (l0 : Unit) (l1 : Nat) (l2 : Nat) (l3 : Int32) (h : Hp), f_L_law_J419 sc k18 l0 l1 l2 l3 h = some ((1 : Int32), h') → LW sc X mL_law h0 h' 419 [some (.retAddr 0), some (.ref l1), some (.ref l2), some (.int l3)] [] h := by
  intro l0 l1 l2 l3 h H
  unfold f_L_law_J419 at H
  refine lw_aload_n dL_law_419 rfl rfl ?_
  refine lw_aload_s dL_law_420 rfl rfl ?_
  refine lw_iload_n dL_law_421 rfl rfl ?_
  refine lw_iconst (v := (1 : Int32)) dL_law_422 (by decide) ?_
  refine lw_iadd dL_law_423 ?_
  replace H := gd_some H
  obtain ⟨g99, H⟩ := H
  refine lw_sld dL_law_424 (okSc.p g99) ?_
  refine lw_aload_s dL_law_425 rfl rfl ?_
  refine lw_iload_n dL_law_426 rfl rfl ?_
  refine lw_iconst (v := (2 : Int32)) dL_law_427 (by decide) ?_
  refine lw_iadd dL_law_428 ?_
  replace H := gd_some H
  obtain ⟨g100, H⟩ := H
  refine lw_sld dL_law_429 (okSc.p g100) ?_
  refine lw_aload_s dL_law_430 rfl rfl ?_
  refine lw_iload_n dL_law_431 rfl rfl ?_
  refine lw_iconst (v := (3 : Int32)) dL_law_432 (by decide) ?_
  refine lw_iadd dL_law_433 ?_
  replace H := gd_some H
  obtain ⟨g101, H⟩ := H
  refine lw_sld dL_law_434 (okSc.p g101) ?_
  replace H := gd_some H
  obtain ⟨g102, H⟩ := H
  replace H := bnd_some H
  obtain ⟨v103, h104, eh104, H⟩ := H
  have ph104 := t_X9_at (X := X) (d := 2) (Nat.le_refl _) eh104
  refine lw_callV (as := [.int (sc.2 (l3 + (1 : Int32)).toNatClampNeg), .int (sc.2 (l3 + (2 : Int32)).toNatClampNeg), .int (sc.2 (l3 + (3 : Int32)).toNatClampNeg)]) dL_law_435 ph104 ok_X9_at (by decide) rfl k2_133 k2_134 k2_135 (ci := 9) (by decide) rfl rfl (okOb.p g102) rfl (Nat.le_of_ble_eq_true rfl) ?_
  refine lw_aload_n dL_law_438 rfl rfl ?_
  refine lw_aload_s dL_law_439 rfl rfl ?_
  refine lw_iload_n dL_law_440 rfl rfl ?_
  refine lw_iconst (v := (1 : Int32)) dL_law_441 (by decide) ?_
  refine lw_iadd dL_law_442 ?_
  replace H := gd_some H
  obtain ⟨g105, H⟩ := H
  refine lw_sld dL_law_443 (okSc.p g105) ?_
  refine lw_aload_s dL_law_444 rfl rfl ?_
  refine lw_iload_n dL_law_445 rfl rfl ?_
  refine lw_iconst (v := (2 : Int32)) dL_law_446 (by decide) ?_
  refine lw_iadd dL_law_447 ?_
  replace H := gd_some H
  obtain ⟨g106, H⟩ := H
  refine lw_sld dL_law_448 (okSc.p g106) ?_
  refine lw_aload_s dL_law_449 rfl rfl ?_
  refine lw_iload_n dL_law_450 rfl rfl ?_
  refine lw_iconst (v := (3 : Int32)) dL_law_451 (by decide) ?_
  refine lw_iadd dL_law_452 ?_
  replace H := gd_some H
  obtain ⟨g107, H⟩ := H
  refine lw_sld dL_law_453 (okSc.p g107) ?_
  replace H := gd_some H
  obtain ⟨g108, H⟩ := H
  replace H := bnd_some H
  obtain ⟨v109, h110, eh110, H⟩ := H
  have ph110 := t_X10_at (X := X) (d := 3) (Nat.le_refl _) eh110
  refine lw_callV (as := [.int (sc.2 (l3 + (1 : Int32)).toNatClampNeg), .int (sc.2 (l3 + (2 : Int32)).toNatClampNeg), .int (sc.2 (l3 + (3 : Int32)).toNatClampNeg)]) dL_law_454 ph110 ok_X10_at (by decide) rfl k5_138 k5_139 k5_140 (ci := 10) (by decide) rfl rfl (okOb.p g108) rfl (Nat.le_of_ble_eq_true rfl) ?_
  refine lw_icmp_eq (tgt := 1293) dL_law_457 (by decide) (fun c111 => ?_) (fun c111 => ?_)
  · rw [if_pos c111] at H
    replace H := vl_some H
    obtain ⟨x112, ex112, H⟩ := H
    refine lw_iincx (loc2 := [some (.retAddr 0), some (.ref l1), some (.ref l2), some (.int x112)]) dL_law_1293 rfl (by decide) ex112 (by decide) rfl ?_
    refine lw_goto (tgt := 18) dL_law_1296 (by decide) ?_
    exact hk18 l0 l1 l2 x112 h110 H
  · rw [if_neg c111] at H
    refine lw_iconst (v := (0 : Int32)) dL_law_460 (by decide) ?_
    exact lw_iret rfl rfl dL_law_461 H
def f_L_law_J462 (sc : Sc) (k18 : Unit → Nat → Nat → Int32 → Hp → Option (Int32 × Hp)) (l0 : Unit) (l1 : Nat) (l2 : Nat) (l3 : Int32) (h : Hp) : Option (Int32 × Hp) :=
gd (okSc sc (l3 + (1 : Int32))) <|
gd (okOb h l1 9) <|
bnd (f_X9_faults h l1 (sc.2 (l3 + (1 : Int32)).toNatClampNeg)) fun v116 h117 =>
gd (okSc sc (l3 + (1 : Int32))) <|
gd (okOb h117 l2 10) <|
bnd (f_X10_faults h117 l2 (sc.2 (l3 + (1 : Int32)).toNatClampNeg)) fun v120 h121 =>
if v116 = v120 then (
vl (l3 + (6 : Int32)) fun x123 =>
k18 l0 l1 l2 x123 h121) else (
some ((0 : Int32), h121))
set_option maxHeartbeats 4000000 in
set_option maxRecDepth 100000 in
theorem t_L_law_J462 {sc : Sc} {X : Cx} {h0 h' : Hp} {k18 : Unit → Nat → Nat → Int32 → Hp → Option (Int32 × Hp)} (hk18 : ∀ (z0 : Unit) (z1 : Nat) (z2 : Nat) (z3 : Int32) (h : Hp), k18 z0 z1 z2 z3 h = some ((1 : Int32), h') → LW sc X mL_law h0 h' 18 [some (.retAddr 0), some (.ref z1), some (.ref z2), some (.int z3)] [] h) : ∀ (l0 : Unit) (l1 : Nat) (l2 : Nat) (l3 : Int32) (h : Hp), f_L_law_J462 sc k18 l0 l1 l2 l3 h = some ((1 : Int32), h') → LW sc X mL_law h0 h' 462 [some (.retAddr 0), some (.ref l1), some (.ref l2), some (.int l3)] [] h := by
  intro l0 l1 l2 l3 h H
  unfold f_L_law_J462 at H
  refine lw_aload_n dL_law_462 rfl rfl ?_
  refine lw_aload_s dL_law_463 rfl rfl ?_
  refine lw_iload_n dL_law_464 rfl rfl ?_
  refine lw_iconst (v := (1 : Int32)) dL_law_465 (by decide) ?_
  refine lw_iadd dL_law_466 ?_
  replace H := gd_some H
  obtain ⟨g114, H⟩ := H
  refine lw_sld dL_law_467 (okSc.p g114) ?_
  replace H := gd_some H
  obtain ⟨g115, H⟩ := H
  replace H := bnd_some H
  obtain ⟨v116, h117, eh117, H⟩ := H
  have ph117 := t_X9_faults (X := X) (d := 2) (Nat.le_refl _) eh117
  refine lw_callV (as := [.int (sc.2 (l3 + (1 : Int32)).toNatClampNeg)]) dL_law_468 ph117 ok_X9_faults (by decide) rfl k2_137 k2_138 k2_139 (ci := 9) (by decide) rfl rfl (okOb.p g115) rfl (Nat.le_of_ble_eq_true rfl) ?_
  refine lw_aload_n dL_law_471 rfl rfl ?_
  refine lw_aload_s dL_law_472 rfl rfl ?_
  refine lw_iload_n dL_law_473 rfl rfl ?_
  refine lw_iconst (v := (1 : Int32)) dL_law_474 (by decide) ?_
  refine lw_iadd dL_law_475 ?_
  replace H := gd_some H
  obtain ⟨g118, H⟩ := H
  refine lw_sld dL_law_476 (okSc.p g118) ?_
  replace H := gd_some H
  obtain ⟨g119, H⟩ := H
  replace H := bnd_some H
  obtain ⟨v120, h121, eh121, H⟩ := H
  have ph121 := t_X10_faults (X := X) (d := 2) (Nat.le_refl _) eh121
  refine lw_callV (as := [.int (sc.2 (l3 + (1 : Int32)).toNatClampNeg)]) dL_law_477 ph121 ok_X10_faults (by decide) rfl k5_142 k5_143 k5_144 (ci := 10) (by decide) rfl rfl (okOb.p g119) rfl (Nat.le_of_ble_eq_true rfl) ?_
  refine lw_icmp_eq (tgt := 1293) dL_law_480 (by decide) (fun c122 => ?_) (fun c122 => ?_)
  · rw [if_pos c122] at H
    replace H := vl_some H
    obtain ⟨x123, ex123, H⟩ := H
    refine lw_iincx (loc2 := [some (.retAddr 0), some (.ref l1), some (.ref l2), some (.int x123)]) dL_law_1293 rfl (by decide) ex123 (by decide) rfl ?_
    refine lw_goto (tgt := 18) dL_law_1296 (by decide) ?_
    exact hk18 l0 l1 l2 x123 h121 H
  · rw [if_neg c122] at H
    refine lw_iconst (v := (0 : Int32)) dL_law_483 (by decide) ?_
    exact lw_iret rfl rfl dL_law_484 H
def f_L_law_J485 (sc : Sc) (k18 : Unit → Nat → Nat → Int32 → Hp → Option (Int32 × Hp)) (l0 : Unit) (l1 : Nat) (l2 : Nat) (l3 : Int32) (h : Hp) : Option (Int32 × Hp) :=
gd (okSc sc (l3 + (1 : Int32))) <|
gd (okSc sc (l3 + (2 : Int32))) <|
gd (okOb h l1 9) <|
bnd (f_X9_fault h l1 (sc.2 (l3 + (1 : Int32)).toNatClampNeg) (sc.2 (l3 + (2 : Int32)).toNatClampNeg)) fun v128 h129 =>
gd (okSc sc (l3 + (1 : Int32))) <|
gd (okSc sc (l3 + (2 : Int32))) <|
gd (okOb h129 l2 10) <|
bnd (f_X10_fault h129 l2 (sc.2 (l3 + (1 : Int32)).toNatClampNeg) (sc.2 (l3 + (2 : Int32)).toNatClampNeg)) fun v133 h134 =>
if v128 = v133 then (
vl (l3 + (6 : Int32)) fun x136 =>
k18 l0 l1 l2 x136 h134) else (
some ((0 : Int32), h134))
set_option maxHeartbeats 4000000 in
set_option maxRecDepth 100000 in
theorem t_L_law_J485 {sc : Sc} {X : Cx} {h0 h' : Hp} {k18 : Unit → Nat → Nat → Int32 → Hp → Option (Int32 × Hp)} (hk18 : ∀ (z0 : Unit) (z1 : Nat) (z2 : Nat) (z3 : Int32) (h : Hp), k18 z0 z1 z2 z3 h = some ((1 : Int32), h') → LW sc X mL_law h0 h' 18 [some (.retAddr 0), some (.ref z1), some (.ref z2), some (.int z3)] [] h) : ∀ (l0 : Unit) (l1 : Nat) (l2 : Nat) (l3 : Int32) (h : Hp), f_L_law_J485 sc k18 l0 l1 l2 l3 h = some ((1 : Int32), h') → LW sc X mL_law h0 h' 485 [some (.retAddr 0), some (.ref l1), some (.ref l2), some (.int l3)] [] h := by
  intro l0 l1 l2 l3 h H
  unfold f_L_law_J485 at H
  refine lw_aload_n dL_law_485 rfl rfl ?_
  refine lw_aload_s dL_law_486 rfl rfl ?_
  refine lw_iload_n dL_law_487 rfl rfl ?_
  refine lw_iconst (v := (1 : Int32)) dL_law_488 (by decide) ?_
  refine lw_iadd dL_law_489 ?_
  replace H := gd_some H
  obtain ⟨g125, H⟩ := H
  refine lw_sld dL_law_490 (okSc.p g125) ?_
  refine lw_aload_s dL_law_491 rfl rfl ?_
  refine lw_iload_n dL_law_492 rfl rfl ?_
  refine lw_iconst (v := (2 : Int32)) dL_law_493 (by decide) ?_
  refine lw_iadd dL_law_494 ?_
  replace H := gd_some H
  obtain ⟨g126, H⟩ := H
  refine lw_sld dL_law_495 (okSc.p g126) ?_
  replace H := gd_some H
  obtain ⟨g127, H⟩ := H
  replace H := bnd_some H
  obtain ⟨v128, h129, eh129, H⟩ := H
  have ph129 := t_X9_fault (X := X) (d := 2) (Nat.le_refl _) eh129
  refine lw_callV (as := [.int (sc.2 (l3 + (1 : Int32)).toNatClampNeg), .int (sc.2 (l3 + (2 : Int32)).toNatClampNeg)]) dL_law_496 ph129 ok_X9_fault (by decide) rfl k2_145 k2_146 k2_147 (ci := 9) (by decide) rfl rfl (okOb.p g127) rfl (Nat.le_of_ble_eq_true rfl) ?_
  refine lw_aload_n dL_law_499 rfl rfl ?_
  refine lw_aload_s dL_law_500 rfl rfl ?_
  refine lw_iload_n dL_law_501 rfl rfl ?_
  refine lw_iconst (v := (1 : Int32)) dL_law_502 (by decide) ?_
  refine lw_iadd dL_law_503 ?_
  replace H := gd_some H
  obtain ⟨g130, H⟩ := H
  refine lw_sld dL_law_504 (okSc.p g130) ?_
  refine lw_aload_s dL_law_505 rfl rfl ?_
  refine lw_iload_n dL_law_506 rfl rfl ?_
  refine lw_iconst (v := (2 : Int32)) dL_law_507 (by decide) ?_
  refine lw_iadd dL_law_508 ?_
  replace H := gd_some H
  obtain ⟨g131, H⟩ := H
  refine lw_sld dL_law_509 (okSc.p g131) ?_
  replace H := gd_some H
  obtain ⟨g132, H⟩ := H
  replace H := bnd_some H
  obtain ⟨v133, h134, eh134, H⟩ := H
  have ph134 := t_X10_fault (X := X) (d := 2) (Nat.le_refl _) eh134
  refine lw_callV (as := [.int (sc.2 (l3 + (1 : Int32)).toNatClampNeg), .int (sc.2 (l3 + (2 : Int32)).toNatClampNeg)]) dL_law_510 ph134 ok_X10_fault (by decide) rfl k5_150 k5_151 k5_152 (ci := 10) (by decide) rfl rfl (okOb.p g132) rfl (Nat.le_of_ble_eq_true rfl) ?_
  refine lw_icmp_eq (tgt := 1293) dL_law_513 (by decide) (fun c135 => ?_) (fun c135 => ?_)
  · rw [if_pos c135] at H
    replace H := vl_some H
    obtain ⟨x136, ex136, H⟩ := H
    refine lw_iincx (loc2 := [some (.retAddr 0), some (.ref l1), some (.ref l2), some (.int x136)]) dL_law_1293 rfl (by decide) ex136 (by decide) rfl ?_
    refine lw_goto (tgt := 18) dL_law_1296 (by decide) ?_
    exact hk18 l0 l1 l2 x136 h134 H
  · rw [if_neg c135] at H
    refine lw_iconst (v := (0 : Int32)) dL_law_516 (by decide) ?_
    exact lw_iret rfl rfl dL_law_517 H
def f_L_law_J518 (sc : Sc) (k18 : Unit → Nat → Nat → Int32 → Hp → Option (Int32 × Hp)) (l0 : Unit) (l1 : Nat) (l2 : Nat) (l3 : Int32) (h : Hp) : Option (Int32 × Hp) :=
gd (okSc sc (l3 + (1 : Int32))) <|
gd (okSc sc (l3 + (2 : Int32))) <|
gd (okSc sc (l3 + (3 : Int32))) <|
gd (okOb h l1 9) <|
bnd (f_X9_sheet h l1 (sc.2 (l3 + (1 : Int32)).toNatClampNeg) (sc.2 (l3 + (2 : Int32)).toNatClampNeg) (sc.2 (l3 + (3 : Int32)).toNatClampNeg)) fun v142 h143 =>
gd (okSc sc (l3 + (1 : Int32))) <|
gd (okSc sc (l3 + (2 : Int32))) <|
gd (okSc sc (l3 + (3 : Int32))) <|
gd (okOb h143 l2 10) <|
bnd (f_X10_sheet h143 l2 (sc.2 (l3 + (1 : Int32)).toNatClampNeg) (sc.2 (l3 + (2 : Int32)).toNatClampNeg) (sc.2 (l3 + (3 : Int32)).toNatClampNeg)) fun v148 h149 =>
if v142 = v148 then (
vl (l3 + (6 : Int32)) fun x151 =>
k18 l0 l1 l2 x151 h149) else (
some ((0 : Int32), h149))
set_option maxHeartbeats 4000000 in
set_option maxRecDepth 100000 in
theorem t_L_law_J518 {sc : Sc} {X : Cx} {h0 h' : Hp} {k18 : Unit → Nat → Nat → Int32 → Hp → Option (Int32 × Hp)} (hk18 : ∀ (z0 : Unit) (z1 : Nat) (z2 : Nat) (z3 : Int32) (h : Hp), k18 z0 z1 z2 z3 h = some ((1 : Int32), h') → LW sc X mL_law h0 h' 18 [some (.retAddr 0), some (.ref z1), some (.ref z2), some (.int z3)] [] h) : ∀ (l0 : Unit) (l1 : Nat) (l2 : Nat) (l3 : Int32) (h : Hp), f_L_law_J518 sc k18 l0 l1 l2 l3 h = some ((1 : Int32), h') → LW sc X mL_law h0 h' 518 [some (.retAddr 0), some (.ref l1), some (.ref l2), some (.int l3)] [] h := by
  intro l0 l1 l2 l3 h H
  unfold f_L_law_J518 at H
  refine lw_aload_n dL_law_518 rfl rfl ?_
  refine lw_aload_s dL_law_519 rfl rfl ?_
  refine lw_iload_n dL_law_520 rfl rfl ?_
  refine lw_iconst (v := (1 : Int32)) dL_law_521 (by decide) ?_
  refine lw_iadd dL_law_522 ?_
  replace H := gd_some H
  obtain ⟨g138, H⟩ := H
  refine lw_sld dL_law_523 (okSc.p g138) ?_
  refine lw_aload_s dL_law_524 rfl rfl ?_
  refine lw_iload_n dL_law_525 rfl rfl ?_
  refine lw_iconst (v := (2 : Int32)) dL_law_526 (by decide) ?_
  refine lw_iadd dL_law_527 ?_
  replace H := gd_some H
  obtain ⟨g139, H⟩ := H
  refine lw_sld dL_law_528 (okSc.p g139) ?_
  refine lw_aload_s dL_law_529 rfl rfl ?_
  refine lw_iload_n dL_law_530 rfl rfl ?_
  refine lw_iconst (v := (3 : Int32)) dL_law_531 (by decide) ?_
  refine lw_iadd dL_law_532 ?_
  replace H := gd_some H
  obtain ⟨g140, H⟩ := H
  refine lw_sld dL_law_533 (okSc.p g140) ?_
  replace H := gd_some H
  obtain ⟨g141, H⟩ := H
  replace H := bnd_some H
  obtain ⟨v142, h143, eh143, H⟩ := H
  have ph143 := t_X9_sheet (X := X) (d := 4) (Nat.le_refl _) eh143
  refine lw_callV (as := [.int (sc.2 (l3 + (1 : Int32)).toNatClampNeg), .int (sc.2 (l3 + (2 : Int32)).toNatClampNeg), .int (sc.2 (l3 + (3 : Int32)).toNatClampNeg)]) dL_law_534 ph143 ok_X9_sheet (by decide) rfl k2_153 k2_154 k2_155 (ci := 9) (by decide) rfl rfl (okOb.p g141) rfl (Nat.le_of_ble_eq_true rfl) ?_
  refine lw_aload_n dL_law_537 rfl rfl ?_
  refine lw_aload_s dL_law_538 rfl rfl ?_
  refine lw_iload_n dL_law_539 rfl rfl ?_
  refine lw_iconst (v := (1 : Int32)) dL_law_540 (by decide) ?_
  refine lw_iadd dL_law_541 ?_
  replace H := gd_some H
  obtain ⟨g144, H⟩ := H
  refine lw_sld dL_law_542 (okSc.p g144) ?_
  refine lw_aload_s dL_law_543 rfl rfl ?_
  refine lw_iload_n dL_law_544 rfl rfl ?_
  refine lw_iconst (v := (2 : Int32)) dL_law_545 (by decide) ?_
  refine lw_iadd dL_law_546 ?_
  replace H := gd_some H
  obtain ⟨g145, H⟩ := H
  refine lw_sld dL_law_547 (okSc.p g145) ?_
  refine lw_aload_s dL_law_548 rfl rfl ?_
  refine lw_iload_n dL_law_549 rfl rfl ?_
  refine lw_iconst (v := (3 : Int32)) dL_law_550 (by decide) ?_
  refine lw_iadd dL_law_551 ?_
  replace H := gd_some H
  obtain ⟨g146, H⟩ := H
  refine lw_sld dL_law_552 (okSc.p g146) ?_
  replace H := gd_some H
  obtain ⟨g147, H⟩ := H
  replace H := bnd_some H
  obtain ⟨v148, h149, eh149, H⟩ := H
  have ph149 := t_X10_sheet (X := X) (d := 2) (Nat.le_refl _) eh149
  refine lw_callV (as := [.int (sc.2 (l3 + (1 : Int32)).toNatClampNeg), .int (sc.2 (l3 + (2 : Int32)).toNatClampNeg), .int (sc.2 (l3 + (3 : Int32)).toNatClampNeg)]) dL_law_553 ph149 ok_X10_sheet (by decide) rfl k5_159 k5_160 k5_161 (ci := 10) (by decide) rfl rfl (okOb.p g147) rfl (Nat.le_of_ble_eq_true rfl) ?_
  refine lw_icmp_eq (tgt := 1293) dL_law_556 (by decide) (fun c150 => ?_) (fun c150 => ?_)
  · rw [if_pos c150] at H
    replace H := vl_some H
    obtain ⟨x151, ex151, H⟩ := H
    refine lw_iincx (loc2 := [some (.retAddr 0), some (.ref l1), some (.ref l2), some (.int x151)]) dL_law_1293 rfl (by decide) ex151 (by decide) rfl ?_
    refine lw_goto (tgt := 18) dL_law_1296 (by decide) ?_
    exact hk18 l0 l1 l2 x151 h149 H
  · rw [if_neg c150] at H
    refine lw_iconst (v := (0 : Int32)) dL_law_559 (by decide) ?_
    exact lw_iret rfl rfl dL_law_560 H
def f_L_law_J561 (sc : Sc) (k18 : Unit → Nat → Nat → Int32 → Hp → Option (Int32 × Hp)) (l0 : Unit) (l1 : Nat) (l2 : Nat) (l3 : Int32) (h : Hp) : Option (Int32 × Hp) :=
gd (okSc sc (l3 + (1 : Int32))) <|
gd (okSc sc (l3 + (2 : Int32))) <|
gd (okSc sc (l3 + (3 : Int32))) <|
gd (okSc sc (l3 + (4 : Int32))) <|
gd (okSc sc (l3 + (5 : Int32))) <|
gd (okOb h l1 9) <|
bnd (f_X9_fold h l1 (sc.2 (l3 + (1 : Int32)).toNatClampNeg) (sc.2 (l3 + (2 : Int32)).toNatClampNeg) (sc.2 (l3 + (3 : Int32)).toNatClampNeg) (sc.2 (l3 + (4 : Int32)).toNatClampNeg) (sc.2 (l3 + (5 : Int32)).toNatClampNeg)) fun v159 h160 =>
gd (okSc sc (l3 + (1 : Int32))) <|
gd (okSc sc (l3 + (2 : Int32))) <|
gd (okSc sc (l3 + (3 : Int32))) <|
gd (okSc sc (l3 + (4 : Int32))) <|
gd (okSc sc (l3 + (5 : Int32))) <|
gd (okOb h160 l2 10) <|
bnd (f_X10_fold h160 l2 (sc.2 (l3 + (1 : Int32)).toNatClampNeg) (sc.2 (l3 + (2 : Int32)).toNatClampNeg) (sc.2 (l3 + (3 : Int32)).toNatClampNeg) (sc.2 (l3 + (4 : Int32)).toNatClampNeg) (sc.2 (l3 + (5 : Int32)).toNatClampNeg)) fun v167 h168 =>
if v159 = v167 then (
vl (l3 + (6 : Int32)) fun x170 =>
k18 l0 l1 l2 x170 h168) else (
some ((0 : Int32), h168))
set_option maxHeartbeats 4000000 in
set_option maxRecDepth 100000 in
theorem t_L_law_J561 {sc : Sc} {X : Cx} {h0 h' : Hp} {k18 : Unit → Nat → Nat → Int32 → Hp → Option (Int32 × Hp)} (hk18 : ∀ (z0 : Unit) (z1 : Nat) (z2 : Nat) (z3 : Int32) (h : Hp), k18 z0 z1 z2 z3 h = some ((1 : Int32), h') → LW sc X mL_law h0 h' 18 [some (.retAddr 0), some (.ref z1), some (.ref z2), some (.int z3)] [] h) : ∀ (l0 : Unit) (l1 : Nat) (l2 : Nat) (l3 : Int32) (h : Hp), f_L_law_J561 sc k18 l0 l1 l2 l3 h = some ((1 : Int32), h') → LW sc X mL_law h0 h' 561 [some (.retAddr 0), some (.ref l1), some (.ref l2), some (.int l3)] [] h := by
  intro l0 l1 l2 l3 h H
  unfold f_L_law_J561 at H
  refine lw_aload_n dL_law_561 rfl rfl ?_
  refine lw_aload_s dL_law_562 rfl rfl ?_
  refine lw_iload_n dL_law_563 rfl rfl ?_
  refine lw_iconst (v := (1 : Int32)) dL_law_564 (by decide) ?_
  refine lw_iadd dL_law_565 ?_
  replace H := gd_some H
  obtain ⟨g153, H⟩ := H
  refine lw_sld dL_law_566 (okSc.p g153) ?_
  refine lw_aload_s dL_law_567 rfl rfl ?_
  refine lw_iload_n dL_law_568 rfl rfl ?_
  refine lw_iconst (v := (2 : Int32)) dL_law_569 (by decide) ?_
  refine lw_iadd dL_law_570 ?_
  replace H := gd_some H
  obtain ⟨g154, H⟩ := H
  refine lw_sld dL_law_571 (okSc.p g154) ?_
  refine lw_aload_s dL_law_572 rfl rfl ?_
  refine lw_iload_n dL_law_573 rfl rfl ?_
  refine lw_iconst (v := (3 : Int32)) dL_law_574 (by decide) ?_
  refine lw_iadd dL_law_575 ?_
  replace H := gd_some H
  obtain ⟨g155, H⟩ := H
  refine lw_sld dL_law_576 (okSc.p g155) ?_
  refine lw_aload_s dL_law_577 rfl rfl ?_
  refine lw_iload_n dL_law_578 rfl rfl ?_
  refine lw_iconst (v := (4 : Int32)) dL_law_579 (by decide) ?_
  refine lw_iadd dL_law_580 ?_
  replace H := gd_some H
  obtain ⟨g156, H⟩ := H
  refine lw_sld dL_law_581 (okSc.p g156) ?_
  refine lw_aload_s dL_law_582 rfl rfl ?_
  refine lw_iload_n dL_law_583 rfl rfl ?_
  refine lw_iconst (v := (5 : Int32)) dL_law_584 (by decide) ?_
  refine lw_iadd dL_law_585 ?_
  replace H := gd_some H
  obtain ⟨g157, H⟩ := H
  refine lw_sld dL_law_586 (okSc.p g157) ?_
  replace H := gd_some H
  obtain ⟨g158, H⟩ := H
  replace H := bnd_some H
  obtain ⟨v159, h160, eh160, H⟩ := H
  have ph160 := t_X9_fold (X := X) (d := 2) (Nat.le_refl _) eh160
  refine lw_callV (as := [.int (sc.2 (l3 + (1 : Int32)).toNatClampNeg), .int (sc.2 (l3 + (2 : Int32)).toNatClampNeg), .int (sc.2 (l3 + (3 : Int32)).toNatClampNeg), .int (sc.2 (l3 + (4 : Int32)).toNatClampNeg), .int (sc.2 (l3 + (5 : Int32)).toNatClampNeg)]) dL_law_587 ph160 ok_X9_fold (by decide) rfl k3_13 k3_14 k3_15 (ci := 9) (by decide) rfl rfl (okOb.p g158) rfl (Nat.le_of_ble_eq_true rfl) ?_
  refine lw_aload_n dL_law_590 rfl rfl ?_
  refine lw_aload_s dL_law_591 rfl rfl ?_
  refine lw_iload_n dL_law_592 rfl rfl ?_
  refine lw_iconst (v := (1 : Int32)) dL_law_593 (by decide) ?_
  refine lw_iadd dL_law_594 ?_
  replace H := gd_some H
  obtain ⟨g161, H⟩ := H
  refine lw_sld dL_law_595 (okSc.p g161) ?_
  refine lw_aload_s dL_law_596 rfl rfl ?_
  refine lw_iload_n dL_law_597 rfl rfl ?_
  refine lw_iconst (v := (2 : Int32)) dL_law_598 (by decide) ?_
  refine lw_iadd dL_law_599 ?_
  replace H := gd_some H
  obtain ⟨g162, H⟩ := H
  refine lw_sld dL_law_600 (okSc.p g162) ?_
  refine lw_aload_s dL_law_601 rfl rfl ?_
  refine lw_iload_n dL_law_602 rfl rfl ?_
  refine lw_iconst (v := (3 : Int32)) dL_law_603 (by decide) ?_
  refine lw_iadd dL_law_604 ?_
  replace H := gd_some H
  obtain ⟨g163, H⟩ := H
  refine lw_sld dL_law_605 (okSc.p g163) ?_
  refine lw_aload_s dL_law_606 rfl rfl ?_
  refine lw_iload_n dL_law_607 rfl rfl ?_
  refine lw_iconst (v := (4 : Int32)) dL_law_608 (by decide) ?_
  refine lw_iadd dL_law_609 ?_
  replace H := gd_some H
  obtain ⟨g164, H⟩ := H
  refine lw_sld dL_law_610 (okSc.p g164) ?_
  refine lw_aload_s dL_law_611 rfl rfl ?_
  refine lw_iload_n dL_law_612 rfl rfl ?_
  refine lw_iconst (v := (5 : Int32)) dL_law_613 (by decide) ?_
  refine lw_iadd dL_law_614 ?_
  replace H := gd_some H
  obtain ⟨g165, H⟩ := H
  refine lw_sld dL_law_615 (okSc.p g165) ?_
  replace H := gd_some H
  obtain ⟨g166, H⟩ := H
  replace H := bnd_some H
  obtain ⟨v167, h168, eh168, H⟩ := H
  have ph168 := t_X10_fold (X := X) (d := 2) (Nat.le_refl _) eh168
  refine lw_callV (as := [.int (sc.2 (l3 + (1 : Int32)).toNatClampNeg), .int (sc.2 (l3 + (2 : Int32)).toNatClampNeg), .int (sc.2 (l3 + (3 : Int32)).toNatClampNeg), .int (sc.2 (l3 + (4 : Int32)).toNatClampNeg), .int (sc.2 (l3 + (5 : Int32)).toNatClampNeg)]) dL_law_616 ph168 ok_X10_fold (by decide) rfl k5_154 k5_155 k5_156 (ci := 10) (by decide) rfl rfl (okOb.p g166) rfl (Nat.le_of_ble_eq_true rfl) ?_
  refine lw_icmp_eq (tgt := 1293) dL_law_619 (by decide) (fun c169 => ?_) (fun c169 => ?_)
  · rw [if_pos c169] at H
    replace H := vl_some H
    obtain ⟨x170, ex170, H⟩ := H
    refine lw_iincx (loc2 := [some (.retAddr 0), some (.ref l1), some (.ref l2), some (.int x170)]) dL_law_1293 rfl (by decide) ex170 (by decide) rfl ?_
    refine lw_goto (tgt := 18) dL_law_1296 (by decide) ?_
    exact hk18 l0 l1 l2 x170 h168 H
  · rw [if_neg c169] at H
    refine lw_iconst (v := (0 : Int32)) dL_law_622 (by decide) ?_
    exact lw_iret rfl rfl dL_law_623 H
def f_L_law_J624 (sc : Sc) (k18 : Unit → Nat → Nat → Int32 → Hp → Option (Int32 × Hp)) (l0 : Unit) (l1 : Nat) (l2 : Nat) (l3 : Int32) (h : Hp) : Option (Int32 × Hp) :=
gd (okSc sc (l3 + (1 : Int32))) <|
gd (okSc sc (l3 + (2 : Int32))) <|
gd (okOb h l1 9) <|
bnd (f_X9_impose h l1 (sc.2 (l3 + (1 : Int32)).toNatClampNeg) (sc.2 (l3 + (2 : Int32)).toNatClampNeg)) fun v175 h176 =>
gd (okSc sc (l3 + (1 : Int32))) <|
gd (okSc sc (l3 + (2 : Int32))) <|
gd (okOb h176 l2 10) <|
bnd (f_X10_impose h176 l2 (sc.2 (l3 + (1 : Int32)).toNatClampNeg) (sc.2 (l3 + (2 : Int32)).toNatClampNeg)) fun v180 h181 =>
if v175 = v180 then (
vl (l3 + (6 : Int32)) fun x183 =>
k18 l0 l1 l2 x183 h181) else (
some ((0 : Int32), h181))
set_option maxHeartbeats 4000000 in
set_option maxRecDepth 100000 in
theorem t_L_law_J624 {sc : Sc} {X : Cx} {h0 h' : Hp} {k18 : Unit → Nat → Nat → Int32 → Hp → Option (Int32 × Hp)} (hk18 : ∀ (z0 : Unit) (z1 : Nat) (z2 : Nat) (z3 : Int32) (h : Hp), k18 z0 z1 z2 z3 h = some ((1 : Int32), h') → LW sc X mL_law h0 h' 18 [some (.retAddr 0), some (.ref z1), some (.ref z2), some (.int z3)] [] h) : ∀ (l0 : Unit) (l1 : Nat) (l2 : Nat) (l3 : Int32) (h : Hp), f_L_law_J624 sc k18 l0 l1 l2 l3 h = some ((1 : Int32), h') → LW sc X mL_law h0 h' 624 [some (.retAddr 0), some (.ref l1), some (.ref l2), some (.int l3)] [] h := by
  intro l0 l1 l2 l3 h H
  unfold f_L_law_J624 at H
  refine lw_aload_n dL_law_624 rfl rfl ?_
  refine lw_aload_s dL_law_625 rfl rfl ?_
  refine lw_iload_n dL_law_626 rfl rfl ?_
  refine lw_iconst (v := (1 : Int32)) dL_law_627 (by decide) ?_
  refine lw_iadd dL_law_628 ?_
  replace H := gd_some H
  obtain ⟨g172, H⟩ := H
  refine lw_sld dL_law_629 (okSc.p g172) ?_
  refine lw_aload_s dL_law_630 rfl rfl ?_
  refine lw_iload_n dL_law_631 rfl rfl ?_
  refine lw_iconst (v := (2 : Int32)) dL_law_632 (by decide) ?_
  refine lw_iadd dL_law_633 ?_
  replace H := gd_some H
  obtain ⟨g173, H⟩ := H
  refine lw_sld dL_law_634 (okSc.p g173) ?_
  replace H := gd_some H
  obtain ⟨g174, H⟩ := H
  replace H := bnd_some H
  obtain ⟨v175, h176, eh176, H⟩ := H
  have ph176 := t_X9_impose (X := X) (d := 3) (Nat.le_refl _) eh176
  refine lw_callV (as := [.int (sc.2 (l3 + (1 : Int32)).toNatClampNeg), .int (sc.2 (l3 + (2 : Int32)).toNatClampNeg)]) dL_law_635 ph176 ok_X9_impose (by decide) rfl k3_28 k3_29 k3_30 (ci := 9) (by decide) rfl rfl (okOb.p g174) rfl (Nat.le_of_ble_eq_true rfl) ?_
  refine lw_aload_n dL_law_638 rfl rfl ?_
  refine lw_aload_s dL_law_639 rfl rfl ?_
  refine lw_iload_n dL_law_640 rfl rfl ?_
  refine lw_iconst (v := (1 : Int32)) dL_law_641 (by decide) ?_
  refine lw_iadd dL_law_642 ?_
  replace H := gd_some H
  obtain ⟨g177, H⟩ := H
  refine lw_sld dL_law_643 (okSc.p g177) ?_
  refine lw_aload_s dL_law_644 rfl rfl ?_
  refine lw_iload_n dL_law_645 rfl rfl ?_
  refine lw_iconst (v := (2 : Int32)) dL_law_646 (by decide) ?_
  refine lw_iadd dL_law_647 ?_
  replace H := gd_some H
  obtain ⟨g178, H⟩ := H
  refine lw_sld dL_law_648 (okSc.p g178) ?_
  replace H := gd_some H
  obtain ⟨g179, H⟩ := H
  replace H := bnd_some H
  obtain ⟨v180, h181, eh181, H⟩ := H
  have ph181 := t_X10_impose (X := X) (d := 2) (Nat.le_refl _) eh181
  refine lw_callV (as := [.int (sc.2 (l3 + (1 : Int32)).toNatClampNeg), .int (sc.2 (l3 + (2 : Int32)).toNatClampNeg)]) dL_law_649 ph181 ok_X10_impose (by decide) rfl k5_164 k5_165 k5_166 (ci := 10) (by decide) rfl rfl (okOb.p g179) rfl (Nat.le_of_ble_eq_true rfl) ?_
  refine lw_icmp_eq (tgt := 1293) dL_law_652 (by decide) (fun c182 => ?_) (fun c182 => ?_)
  · rw [if_pos c182] at H
    replace H := vl_some H
    obtain ⟨x183, ex183, H⟩ := H
    refine lw_iincx (loc2 := [some (.retAddr 0), some (.ref l1), some (.ref l2), some (.int x183)]) dL_law_1293 rfl (by decide) ex183 (by decide) rfl ?_
    refine lw_goto (tgt := 18) dL_law_1296 (by decide) ?_
    exact hk18 l0 l1 l2 x183 h181 H
  · rw [if_neg c182] at H
    refine lw_iconst (v := (0 : Int32)) dL_law_655 (by decide) ?_
    exact lw_iret rfl rfl dL_law_656 H
def f_L_law_J657 (sc : Sc) (k18 : Unit → Nat → Nat → Int32 → Hp → Option (Int32 × Hp)) (l0 : Unit) (l1 : Nat) (l2 : Nat) (l3 : Int32) (h : Hp) : Option (Int32 × Hp) :=
gd (okSc sc (l3 + (1 : Int32))) <|
gd (okOb h l1 9) <|
bnd (f_X9_breakUp h l1 (sc.2 (l3 + (1 : Int32)).toNatClampNeg)) fun v187 h188 =>
gd (okSc sc (l3 + (1 : Int32))) <|
gd (okOb h188 l2 10) <|
bnd (f_X10_breakUp h188 l2 (sc.2 (l3 + (1 : Int32)).toNatClampNeg)) fun v191 h192 =>
if v187 = v191 then (
vl (l3 + (6 : Int32)) fun x194 =>
k18 l0 l1 l2 x194 h192) else (
some ((0 : Int32), h192))
set_option maxHeartbeats 4000000 in
set_option maxRecDepth 100000 in
theorem t_L_law_J657 {sc : Sc} {X : Cx} {h0 h' : Hp} {k18 : Unit → Nat → Nat → Int32 → Hp → Option (Int32 × Hp)} (hk18 : ∀ (z0 : Unit) (z1 : Nat) (z2 : Nat) (z3 : Int32) (h : Hp), k18 z0 z1 z2 z3 h = some ((1 : Int32), h') → LW sc X mL_law h0 h' 18 [some (.retAddr 0), some (.ref z1), some (.ref z2), some (.int z3)] [] h) : ∀ (l0 : Unit) (l1 : Nat) (l2 : Nat) (l3 : Int32) (h : Hp), f_L_law_J657 sc k18 l0 l1 l2 l3 h = some ((1 : Int32), h') → LW sc X mL_law h0 h' 657 [some (.retAddr 0), some (.ref l1), some (.ref l2), some (.int l3)] [] h := by
  intro l0 l1 l2 l3 h H
  unfold f_L_law_J657 at H
  refine lw_aload_n dL_law_657 rfl rfl ?_
  refine lw_aload_s dL_law_658 rfl rfl ?_
  refine lw_iload_n dL_law_659 rfl rfl ?_
  refine lw_iconst (v := (1 : Int32)) dL_law_660 (by decide) ?_
  refine lw_iadd dL_law_661 ?_
  replace H := gd_some H
  obtain ⟨g185, H⟩ := H
  refine lw_sld dL_law_662 (okSc.p g185) ?_
  replace H := gd_some H
  obtain ⟨g186, H⟩ := H
  replace H := bnd_some H
  obtain ⟨v187, h188, eh188, H⟩ := H
  have ph188 := t_X9_breakUp (X := X) (d := 3) (Nat.le_refl _) eh188
  refine lw_callV (as := [.int (sc.2 (l3 + (1 : Int32)).toNatClampNeg)]) dL_law_663 ph188 ok_X9_breakUp (by decide) rfl k3_42 k3_43 k3_44 (ci := 9) (by decide) rfl rfl (okOb.p g186) rfl (Nat.le_of_ble_eq_true rfl) ?_
  refine lw_aload_n dL_law_666 rfl rfl ?_
  refine lw_aload_s dL_law_667 rfl rfl ?_
  refine lw_iload_n dL_law_668 rfl rfl ?_
  refine lw_iconst (v := (1 : Int32)) dL_law_669 (by decide) ?_
  refine lw_iadd dL_law_670 ?_
  replace H := gd_some H
  obtain ⟨g189, H⟩ := H
  refine lw_sld dL_law_671 (okSc.p g189) ?_
  replace H := gd_some H
  obtain ⟨g190, H⟩ := H
  replace H := bnd_some H
  obtain ⟨v191, h192, eh192, H⟩ := H
  have ph192 := t_X10_breakUp (X := X) (d := 2) (Nat.le_refl _) eh192
  refine lw_callV (as := [.int (sc.2 (l3 + (1 : Int32)).toNatClampNeg)]) dL_law_672 ph192 ok_X10_breakUp (by decide) rfl k5_176 k5_177 k5_178 (ci := 10) (by decide) rfl rfl (okOb.p g190) rfl (Nat.le_of_ble_eq_true rfl) ?_
  refine lw_icmp_eq (tgt := 1293) dL_law_675 (by decide) (fun c193 => ?_) (fun c193 => ?_)
  · rw [if_pos c193] at H
    replace H := vl_some H
    obtain ⟨x194, ex194, H⟩ := H
    refine lw_iincx (loc2 := [some (.retAddr 0), some (.ref l1), some (.ref l2), some (.int x194)]) dL_law_1293 rfl (by decide) ex194 (by decide) rfl ?_
    refine lw_goto (tgt := 18) dL_law_1296 (by decide) ?_
    exact hk18 l0 l1 l2 x194 h192 H
  · rw [if_neg c193] at H
    refine lw_iconst (v := (0 : Int32)) dL_law_678 (by decide) ?_
    exact lw_iret rfl rfl dL_law_679 H
def f_L_law_J680 (sc : Sc) (k18 : Unit → Nat → Nat → Int32 → Hp → Option (Int32 × Hp)) (l0 : Unit) (l1 : Nat) (l2 : Nat) (l3 : Int32) (h : Hp) : Option (Int32 × Hp) :=
gd (okSc sc (l3 + (1 : Int32))) <|
gd (okOb h l1 9) <|
bnd (f_X9_paper h l1 (sc.2 (l3 + (1 : Int32)).toNatClampNeg)) fun v198 h199 =>
gd (okSc sc (l3 + (1 : Int32))) <|
gd (okOb h199 l2 10) <|
bnd (f_X10_paper h199 l2 (sc.2 (l3 + (1 : Int32)).toNatClampNeg)) fun v202 h203 =>
if v198 = v202 then (
vl (l3 + (6 : Int32)) fun x205 =>
k18 l0 l1 l2 x205 h203) else (
some ((0 : Int32), h203))
set_option maxHeartbeats 4000000 in
set_option maxRecDepth 100000 in
theorem t_L_law_J680 {sc : Sc} {X : Cx} {h0 h' : Hp} {k18 : Unit → Nat → Nat → Int32 → Hp → Option (Int32 × Hp)} (hk18 : ∀ (z0 : Unit) (z1 : Nat) (z2 : Nat) (z3 : Int32) (h : Hp), k18 z0 z1 z2 z3 h = some ((1 : Int32), h') → LW sc X mL_law h0 h' 18 [some (.retAddr 0), some (.ref z1), some (.ref z2), some (.int z3)] [] h) : ∀ (l0 : Unit) (l1 : Nat) (l2 : Nat) (l3 : Int32) (h : Hp), f_L_law_J680 sc k18 l0 l1 l2 l3 h = some ((1 : Int32), h') → LW sc X mL_law h0 h' 680 [some (.retAddr 0), some (.ref l1), some (.ref l2), some (.int l3)] [] h := by
  intro l0 l1 l2 l3 h H
  unfold f_L_law_J680 at H
  refine lw_aload_n dL_law_680 rfl rfl ?_
  refine lw_aload_s dL_law_681 rfl rfl ?_
  refine lw_iload_n dL_law_682 rfl rfl ?_
  refine lw_iconst (v := (1 : Int32)) dL_law_683 (by decide) ?_
  refine lw_iadd dL_law_684 ?_
  replace H := gd_some H
  obtain ⟨g196, H⟩ := H
  refine lw_sld dL_law_685 (okSc.p g196) ?_
  replace H := gd_some H
  obtain ⟨g197, H⟩ := H
  replace H := bnd_some H
  obtain ⟨v198, h199, eh199, H⟩ := H
  have ph199 := t_X9_paper (X := X) (d := 1) (Nat.le_refl _) eh199
  refine lw_callV (as := [.int (sc.2 (l3 + (1 : Int32)).toNatClampNeg)]) dL_law_686 ph199 ok_X9_paper (by decide) rfl k3_50 k3_51 k3_52 (ci := 9) (by decide) rfl rfl (okOb.p g197) rfl (Nat.le_of_ble_eq_true rfl) ?_
  refine lw_aload_n dL_law_689 rfl rfl ?_
  refine lw_aload_s dL_law_690 rfl rfl ?_
  refine lw_iload_n dL_law_691 rfl rfl ?_
  refine lw_iconst (v := (1 : Int32)) dL_law_692 (by decide) ?_
  refine lw_iadd dL_law_693 ?_
  replace H := gd_some H
  obtain ⟨g200, H⟩ := H
  refine lw_sld dL_law_694 (okSc.p g200) ?_
  replace H := gd_some H
  obtain ⟨g201, H⟩ := H
  replace H := bnd_some H
  obtain ⟨v202, h203, eh203, H⟩ := H
  have ph203 := t_X10_paper (X := X) (d := 2) (Nat.le_refl _) eh203
  refine lw_callV (as := [.int (sc.2 (l3 + (1 : Int32)).toNatClampNeg)]) dL_law_695 ph203 ok_X10_paper (by decide) rfl k5_180 k5_181 k5_182 (ci := 10) (by decide) rfl rfl (okOb.p g201) rfl (Nat.le_of_ble_eq_true rfl) ?_
  refine lw_icmp_eq (tgt := 1293) dL_law_698 (by decide) (fun c204 => ?_) (fun c204 => ?_)
  · rw [if_pos c204] at H
    replace H := vl_some H
    obtain ⟨x205, ex205, H⟩ := H
    refine lw_iincx (loc2 := [some (.retAddr 0), some (.ref l1), some (.ref l2), some (.int x205)]) dL_law_1293 rfl (by decide) ex205 (by decide) rfl ?_
    refine lw_goto (tgt := 18) dL_law_1296 (by decide) ?_
    exact hk18 l0 l1 l2 x205 h203 H
  · rw [if_neg c204] at H
    refine lw_iconst (v := (0 : Int32)) dL_law_701 (by decide) ?_
    exact lw_iret rfl rfl dL_law_702 H
def f_L_law_J703 (sc : Sc) (k18 : Unit → Nat → Nat → Int32 → Hp → Option (Int32 × Hp)) (l0 : Unit) (l1 : Nat) (l2 : Nat) (l3 : Int32) (h : Hp) : Option (Int32 × Hp) :=
gd (okSc sc (l3 + (1 : Int32))) <|
gd (okSc sc (l3 + (2 : Int32))) <|
gd (okSc sc (l3 + (3 : Int32))) <|
gd (okOb h l1 9) <|
bnd (f_X9_print h l1 (sc.2 (l3 + (1 : Int32)).toNatClampNeg) (sc.2 (l3 + (2 : Int32)).toNatClampNeg) (sc.2 (l3 + (3 : Int32)).toNatClampNeg)) fun v211 h212 =>
gd (okSc sc (l3 + (1 : Int32))) <|
gd (okSc sc (l3 + (2 : Int32))) <|
gd (okSc sc (l3 + (3 : Int32))) <|
gd (okOb h212 l2 10) <|
bnd (f_X10_print h212 l2 (sc.2 (l3 + (1 : Int32)).toNatClampNeg) (sc.2 (l3 + (2 : Int32)).toNatClampNeg) (sc.2 (l3 + (3 : Int32)).toNatClampNeg)) fun v217 h218 =>
if v211 = v217 then (
vl (l3 + (6 : Int32)) fun x220 =>
k18 l0 l1 l2 x220 h218) else (
some ((0 : Int32), h218))
set_option maxHeartbeats 4000000 in
set_option maxRecDepth 100000 in
theorem t_L_law_J703 {sc : Sc} {X : Cx} {h0 h' : Hp} {k18 : Unit → Nat → Nat → Int32 → Hp → Option (Int32 × Hp)} (hk18 : ∀ (z0 : Unit) (z1 : Nat) (z2 : Nat) (z3 : Int32) (h : Hp), k18 z0 z1 z2 z3 h = some ((1 : Int32), h') → LW sc X mL_law h0 h' 18 [some (.retAddr 0), some (.ref z1), some (.ref z2), some (.int z3)] [] h) : ∀ (l0 : Unit) (l1 : Nat) (l2 : Nat) (l3 : Int32) (h : Hp), f_L_law_J703 sc k18 l0 l1 l2 l3 h = some ((1 : Int32), h') → LW sc X mL_law h0 h' 703 [some (.retAddr 0), some (.ref l1), some (.ref l2), some (.int l3)] [] h := by
  intro l0 l1 l2 l3 h H
  unfold f_L_law_J703 at H
  refine lw_aload_n dL_law_703 rfl rfl ?_
  refine lw_aload_s dL_law_704 rfl rfl ?_
  refine lw_iload_n dL_law_705 rfl rfl ?_
  refine lw_iconst (v := (1 : Int32)) dL_law_706 (by decide) ?_
  refine lw_iadd dL_law_707 ?_
  replace H := gd_some H
  obtain ⟨g207, H⟩ := H
  refine lw_sld dL_law_708 (okSc.p g207) ?_
  refine lw_aload_s dL_law_709 rfl rfl ?_
  refine lw_iload_n dL_law_710 rfl rfl ?_
  refine lw_iconst (v := (2 : Int32)) dL_law_711 (by decide) ?_
  refine lw_iadd dL_law_712 ?_
  replace H := gd_some H
  obtain ⟨g208, H⟩ := H
  refine lw_sld dL_law_713 (okSc.p g208) ?_
  refine lw_aload_s dL_law_714 rfl rfl ?_
  refine lw_iload_n dL_law_715 rfl rfl ?_
  refine lw_iconst (v := (3 : Int32)) dL_law_716 (by decide) ?_
  refine lw_iadd dL_law_717 ?_
  replace H := gd_some H
  obtain ⟨g209, H⟩ := H
  refine lw_sld dL_law_718 (okSc.p g209) ?_
  replace H := gd_some H
  obtain ⟨g210, H⟩ := H
  replace H := bnd_some H
  obtain ⟨v211, h212, eh212, H⟩ := H
  have ph212 := t_X9_print (X := X) (d := 4) (Nat.le_refl _) eh212
  refine lw_callV (as := [.int (sc.2 (l3 + (1 : Int32)).toNatClampNeg), .int (sc.2 (l3 + (2 : Int32)).toNatClampNeg), .int (sc.2 (l3 + (3 : Int32)).toNatClampNeg)]) dL_law_719 ph212 ok_X9_print (by decide) rfl k3_54 k3_55 k3_56 (ci := 9) (by decide) rfl rfl (okOb.p g210) rfl (Nat.le_of_ble_eq_true rfl) ?_
  refine lw_aload_n dL_law_722 rfl rfl ?_
  refine lw_aload_s dL_law_723 rfl rfl ?_
  refine lw_iload_n dL_law_724 rfl rfl ?_
  refine lw_iconst (v := (1 : Int32)) dL_law_725 (by decide) ?_
  refine lw_iadd dL_law_726 ?_
  replace H := gd_some H
  obtain ⟨g213, H⟩ := H
  refine lw_sld dL_law_727 (okSc.p g213) ?_
  refine lw_aload_s dL_law_728 rfl rfl ?_
  refine lw_iload_n dL_law_729 rfl rfl ?_
  refine lw_iconst (v := (2 : Int32)) dL_law_730 (by decide) ?_
  refine lw_iadd dL_law_731 ?_
  replace H := gd_some H
  obtain ⟨g214, H⟩ := H
  refine lw_sld dL_law_732 (okSc.p g214) ?_
  refine lw_aload_s dL_law_733 rfl rfl ?_
  refine lw_iload_n dL_law_734 rfl rfl ?_
  refine lw_iconst (v := (3 : Int32)) dL_law_735 (by decide) ?_
  refine lw_iadd dL_law_736 ?_
  replace H := gd_some H
  obtain ⟨g215, H⟩ := H
  refine lw_sld dL_law_737 (okSc.p g215) ?_
  replace H := gd_some H
  obtain ⟨g216, H⟩ := H
  replace H := bnd_some H
  obtain ⟨v217, h218, eh218, H⟩ := H
  have ph218 := t_X10_print (X := X) (d := 3) (Nat.le_refl _) eh218
  refine lw_callV (as := [.int (sc.2 (l3 + (1 : Int32)).toNatClampNeg), .int (sc.2 (l3 + (2 : Int32)).toNatClampNeg), .int (sc.2 (l3 + (3 : Int32)).toNatClampNeg)]) dL_law_738 ph218 ok_X10_print (by decide) rfl k5_184 k5_185 k5_186 (ci := 10) (by decide) rfl rfl (okOb.p g216) rfl (Nat.le_of_ble_eq_true rfl) ?_
  refine lw_icmp_eq (tgt := 1293) dL_law_741 (by decide) (fun c219 => ?_) (fun c219 => ?_)
  · rw [if_pos c219] at H
    replace H := vl_some H
    obtain ⟨x220, ex220, H⟩ := H
    refine lw_iincx (loc2 := [some (.retAddr 0), some (.ref l1), some (.ref l2), some (.int x220)]) dL_law_1293 rfl (by decide) ex220 (by decide) rfl ?_
    refine lw_goto (tgt := 18) dL_law_1296 (by decide) ?_
    exact hk18 l0 l1 l2 x220 h218 H
  · rw [if_neg c219] at H
    refine lw_iconst (v := (0 : Int32)) dL_law_744 (by decide) ?_
    exact lw_iret rfl rfl dL_law_745 H
def f_L_law_J746 (sc : Sc) (k18 : Unit → Nat → Nat → Int32 → Hp → Option (Int32 × Hp)) (l0 : Unit) (l1 : Nat) (l2 : Nat) (l3 : Int32) (h : Hp) : Option (Int32 × Hp) :=
gd (okSc sc (l3 + (1 : Int32))) <|
gd (okSc sc (l3 + (2 : Int32))) <|
gd (okOb h l1 9) <|
bnd (f_X9_forme h l1 (sc.2 (l3 + (1 : Int32)).toNatClampNeg) (sc.2 (l3 + (2 : Int32)).toNatClampNeg)) fun v225 h226 =>
gd (okSc sc (l3 + (1 : Int32))) <|
gd (okSc sc (l3 + (2 : Int32))) <|
gd (okOb h226 l2 10) <|
bnd (f_X10_forme h226 l2 (sc.2 (l3 + (1 : Int32)).toNatClampNeg) (sc.2 (l3 + (2 : Int32)).toNatClampNeg)) fun v230 h231 =>
if v225 = v230 then (
vl (l3 + (6 : Int32)) fun x233 =>
k18 l0 l1 l2 x233 h231) else (
some ((0 : Int32), h231))
set_option maxHeartbeats 4000000 in
set_option maxRecDepth 100000 in
theorem t_L_law_J746 {sc : Sc} {X : Cx} {h0 h' : Hp} {k18 : Unit → Nat → Nat → Int32 → Hp → Option (Int32 × Hp)} (hk18 : ∀ (z0 : Unit) (z1 : Nat) (z2 : Nat) (z3 : Int32) (h : Hp), k18 z0 z1 z2 z3 h = some ((1 : Int32), h') → LW sc X mL_law h0 h' 18 [some (.retAddr 0), some (.ref z1), some (.ref z2), some (.int z3)] [] h) : ∀ (l0 : Unit) (l1 : Nat) (l2 : Nat) (l3 : Int32) (h : Hp), f_L_law_J746 sc k18 l0 l1 l2 l3 h = some ((1 : Int32), h') → LW sc X mL_law h0 h' 746 [some (.retAddr 0), some (.ref l1), some (.ref l2), some (.int l3)] [] h := by
  intro l0 l1 l2 l3 h H
  unfold f_L_law_J746 at H
  refine lw_aload_n dL_law_746 rfl rfl ?_
  refine lw_aload_s dL_law_747 rfl rfl ?_
  refine lw_iload_n dL_law_748 rfl rfl ?_
  refine lw_iconst (v := (1 : Int32)) dL_law_749 (by decide) ?_
  refine lw_iadd dL_law_750 ?_
  replace H := gd_some H
  obtain ⟨g222, H⟩ := H
  refine lw_sld dL_law_751 (okSc.p g222) ?_
  refine lw_aload_s dL_law_752 rfl rfl ?_
  refine lw_iload_n dL_law_753 rfl rfl ?_
  refine lw_iconst (v := (2 : Int32)) dL_law_754 (by decide) ?_
  refine lw_iadd dL_law_755 ?_
  replace H := gd_some H
  obtain ⟨g223, H⟩ := H
  refine lw_sld dL_law_756 (okSc.p g223) ?_
  replace H := gd_some H
  obtain ⟨g224, H⟩ := H
  replace H := bnd_some H
  obtain ⟨v225, h226, eh226, H⟩ := H
  have ph226 := t_X9_forme (X := X) (d := 3) (Nat.le_refl _) eh226
  refine lw_callV (as := [.int (sc.2 (l3 + (1 : Int32)).toNatClampNeg), .int (sc.2 (l3 + (2 : Int32)).toNatClampNeg)]) dL_law_757 ph226 ok_X9_forme (by decide) rfl k3_82 k3_83 k3_84 (ci := 9) (by decide) rfl rfl (okOb.p g224) rfl (Nat.le_of_ble_eq_true rfl) ?_
  refine lw_aload_n dL_law_760 rfl rfl ?_
  refine lw_aload_s dL_law_761 rfl rfl ?_
  refine lw_iload_n dL_law_762 rfl rfl ?_
  refine lw_iconst (v := (1 : Int32)) dL_law_763 (by decide) ?_
  refine lw_iadd dL_law_764 ?_
  replace H := gd_some H
  obtain ⟨g227, H⟩ := H
  refine lw_sld dL_law_765 (okSc.p g227) ?_
  refine lw_aload_s dL_law_766 rfl rfl ?_
  refine lw_iload_n dL_law_767 rfl rfl ?_
  refine lw_iconst (v := (2 : Int32)) dL_law_768 (by decide) ?_
  refine lw_iadd dL_law_769 ?_
  replace H := gd_some H
  obtain ⟨g228, H⟩ := H
  refine lw_sld dL_law_770 (okSc.p g228) ?_
  replace H := gd_some H
  obtain ⟨g229, H⟩ := H
  replace H := bnd_some H
  obtain ⟨v230, h231, eh231, H⟩ := H
  have ph231 := t_X10_forme (X := X) (d := 2) (Nat.le_refl _) eh231
  refine lw_callV (as := [.int (sc.2 (l3 + (1 : Int32)).toNatClampNeg), .int (sc.2 (l3 + (2 : Int32)).toNatClampNeg)]) dL_law_771 ph231 ok_X10_forme (by decide) rfl k5_192 k5_193 k5_194 (ci := 10) (by decide) rfl rfl (okOb.p g229) rfl (Nat.le_of_ble_eq_true rfl) ?_
  refine lw_icmp_eq (tgt := 1293) dL_law_774 (by decide) (fun c232 => ?_) (fun c232 => ?_)
  · rw [if_pos c232] at H
    replace H := vl_some H
    obtain ⟨x233, ex233, H⟩ := H
    refine lw_iincx (loc2 := [some (.retAddr 0), some (.ref l1), some (.ref l2), some (.int x233)]) dL_law_1293 rfl (by decide) ex233 (by decide) rfl ?_
    refine lw_goto (tgt := 18) dL_law_1296 (by decide) ?_
    exact hk18 l0 l1 l2 x233 h231 H
  · rw [if_neg c232] at H
    refine lw_iconst (v := (0 : Int32)) dL_law_777 (by decide) ?_
    exact lw_iret rfl rfl dL_law_778 H
def f_L_law_J779 (sc : Sc) (k18 : Unit → Nat → Nat → Int32 → Hp → Option (Int32 × Hp)) (l0 : Unit) (l1 : Nat) (l2 : Nat) (l3 : Int32) (h : Hp) : Option (Int32 × Hp) :=
gd (okSc sc (l3 + (1 : Int32))) <|
gd (okSc sc (l3 + (2 : Int32))) <|
gd (okSc sc (l3 + (3 : Int32))) <|
gd (okOb h l1 9) <|
bnd (f_X9_state h l1 (sc.2 (l3 + (1 : Int32)).toNatClampNeg) (sc.2 (l3 + (2 : Int32)).toNatClampNeg) (sc.2 (l3 + (3 : Int32)).toNatClampNeg)) fun v239 h240 =>
gd (okSc sc (l3 + (1 : Int32))) <|
gd (okSc sc (l3 + (2 : Int32))) <|
gd (okSc sc (l3 + (3 : Int32))) <|
gd (okOb h240 l2 10) <|
bnd (f_X10_state h240 l2 (sc.2 (l3 + (1 : Int32)).toNatClampNeg) (sc.2 (l3 + (2 : Int32)).toNatClampNeg) (sc.2 (l3 + (3 : Int32)).toNatClampNeg)) fun v245 h246 =>
if v239 = v245 then (
vl (l3 + (6 : Int32)) fun x248 =>
k18 l0 l1 l2 x248 h246) else (
some ((0 : Int32), h246))
set_option maxHeartbeats 4000000 in
set_option maxRecDepth 100000 in
theorem t_L_law_J779 {sc : Sc} {X : Cx} {h0 h' : Hp} {k18 : Unit → Nat → Nat → Int32 → Hp → Option (Int32 × Hp)} (hk18 : ∀ (z0 : Unit) (z1 : Nat) (z2 : Nat) (z3 : Int32) (h : Hp), k18 z0 z1 z2 z3 h = some ((1 : Int32), h') → LW sc X mL_law h0 h' 18 [some (.retAddr 0), some (.ref z1), some (.ref z2), some (.int z3)] [] h) : ∀ (l0 : Unit) (l1 : Nat) (l2 : Nat) (l3 : Int32) (h : Hp), f_L_law_J779 sc k18 l0 l1 l2 l3 h = some ((1 : Int32), h') → LW sc X mL_law h0 h' 779 [some (.retAddr 0), some (.ref l1), some (.ref l2), some (.int l3)] [] h := by
  intro l0 l1 l2 l3 h H
  unfold f_L_law_J779 at H
  refine lw_aload_n dL_law_779 rfl rfl ?_
  refine lw_aload_s dL_law_780 rfl rfl ?_
  refine lw_iload_n dL_law_781 rfl rfl ?_
  refine lw_iconst (v := (1 : Int32)) dL_law_782 (by decide) ?_
  refine lw_iadd dL_law_783 ?_
  replace H := gd_some H
  obtain ⟨g235, H⟩ := H
  refine lw_sld dL_law_784 (okSc.p g235) ?_
  refine lw_aload_s dL_law_785 rfl rfl ?_
  refine lw_iload_n dL_law_786 rfl rfl ?_
  refine lw_iconst (v := (2 : Int32)) dL_law_787 (by decide) ?_
  refine lw_iadd dL_law_788 ?_
  replace H := gd_some H
  obtain ⟨g236, H⟩ := H
  refine lw_sld dL_law_789 (okSc.p g236) ?_
  refine lw_aload_s dL_law_790 rfl rfl ?_
  refine lw_iload_n dL_law_791 rfl rfl ?_
  refine lw_iconst (v := (3 : Int32)) dL_law_792 (by decide) ?_
  refine lw_iadd dL_law_793 ?_
  replace H := gd_some H
  obtain ⟨g237, H⟩ := H
  refine lw_sld dL_law_794 (okSc.p g237) ?_
  replace H := gd_some H
  obtain ⟨g238, H⟩ := H
  replace H := bnd_some H
  obtain ⟨v239, h240, eh240, H⟩ := H
  have ph240 := t_X9_state (X := X) (d := 2) (Nat.le_refl _) eh240
  refine lw_callV (as := [.int (sc.2 (l3 + (1 : Int32)).toNatClampNeg), .int (sc.2 (l3 + (2 : Int32)).toNatClampNeg), .int (sc.2 (l3 + (3 : Int32)).toNatClampNeg)]) dL_law_795 ph240 ok_X9_state (by decide) rfl k3_86 k3_87 k3_88 (ci := 9) (by decide) rfl rfl (okOb.p g238) rfl (Nat.le_of_ble_eq_true rfl) ?_
  refine lw_aload_n dL_law_798 rfl rfl ?_
  refine lw_aload_s dL_law_799 rfl rfl ?_
  refine lw_iload_n dL_law_800 rfl rfl ?_
  refine lw_iconst (v := (1 : Int32)) dL_law_801 (by decide) ?_
  refine lw_iadd dL_law_802 ?_
  replace H := gd_some H
  obtain ⟨g241, H⟩ := H
  refine lw_sld dL_law_803 (okSc.p g241) ?_
  refine lw_aload_s dL_law_804 rfl rfl ?_
  refine lw_iload_n dL_law_805 rfl rfl ?_
  refine lw_iconst (v := (2 : Int32)) dL_law_806 (by decide) ?_
  refine lw_iadd dL_law_807 ?_
  replace H := gd_some H
  obtain ⟨g242, H⟩ := H
  refine lw_sld dL_law_808 (okSc.p g242) ?_
  refine lw_aload_s dL_law_809 rfl rfl ?_
  refine lw_iload_n dL_law_810 rfl rfl ?_
  refine lw_iconst (v := (3 : Int32)) dL_law_811 (by decide) ?_
  refine lw_iadd dL_law_812 ?_
  replace H := gd_some H
  obtain ⟨g243, H⟩ := H
  refine lw_sld dL_law_813 (okSc.p g243) ?_
  replace H := gd_some H
  obtain ⟨g244, H⟩ := H
  replace H := bnd_some H
  obtain ⟨v245, h246, eh246, H⟩ := H
  have ph246 := t_X10_state (X := X) (d := 3) (Nat.le_refl _) eh246
  refine lw_callV (as := [.int (sc.2 (l3 + (1 : Int32)).toNatClampNeg), .int (sc.2 (l3 + (2 : Int32)).toNatClampNeg), .int (sc.2 (l3 + (3 : Int32)).toNatClampNeg)]) dL_law_814 ph246 ok_X10_state (by decide) rfl k5_200 k5_201 k5_202 (ci := 10) (by decide) rfl rfl (okOb.p g244) rfl (Nat.le_of_ble_eq_true rfl) ?_
  refine lw_icmp_eq (tgt := 1293) dL_law_817 (by decide) (fun c247 => ?_) (fun c247 => ?_)
  · rw [if_pos c247] at H
    replace H := vl_some H
    obtain ⟨x248, ex248, H⟩ := H
    refine lw_iincx (loc2 := [some (.retAddr 0), some (.ref l1), some (.ref l2), some (.int x248)]) dL_law_1293 rfl (by decide) ex248 (by decide) rfl ?_
    refine lw_goto (tgt := 18) dL_law_1296 (by decide) ?_
    exact hk18 l0 l1 l2 x248 h246 H
  · rw [if_neg c247] at H
    refine lw_iconst (v := (0 : Int32)) dL_law_820 (by decide) ?_
    exact lw_iret rfl rfl dL_law_821 H
def f_L_law_J822 (sc : Sc) (k18 : Unit → Nat → Nat → Int32 → Hp → Option (Int32 × Hp)) (l0 : Unit) (l1 : Nat) (l2 : Nat) (l3 : Int32) (h : Hp) : Option (Int32 × Hp) :=
gd (okSc sc (l3 + (1 : Int32))) <|
gd (okSc sc (l3 + (2 : Int32))) <|
gd (okSc sc (l3 + (3 : Int32))) <|
gd (okSc sc (l3 + (4 : Int32))) <|
gd (okOb h l1 9) <|
bnd (f_X9_read h l1 (sc.2 (l3 + (1 : Int32)).toNatClampNeg) (sc.2 (l3 + (2 : Int32)).toNatClampNeg) (sc.2 (l3 + (3 : Int32)).toNatClampNeg) (sc.2 (l3 + (4 : Int32)).toNatClampNeg)) fun v255 h256 =>
gd (okSc sc (l3 + (1 : Int32))) <|
gd (okSc sc (l3 + (2 : Int32))) <|
gd (okSc sc (l3 + (3 : Int32))) <|
gd (okSc sc (l3 + (4 : Int32))) <|
gd (okOb h256 l2 10) <|
bnd (f_X10_read h256 l2 (sc.2 (l3 + (1 : Int32)).toNatClampNeg) (sc.2 (l3 + (2 : Int32)).toNatClampNeg) (sc.2 (l3 + (3 : Int32)).toNatClampNeg) (sc.2 (l3 + (4 : Int32)).toNatClampNeg)) fun v262 h263 =>
if v255 = v262 then (
vl (l3 + (6 : Int32)) fun x265 =>
k18 l0 l1 l2 x265 h263) else (
some ((0 : Int32), h263))
set_option maxHeartbeats 4000000 in
set_option maxRecDepth 100000 in
theorem t_L_law_J822 {sc : Sc} {X : Cx} {h0 h' : Hp} {k18 : Unit → Nat → Nat → Int32 → Hp → Option (Int32 × Hp)} (hk18 : ∀ (z0 : Unit) (z1 : Nat) (z2 : Nat) (z3 : Int32) (h : Hp), k18 z0 z1 z2 z3 h = some ((1 : Int32), h') → LW sc X mL_law h0 h' 18 [some (.retAddr 0), some (.ref z1), some (.ref z2), some (.int z3)] [] h) : ∀ (l0 : Unit) (l1 : Nat) (l2 : Nat) (l3 : Int32) (h : Hp), f_L_law_J822 sc k18 l0 l1 l2 l3 h = some ((1 : Int32), h') → LW sc X mL_law h0 h' 822 [some (.retAddr 0), some (.ref l1), some (.ref l2), some (.int l3)] [] h := by
  intro l0 l1 l2 l3 h H
  unfold f_L_law_J822 at H
  refine lw_aload_n dL_law_822 rfl rfl ?_
  refine lw_aload_s dL_law_823 rfl rfl ?_
  refine lw_iload_n dL_law_824 rfl rfl ?_
  refine lw_iconst (v := (1 : Int32)) dL_law_825 (by decide) ?_
  refine lw_iadd dL_law_826 ?_
  replace H := gd_some H
  obtain ⟨g250, H⟩ := H
  refine lw_sld dL_law_827 (okSc.p g250) ?_
  refine lw_aload_s dL_law_828 rfl rfl ?_
  refine lw_iload_n dL_law_829 rfl rfl ?_
  refine lw_iconst (v := (2 : Int32)) dL_law_830 (by decide) ?_
  refine lw_iadd dL_law_831 ?_
  replace H := gd_some H
  obtain ⟨g251, H⟩ := H
  refine lw_sld dL_law_832 (okSc.p g251) ?_
  refine lw_aload_s dL_law_833 rfl rfl ?_
  refine lw_iload_n dL_law_834 rfl rfl ?_
  refine lw_iconst (v := (3 : Int32)) dL_law_835 (by decide) ?_
  refine lw_iadd dL_law_836 ?_
  replace H := gd_some H
  obtain ⟨g252, H⟩ := H
  refine lw_sld dL_law_837 (okSc.p g252) ?_
  refine lw_aload_s dL_law_838 rfl rfl ?_
  refine lw_iload_n dL_law_839 rfl rfl ?_
  refine lw_iconst (v := (4 : Int32)) dL_law_840 (by decide) ?_
  refine lw_iadd dL_law_841 ?_
  replace H := gd_some H
  obtain ⟨g253, H⟩ := H
  refine lw_sld dL_law_842 (okSc.p g253) ?_
  replace H := gd_some H
  obtain ⟨g254, H⟩ := H
  replace H := bnd_some H
  obtain ⟨v255, h256, eh256, H⟩ := H
  have ph256 := t_X9_read (X := X) (d := 2) (Nat.le_refl _) eh256
  refine lw_callV (as := [.int (sc.2 (l3 + (1 : Int32)).toNatClampNeg), .int (sc.2 (l3 + (2 : Int32)).toNatClampNeg), .int (sc.2 (l3 + (3 : Int32)).toNatClampNeg), .int (sc.2 (l3 + (4 : Int32)).toNatClampNeg)]) dL_law_843 ph256 ok_X9_read (by decide) rfl k3_98 k3_99 k3_100 (ci := 9) (by decide) rfl rfl (okOb.p g254) rfl (Nat.le_of_ble_eq_true rfl) ?_
  refine lw_aload_n dL_law_846 rfl rfl ?_
  refine lw_aload_s dL_law_847 rfl rfl ?_
  refine lw_iload_n dL_law_848 rfl rfl ?_
  refine lw_iconst (v := (1 : Int32)) dL_law_849 (by decide) ?_
  refine lw_iadd dL_law_850 ?_
  replace H := gd_some H
  obtain ⟨g257, H⟩ := H
  refine lw_sld dL_law_851 (okSc.p g257) ?_
  refine lw_aload_s dL_law_852 rfl rfl ?_
  refine lw_iload_n dL_law_853 rfl rfl ?_
  refine lw_iconst (v := (2 : Int32)) dL_law_854 (by decide) ?_
  refine lw_iadd dL_law_855 ?_
  replace H := gd_some H
  obtain ⟨g258, H⟩ := H
  refine lw_sld dL_law_856 (okSc.p g258) ?_
  refine lw_aload_s dL_law_857 rfl rfl ?_
  refine lw_iload_n dL_law_858 rfl rfl ?_
  refine lw_iconst (v := (3 : Int32)) dL_law_859 (by decide) ?_
  refine lw_iadd dL_law_860 ?_
  replace H := gd_some H
  obtain ⟨g259, H⟩ := H
  refine lw_sld dL_law_861 (okSc.p g259) ?_
  refine lw_aload_s dL_law_862 rfl rfl ?_
  refine lw_iload_n dL_law_863 rfl rfl ?_
  refine lw_iconst (v := (4 : Int32)) dL_law_864 (by decide) ?_
  refine lw_iadd dL_law_865 ?_
  replace H := gd_some H
  obtain ⟨g260, H⟩ := H
  refine lw_sld dL_law_866 (okSc.p g260) ?_
  replace H := gd_some H
  obtain ⟨g261, H⟩ := H
  replace H := bnd_some H
  obtain ⟨v262, h263, eh263, H⟩ := H
  have ph263 := t_X10_read (X := X) (d := 3) (Nat.le_refl _) eh263
  refine lw_callV (as := [.int (sc.2 (l3 + (1 : Int32)).toNatClampNeg), .int (sc.2 (l3 + (2 : Int32)).toNatClampNeg), .int (sc.2 (l3 + (3 : Int32)).toNatClampNeg), .int (sc.2 (l3 + (4 : Int32)).toNatClampNeg)]) dL_law_867 ph263 ok_X10_read (by decide) rfl k5_212 k5_213 k5_214 (ci := 10) (by decide) rfl rfl (okOb.p g261) rfl (Nat.le_of_ble_eq_true rfl) ?_
  refine lw_icmp_eq (tgt := 1293) dL_law_870 (by decide) (fun c264 => ?_) (fun c264 => ?_)
  · rw [if_pos c264] at H
    replace H := vl_some H
    obtain ⟨x265, ex265, H⟩ := H
    refine lw_iincx (loc2 := [some (.retAddr 0), some (.ref l1), some (.ref l2), some (.int x265)]) dL_law_1293 rfl (by decide) ex265 (by decide) rfl ?_
    refine lw_goto (tgt := 18) dL_law_1296 (by decide) ?_
    exact hk18 l0 l1 l2 x265 h263 H
  · rw [if_neg c264] at H
    refine lw_iconst (v := (0 : Int32)) dL_law_873 (by decide) ?_
    exact lw_iret rfl rfl dL_law_874 H
def f_L_law_J875 (sc : Sc) (k18 : Unit → Nat → Nat → Int32 → Hp → Option (Int32 × Hp)) (l0 : Unit) (l1 : Nat) (l2 : Nat) (l3 : Int32) (h : Hp) : Option (Int32 × Hp) :=
gd (okSc sc (l3 + (1 : Int32))) <|
gd (okSc sc (l3 + (2 : Int32))) <|
gd (okSc sc (l3 + (3 : Int32))) <|
gd (okOb h l1 9) <|
bnd (f_X9_spoil h l1 (sc.2 (l3 + (1 : Int32)).toNatClampNeg) (sc.2 (l3 + (2 : Int32)).toNatClampNeg) (sc.2 (l3 + (3 : Int32)).toNatClampNeg)) fun v271 h272 =>
gd (okSc sc (l3 + (1 : Int32))) <|
gd (okSc sc (l3 + (2 : Int32))) <|
gd (okSc sc (l3 + (3 : Int32))) <|
gd (okOb h272 l2 10) <|
bnd (f_X10_spoil h272 l2 (sc.2 (l3 + (1 : Int32)).toNatClampNeg) (sc.2 (l3 + (2 : Int32)).toNatClampNeg) (sc.2 (l3 + (3 : Int32)).toNatClampNeg)) fun v277 h278 =>
if v271 = v277 then (
vl (l3 + (6 : Int32)) fun x280 =>
k18 l0 l1 l2 x280 h278) else (
some ((0 : Int32), h278))
set_option maxHeartbeats 4000000 in
set_option maxRecDepth 100000 in
theorem t_L_law_J875 {sc : Sc} {X : Cx} {h0 h' : Hp} {k18 : Unit → Nat → Nat → Int32 → Hp → Option (Int32 × Hp)} (hk18 : ∀ (z0 : Unit) (z1 : Nat) (z2 : Nat) (z3 : Int32) (h : Hp), k18 z0 z1 z2 z3 h = some ((1 : Int32), h') → LW sc X mL_law h0 h' 18 [some (.retAddr 0), some (.ref z1), some (.ref z2), some (.int z3)] [] h) : ∀ (l0 : Unit) (l1 : Nat) (l2 : Nat) (l3 : Int32) (h : Hp), f_L_law_J875 sc k18 l0 l1 l2 l3 h = some ((1 : Int32), h') → LW sc X mL_law h0 h' 875 [some (.retAddr 0), some (.ref l1), some (.ref l2), some (.int l3)] [] h := by
  intro l0 l1 l2 l3 h H
  unfold f_L_law_J875 at H
  refine lw_aload_n dL_law_875 rfl rfl ?_
  refine lw_aload_s dL_law_876 rfl rfl ?_
  refine lw_iload_n dL_law_877 rfl rfl ?_
  refine lw_iconst (v := (1 : Int32)) dL_law_878 (by decide) ?_
  refine lw_iadd dL_law_879 ?_
  replace H := gd_some H
  obtain ⟨g267, H⟩ := H
  refine lw_sld dL_law_880 (okSc.p g267) ?_
  refine lw_aload_s dL_law_881 rfl rfl ?_
  refine lw_iload_n dL_law_882 rfl rfl ?_
  refine lw_iconst (v := (2 : Int32)) dL_law_883 (by decide) ?_
  refine lw_iadd dL_law_884 ?_
  replace H := gd_some H
  obtain ⟨g268, H⟩ := H
  refine lw_sld dL_law_885 (okSc.p g268) ?_
  refine lw_aload_s dL_law_886 rfl rfl ?_
  refine lw_iload_n dL_law_887 rfl rfl ?_
  refine lw_iconst (v := (3 : Int32)) dL_law_888 (by decide) ?_
  refine lw_iadd dL_law_889 ?_
  replace H := gd_some H
  obtain ⟨g269, H⟩ := H
  refine lw_sld dL_law_890 (okSc.p g269) ?_
  replace H := gd_some H
  obtain ⟨g270, H⟩ := H
  replace H := bnd_some H
  obtain ⟨v271, h272, eh272, H⟩ := H
  have ph272 := t_X9_spoil (X := X) (d := 2) (Nat.le_refl _) eh272
  refine lw_callV (as := [.int (sc.2 (l3 + (1 : Int32)).toNatClampNeg), .int (sc.2 (l3 + (2 : Int32)).toNatClampNeg), .int (sc.2 (l3 + (3 : Int32)).toNatClampNeg)]) dL_law_891 ph272 ok_X9_spoil (by decide) rfl k3_110 k3_111 k3_112 (ci := 9) (by decide) rfl rfl (okOb.p g270) rfl (Nat.le_of_ble_eq_true rfl) ?_
  refine lw_aload_n dL_law_894 rfl rfl ?_
  refine lw_aload_s dL_law_895 rfl rfl ?_
  refine lw_iload_n dL_law_896 rfl rfl ?_
  refine lw_iconst (v := (1 : Int32)) dL_law_897 (by decide) ?_
  refine lw_iadd dL_law_898 ?_
  replace H := gd_some H
  obtain ⟨g273, H⟩ := H
  refine lw_sld dL_law_899 (okSc.p g273) ?_
  refine lw_aload_s dL_law_900 rfl rfl ?_
  refine lw_iload_n dL_law_901 rfl rfl ?_
  refine lw_iconst (v := (2 : Int32)) dL_law_902 (by decide) ?_
  refine lw_iadd dL_law_903 ?_
  replace H := gd_some H
  obtain ⟨g274, H⟩ := H
  refine lw_sld dL_law_904 (okSc.p g274) ?_
  refine lw_aload_s dL_law_905 rfl rfl ?_
  refine lw_iload_n dL_law_906 rfl rfl ?_
  refine lw_iconst (v := (3 : Int32)) dL_law_907 (by decide) ?_
  refine lw_iadd dL_law_908 ?_
  replace H := gd_some H
  obtain ⟨g275, H⟩ := H
  refine lw_sld dL_law_909 (okSc.p g275) ?_
  replace H := gd_some H
  obtain ⟨g276, H⟩ := H
  replace H := bnd_some H
  obtain ⟨v277, h278, eh278, H⟩ := H
  have ph278 := t_X10_spoil (X := X) (d := 3) (Nat.le_refl _) eh278
  refine lw_callV (as := [.int (sc.2 (l3 + (1 : Int32)).toNatClampNeg), .int (sc.2 (l3 + (2 : Int32)).toNatClampNeg), .int (sc.2 (l3 + (3 : Int32)).toNatClampNeg)]) dL_law_910 ph278 ok_X10_spoil (by decide) rfl k5_216 k5_217 k5_218 (ci := 10) (by decide) rfl rfl (okOb.p g276) rfl (Nat.le_of_ble_eq_true rfl) ?_
  refine lw_icmp_eq (tgt := 1293) dL_law_913 (by decide) (fun c279 => ?_) (fun c279 => ?_)
  · rw [if_pos c279] at H
    replace H := vl_some H
    obtain ⟨x280, ex280, H⟩ := H
    refine lw_iincx (loc2 := [some (.retAddr 0), some (.ref l1), some (.ref l2), some (.int x280)]) dL_law_1293 rfl (by decide) ex280 (by decide) rfl ?_
    refine lw_goto (tgt := 18) dL_law_1296 (by decide) ?_
    exact hk18 l0 l1 l2 x280 h278 H
  · rw [if_neg c279] at H
    refine lw_iconst (v := (0 : Int32)) dL_law_916 (by decide) ?_
    exact lw_iret rfl rfl dL_law_917 H
def f_L_law_J918 (sc : Sc) (k18 : Unit → Nat → Nat → Int32 → Hp → Option (Int32 × Hp)) (l0 : Unit) (l1 : Nat) (l2 : Nat) (l3 : Int32) (h : Hp) : Option (Int32 × Hp) :=
gd (okOb h l1 9) <|
bnd (f_X9_books h l1) fun v283 h284 =>
gd (okOb h284 l2 10) <|
bnd (f_X10_books h284 l2) fun v286 h287 =>
if v283 = v286 then (
vl (l3 + (6 : Int32)) fun x289 =>
k18 l0 l1 l2 x289 h287) else (
some ((0 : Int32), h287))
set_option maxHeartbeats 4000000 in
set_option maxRecDepth 100000 in
theorem t_L_law_J918 {sc : Sc} {X : Cx} {h0 h' : Hp} {k18 : Unit → Nat → Nat → Int32 → Hp → Option (Int32 × Hp)} (hk18 : ∀ (z0 : Unit) (z1 : Nat) (z2 : Nat) (z3 : Int32) (h : Hp), k18 z0 z1 z2 z3 h = some ((1 : Int32), h') → LW sc X mL_law h0 h' 18 [some (.retAddr 0), some (.ref z1), some (.ref z2), some (.int z3)] [] h) : ∀ (l0 : Unit) (l1 : Nat) (l2 : Nat) (l3 : Int32) (h : Hp), f_L_law_J918 sc k18 l0 l1 l2 l3 h = some ((1 : Int32), h') → LW sc X mL_law h0 h' 918 [some (.retAddr 0), some (.ref l1), some (.ref l2), some (.int l3)] [] h := by
  intro l0 l1 l2 l3 h H
  unfold f_L_law_J918 at H
  refine lw_aload_n dL_law_918 rfl rfl ?_
  replace H := gd_some H
  obtain ⟨g282, H⟩ := H
  replace H := bnd_some H
  obtain ⟨v283, h284, eh284, H⟩ := H
  have ph284 := t_X9_books (X := X) (d := 3) (Nat.le_refl _) eh284
  refine lw_callV (as := []) dL_law_919 ph284 ok_X9_books (by decide) rfl k3_130 k3_131 k3_132 (ci := 9) (by decide) rfl rfl (okOb.p g282) rfl (Nat.le_of_ble_eq_true rfl) ?_
  refine lw_aload_n dL_law_922 rfl rfl ?_
  replace H := gd_some H
  obtain ⟨g285, H⟩ := H
  replace H := bnd_some H
  obtain ⟨v286, h287, eh287, H⟩ := H
  have ph287 := t_X10_books (X := X) (d := 4) (Nat.le_refl _) eh287
  refine lw_callV (as := []) dL_law_923 ph287 ok_X10_books (by decide) rfl k5_228 k5_229 k5_230 (ci := 10) (by decide) rfl rfl (okOb.p g285) rfl (Nat.le_of_ble_eq_true rfl) ?_
  refine lw_icmp_eq (tgt := 1293) dL_law_926 (by decide) (fun c288 => ?_) (fun c288 => ?_)
  · rw [if_pos c288] at H
    replace H := vl_some H
    obtain ⟨x289, ex289, H⟩ := H
    refine lw_iincx (loc2 := [some (.retAddr 0), some (.ref l1), some (.ref l2), some (.int x289)]) dL_law_1293 rfl (by decide) ex289 (by decide) rfl ?_
    refine lw_goto (tgt := 18) dL_law_1296 (by decide) ?_
    exact hk18 l0 l1 l2 x289 h287 H
  · rw [if_neg c288] at H
    refine lw_iconst (v := (0 : Int32)) dL_law_929 (by decide) ?_
    exact lw_iret rfl rfl dL_law_930 H
def f_L_law_J931 (sc : Sc) (k18 : Unit → Nat → Nat → Int32 → Hp → Option (Int32 × Hp)) (l0 : Unit) (l1 : Nat) (l2 : Nat) (l3 : Int32) (h : Hp) : Option (Int32 × Hp) :=
gd (okSc sc (l3 + (1 : Int32))) <|
gd (okSc sc (l3 + (2 : Int32))) <|
gd (okOb h l1 9) <|
bnd (f_X9_inBook h l1 (sc.2 (l3 + (1 : Int32)).toNatClampNeg) (sc.2 (l3 + (2 : Int32)).toNatClampNeg)) fun v294 h295 =>
gd (okSc sc (l3 + (1 : Int32))) <|
gd (okSc sc (l3 + (2 : Int32))) <|
gd (okOb h295 l2 10) <|
bnd (f_X10_inBook h295 l2 (sc.2 (l3 + (1 : Int32)).toNatClampNeg) (sc.2 (l3 + (2 : Int32)).toNatClampNeg)) fun v299 h300 =>
if v294 = v299 then (
vl (l3 + (6 : Int32)) fun x302 =>
k18 l0 l1 l2 x302 h300) else (
some ((0 : Int32), h300))
set_option maxHeartbeats 4000000 in
set_option maxRecDepth 100000 in
theorem t_L_law_J931 {sc : Sc} {X : Cx} {h0 h' : Hp} {k18 : Unit → Nat → Nat → Int32 → Hp → Option (Int32 × Hp)} (hk18 : ∀ (z0 : Unit) (z1 : Nat) (z2 : Nat) (z3 : Int32) (h : Hp), k18 z0 z1 z2 z3 h = some ((1 : Int32), h') → LW sc X mL_law h0 h' 18 [some (.retAddr 0), some (.ref z1), some (.ref z2), some (.int z3)] [] h) : ∀ (l0 : Unit) (l1 : Nat) (l2 : Nat) (l3 : Int32) (h : Hp), f_L_law_J931 sc k18 l0 l1 l2 l3 h = some ((1 : Int32), h') → LW sc X mL_law h0 h' 931 [some (.retAddr 0), some (.ref l1), some (.ref l2), some (.int l3)] [] h := by
  intro l0 l1 l2 l3 h H
  unfold f_L_law_J931 at H
  refine lw_aload_n dL_law_931 rfl rfl ?_
  refine lw_aload_s dL_law_932 rfl rfl ?_
  refine lw_iload_n dL_law_933 rfl rfl ?_
  refine lw_iconst (v := (1 : Int32)) dL_law_934 (by decide) ?_
  refine lw_iadd dL_law_935 ?_
  replace H := gd_some H
  obtain ⟨g291, H⟩ := H
  refine lw_sld dL_law_936 (okSc.p g291) ?_
  refine lw_aload_s dL_law_937 rfl rfl ?_
  refine lw_iload_n dL_law_938 rfl rfl ?_
  refine lw_iconst (v := (2 : Int32)) dL_law_939 (by decide) ?_
  refine lw_iadd dL_law_940 ?_
  replace H := gd_some H
  obtain ⟨g292, H⟩ := H
  refine lw_sld dL_law_941 (okSc.p g292) ?_
  replace H := gd_some H
  obtain ⟨g293, H⟩ := H
  replace H := bnd_some H
  obtain ⟨v294, h295, eh295, H⟩ := H
  have ph295 := t_X9_inBook (X := X) (d := 3) (Nat.le_refl _) eh295
  refine lw_callV (as := [.int (sc.2 (l3 + (1 : Int32)).toNatClampNeg), .int (sc.2 (l3 + (2 : Int32)).toNatClampNeg)]) dL_law_942 ph295 ok_X9_inBook (by decide) rfl k3_142 k3_143 k3_144 (ci := 9) (by decide) rfl rfl (okOb.p g293) rfl (Nat.le_of_ble_eq_true rfl) ?_
  refine lw_aload_n dL_law_945 rfl rfl ?_
  refine lw_aload_s dL_law_946 rfl rfl ?_
  refine lw_iload_n dL_law_947 rfl rfl ?_
  refine lw_iconst (v := (1 : Int32)) dL_law_948 (by decide) ?_
  refine lw_iadd dL_law_949 ?_
  replace H := gd_some H
  obtain ⟨g296, H⟩ := H
  refine lw_sld dL_law_950 (okSc.p g296) ?_
  refine lw_aload_s dL_law_951 rfl rfl ?_
  refine lw_iload_n dL_law_952 rfl rfl ?_
  refine lw_iconst (v := (2 : Int32)) dL_law_953 (by decide) ?_
  refine lw_iadd dL_law_954 ?_
  replace H := gd_some H
  obtain ⟨g297, H⟩ := H
  refine lw_sld dL_law_955 (okSc.p g297) ?_
  replace H := gd_some H
  obtain ⟨g298, H⟩ := H
  replace H := bnd_some H
  obtain ⟨v299, h300, eh300, H⟩ := H
  have ph300 := t_X10_inBook (X := X) (d := 4) (Nat.le_refl _) eh300
  refine lw_callV (as := [.int (sc.2 (l3 + (1 : Int32)).toNatClampNeg), .int (sc.2 (l3 + (2 : Int32)).toNatClampNeg)]) dL_law_956 ph300 ok_X10_inBook (by decide) rfl k6_0 k6_1 k6_2 (ci := 10) (by decide) rfl rfl (okOb.p g298) rfl (Nat.le_of_ble_eq_true rfl) ?_
  refine lw_icmp_eq (tgt := 1293) dL_law_959 (by decide) (fun c301 => ?_) (fun c301 => ?_)
  · rw [if_pos c301] at H
    replace H := vl_some H
    obtain ⟨x302, ex302, H⟩ := H
    refine lw_iincx (loc2 := [some (.retAddr 0), some (.ref l1), some (.ref l2), some (.int x302)]) dL_law_1293 rfl (by decide) ex302 (by decide) rfl ?_
    refine lw_goto (tgt := 18) dL_law_1296 (by decide) ?_
    exact hk18 l0 l1 l2 x302 h300 H
  · rw [if_neg c301] at H
    refine lw_iconst (v := (0 : Int32)) dL_law_962 (by decide) ?_
    exact lw_iret rfl rfl dL_law_963 H
def f_L_law_J964 (sc : Sc) (k18 : Unit → Nat → Nat → Int32 → Hp → Option (Int32 × Hp)) (l0 : Unit) (l1 : Nat) (l2 : Nat) (l3 : Int32) (h : Hp) : Option (Int32 × Hp) :=
gd (okSc sc (l3 + (1 : Int32))) <|
gd (okSc sc (l3 + (2 : Int32))) <|
gd (okOb h l1 9) <|
bnd (f_X9_unlike h l1 (sc.2 (l3 + (1 : Int32)).toNatClampNeg) (sc.2 (l3 + (2 : Int32)).toNatClampNeg)) fun v307 h308 =>
gd (okSc sc (l3 + (1 : Int32))) <|
gd (okSc sc (l3 + (2 : Int32))) <|
gd (okOb h308 l2 10) <|
bnd (f_X10_unlike h308 l2 (sc.2 (l3 + (1 : Int32)).toNatClampNeg) (sc.2 (l3 + (2 : Int32)).toNatClampNeg)) fun v312 h313 =>
if v307 = v312 then (
vl (l3 + (6 : Int32)) fun x315 =>
k18 l0 l1 l2 x315 h313) else (
some ((0 : Int32), h313))
set_option maxHeartbeats 4000000 in
set_option maxRecDepth 100000 in
theorem t_L_law_J964 {sc : Sc} {X : Cx} {h0 h' : Hp} {k18 : Unit → Nat → Nat → Int32 → Hp → Option (Int32 × Hp)} (hk18 : ∀ (z0 : Unit) (z1 : Nat) (z2 : Nat) (z3 : Int32) (h : Hp), k18 z0 z1 z2 z3 h = some ((1 : Int32), h') → LW sc X mL_law h0 h' 18 [some (.retAddr 0), some (.ref z1), some (.ref z2), some (.int z3)] [] h) : ∀ (l0 : Unit) (l1 : Nat) (l2 : Nat) (l3 : Int32) (h : Hp), f_L_law_J964 sc k18 l0 l1 l2 l3 h = some ((1 : Int32), h') → LW sc X mL_law h0 h' 964 [some (.retAddr 0), some (.ref l1), some (.ref l2), some (.int l3)] [] h := by
  intro l0 l1 l2 l3 h H
  unfold f_L_law_J964 at H
  refine lw_aload_n dL_law_964 rfl rfl ?_
  refine lw_aload_s dL_law_965 rfl rfl ?_
  refine lw_iload_n dL_law_966 rfl rfl ?_
  refine lw_iconst (v := (1 : Int32)) dL_law_967 (by decide) ?_
  refine lw_iadd dL_law_968 ?_
  replace H := gd_some H
  obtain ⟨g304, H⟩ := H
  refine lw_sld dL_law_969 (okSc.p g304) ?_
  refine lw_aload_s dL_law_970 rfl rfl ?_
  refine lw_iload_n dL_law_971 rfl rfl ?_
  refine lw_iconst (v := (2 : Int32)) dL_law_972 (by decide) ?_
  refine lw_iadd dL_law_973 ?_
  replace H := gd_some H
  obtain ⟨g305, H⟩ := H
  refine lw_sld dL_law_974 (okSc.p g305) ?_
  replace H := gd_some H
  obtain ⟨g306, H⟩ := H
  replace H := bnd_some H
  obtain ⟨v307, h308, eh308, H⟩ := H
  have ph308 := t_X9_unlike (X := X) (d := 3) (Nat.le_refl _) eh308
  refine lw_callV (as := [.int (sc.2 (l3 + (1 : Int32)).toNatClampNeg), .int (sc.2 (l3 + (2 : Int32)).toNatClampNeg)]) dL_law_975 ph308 ok_X9_unlike (by decide) rfl k3_146 k3_147 k3_148 (ci := 9) (by decide) rfl rfl (okOb.p g306) rfl (Nat.le_of_ble_eq_true rfl) ?_
  refine lw_aload_n dL_law_978 rfl rfl ?_
  refine lw_aload_s dL_law_979 rfl rfl ?_
  refine lw_iload_n dL_law_980 rfl rfl ?_
  refine lw_iconst (v := (1 : Int32)) dL_law_981 (by decide) ?_
  refine lw_iadd dL_law_982 ?_
  replace H := gd_some H
  obtain ⟨g309, H⟩ := H
  refine lw_sld dL_law_983 (okSc.p g309) ?_
  refine lw_aload_s dL_law_984 rfl rfl ?_
  refine lw_iload_n dL_law_985 rfl rfl ?_
  refine lw_iconst (v := (2 : Int32)) dL_law_986 (by decide) ?_
  refine lw_iadd dL_law_987 ?_
  replace H := gd_some H
  obtain ⟨g310, H⟩ := H
  refine lw_sld dL_law_988 (okSc.p g310) ?_
  replace H := gd_some H
  obtain ⟨g311, H⟩ := H
  replace H := bnd_some H
  obtain ⟨v312, h313, eh313, H⟩ := H
  have ph313 := t_X10_unlike (X := X) (d := 4) (Nat.le_refl _) eh313
  refine lw_callV (as := [.int (sc.2 (l3 + (1 : Int32)).toNatClampNeg), .int (sc.2 (l3 + (2 : Int32)).toNatClampNeg)]) dL_law_989 ph313 ok_X10_unlike (by decide) rfl k6_4 k6_5 k6_6 (ci := 10) (by decide) rfl rfl (okOb.p g311) rfl (Nat.le_of_ble_eq_true rfl) ?_
  refine lw_icmp_eq (tgt := 1293) dL_law_992 (by decide) (fun c314 => ?_) (fun c314 => ?_)
  · rw [if_pos c314] at H
    replace H := vl_some H
    obtain ⟨x315, ex315, H⟩ := H
    refine lw_iincx (loc2 := [some (.retAddr 0), some (.ref l1), some (.ref l2), some (.int x315)]) dL_law_1293 rfl (by decide) ex315 (by decide) rfl ?_
    refine lw_goto (tgt := 18) dL_law_1296 (by decide) ?_
    exact hk18 l0 l1 l2 x315 h313 H
  · rw [if_neg c314] at H
    refine lw_iconst (v := (0 : Int32)) dL_law_995 (by decide) ?_
    exact lw_iret rfl rfl dL_law_996 H
def f_L_law_J997 (sc : Sc) (k18 : Unit → Nat → Nat → Int32 → Hp → Option (Int32 × Hp)) (l0 : Unit) (l1 : Nat) (l2 : Nat) (l3 : Int32) (h : Hp) : Option (Int32 × Hp) :=
gd (okOb h l1 9) <|
bnd (f_X9_kinds h l1) fun v318 h319 =>
gd (okOb h319 l2 10) <|
bnd (f_X10_kinds h319 l2) fun v321 h322 =>
if v318 = v321 then (
vl (l3 + (6 : Int32)) fun x324 =>
k18 l0 l1 l2 x324 h322) else (
some ((0 : Int32), h322))
set_option maxHeartbeats 4000000 in
set_option maxRecDepth 100000 in
theorem t_L_law_J997 {sc : Sc} {X : Cx} {h0 h' : Hp} {k18 : Unit → Nat → Nat → Int32 → Hp → Option (Int32 × Hp)} (hk18 : ∀ (z0 : Unit) (z1 : Nat) (z2 : Nat) (z3 : Int32) (h : Hp), k18 z0 z1 z2 z3 h = some ((1 : Int32), h') → LW sc X mL_law h0 h' 18 [some (.retAddr 0), some (.ref z1), some (.ref z2), some (.int z3)] [] h) : ∀ (l0 : Unit) (l1 : Nat) (l2 : Nat) (l3 : Int32) (h : Hp), f_L_law_J997 sc k18 l0 l1 l2 l3 h = some ((1 : Int32), h') → LW sc X mL_law h0 h' 997 [some (.retAddr 0), some (.ref l1), some (.ref l2), some (.int l3)] [] h := by
  intro l0 l1 l2 l3 h H
  unfold f_L_law_J997 at H
  refine lw_aload_n dL_law_997 rfl rfl ?_
  replace H := gd_some H
  obtain ⟨g317, H⟩ := H
  replace H := bnd_some H
  obtain ⟨v318, h319, eh319, H⟩ := H
  have ph319 := t_X9_kinds (X := X) (d := 4) (Nat.le_refl _) eh319
  refine lw_callV (as := []) dL_law_998 ph319 ok_X9_kinds (by decide) rfl k3_158 k3_159 k3_160 (ci := 9) (by decide) rfl rfl (okOb.p g317) rfl (Nat.le_of_ble_eq_true rfl) ?_
  refine lw_aload_n dL_law_1001 rfl rfl ?_
  replace H := gd_some H
  obtain ⟨g320, H⟩ := H
  replace H := bnd_some H
  obtain ⟨v321, h322, eh322, H⟩ := H
  have ph322 := t_X10_kinds (X := X) (d := 4) (Nat.le_refl _) eh322
  refine lw_callV (as := []) dL_law_1002 ph322 ok_X10_kinds (by decide) rfl k6_12 k6_13 k6_14 (ci := 10) (by decide) rfl rfl (okOb.p g320) rfl (Nat.le_of_ble_eq_true rfl) ?_
  refine lw_icmp_eq (tgt := 1293) dL_law_1005 (by decide) (fun c323 => ?_) (fun c323 => ?_)
  · rw [if_pos c323] at H
    replace H := vl_some H
    obtain ⟨x324, ex324, H⟩ := H
    refine lw_iincx (loc2 := [some (.retAddr 0), some (.ref l1), some (.ref l2), some (.int x324)]) dL_law_1293 rfl (by decide) ex324 (by decide) rfl ?_
    refine lw_goto (tgt := 18) dL_law_1296 (by decide) ?_
    exact hk18 l0 l1 l2 x324 h322 H
  · rw [if_neg c323] at H
    refine lw_iconst (v := (0 : Int32)) dL_law_1008 (by decide) ?_
    exact lw_iret rfl rfl dL_law_1009 H
def f_L_law_J1010 (sc : Sc) (k18 : Unit → Nat → Nat → Int32 → Hp → Option (Int32 × Hp)) (l0 : Unit) (l1 : Nat) (l2 : Nat) (l3 : Int32) (h : Hp) : Option (Int32 × Hp) :=
gd (okSc sc (l3 + (1 : Int32))) <|
gd (okSc sc (l3 + (2 : Int32))) <|
gd (okSc sc (l3 + (3 : Int32))) <|
gd (okOb h l1 9) <|
bnd (f_X9_seen h l1 (sc.2 (l3 + (1 : Int32)).toNatClampNeg) (sc.2 (l3 + (2 : Int32)).toNatClampNeg) (sc.2 (l3 + (3 : Int32)).toNatClampNeg)) fun v330 h331 =>
gd (okSc sc (l3 + (1 : Int32))) <|
gd (okSc sc (l3 + (2 : Int32))) <|
gd (okSc sc (l3 + (3 : Int32))) <|
gd (okOb h331 l2 10) <|
bnd (f_X10_seen h331 l2 (sc.2 (l3 + (1 : Int32)).toNatClampNeg) (sc.2 (l3 + (2 : Int32)).toNatClampNeg) (sc.2 (l3 + (3 : Int32)).toNatClampNeg)) fun v336 h337 =>
if v330 = v336 then (
vl (l3 + (6 : Int32)) fun x339 =>
k18 l0 l1 l2 x339 h337) else (
some ((0 : Int32), h337))
set_option maxHeartbeats 4000000 in
set_option maxRecDepth 100000 in
theorem t_L_law_J1010 {sc : Sc} {X : Cx} {h0 h' : Hp} {k18 : Unit → Nat → Nat → Int32 → Hp → Option (Int32 × Hp)} (hk18 : ∀ (z0 : Unit) (z1 : Nat) (z2 : Nat) (z3 : Int32) (h : Hp), k18 z0 z1 z2 z3 h = some ((1 : Int32), h') → LW sc X mL_law h0 h' 18 [some (.retAddr 0), some (.ref z1), some (.ref z2), some (.int z3)] [] h) : ∀ (l0 : Unit) (l1 : Nat) (l2 : Nat) (l3 : Int32) (h : Hp), f_L_law_J1010 sc k18 l0 l1 l2 l3 h = some ((1 : Int32), h') → LW sc X mL_law h0 h' 1010 [some (.retAddr 0), some (.ref l1), some (.ref l2), some (.int l3)] [] h := by
  intro l0 l1 l2 l3 h H
  unfold f_L_law_J1010 at H
  refine lw_aload_n dL_law_1010 rfl rfl ?_
  refine lw_aload_s dL_law_1011 rfl rfl ?_
  refine lw_iload_n dL_law_1012 rfl rfl ?_
  refine lw_iconst (v := (1 : Int32)) dL_law_1013 (by decide) ?_
  refine lw_iadd dL_law_1014 ?_
  replace H := gd_some H
  obtain ⟨g326, H⟩ := H
  refine lw_sld dL_law_1015 (okSc.p g326) ?_
  refine lw_aload_s dL_law_1016 rfl rfl ?_
  refine lw_iload_n dL_law_1017 rfl rfl ?_
  refine lw_iconst (v := (2 : Int32)) dL_law_1018 (by decide) ?_
  refine lw_iadd dL_law_1019 ?_
  replace H := gd_some H
  obtain ⟨g327, H⟩ := H
  refine lw_sld dL_law_1020 (okSc.p g327) ?_
  refine lw_aload_s dL_law_1021 rfl rfl ?_
  refine lw_iload_n dL_law_1022 rfl rfl ?_
  refine lw_iconst (v := (3 : Int32)) dL_law_1023 (by decide) ?_
  refine lw_iadd dL_law_1024 ?_
  replace H := gd_some H
  obtain ⟨g328, H⟩ := H
  refine lw_sld dL_law_1025 (okSc.p g328) ?_
  replace H := gd_some H
  obtain ⟨g329, H⟩ := H
  replace H := bnd_some H
  obtain ⟨v330, h331, eh331, H⟩ := H
  have ph331 := t_X9_seen (X := X) (d := 2) (Nat.le_refl _) eh331
  refine lw_callV (as := [.int (sc.2 (l3 + (1 : Int32)).toNatClampNeg), .int (sc.2 (l3 + (2 : Int32)).toNatClampNeg), .int (sc.2 (l3 + (3 : Int32)).toNatClampNeg)]) dL_law_1026 ph331 ok_X9_seen (by decide) rfl k3_166 k3_167 k3_168 (ci := 9) (by decide) rfl rfl (okOb.p g329) rfl (Nat.le_of_ble_eq_true rfl) ?_
  refine lw_aload_n dL_law_1029 rfl rfl ?_
  refine lw_aload_s dL_law_1030 rfl rfl ?_
  refine lw_iload_n dL_law_1031 rfl rfl ?_
  refine lw_iconst (v := (1 : Int32)) dL_law_1032 (by decide) ?_
  refine lw_iadd dL_law_1033 ?_
  replace H := gd_some H
  obtain ⟨g332, H⟩ := H
  refine lw_sld dL_law_1034 (okSc.p g332) ?_
  refine lw_aload_s dL_law_1035 rfl rfl ?_
  refine lw_iload_n dL_law_1036 rfl rfl ?_
  refine lw_iconst (v := (2 : Int32)) dL_law_1037 (by decide) ?_
  refine lw_iadd dL_law_1038 ?_
  replace H := gd_some H
  obtain ⟨g333, H⟩ := H
  refine lw_sld dL_law_1039 (okSc.p g333) ?_
  refine lw_aload_s dL_law_1040 rfl rfl ?_
  refine lw_iload_n dL_law_1041 rfl rfl ?_
  refine lw_iconst (v := (3 : Int32)) dL_law_1042 (by decide) ?_
  refine lw_iadd dL_law_1043 ?_
  replace H := gd_some H
  obtain ⟨g334, H⟩ := H
  refine lw_sld dL_law_1044 (okSc.p g334) ?_
  replace H := gd_some H
  obtain ⟨g335, H⟩ := H
  replace H := bnd_some H
  obtain ⟨v336, h337, eh337, H⟩ := H
  have ph337 := t_X10_seen (X := X) (d := 2) (Nat.le_refl _) eh337
  refine lw_callV (as := [.int (sc.2 (l3 + (1 : Int32)).toNatClampNeg), .int (sc.2 (l3 + (2 : Int32)).toNatClampNeg), .int (sc.2 (l3 + (3 : Int32)).toNatClampNeg)]) dL_law_1045 ph337 ok_X10_seen (by decide) rfl k6_16 k6_17 k6_18 (ci := 10) (by decide) rfl rfl (okOb.p g335) rfl (Nat.le_of_ble_eq_true rfl) ?_
  refine lw_icmp_eq (tgt := 1293) dL_law_1048 (by decide) (fun c338 => ?_) (fun c338 => ?_)
  · rw [if_pos c338] at H
    replace H := vl_some H
    obtain ⟨x339, ex339, H⟩ := H
    refine lw_iincx (loc2 := [some (.retAddr 0), some (.ref l1), some (.ref l2), some (.int x339)]) dL_law_1293 rfl (by decide) ex339 (by decide) rfl ?_
    refine lw_goto (tgt := 18) dL_law_1296 (by decide) ?_
    exact hk18 l0 l1 l2 x339 h337 H
  · rw [if_neg c338] at H
    refine lw_iconst (v := (0 : Int32)) dL_law_1051 (by decide) ?_
    exact lw_iret rfl rfl dL_law_1052 H
def f_L_law_J1053 (sc : Sc) (k18 : Unit → Nat → Nat → Int32 → Hp → Option (Int32 × Hp)) (l0 : Unit) (l1 : Nat) (l2 : Nat) (l3 : Int32) (h : Hp) : Option (Int32 × Hp) :=
gd (okSc sc (l3 + (1 : Int32))) <|
gd (okOb h l1 9) <|
bnd (f_X9_order h l1 (sc.2 (l3 + (1 : Int32)).toNatClampNeg)) fun v343 h344 =>
gd (okSc sc (l3 + (1 : Int32))) <|
gd (okOb h344 l2 10) <|
bnd (f_X10_order h344 l2 (sc.2 (l3 + (1 : Int32)).toNatClampNeg)) fun v347 h348 =>
if v343 = v347 then (
vl (l3 + (6 : Int32)) fun x350 =>
k18 l0 l1 l2 x350 h348) else (
some ((0 : Int32), h348))
set_option maxHeartbeats 4000000 in
set_option maxRecDepth 100000 in
theorem t_L_law_J1053 {sc : Sc} {X : Cx} {h0 h' : Hp} {k18 : Unit → Nat → Nat → Int32 → Hp → Option (Int32 × Hp)} (hk18 : ∀ (z0 : Unit) (z1 : Nat) (z2 : Nat) (z3 : Int32) (h : Hp), k18 z0 z1 z2 z3 h = some ((1 : Int32), h') → LW sc X mL_law h0 h' 18 [some (.retAddr 0), some (.ref z1), some (.ref z2), some (.int z3)] [] h) : ∀ (l0 : Unit) (l1 : Nat) (l2 : Nat) (l3 : Int32) (h : Hp), f_L_law_J1053 sc k18 l0 l1 l2 l3 h = some ((1 : Int32), h') → LW sc X mL_law h0 h' 1053 [some (.retAddr 0), some (.ref l1), some (.ref l2), some (.int l3)] [] h := by
  intro l0 l1 l2 l3 h H
  unfold f_L_law_J1053 at H
  refine lw_aload_n dL_law_1053 rfl rfl ?_
  refine lw_aload_s dL_law_1054 rfl rfl ?_
  refine lw_iload_n dL_law_1055 rfl rfl ?_
  refine lw_iconst (v := (1 : Int32)) dL_law_1056 (by decide) ?_
  refine lw_iadd dL_law_1057 ?_
  replace H := gd_some H
  obtain ⟨g341, H⟩ := H
  refine lw_sld dL_law_1058 (okSc.p g341) ?_
  replace H := gd_some H
  obtain ⟨g342, H⟩ := H
  replace H := bnd_some H
  obtain ⟨v343, h344, eh344, H⟩ := H
  have ph344 := t_X9_order (X := X) (d := 5) (Nat.le_refl _) eh344
  refine lw_callV (as := [.int (sc.2 (l3 + (1 : Int32)).toNatClampNeg)]) dL_law_1059 ph344 ok_X9_order (by decide) rfl k3_174 k3_175 k3_176 (ci := 9) (by decide) rfl rfl (okOb.p g342) rfl (Nat.le_of_ble_eq_true rfl) ?_
  refine lw_aload_n dL_law_1062 rfl rfl ?_
  refine lw_aload_s dL_law_1063 rfl rfl ?_
  refine lw_iload_n dL_law_1064 rfl rfl ?_
  refine lw_iconst (v := (1 : Int32)) dL_law_1065 (by decide) ?_
  refine lw_iadd dL_law_1066 ?_
  replace H := gd_some H
  obtain ⟨g345, H⟩ := H
  refine lw_sld dL_law_1067 (okSc.p g345) ?_
  replace H := gd_some H
  obtain ⟨g346, H⟩ := H
  replace H := bnd_some H
  obtain ⟨v347, h348, eh348, H⟩ := H
  have ph348 := t_X10_order (X := X) (d := 3) (Nat.le_refl _) eh348
  refine lw_callV (as := [.int (sc.2 (l3 + (1 : Int32)).toNatClampNeg)]) dL_law_1068 ph348 ok_X10_order (by decide) rfl k6_24 k6_25 k6_26 (ci := 10) (by decide) rfl rfl (okOb.p g346) rfl (Nat.le_of_ble_eq_true rfl) ?_
  refine lw_icmp_eq (tgt := 1293) dL_law_1071 (by decide) (fun c349 => ?_) (fun c349 => ?_)
  · rw [if_pos c349] at H
    replace H := vl_some H
    obtain ⟨x350, ex350, H⟩ := H
    refine lw_iincx (loc2 := [some (.retAddr 0), some (.ref l1), some (.ref l2), some (.int x350)]) dL_law_1293 rfl (by decide) ex350 (by decide) rfl ?_
    refine lw_goto (tgt := 18) dL_law_1296 (by decide) ?_
    exact hk18 l0 l1 l2 x350 h348 H
  · rw [if_neg c349] at H
    refine lw_iconst (v := (0 : Int32)) dL_law_1074 (by decide) ?_
    exact lw_iret rfl rfl dL_law_1075 H
def f_L_law_J1076 (sc : Sc) (k18 : Unit → Nat → Nat → Int32 → Hp → Option (Int32 × Hp)) (l0 : Unit) (l1 : Nat) (l2 : Nat) (l3 : Int32) (h : Hp) : Option (Int32 × Hp) :=
gd (okSc sc (l3 + (1 : Int32))) <|
gd (okOb h l1 9) <|
bnd (f_X9_ordered h l1 (sc.2 (l3 + (1 : Int32)).toNatClampNeg)) fun v354 h355 =>
gd (okSc sc (l3 + (1 : Int32))) <|
gd (okOb h355 l2 10) <|
bnd (f_X10_ordered h355 l2 (sc.2 (l3 + (1 : Int32)).toNatClampNeg)) fun v358 h359 =>
if v354 = v358 then (
vl (l3 + (6 : Int32)) fun x361 =>
k18 l0 l1 l2 x361 h359) else (
some ((0 : Int32), h359))
set_option maxHeartbeats 4000000 in
set_option maxRecDepth 100000 in
theorem t_L_law_J1076 {sc : Sc} {X : Cx} {h0 h' : Hp} {k18 : Unit → Nat → Nat → Int32 → Hp → Option (Int32 × Hp)} (hk18 : ∀ (z0 : Unit) (z1 : Nat) (z2 : Nat) (z3 : Int32) (h : Hp), k18 z0 z1 z2 z3 h = some ((1 : Int32), h') → LW sc X mL_law h0 h' 18 [some (.retAddr 0), some (.ref z1), some (.ref z2), some (.int z3)] [] h) : ∀ (l0 : Unit) (l1 : Nat) (l2 : Nat) (l3 : Int32) (h : Hp), f_L_law_J1076 sc k18 l0 l1 l2 l3 h = some ((1 : Int32), h') → LW sc X mL_law h0 h' 1076 [some (.retAddr 0), some (.ref l1), some (.ref l2), some (.int l3)] [] h := by
  intro l0 l1 l2 l3 h H
  unfold f_L_law_J1076 at H
  refine lw_aload_n dL_law_1076 rfl rfl ?_
  refine lw_aload_s dL_law_1077 rfl rfl ?_
  refine lw_iload_n dL_law_1078 rfl rfl ?_
  refine lw_iconst (v := (1 : Int32)) dL_law_1079 (by decide) ?_
  refine lw_iadd dL_law_1080 ?_
  replace H := gd_some H
  obtain ⟨g352, H⟩ := H
  refine lw_sld dL_law_1081 (okSc.p g352) ?_
  replace H := gd_some H
  obtain ⟨g353, H⟩ := H
  replace H := bnd_some H
  obtain ⟨v354, h355, eh355, H⟩ := H
  have ph355 := t_X9_ordered (X := X) (d := 1) (Nat.le_refl _) eh355
  refine lw_callV (as := [.int (sc.2 (l3 + (1 : Int32)).toNatClampNeg)]) dL_law_1082 ph355 ok_X9_ordered (by decide) rfl k3_213 k3_214 k3_215 (ci := 9) (by decide) rfl rfl (okOb.p g353) rfl (Nat.le_of_ble_eq_true rfl) ?_
  refine lw_aload_n dL_law_1085 rfl rfl ?_
  refine lw_aload_s dL_law_1086 rfl rfl ?_
  refine lw_iload_n dL_law_1087 rfl rfl ?_
  refine lw_iconst (v := (1 : Int32)) dL_law_1088 (by decide) ?_
  refine lw_iadd dL_law_1089 ?_
  replace H := gd_some H
  obtain ⟨g356, H⟩ := H
  refine lw_sld dL_law_1090 (okSc.p g356) ?_
  replace H := gd_some H
  obtain ⟨g357, H⟩ := H
  replace H := bnd_some H
  obtain ⟨v358, h359, eh359, H⟩ := H
  have ph359 := t_X10_ordered (X := X) (d := 2) (Nat.le_refl _) eh359
  refine lw_callV (as := [.int (sc.2 (l3 + (1 : Int32)).toNatClampNeg)]) dL_law_1091 ph359 ok_X10_ordered (by decide) rfl k6_42 k6_43 k6_44 (ci := 10) (by decide) rfl rfl (okOb.p g357) rfl (Nat.le_of_ble_eq_true rfl) ?_
  refine lw_icmp_eq (tgt := 1293) dL_law_1094 (by decide) (fun c360 => ?_) (fun c360 => ?_)
  · rw [if_pos c360] at H
    replace H := vl_some H
    obtain ⟨x361, ex361, H⟩ := H
    refine lw_iincx (loc2 := [some (.retAddr 0), some (.ref l1), some (.ref l2), some (.int x361)]) dL_law_1293 rfl (by decide) ex361 (by decide) rfl ?_
    refine lw_goto (tgt := 18) dL_law_1296 (by decide) ?_
    exact hk18 l0 l1 l2 x361 h359 H
  · rw [if_neg c360] at H
    refine lw_iconst (v := (0 : Int32)) dL_law_1097 (by decide) ?_
    exact lw_iret rfl rfl dL_law_1098 H
def f_L_law_J1099 (sc : Sc) (k18 : Unit → Nat → Nat → Int32 → Hp → Option (Int32 × Hp)) (l0 : Unit) (l1 : Nat) (l2 : Nat) (l3 : Int32) (h : Hp) : Option (Int32 × Hp) :=
gd (okOb h l1 9) <|
bnd (f_X9_rivals h l1) fun v364 h365 =>
gd (okOb h365 l2 10) <|
bnd (f_X10_rivals h365 l2) fun v367 h368 =>
if v364 = v367 then (
vl (l3 + (6 : Int32)) fun x370 =>
k18 l0 l1 l2 x370 h368) else (
some ((0 : Int32), h368))
set_option maxHeartbeats 4000000 in
set_option maxRecDepth 100000 in
theorem t_L_law_J1099 {sc : Sc} {X : Cx} {h0 h' : Hp} {k18 : Unit → Nat → Nat → Int32 → Hp → Option (Int32 × Hp)} (hk18 : ∀ (z0 : Unit) (z1 : Nat) (z2 : Nat) (z3 : Int32) (h : Hp), k18 z0 z1 z2 z3 h = some ((1 : Int32), h') → LW sc X mL_law h0 h' 18 [some (.retAddr 0), some (.ref z1), some (.ref z2), some (.int z3)] [] h) : ∀ (l0 : Unit) (l1 : Nat) (l2 : Nat) (l3 : Int32) (h : Hp), f_L_law_J1099 sc k18 l0 l1 l2 l3 h = some ((1 : Int32), h') → LW sc X mL_law h0 h' 1099 [some (.retAddr 0), some (.ref l1), some (.ref l2), some (.int l3)] [] h := by
  intro l0 l1 l2 l3 h H
  unfold f_L_law_J1099 at H
  refine lw_aload_n dL_law_1099 rfl rfl ?_
  replace H := gd_some H
  obtain ⟨g363, H⟩ := H
  replace H := bnd_some H
  obtain ⟨v364, h365, eh365, H⟩ := H
  have ph365 := t_X9_rivals (X := X) (d := 1) (Nat.le_refl _) eh365
  refine lw_callV (as := []) dL_law_1100 ph365 ok_X9_rivals (by decide) rfl k3_217 k3_218 k3_219 (ci := 9) (by decide) rfl rfl (okOb.p g363) rfl (Nat.le_of_ble_eq_true rfl) ?_
  refine lw_aload_n dL_law_1103 rfl rfl ?_
  replace H := gd_some H
  obtain ⟨g366, H⟩ := H
  replace H := bnd_some H
  obtain ⟨v367, h368, eh368, H⟩ := H
  have ph368 := t_X10_rivals (X := X) (d := 1) (Nat.le_refl _) eh368
  refine lw_callV (as := []) dL_law_1104 ph368 ok_X10_rivals (by decide) rfl k6_46 k6_47 k6_48 (ci := 10) (by decide) rfl rfl (okOb.p g366) rfl (Nat.le_of_ble_eq_true rfl) ?_
  refine lw_icmp_eq (tgt := 1293) dL_law_1107 (by decide) (fun c369 => ?_) (fun c369 => ?_)
  · rw [if_pos c369] at H
    replace H := vl_some H
    obtain ⟨x370, ex370, H⟩ := H
    refine lw_iincx (loc2 := [some (.retAddr 0), some (.ref l1), some (.ref l2), some (.int x370)]) dL_law_1293 rfl (by decide) ex370 (by decide) rfl ?_
    refine lw_goto (tgt := 18) dL_law_1296 (by decide) ?_
    exact hk18 l0 l1 l2 x370 h368 H
  · rw [if_neg c369] at H
    refine lw_iconst (v := (0 : Int32)) dL_law_1110 (by decide) ?_
    exact lw_iret rfl rfl dL_law_1111 H
def f_L_law_J1112 (sc : Sc) (k18 : Unit → Nat → Nat → Int32 → Hp → Option (Int32 × Hp)) (l0 : Unit) (l1 : Nat) (l2 : Nat) (l3 : Int32) (h : Hp) : Option (Int32 × Hp) :=
gd (okOb h l1 9) <|
bnd (f_X9_law h l1) fun v373 h374 =>
gd (okOb h374 l2 10) <|
bnd (f_X10_law h374 l2) fun v376 h377 =>
if v373 = v376 then (
vl (l3 + (6 : Int32)) fun x379 =>
k18 l0 l1 l2 x379 h377) else (
some ((0 : Int32), h377))
set_option maxHeartbeats 4000000 in
set_option maxRecDepth 100000 in
theorem t_L_law_J1112 {sc : Sc} {X : Cx} {h0 h' : Hp} {k18 : Unit → Nat → Nat → Int32 → Hp → Option (Int32 × Hp)} (hk18 : ∀ (z0 : Unit) (z1 : Nat) (z2 : Nat) (z3 : Int32) (h : Hp), k18 z0 z1 z2 z3 h = some ((1 : Int32), h') → LW sc X mL_law h0 h' 18 [some (.retAddr 0), some (.ref z1), some (.ref z2), some (.int z3)] [] h) : ∀ (l0 : Unit) (l1 : Nat) (l2 : Nat) (l3 : Int32) (h : Hp), f_L_law_J1112 sc k18 l0 l1 l2 l3 h = some ((1 : Int32), h') → LW sc X mL_law h0 h' 1112 [some (.retAddr 0), some (.ref l1), some (.ref l2), some (.int l3)] [] h := by
  intro l0 l1 l2 l3 h H
  unfold f_L_law_J1112 at H
  refine lw_aload_n dL_law_1112 rfl rfl ?_
  replace H := gd_some H
  obtain ⟨g372, H⟩ := H
  replace H := bnd_some H
  obtain ⟨v373, h374, eh374, H⟩ := H
  have ph374 := t_X9_law (X := X) (d := 9) (Nat.le_refl _) eh374
  refine lw_callV (as := []) dL_law_1113 ph374 ok_X9_law (by decide) rfl k3_221 k3_222 k3_223 (ci := 9) (by decide) rfl rfl (okOb.p g372) rfl (Nat.le_of_ble_eq_true rfl) ?_
  refine lw_aload_n dL_law_1116 rfl rfl ?_
  replace H := gd_some H
  obtain ⟨g375, H⟩ := H
  replace H := bnd_some H
  obtain ⟨v376, h377, eh377, H⟩ := H
  have ph377 := t_X10_law (X := X) (d := 4) (Nat.le_refl _) eh377
  refine lw_callV (as := []) dL_law_1117 ph377 ok_X10_law (by decide) rfl k6_50 k6_51 k6_52 (ci := 10) (by decide) rfl rfl (okOb.p g375) rfl (Nat.le_of_ble_eq_true rfl) ?_
  refine lw_icmp_eq (tgt := 1293) dL_law_1120 (by decide) (fun c378 => ?_) (fun c378 => ?_)
  · rw [if_pos c378] at H
    replace H := vl_some H
    obtain ⟨x379, ex379, H⟩ := H
    refine lw_iincx (loc2 := [some (.retAddr 0), some (.ref l1), some (.ref l2), some (.int x379)]) dL_law_1293 rfl (by decide) ex379 (by decide) rfl ?_
    refine lw_goto (tgt := 18) dL_law_1296 (by decide) ?_
    exact hk18 l0 l1 l2 x379 h377 H
  · rw [if_neg c378] at H
    refine lw_iconst (v := (0 : Int32)) dL_law_1123 (by decide) ?_
    exact lw_iret rfl rfl dL_law_1124 H
def f_L_law_J1125 (sc : Sc) (k18 : Unit → Nat → Nat → Int32 → Hp → Option (Int32 × Hp)) (l0 : Unit) (l1 : Nat) (l2 : Nat) (l3 : Int32) (h : Hp) : Option (Int32 × Hp) :=
gd (okSc sc (l3 + (1 : Int32))) <|
gd (okOb h l1 9) <|
bnd (f_X9_wages h l1 (sc.2 (l3 + (1 : Int32)).toNatClampNeg)) fun v383 h384 =>
gd (okSc sc (l3 + (1 : Int32))) <|
gd (okOb h384 l2 10) <|
bnd (f_X10_wages h384 l2 (sc.2 (l3 + (1 : Int32)).toNatClampNeg)) fun v387 h388 =>
if v383 = v387 then (
vl (l3 + (6 : Int32)) fun x390 =>
k18 l0 l1 l2 x390 h388) else (
some ((0 : Int32), h388))
set_option maxHeartbeats 4000000 in
set_option maxRecDepth 100000 in
theorem t_L_law_J1125 {sc : Sc} {X : Cx} {h0 h' : Hp} {k18 : Unit → Nat → Nat → Int32 → Hp → Option (Int32 × Hp)} (hk18 : ∀ (z0 : Unit) (z1 : Nat) (z2 : Nat) (z3 : Int32) (h : Hp), k18 z0 z1 z2 z3 h = some ((1 : Int32), h') → LW sc X mL_law h0 h' 18 [some (.retAddr 0), some (.ref z1), some (.ref z2), some (.int z3)] [] h) : ∀ (l0 : Unit) (l1 : Nat) (l2 : Nat) (l3 : Int32) (h : Hp), f_L_law_J1125 sc k18 l0 l1 l2 l3 h = some ((1 : Int32), h') → LW sc X mL_law h0 h' 1125 [some (.retAddr 0), some (.ref l1), some (.ref l2), some (.int l3)] [] h := by
  intro l0 l1 l2 l3 h H
  unfold f_L_law_J1125 at H
  refine lw_aload_n dL_law_1125 rfl rfl ?_
  refine lw_aload_s dL_law_1126 rfl rfl ?_
  refine lw_iload_n dL_law_1127 rfl rfl ?_
  refine lw_iconst (v := (1 : Int32)) dL_law_1128 (by decide) ?_
  refine lw_iadd dL_law_1129 ?_
  replace H := gd_some H
  obtain ⟨g381, H⟩ := H
  refine lw_sld dL_law_1130 (okSc.p g381) ?_
  replace H := gd_some H
  obtain ⟨g382, H⟩ := H
  replace H := bnd_some H
  obtain ⟨v383, h384, eh384, H⟩ := H
  have ph384 := t_X9_wages (X := X) (d := 3) (Nat.le_refl _) eh384
  refine lw_callV (as := [.int (sc.2 (l3 + (1 : Int32)).toNatClampNeg)]) dL_law_1131 ph384 ok_X9_wages (by decide) rfl k4_74 k4_75 k4_76 (ci := 9) (by decide) rfl rfl (okOb.p g382) rfl (Nat.le_of_ble_eq_true rfl) ?_
  refine lw_aload_n dL_law_1134 rfl rfl ?_
  refine lw_aload_s dL_law_1135 rfl rfl ?_
  refine lw_iload_n dL_law_1136 rfl rfl ?_
  refine lw_iconst (v := (1 : Int32)) dL_law_1137 (by decide) ?_
  refine lw_iadd dL_law_1138 ?_
  replace H := gd_some H
  obtain ⟨g385, H⟩ := H
  refine lw_sld dL_law_1139 (okSc.p g385) ?_
  replace H := gd_some H
  obtain ⟨g386, H⟩ := H
  replace H := bnd_some H
  obtain ⟨v387, h388, eh388, H⟩ := H
  have ph388 := t_X10_wages (X := X) (d := 3) (Nat.le_refl _) eh388
  refine lw_callV (as := [.int (sc.2 (l3 + (1 : Int32)).toNatClampNeg)]) dL_law_1140 ph388 ok_X10_wages (by decide) rfl k6_76 k6_77 k6_78 (ci := 10) (by decide) rfl rfl (okOb.p g386) rfl (Nat.le_of_ble_eq_true rfl) ?_
  refine lw_icmp_eq (tgt := 1293) dL_law_1143 (by decide) (fun c389 => ?_) (fun c389 => ?_)
  · rw [if_pos c389] at H
    replace H := vl_some H
    obtain ⟨x390, ex390, H⟩ := H
    refine lw_iincx (loc2 := [some (.retAddr 0), some (.ref l1), some (.ref l2), some (.int x390)]) dL_law_1293 rfl (by decide) ex390 (by decide) rfl ?_
    refine lw_goto (tgt := 18) dL_law_1296 (by decide) ?_
    exact hk18 l0 l1 l2 x390 h388 H
  · rw [if_neg c389] at H
    refine lw_iconst (v := (0 : Int32)) dL_law_1146 (by decide) ?_
    exact lw_iret rfl rfl dL_law_1147 H
def f_L_law_J1148 (sc : Sc) (k18 : Unit → Nat → Nat → Int32 → Hp → Option (Int32 × Hp)) (l0 : Unit) (l1 : Nat) (l2 : Nat) (l3 : Int32) (h : Hp) : Option (Int32 × Hp) :=
gd (okSc sc (l3 + (1 : Int32))) <|
gd (okSc sc (l3 + (2 : Int32))) <|
gd (okOb h l1 9) <|
bnd (f_X9_did h l1 (sc.2 (l3 + (1 : Int32)).toNatClampNeg) (sc.2 (l3 + (2 : Int32)).toNatClampNeg)) fun v395 h396 =>
gd (okSc sc (l3 + (1 : Int32))) <|
gd (okSc sc (l3 + (2 : Int32))) <|
gd (okOb h396 l2 10) <|
bnd (f_X10_did h396 l2 (sc.2 (l3 + (1 : Int32)).toNatClampNeg) (sc.2 (l3 + (2 : Int32)).toNatClampNeg)) fun v400 h401 =>
if v395 = v400 then (
vl (l3 + (6 : Int32)) fun x403 =>
k18 l0 l1 l2 x403 h401) else (
some ((0 : Int32), h401))
set_option maxHeartbeats 4000000 in
set_option maxRecDepth 100000 in
theorem t_L_law_J1148 {sc : Sc} {X : Cx} {h0 h' : Hp} {k18 : Unit → Nat → Nat → Int32 → Hp → Option (Int32 × Hp)} (hk18 : ∀ (z0 : Unit) (z1 : Nat) (z2 : Nat) (z3 : Int32) (h : Hp), k18 z0 z1 z2 z3 h = some ((1 : Int32), h') → LW sc X mL_law h0 h' 18 [some (.retAddr 0), some (.ref z1), some (.ref z2), some (.int z3)] [] h) : ∀ (l0 : Unit) (l1 : Nat) (l2 : Nat) (l3 : Int32) (h : Hp), f_L_law_J1148 sc k18 l0 l1 l2 l3 h = some ((1 : Int32), h') → LW sc X mL_law h0 h' 1148 [some (.retAddr 0), some (.ref l1), some (.ref l2), some (.int l3)] [] h := by
  intro l0 l1 l2 l3 h H
  unfold f_L_law_J1148 at H
  refine lw_aload_n dL_law_1148 rfl rfl ?_
  refine lw_aload_s dL_law_1149 rfl rfl ?_
  refine lw_iload_n dL_law_1150 rfl rfl ?_
  refine lw_iconst (v := (1 : Int32)) dL_law_1151 (by decide) ?_
  refine lw_iadd dL_law_1152 ?_
  replace H := gd_some H
  obtain ⟨g392, H⟩ := H
  refine lw_sld dL_law_1153 (okSc.p g392) ?_
  refine lw_aload_s dL_law_1154 rfl rfl ?_
  refine lw_iload_n dL_law_1155 rfl rfl ?_
  refine lw_iconst (v := (2 : Int32)) dL_law_1156 (by decide) ?_
  refine lw_iadd dL_law_1157 ?_
  replace H := gd_some H
  obtain ⟨g393, H⟩ := H
  refine lw_sld dL_law_1158 (okSc.p g393) ?_
  replace H := gd_some H
  obtain ⟨g394, H⟩ := H
  replace H := bnd_some H
  obtain ⟨v395, h396, eh396, H⟩ := H
  have ph396 := t_X9_did (X := X) (d := 3) (Nat.le_refl _) eh396
  refine lw_callV (as := [.int (sc.2 (l3 + (1 : Int32)).toNatClampNeg), .int (sc.2 (l3 + (2 : Int32)).toNatClampNeg)]) dL_law_1159 ph396 ok_X9_did (by decide) rfl k4_89 k4_90 k4_91 (ci := 9) (by decide) rfl rfl (okOb.p g394) rfl (Nat.le_of_ble_eq_true rfl) ?_
  refine lw_aload_n dL_law_1162 rfl rfl ?_
  refine lw_aload_s dL_law_1163 rfl rfl ?_
  refine lw_iload_n dL_law_1164 rfl rfl ?_
  refine lw_iconst (v := (1 : Int32)) dL_law_1165 (by decide) ?_
  refine lw_iadd dL_law_1166 ?_
  replace H := gd_some H
  obtain ⟨g397, H⟩ := H
  refine lw_sld dL_law_1167 (okSc.p g397) ?_
  refine lw_aload_s dL_law_1168 rfl rfl ?_
  refine lw_iload_n dL_law_1169 rfl rfl ?_
  refine lw_iconst (v := (2 : Int32)) dL_law_1170 (by decide) ?_
  refine lw_iadd dL_law_1171 ?_
  replace H := gd_some H
  obtain ⟨g398, H⟩ := H
  refine lw_sld dL_law_1172 (okSc.p g398) ?_
  replace H := gd_some H
  obtain ⟨g399, H⟩ := H
  replace H := bnd_some H
  obtain ⟨v400, h401, eh401, H⟩ := H
  have ph401 := t_X10_did (X := X) (d := 3) (Nat.le_refl _) eh401
  refine lw_callV (as := [.int (sc.2 (l3 + (1 : Int32)).toNatClampNeg), .int (sc.2 (l3 + (2 : Int32)).toNatClampNeg)]) dL_law_1173 ph401 ok_X10_did (by decide) rfl k6_88 k6_89 k6_90 (ci := 10) (by decide) rfl rfl (okOb.p g399) rfl (Nat.le_of_ble_eq_true rfl) ?_
  refine lw_icmp_eq (tgt := 1293) dL_law_1176 (by decide) (fun c402 => ?_) (fun c402 => ?_)
  · rw [if_pos c402] at H
    replace H := vl_some H
    obtain ⟨x403, ex403, H⟩ := H
    refine lw_iincx (loc2 := [some (.retAddr 0), some (.ref l1), some (.ref l2), some (.int x403)]) dL_law_1293 rfl (by decide) ex403 (by decide) rfl ?_
    refine lw_goto (tgt := 18) dL_law_1296 (by decide) ?_
    exact hk18 l0 l1 l2 x403 h401 H
  · rw [if_neg c402] at H
    refine lw_iconst (v := (0 : Int32)) dL_law_1179 (by decide) ?_
    exact lw_iret rfl rfl dL_law_1180 H
def f_L_law_J1181 (sc : Sc) (k18 : Unit → Nat → Nat → Int32 → Hp → Option (Int32 × Hp)) (l0 : Unit) (l1 : Nat) (l2 : Nat) (l3 : Int32) (h : Hp) : Option (Int32 × Hp) :=
gd (okSc sc (l3 + (1 : Int32))) <|
gd (okSc sc (l3 + (2 : Int32))) <|
gd (okSc sc (l3 + (3 : Int32))) <|
gd (okOb h l1 9) <|
bnd (f_X9_job h l1 (sc.2 (l3 + (1 : Int32)).toNatClampNeg) (sc.2 (l3 + (2 : Int32)).toNatClampNeg) (sc.2 (l3 + (3 : Int32)).toNatClampNeg)) fun v409 h410 =>
gd (okSc sc (l3 + (1 : Int32))) <|
gd (okSc sc (l3 + (2 : Int32))) <|
gd (okSc sc (l3 + (3 : Int32))) <|
gd (okOb h410 l2 10) <|
bnd (f_X10_job h410 l2 (sc.2 (l3 + (1 : Int32)).toNatClampNeg) (sc.2 (l3 + (2 : Int32)).toNatClampNeg) (sc.2 (l3 + (3 : Int32)).toNatClampNeg)) fun v415 h416 =>
if v409 = v415 then (
vl (l3 + (6 : Int32)) fun x418 =>
k18 l0 l1 l2 x418 h416) else (
some ((0 : Int32), h416))
set_option maxHeartbeats 4000000 in
set_option maxRecDepth 100000 in
theorem t_L_law_J1181 {sc : Sc} {X : Cx} {h0 h' : Hp} {k18 : Unit → Nat → Nat → Int32 → Hp → Option (Int32 × Hp)} (hk18 : ∀ (z0 : Unit) (z1 : Nat) (z2 : Nat) (z3 : Int32) (h : Hp), k18 z0 z1 z2 z3 h = some ((1 : Int32), h') → LW sc X mL_law h0 h' 18 [some (.retAddr 0), some (.ref z1), some (.ref z2), some (.int z3)] [] h) : ∀ (l0 : Unit) (l1 : Nat) (l2 : Nat) (l3 : Int32) (h : Hp), f_L_law_J1181 sc k18 l0 l1 l2 l3 h = some ((1 : Int32), h') → LW sc X mL_law h0 h' 1181 [some (.retAddr 0), some (.ref l1), some (.ref l2), some (.int l3)] [] h := by
  intro l0 l1 l2 l3 h H
  unfold f_L_law_J1181 at H
  refine lw_aload_n dL_law_1181 rfl rfl ?_
  refine lw_aload_s dL_law_1182 rfl rfl ?_
  refine lw_iload_n dL_law_1183 rfl rfl ?_
  refine lw_iconst (v := (1 : Int32)) dL_law_1184 (by decide) ?_
  refine lw_iadd dL_law_1185 ?_
  replace H := gd_some H
  obtain ⟨g405, H⟩ := H
  refine lw_sld dL_law_1186 (okSc.p g405) ?_
  refine lw_aload_s dL_law_1187 rfl rfl ?_
  refine lw_iload_n dL_law_1188 rfl rfl ?_
  refine lw_iconst (v := (2 : Int32)) dL_law_1189 (by decide) ?_
  refine lw_iadd dL_law_1190 ?_
  replace H := gd_some H
  obtain ⟨g406, H⟩ := H
  refine lw_sld dL_law_1191 (okSc.p g406) ?_
  refine lw_aload_s dL_law_1192 rfl rfl ?_
  refine lw_iload_n dL_law_1193 rfl rfl ?_
  refine lw_iconst (v := (3 : Int32)) dL_law_1194 (by decide) ?_
  refine lw_iadd dL_law_1195 ?_
  replace H := gd_some H
  obtain ⟨g407, H⟩ := H
  refine lw_sld dL_law_1196 (okSc.p g407) ?_
  replace H := gd_some H
  obtain ⟨g408, H⟩ := H
  replace H := bnd_some H
  obtain ⟨v409, h410, eh410, H⟩ := H
  have ph410 := t_X9_job (X := X) (d := 2) (Nat.le_refl _) eh410
  refine lw_callV (as := [.int (sc.2 (l3 + (1 : Int32)).toNatClampNeg), .int (sc.2 (l3 + (2 : Int32)).toNatClampNeg), .int (sc.2 (l3 + (3 : Int32)).toNatClampNeg)]) dL_law_1197 ph410 ok_X9_job (by decide) rfl k4_93 k4_94 k4_95 (ci := 9) (by decide) rfl rfl (okOb.p g408) rfl (Nat.le_of_ble_eq_true rfl) ?_
  refine lw_aload_n dL_law_1200 rfl rfl ?_
  refine lw_aload_s dL_law_1201 rfl rfl ?_
  refine lw_iload_n dL_law_1202 rfl rfl ?_
  refine lw_iconst (v := (1 : Int32)) dL_law_1203 (by decide) ?_
  refine lw_iadd dL_law_1204 ?_
  replace H := gd_some H
  obtain ⟨g411, H⟩ := H
  refine lw_sld dL_law_1205 (okSc.p g411) ?_
  refine lw_aload_s dL_law_1206 rfl rfl ?_
  refine lw_iload_n dL_law_1207 rfl rfl ?_
  refine lw_iconst (v := (2 : Int32)) dL_law_1208 (by decide) ?_
  refine lw_iadd dL_law_1209 ?_
  replace H := gd_some H
  obtain ⟨g412, H⟩ := H
  refine lw_sld dL_law_1210 (okSc.p g412) ?_
  refine lw_aload_s dL_law_1211 rfl rfl ?_
  refine lw_iload_n dL_law_1212 rfl rfl ?_
  refine lw_iconst (v := (3 : Int32)) dL_law_1213 (by decide) ?_
  refine lw_iadd dL_law_1214 ?_
  replace H := gd_some H
  obtain ⟨g413, H⟩ := H
  refine lw_sld dL_law_1215 (okSc.p g413) ?_
  replace H := gd_some H
  obtain ⟨g414, H⟩ := H
  replace H := bnd_some H
  obtain ⟨v415, h416, eh416, H⟩ := H
  have ph416 := t_X10_job (X := X) (d := 2) (Nat.le_refl _) eh416
  refine lw_callV (as := [.int (sc.2 (l3 + (1 : Int32)).toNatClampNeg), .int (sc.2 (l3 + (2 : Int32)).toNatClampNeg), .int (sc.2 (l3 + (3 : Int32)).toNatClampNeg)]) dL_law_1216 ph416 ok_X10_job (by decide) rfl k6_92 k6_93 k6_94 (ci := 10) (by decide) rfl rfl (okOb.p g414) rfl (Nat.le_of_ble_eq_true rfl) ?_
  refine lw_icmp_eq (tgt := 1293) dL_law_1219 (by decide) (fun c417 => ?_) (fun c417 => ?_)
  · rw [if_pos c417] at H
    replace H := vl_some H
    obtain ⟨x418, ex418, H⟩ := H
    refine lw_iincx (loc2 := [some (.retAddr 0), some (.ref l1), some (.ref l2), some (.int x418)]) dL_law_1293 rfl (by decide) ex418 (by decide) rfl ?_
    refine lw_goto (tgt := 18) dL_law_1296 (by decide) ?_
    exact hk18 l0 l1 l2 x418 h416 H
  · rw [if_neg c417] at H
    refine lw_iconst (v := (0 : Int32)) dL_law_1222 (by decide) ?_
    exact lw_iret rfl rfl dL_law_1223 H
def f_L_law_J1224 (sc : Sc) (k18 : Unit → Nat → Nat → Int32 → Hp → Option (Int32 × Hp)) (l0 : Unit) (l1 : Nat) (l2 : Nat) (l3 : Int32) (h : Hp) : Option (Int32 × Hp) :=
gd (okOb h l1 9) <|
bnd (f_X9_plan h l1) fun v421 h422 =>
gd (okOb h422 l2 10) <|
bnd (f_X10_plan h422 l2) fun v424 h425 =>
if v421 = v424 then (
vl (l3 + (6 : Int32)) fun x427 =>
k18 l0 l1 l2 x427 h425) else (
some ((0 : Int32), h425))
set_option maxHeartbeats 4000000 in
set_option maxRecDepth 100000 in
theorem t_L_law_J1224 {sc : Sc} {X : Cx} {h0 h' : Hp} {k18 : Unit → Nat → Nat → Int32 → Hp → Option (Int32 × Hp)} (hk18 : ∀ (z0 : Unit) (z1 : Nat) (z2 : Nat) (z3 : Int32) (h : Hp), k18 z0 z1 z2 z3 h = some ((1 : Int32), h') → LW sc X mL_law h0 h' 18 [some (.retAddr 0), some (.ref z1), some (.ref z2), some (.int z3)] [] h) : ∀ (l0 : Unit) (l1 : Nat) (l2 : Nat) (l3 : Int32) (h : Hp), f_L_law_J1224 sc k18 l0 l1 l2 l3 h = some ((1 : Int32), h') → LW sc X mL_law h0 h' 1224 [some (.retAddr 0), some (.ref l1), some (.ref l2), some (.int l3)] [] h := by
  intro l0 l1 l2 l3 h H
  unfold f_L_law_J1224 at H
  refine lw_aload_n dL_law_1224 rfl rfl ?_
  replace H := gd_some H
  obtain ⟨g420, H⟩ := H
  replace H := bnd_some H
  obtain ⟨v421, h422, eh422, H⟩ := H
  have ph422 := t_X9_plan (X := X) (d := 12) (Nat.le_refl _) eh422
  refine lw_callV (as := []) dL_law_1225 ph422 ok_X9_plan (by decide) rfl k4_101 k4_102 k4_103 (ci := 9) (by decide) rfl rfl (okOb.p g420) rfl (Nat.le_of_ble_eq_true rfl) ?_
  refine lw_aload_n dL_law_1228 rfl rfl ?_
  replace H := gd_some H
  obtain ⟨g423, H⟩ := H
  replace H := bnd_some H
  obtain ⟨v424, h425, eh425, H⟩ := H
  have ph425 := t_X10_plan (X := X) (d := 3) (Nat.le_refl _) eh425
  refine lw_callV (as := []) dL_law_1229 ph425 ok_X10_plan (by decide) rfl k6_98 k6_99 k6_100 (ci := 10) (by decide) rfl rfl (okOb.p g423) rfl (Nat.le_of_ble_eq_true rfl) ?_
  refine lw_icmp_eq (tgt := 1293) dL_law_1232 (by decide) (fun c426 => ?_) (fun c426 => ?_)
  · rw [if_pos c426] at H
    replace H := vl_some H
    obtain ⟨x427, ex427, H⟩ := H
    refine lw_iincx (loc2 := [some (.retAddr 0), some (.ref l1), some (.ref l2), some (.int x427)]) dL_law_1293 rfl (by decide) ex427 (by decide) rfl ?_
    refine lw_goto (tgt := 18) dL_law_1296 (by decide) ?_
    exact hk18 l0 l1 l2 x427 h425 H
  · rw [if_neg c426] at H
    refine lw_iconst (v := (0 : Int32)) dL_law_1235 (by decide) ?_
    exact lw_iret rfl rfl dL_law_1236 H
def f_L_law_J1237 (sc : Sc) (k18 : Unit → Nat → Nat → Int32 → Hp → Option (Int32 × Hp)) (l0 : Unit) (l1 : Nat) (l2 : Nat) (l3 : Int32) (h : Hp) : Option (Int32 × Hp) :=
gd (okSc sc (l3 + (1 : Int32))) <|
gd (okSc sc (l3 + (2 : Int32))) <|
gd (okOb h l1 9) <|
bnd (f_X9_planned h l1 (sc.2 (l3 + (1 : Int32)).toNatClampNeg) (sc.2 (l3 + (2 : Int32)).toNatClampNeg)) fun v432 h433 =>
gd (okSc sc (l3 + (1 : Int32))) <|
gd (okSc sc (l3 + (2 : Int32))) <|
gd (okOb h433 l2 10) <|
bnd (f_X10_planned h433 l2 (sc.2 (l3 + (1 : Int32)).toNatClampNeg) (sc.2 (l3 + (2 : Int32)).toNatClampNeg)) fun v437 h438 =>
if v432 = v437 then (
vl (l3 + (6 : Int32)) fun x440 =>
k18 l0 l1 l2 x440 h438) else (
some ((0 : Int32), h438))
set_option maxHeartbeats 4000000 in
set_option maxRecDepth 100000 in
theorem t_L_law_J1237 {sc : Sc} {X : Cx} {h0 h' : Hp} {k18 : Unit → Nat → Nat → Int32 → Hp → Option (Int32 × Hp)} (hk18 : ∀ (z0 : Unit) (z1 : Nat) (z2 : Nat) (z3 : Int32) (h : Hp), k18 z0 z1 z2 z3 h = some ((1 : Int32), h') → LW sc X mL_law h0 h' 18 [some (.retAddr 0), some (.ref z1), some (.ref z2), some (.int z3)] [] h) : ∀ (l0 : Unit) (l1 : Nat) (l2 : Nat) (l3 : Int32) (h : Hp), f_L_law_J1237 sc k18 l0 l1 l2 l3 h = some ((1 : Int32), h') → LW sc X mL_law h0 h' 1237 [some (.retAddr 0), some (.ref l1), some (.ref l2), some (.int l3)] [] h := by
  intro l0 l1 l2 l3 h H
  unfold f_L_law_J1237 at H
  refine lw_aload_n dL_law_1237 rfl rfl ?_
  refine lw_aload_s dL_law_1238 rfl rfl ?_
  refine lw_iload_n dL_law_1239 rfl rfl ?_
  refine lw_iconst (v := (1 : Int32)) dL_law_1240 (by decide) ?_
  refine lw_iadd dL_law_1241 ?_
  replace H := gd_some H
  obtain ⟨g429, H⟩ := H
  refine lw_sld dL_law_1242 (okSc.p g429) ?_
  refine lw_aload_s dL_law_1243 rfl rfl ?_
  refine lw_iload_n dL_law_1244 rfl rfl ?_
  refine lw_iconst (v := (2 : Int32)) dL_law_1245 (by decide) ?_
  refine lw_iadd dL_law_1246 ?_
  replace H := gd_some H
  obtain ⟨g430, H⟩ := H
  refine lw_sld dL_law_1247 (okSc.p g430) ?_
  replace H := gd_some H
  obtain ⟨g431, H⟩ := H
  replace H := bnd_some H
  obtain ⟨v432, h433, eh433, H⟩ := H
  have ph433 := t_X9_planned (X := X) (d := 1) (Nat.le_refl _) eh433
  refine lw_callV (as := [.int (sc.2 (l3 + (1 : Int32)).toNatClampNeg), .int (sc.2 (l3 + (2 : Int32)).toNatClampNeg)]) dL_law_1248 ph433 ok_X9_planned (by decide) rfl k4_116 k4_117 k4_118 (ci := 9) (by decide) rfl rfl (okOb.p g431) rfl (Nat.le_of_ble_eq_true rfl) ?_
  refine lw_aload_n dL_law_1251 rfl rfl ?_
  refine lw_aload_s dL_law_1252 rfl rfl ?_
  refine lw_iload_n dL_law_1253 rfl rfl ?_
  refine lw_iconst (v := (1 : Int32)) dL_law_1254 (by decide) ?_
  refine lw_iadd dL_law_1255 ?_
  replace H := gd_some H
  obtain ⟨g434, H⟩ := H
  refine lw_sld dL_law_1256 (okSc.p g434) ?_
  refine lw_aload_s dL_law_1257 rfl rfl ?_
  refine lw_iload_n dL_law_1258 rfl rfl ?_
  refine lw_iconst (v := (2 : Int32)) dL_law_1259 (by decide) ?_
  refine lw_iadd dL_law_1260 ?_
  replace H := gd_some H
  obtain ⟨g435, H⟩ := H
  refine lw_sld dL_law_1261 (okSc.p g435) ?_
  replace H := gd_some H
  obtain ⟨g436, H⟩ := H
  replace H := bnd_some H
  obtain ⟨v437, h438, eh438, H⟩ := H
  have ph438 := t_X10_planned (X := X) (d := 2) (Nat.le_refl _) eh438
  refine lw_callV (as := [.int (sc.2 (l3 + (1 : Int32)).toNatClampNeg), .int (sc.2 (l3 + (2 : Int32)).toNatClampNeg)]) dL_law_1262 ph438 ok_X10_planned (by decide) rfl k6_106 k6_107 k6_108 (ci := 10) (by decide) rfl rfl (okOb.p g436) rfl (Nat.le_of_ble_eq_true rfl) ?_
  refine lw_icmp_eq (tgt := 1293) dL_law_1265 (by decide) (fun c439 => ?_) (fun c439 => ?_)
  · rw [if_pos c439] at H
    replace H := vl_some H
    obtain ⟨x440, ex440, H⟩ := H
    refine lw_iincx (loc2 := [some (.retAddr 0), some (.ref l1), some (.ref l2), some (.int x440)]) dL_law_1293 rfl (by decide) ex440 (by decide) rfl ?_
    refine lw_goto (tgt := 18) dL_law_1296 (by decide) ?_
    exact hk18 l0 l1 l2 x440 h438 H
  · rw [if_neg c439] at H
    refine lw_iconst (v := (0 : Int32)) dL_law_1268 (by decide) ?_
    exact lw_iret rfl rfl dL_law_1269 H
def f_L_law_J1270 (sc : Sc) (k18 : Unit → Nat → Nat → Int32 → Hp → Option (Int32 × Hp)) (l0 : Unit) (l1 : Nat) (l2 : Nat) (l3 : Int32) (h : Hp) : Option (Int32 × Hp) :=
gd (okSc sc (l3 + (1 : Int32))) <|
gd (okOb h l1 9) <|
bnd (f_X9_count h l1 (sc.2 (l3 + (1 : Int32)).toNatClampNeg)) fun v444 h445 =>
gd (okSc sc (l3 + (1 : Int32))) <|
gd (okOb h445 l2 10) <|
bnd (f_X10_count h445 l2 (sc.2 (l3 + (1 : Int32)).toNatClampNeg)) fun v448 h449 =>
if v444 = v448 then (
vl (l3 + (6 : Int32)) fun x451 =>
k18 l0 l1 l2 x451 h449) else (
some ((0 : Int32), h449))
set_option maxHeartbeats 4000000 in
set_option maxRecDepth 100000 in
theorem t_L_law_J1270 {sc : Sc} {X : Cx} {h0 h' : Hp} {k18 : Unit → Nat → Nat → Int32 → Hp → Option (Int32 × Hp)} (hk18 : ∀ (z0 : Unit) (z1 : Nat) (z2 : Nat) (z3 : Int32) (h : Hp), k18 z0 z1 z2 z3 h = some ((1 : Int32), h') → LW sc X mL_law h0 h' 18 [some (.retAddr 0), some (.ref z1), some (.ref z2), some (.int z3)] [] h) : ∀ (l0 : Unit) (l1 : Nat) (l2 : Nat) (l3 : Int32) (h : Hp), f_L_law_J1270 sc k18 l0 l1 l2 l3 h = some ((1 : Int32), h') → LW sc X mL_law h0 h' 1270 [some (.retAddr 0), some (.ref l1), some (.ref l2), some (.int l3)] [] h := by
  intro l0 l1 l2 l3 h H
  unfold f_L_law_J1270 at H
  refine lw_aload_n dL_law_1270 rfl rfl ?_
  refine lw_aload_s dL_law_1271 rfl rfl ?_
  refine lw_iload_n dL_law_1272 rfl rfl ?_
  refine lw_iconst (v := (1 : Int32)) dL_law_1273 (by decide) ?_
  refine lw_iadd dL_law_1274 ?_
  replace H := gd_some H
  obtain ⟨g442, H⟩ := H
  refine lw_sld dL_law_1275 (okSc.p g442) ?_
  replace H := gd_some H
  obtain ⟨g443, H⟩ := H
  replace H := bnd_some H
  obtain ⟨v444, h445, eh445, H⟩ := H
  have ph445 := t_X9_count (X := X) (d := 2) (Nat.le_refl _) eh445
  refine lw_callV (as := [.int (sc.2 (l3 + (1 : Int32)).toNatClampNeg)]) dL_law_1276 ph445 ok_X9_count (by decide) rfl k4_120 k4_121 k4_122 (ci := 9) (by decide) rfl rfl (okOb.p g443) rfl (Nat.le_of_ble_eq_true rfl) ?_
  refine lw_aload_n dL_law_1279 rfl rfl ?_
  refine lw_aload_s dL_law_1280 rfl rfl ?_
  refine lw_iload_n dL_law_1281 rfl rfl ?_
  refine lw_iconst (v := (1 : Int32)) dL_law_1282 (by decide) ?_
  refine lw_iadd dL_law_1283 ?_
  replace H := gd_some H
  obtain ⟨g446, H⟩ := H
  refine lw_sld dL_law_1284 (okSc.p g446) ?_
  replace H := gd_some H
  obtain ⟨g447, H⟩ := H
  replace H := bnd_some H
  obtain ⟨v448, h449, eh449, H⟩ := H
  have ph449 := t_X10_count (X := X) (d := 3) (Nat.le_refl _) eh449
  refine lw_callV (as := [.int (sc.2 (l3 + (1 : Int32)).toNatClampNeg)]) dL_law_1285 ph449 ok_X10_count (by decide) rfl k6_110 k6_111 k6_112 (ci := 10) (by decide) rfl rfl (okOb.p g447) rfl (Nat.le_of_ble_eq_true rfl) ?_
  refine lw_icmp_eq (tgt := 1293) dL_law_1288 (by decide) (fun c450 => ?_) (fun c450 => ?_)
  · rw [if_pos c450] at H
    replace H := vl_some H
    obtain ⟨x451, ex451, H⟩ := H
    refine lw_iincx (loc2 := [some (.retAddr 0), some (.ref l1), some (.ref l2), some (.int x451)]) dL_law_1293 rfl (by decide) ex451 (by decide) rfl ?_
    refine lw_goto (tgt := 18) dL_law_1296 (by decide) ?_
    exact hk18 l0 l1 l2 x451 h449 H
  · rw [if_neg c450] at H
    refine lw_iconst (v := (0 : Int32)) dL_law_1291 (by decide) ?_
    exact lw_iret rfl rfl dL_law_1292 H
def f_L_law_L18 (sc : Sc) : Nat → Unit → Nat → Nat → Int32 → Hp → Option (Int32 × Hp)
  | 0, _, _, _, _, _ => none
  | n + 1, l0, l1, l2, l3, h =>
    if ((Int32.ofNat sc.1) - (6 : Int32)) < l3 then (
    some ((1 : Int32), h)) else (
    gd (okSc sc l3) <|
    if ((sc.2 l3.toNatClampNeg) &&& (63 : Int32)) = (0 : Int32) then (
    f_L_law_J188 sc (f_L_law_L18 sc n) l0 l1 l2 l3 h) else if ((sc.2 l3.toNatClampNeg) &&& (63 : Int32)) = (1 : Int32) then (
    f_L_law_J251 sc (f_L_law_L18 sc n) l0 l1 l2 l3 h) else if ((sc.2 l3.toNatClampNeg) &&& (63 : Int32)) = (2 : Int32) then (
    f_L_law_J284 sc (f_L_law_L18 sc n) l0 l1 l2 l3 h) else if ((sc.2 l3.toNatClampNeg) &&& (63 : Int32)) = (3 : Int32) then (
    f_L_law_J307 sc (f_L_law_L18 sc n) l0 l1 l2 l3 h) else if ((sc.2 l3.toNatClampNeg) &&& (63 : Int32)) = (4 : Int32) then (
    f_L_law_J320 sc (f_L_law_L18 sc n) l0 l1 l2 l3 h) else if ((sc.2 l3.toNatClampNeg) &&& (63 : Int32)) = (5 : Int32) then (
    f_L_law_J353 sc (f_L_law_L18 sc n) l0 l1 l2 l3 h) else if ((sc.2 l3.toNatClampNeg) &&& (63 : Int32)) = (6 : Int32) then (
    f_L_law_J396 sc (f_L_law_L18 sc n) l0 l1 l2 l3 h) else if ((sc.2 l3.toNatClampNeg) &&& (63 : Int32)) = (7 : Int32) then (
    f_L_law_J419 sc (f_L_law_L18 sc n) l0 l1 l2 l3 h) else if ((sc.2 l3.toNatClampNeg) &&& (63 : Int32)) = (8 : Int32) then (
    f_L_law_J462 sc (f_L_law_L18 sc n) l0 l1 l2 l3 h) else if ((sc.2 l3.toNatClampNeg) &&& (63 : Int32)) = (9 : Int32) then (
    f_L_law_J485 sc (f_L_law_L18 sc n) l0 l1 l2 l3 h) else if ((sc.2 l3.toNatClampNeg) &&& (63 : Int32)) = (10 : Int32) then (
    f_L_law_J518 sc (f_L_law_L18 sc n) l0 l1 l2 l3 h) else if ((sc.2 l3.toNatClampNeg) &&& (63 : Int32)) = (11 : Int32) then (
    f_L_law_J561 sc (f_L_law_L18 sc n) l0 l1 l2 l3 h) else if ((sc.2 l3.toNatClampNeg) &&& (63 : Int32)) = (12 : Int32) then (
    f_L_law_J624 sc (f_L_law_L18 sc n) l0 l1 l2 l3 h) else if ((sc.2 l3.toNatClampNeg) &&& (63 : Int32)) = (13 : Int32) then (
    f_L_law_J657 sc (f_L_law_L18 sc n) l0 l1 l2 l3 h) else if ((sc.2 l3.toNatClampNeg) &&& (63 : Int32)) = (14 : Int32) then (
    f_L_law_J680 sc (f_L_law_L18 sc n) l0 l1 l2 l3 h) else if ((sc.2 l3.toNatClampNeg) &&& (63 : Int32)) = (15 : Int32) then (
    f_L_law_J703 sc (f_L_law_L18 sc n) l0 l1 l2 l3 h) else if ((sc.2 l3.toNatClampNeg) &&& (63 : Int32)) = (16 : Int32) then (
    f_L_law_J746 sc (f_L_law_L18 sc n) l0 l1 l2 l3 h) else if ((sc.2 l3.toNatClampNeg) &&& (63 : Int32)) = (17 : Int32) then (
    f_L_law_J779 sc (f_L_law_L18 sc n) l0 l1 l2 l3 h) else if ((sc.2 l3.toNatClampNeg) &&& (63 : Int32)) = (18 : Int32) then (
    f_L_law_J822 sc (f_L_law_L18 sc n) l0 l1 l2 l3 h) else if ((sc.2 l3.toNatClampNeg) &&& (63 : Int32)) = (19 : Int32) then (
    f_L_law_J875 sc (f_L_law_L18 sc n) l0 l1 l2 l3 h) else if ((sc.2 l3.toNatClampNeg) &&& (63 : Int32)) = (20 : Int32) then (
    f_L_law_J918 sc (f_L_law_L18 sc n) l0 l1 l2 l3 h) else if ((sc.2 l3.toNatClampNeg) &&& (63 : Int32)) = (21 : Int32) then (
    f_L_law_J931 sc (f_L_law_L18 sc n) l0 l1 l2 l3 h) else if ((sc.2 l3.toNatClampNeg) &&& (63 : Int32)) = (22 : Int32) then (
    f_L_law_J964 sc (f_L_law_L18 sc n) l0 l1 l2 l3 h) else if ((sc.2 l3.toNatClampNeg) &&& (63 : Int32)) = (23 : Int32) then (
    f_L_law_J997 sc (f_L_law_L18 sc n) l0 l1 l2 l3 h) else if ((sc.2 l3.toNatClampNeg) &&& (63 : Int32)) = (24 : Int32) then (
    f_L_law_J1010 sc (f_L_law_L18 sc n) l0 l1 l2 l3 h) else if ((sc.2 l3.toNatClampNeg) &&& (63 : Int32)) = (25 : Int32) then (
    f_L_law_J1053 sc (f_L_law_L18 sc n) l0 l1 l2 l3 h) else if ((sc.2 l3.toNatClampNeg) &&& (63 : Int32)) = (26 : Int32) then (
    f_L_law_J1076 sc (f_L_law_L18 sc n) l0 l1 l2 l3 h) else if ((sc.2 l3.toNatClampNeg) &&& (63 : Int32)) = (27 : Int32) then (
    f_L_law_J1099 sc (f_L_law_L18 sc n) l0 l1 l2 l3 h) else if ((sc.2 l3.toNatClampNeg) &&& (63 : Int32)) = (28 : Int32) then (
    f_L_law_J1112 sc (f_L_law_L18 sc n) l0 l1 l2 l3 h) else if ((sc.2 l3.toNatClampNeg) &&& (63 : Int32)) = (29 : Int32) then (
    f_L_law_J1125 sc (f_L_law_L18 sc n) l0 l1 l2 l3 h) else if ((sc.2 l3.toNatClampNeg) &&& (63 : Int32)) = (30 : Int32) then (
    f_L_law_J1148 sc (f_L_law_L18 sc n) l0 l1 l2 l3 h) else if ((sc.2 l3.toNatClampNeg) &&& (63 : Int32)) = (31 : Int32) then (
    f_L_law_J1181 sc (f_L_law_L18 sc n) l0 l1 l2 l3 h) else if ((sc.2 l3.toNatClampNeg) &&& (63 : Int32)) = (32 : Int32) then (
    f_L_law_J1224 sc (f_L_law_L18 sc n) l0 l1 l2 l3 h) else if ((sc.2 l3.toNatClampNeg) &&& (63 : Int32)) = (33 : Int32) then (
    f_L_law_J1237 sc (f_L_law_L18 sc n) l0 l1 l2 l3 h) else if ((sc.2 l3.toNatClampNeg) &&& (63 : Int32)) = (34 : Int32) then (
    f_L_law_J1270 sc (f_L_law_L18 sc n) l0 l1 l2 l3 h) else (
    vl (l3 + (6 : Int32)) fun x452 =>
    f_L_law_L18 sc n l0 l1 l2 x452 h))
set_option maxHeartbeats 4000000 in
set_option maxRecDepth 100000 in
theorem t_L_law_L18 {sc : Sc} {X : Cx} {h0 h' : Hp} : ∀ (n : Nat) (l0 : Unit) (l1 : Nat) (l2 : Nat) (l3 : Int32) (h : Hp), f_L_law_L18 sc n l0 l1 l2 l3 h = some ((1 : Int32), h') → LW sc X mL_law h0 h' 18 [some (.retAddr 0), some (.ref l1), some (.ref l2), some (.int l3)] [] h := by
  intro n
  induction n with
  | zero => intro l0 l1 l2 l3 h H; simp [f_L_law_L18] at H
  | succ n ih =>
    intro l0 l1 l2 l3 h H
    rw [f_L_law_L18] at H
    refine lw_iload_n dL_law_18 rfl rfl ?_
    refine lw_aload_s dL_law_19 rfl rfl ?_
    refine lw_slen dL_law_20 ?_
    refine lw_bipush (v := (6 : Int32)) dL_law_21 (by decide) ?_
    refine lw_isub dL_law_23 ?_
    refine lw_icmp_gt (tgt := 1299) dL_law_24 (by decide) (fun c9 => ?_) (fun c9 => ?_)
    · rw [if_pos c9] at H
      refine lw_iconst (v := (1 : Int32)) dL_law_1299 (by decide) ?_
      exact lw_iret rfl rfl dL_law_1300 H
    · rw [if_neg c9] at H
      refine lw_aload_s dL_law_27 rfl rfl ?_
      refine lw_iload_n dL_law_28 rfl rfl ?_
      replace H := gd_some H
      obtain ⟨g10, H⟩ := H
      refine lw_sld dL_law_29 (okSc.p g10) ?_
      refine lw_bipush (v := (63 : Int32)) dL_law_30 (by decide) ?_
      refine lw_iand dL_law_32 ?_
      by_cases c11 : ((sc.2 l3.toNatClampNeg) &&& (63 : Int32)) = (0 : Int32)
      · rw [if_pos c11] at H
        refine lw_tsIn (tgt := 188) dL_law_33 (by rw [c11]; decide) (by rw [c11]; decide) (by rw [c11]; rfl) (by decide) ?_
        exact t_L_law_J188  ih l0 l1 l2 l3 h H
      rw [if_neg c11] at H
      by_cases c26 : ((sc.2 l3.toNatClampNeg) &&& (63 : Int32)) = (1 : Int32)
      · rw [if_pos c26] at H
        refine lw_tsIn (tgt := 251) dL_law_33 (by rw [c26]; decide) (by rw [c26]; decide) (by rw [c26]; rfl) (by decide) ?_
        exact t_L_law_J251  ih l0 l1 l2 l3 h H
      rw [if_neg c26] at H
      by_cases c39 : ((sc.2 l3.toNatClampNeg) &&& (63 : Int32)) = (2 : Int32)
      · rw [if_pos c39] at H
        refine lw_tsIn (tgt := 284) dL_law_33 (by rw [c39]; decide) (by rw [c39]; decide) (by rw [c39]; rfl) (by decide) ?_
        exact t_L_law_J284  ih l0 l1 l2 l3 h H
      rw [if_neg c39] at H
      by_cases c50 : ((sc.2 l3.toNatClampNeg) &&& (63 : Int32)) = (3 : Int32)
      · rw [if_pos c50] at H
        refine lw_tsIn (tgt := 307) dL_law_33 (by rw [c50]; decide) (by rw [c50]; decide) (by rw [c50]; rfl) (by decide) ?_
        exact t_L_law_J307  ih l0 l1 l2 l3 h H
      rw [if_neg c50] at H
      by_cases c59 : ((sc.2 l3.toNatClampNeg) &&& (63 : Int32)) = (4 : Int32)
      · rw [if_pos c59] at H
        refine lw_tsIn (tgt := 320) dL_law_33 (by rw [c59]; decide) (by rw [c59]; decide) (by rw [c59]; rfl) (by decide) ?_
        exact t_L_law_J320  ih l0 l1 l2 l3 h H
      rw [if_neg c59] at H
      by_cases c72 : ((sc.2 l3.toNatClampNeg) &&& (63 : Int32)) = (5 : Int32)
      · rw [if_pos c72] at H
        refine lw_tsIn (tgt := 353) dL_law_33 (by rw [c72]; decide) (by rw [c72]; decide) (by rw [c72]; rfl) (by decide) ?_
        exact t_L_law_J353  ih l0 l1 l2 l3 h H
      rw [if_neg c72] at H
      by_cases c87 : ((sc.2 l3.toNatClampNeg) &&& (63 : Int32)) = (6 : Int32)
      · rw [if_pos c87] at H
        refine lw_tsIn (tgt := 396) dL_law_33 (by rw [c87]; decide) (by rw [c87]; decide) (by rw [c87]; rfl) (by decide) ?_
        exact t_L_law_J396  ih l0 l1 l2 l3 h H
      rw [if_neg c87] at H
      by_cases c98 : ((sc.2 l3.toNatClampNeg) &&& (63 : Int32)) = (7 : Int32)
      · rw [if_pos c98] at H
        refine lw_tsIn (tgt := 419) dL_law_33 (by rw [c98]; decide) (by rw [c98]; decide) (by rw [c98]; rfl) (by decide) ?_
        exact t_L_law_J419  ih l0 l1 l2 l3 h H
      rw [if_neg c98] at H
      by_cases c113 : ((sc.2 l3.toNatClampNeg) &&& (63 : Int32)) = (8 : Int32)
      · rw [if_pos c113] at H
        refine lw_tsIn (tgt := 462) dL_law_33 (by rw [c113]; decide) (by rw [c113]; decide) (by rw [c113]; rfl) (by decide) ?_
        exact t_L_law_J462  ih l0 l1 l2 l3 h H
      rw [if_neg c113] at H
      by_cases c124 : ((sc.2 l3.toNatClampNeg) &&& (63 : Int32)) = (9 : Int32)
      · rw [if_pos c124] at H
        refine lw_tsIn (tgt := 485) dL_law_33 (by rw [c124]; decide) (by rw [c124]; decide) (by rw [c124]; rfl) (by decide) ?_
        exact t_L_law_J485  ih l0 l1 l2 l3 h H
      rw [if_neg c124] at H
      by_cases c137 : ((sc.2 l3.toNatClampNeg) &&& (63 : Int32)) = (10 : Int32)
      · rw [if_pos c137] at H
        refine lw_tsIn (tgt := 518) dL_law_33 (by rw [c137]; decide) (by rw [c137]; decide) (by rw [c137]; rfl) (by decide) ?_
        exact t_L_law_J518  ih l0 l1 l2 l3 h H
      rw [if_neg c137] at H
      by_cases c152 : ((sc.2 l3.toNatClampNeg) &&& (63 : Int32)) = (11 : Int32)
      · rw [if_pos c152] at H
        refine lw_tsIn (tgt := 561) dL_law_33 (by rw [c152]; decide) (by rw [c152]; decide) (by rw [c152]; rfl) (by decide) ?_
        exact t_L_law_J561  ih l0 l1 l2 l3 h H
      rw [if_neg c152] at H
      by_cases c171 : ((sc.2 l3.toNatClampNeg) &&& (63 : Int32)) = (12 : Int32)
      · rw [if_pos c171] at H
        refine lw_tsIn (tgt := 624) dL_law_33 (by rw [c171]; decide) (by rw [c171]; decide) (by rw [c171]; rfl) (by decide) ?_
        exact t_L_law_J624  ih l0 l1 l2 l3 h H
      rw [if_neg c171] at H
      by_cases c184 : ((sc.2 l3.toNatClampNeg) &&& (63 : Int32)) = (13 : Int32)
      · rw [if_pos c184] at H
        refine lw_tsIn (tgt := 657) dL_law_33 (by rw [c184]; decide) (by rw [c184]; decide) (by rw [c184]; rfl) (by decide) ?_
        exact t_L_law_J657  ih l0 l1 l2 l3 h H
      rw [if_neg c184] at H
      by_cases c195 : ((sc.2 l3.toNatClampNeg) &&& (63 : Int32)) = (14 : Int32)
      · rw [if_pos c195] at H
        refine lw_tsIn (tgt := 680) dL_law_33 (by rw [c195]; decide) (by rw [c195]; decide) (by rw [c195]; rfl) (by decide) ?_
        exact t_L_law_J680  ih l0 l1 l2 l3 h H
      rw [if_neg c195] at H
      by_cases c206 : ((sc.2 l3.toNatClampNeg) &&& (63 : Int32)) = (15 : Int32)
      · rw [if_pos c206] at H
        refine lw_tsIn (tgt := 703) dL_law_33 (by rw [c206]; decide) (by rw [c206]; decide) (by rw [c206]; rfl) (by decide) ?_
        exact t_L_law_J703  ih l0 l1 l2 l3 h H
      rw [if_neg c206] at H
      by_cases c221 : ((sc.2 l3.toNatClampNeg) &&& (63 : Int32)) = (16 : Int32)
      · rw [if_pos c221] at H
        refine lw_tsIn (tgt := 746) dL_law_33 (by rw [c221]; decide) (by rw [c221]; decide) (by rw [c221]; rfl) (by decide) ?_
        exact t_L_law_J746  ih l0 l1 l2 l3 h H
      rw [if_neg c221] at H
      by_cases c234 : ((sc.2 l3.toNatClampNeg) &&& (63 : Int32)) = (17 : Int32)
      · rw [if_pos c234] at H
        refine lw_tsIn (tgt := 779) dL_law_33 (by rw [c234]; decide) (by rw [c234]; decide) (by rw [c234]; rfl) (by decide) ?_
        exact t_L_law_J779  ih l0 l1 l2 l3 h H
      rw [if_neg c234] at H
      by_cases c249 : ((sc.2 l3.toNatClampNeg) &&& (63 : Int32)) = (18 : Int32)
      · rw [if_pos c249] at H
        refine lw_tsIn (tgt := 822) dL_law_33 (by rw [c249]; decide) (by rw [c249]; decide) (by rw [c249]; rfl) (by decide) ?_
        exact t_L_law_J822  ih l0 l1 l2 l3 h H
      rw [if_neg c249] at H
      by_cases c266 : ((sc.2 l3.toNatClampNeg) &&& (63 : Int32)) = (19 : Int32)
      · rw [if_pos c266] at H
        refine lw_tsIn (tgt := 875) dL_law_33 (by rw [c266]; decide) (by rw [c266]; decide) (by rw [c266]; rfl) (by decide) ?_
        exact t_L_law_J875  ih l0 l1 l2 l3 h H
      rw [if_neg c266] at H
      by_cases c281 : ((sc.2 l3.toNatClampNeg) &&& (63 : Int32)) = (20 : Int32)
      · rw [if_pos c281] at H
        refine lw_tsIn (tgt := 918) dL_law_33 (by rw [c281]; decide) (by rw [c281]; decide) (by rw [c281]; rfl) (by decide) ?_
        exact t_L_law_J918  ih l0 l1 l2 l3 h H
      rw [if_neg c281] at H
      by_cases c290 : ((sc.2 l3.toNatClampNeg) &&& (63 : Int32)) = (21 : Int32)
      · rw [if_pos c290] at H
        refine lw_tsIn (tgt := 931) dL_law_33 (by rw [c290]; decide) (by rw [c290]; decide) (by rw [c290]; rfl) (by decide) ?_
        exact t_L_law_J931  ih l0 l1 l2 l3 h H
      rw [if_neg c290] at H
      by_cases c303 : ((sc.2 l3.toNatClampNeg) &&& (63 : Int32)) = (22 : Int32)
      · rw [if_pos c303] at H
        refine lw_tsIn (tgt := 964) dL_law_33 (by rw [c303]; decide) (by rw [c303]; decide) (by rw [c303]; rfl) (by decide) ?_
        exact t_L_law_J964  ih l0 l1 l2 l3 h H
      rw [if_neg c303] at H
      by_cases c316 : ((sc.2 l3.toNatClampNeg) &&& (63 : Int32)) = (23 : Int32)
      · rw [if_pos c316] at H
        refine lw_tsIn (tgt := 997) dL_law_33 (by rw [c316]; decide) (by rw [c316]; decide) (by rw [c316]; rfl) (by decide) ?_
        exact t_L_law_J997  ih l0 l1 l2 l3 h H
      rw [if_neg c316] at H
      by_cases c325 : ((sc.2 l3.toNatClampNeg) &&& (63 : Int32)) = (24 : Int32)
      · rw [if_pos c325] at H
        refine lw_tsIn (tgt := 1010) dL_law_33 (by rw [c325]; decide) (by rw [c325]; decide) (by rw [c325]; rfl) (by decide) ?_
        exact t_L_law_J1010  ih l0 l1 l2 l3 h H
      rw [if_neg c325] at H
      by_cases c340 : ((sc.2 l3.toNatClampNeg) &&& (63 : Int32)) = (25 : Int32)
      · rw [if_pos c340] at H
        refine lw_tsIn (tgt := 1053) dL_law_33 (by rw [c340]; decide) (by rw [c340]; decide) (by rw [c340]; rfl) (by decide) ?_
        exact t_L_law_J1053  ih l0 l1 l2 l3 h H
      rw [if_neg c340] at H
      by_cases c351 : ((sc.2 l3.toNatClampNeg) &&& (63 : Int32)) = (26 : Int32)
      · rw [if_pos c351] at H
        refine lw_tsIn (tgt := 1076) dL_law_33 (by rw [c351]; decide) (by rw [c351]; decide) (by rw [c351]; rfl) (by decide) ?_
        exact t_L_law_J1076  ih l0 l1 l2 l3 h H
      rw [if_neg c351] at H
      by_cases c362 : ((sc.2 l3.toNatClampNeg) &&& (63 : Int32)) = (27 : Int32)
      · rw [if_pos c362] at H
        refine lw_tsIn (tgt := 1099) dL_law_33 (by rw [c362]; decide) (by rw [c362]; decide) (by rw [c362]; rfl) (by decide) ?_
        exact t_L_law_J1099  ih l0 l1 l2 l3 h H
      rw [if_neg c362] at H
      by_cases c371 : ((sc.2 l3.toNatClampNeg) &&& (63 : Int32)) = (28 : Int32)
      · rw [if_pos c371] at H
        refine lw_tsIn (tgt := 1112) dL_law_33 (by rw [c371]; decide) (by rw [c371]; decide) (by rw [c371]; rfl) (by decide) ?_
        exact t_L_law_J1112  ih l0 l1 l2 l3 h H
      rw [if_neg c371] at H
      by_cases c380 : ((sc.2 l3.toNatClampNeg) &&& (63 : Int32)) = (29 : Int32)
      · rw [if_pos c380] at H
        refine lw_tsIn (tgt := 1125) dL_law_33 (by rw [c380]; decide) (by rw [c380]; decide) (by rw [c380]; rfl) (by decide) ?_
        exact t_L_law_J1125  ih l0 l1 l2 l3 h H
      rw [if_neg c380] at H
      by_cases c391 : ((sc.2 l3.toNatClampNeg) &&& (63 : Int32)) = (30 : Int32)
      · rw [if_pos c391] at H
        refine lw_tsIn (tgt := 1148) dL_law_33 (by rw [c391]; decide) (by rw [c391]; decide) (by rw [c391]; rfl) (by decide) ?_
        exact t_L_law_J1148  ih l0 l1 l2 l3 h H
      rw [if_neg c391] at H
      by_cases c404 : ((sc.2 l3.toNatClampNeg) &&& (63 : Int32)) = (31 : Int32)
      · rw [if_pos c404] at H
        refine lw_tsIn (tgt := 1181) dL_law_33 (by rw [c404]; decide) (by rw [c404]; decide) (by rw [c404]; rfl) (by decide) ?_
        exact t_L_law_J1181  ih l0 l1 l2 l3 h H
      rw [if_neg c404] at H
      by_cases c419 : ((sc.2 l3.toNatClampNeg) &&& (63 : Int32)) = (32 : Int32)
      · rw [if_pos c419] at H
        refine lw_tsIn (tgt := 1224) dL_law_33 (by rw [c419]; decide) (by rw [c419]; decide) (by rw [c419]; rfl) (by decide) ?_
        exact t_L_law_J1224  ih l0 l1 l2 l3 h H
      rw [if_neg c419] at H
      by_cases c428 : ((sc.2 l3.toNatClampNeg) &&& (63 : Int32)) = (33 : Int32)
      · rw [if_pos c428] at H
        refine lw_tsIn (tgt := 1237) dL_law_33 (by rw [c428]; decide) (by rw [c428]; decide) (by rw [c428]; rfl) (by decide) ?_
        exact t_L_law_J1237  ih l0 l1 l2 l3 h H
      rw [if_neg c428] at H
      by_cases c441 : ((sc.2 l3.toNatClampNeg) &&& (63 : Int32)) = (34 : Int32)
      · rw [if_pos c441] at H
        refine lw_tsIn (tgt := 1270) dL_law_33 (by rw [c441]; decide) (by rw [c441]; decide) (by rw [c441]; rfl) (by decide) ?_
        exact t_L_law_J1270  ih l0 l1 l2 l3 h H
      rw [if_neg c441] at H
      refine lw_tsOut (tgt := 1293) dL_law_33 (ts_out (n := 35) (by decide) (by decide) (fun j hj => ?_)) (by decide) ?_
      · rcases (show j = 0 ∨ j = 1 ∨ j = 2 ∨ j = 3 ∨ j = 4 ∨ j = 5 ∨ j = 6 ∨ j = 7 ∨ j = 8 ∨ j = 9 ∨ j = 10 ∨ j = 11 ∨ j = 12 ∨ j = 13 ∨ j = 14 ∨ j = 15 ∨ j = 16 ∨ j = 17 ∨ j = 18 ∨ j = 19 ∨ j = 20 ∨ j = 21 ∨ j = 22 ∨ j = 23 ∨ j = 24 ∨ j = 25 ∨ j = 26 ∨ j = 27 ∨ j = 28 ∨ j = 29 ∨ j = 30 ∨ j = 31 ∨ j = 32 ∨ j = 33 ∨ j = 34 by omega) with rfl | rfl | rfl | rfl | rfl | rfl | rfl | rfl | rfl | rfl | rfl | rfl | rfl | rfl | rfl | rfl | rfl | rfl | rfl | rfl | rfl | rfl | rfl | rfl | rfl | rfl | rfl | rfl | rfl | rfl | rfl | rfl | rfl | rfl | rfl
        · exact fun q => c11 (by rw [q]; decide)
        · exact fun q => c26 (by rw [q]; decide)
        · exact fun q => c39 (by rw [q]; decide)
        · exact fun q => c50 (by rw [q]; decide)
        · exact fun q => c59 (by rw [q]; decide)
        · exact fun q => c72 (by rw [q]; decide)
        · exact fun q => c87 (by rw [q]; decide)
        · exact fun q => c98 (by rw [q]; decide)
        · exact fun q => c113 (by rw [q]; decide)
        · exact fun q => c124 (by rw [q]; decide)
        · exact fun q => c137 (by rw [q]; decide)
        · exact fun q => c152 (by rw [q]; decide)
        · exact fun q => c171 (by rw [q]; decide)
        · exact fun q => c184 (by rw [q]; decide)
        · exact fun q => c195 (by rw [q]; decide)
        · exact fun q => c206 (by rw [q]; decide)
        · exact fun q => c221 (by rw [q]; decide)
        · exact fun q => c234 (by rw [q]; decide)
        · exact fun q => c249 (by rw [q]; decide)
        · exact fun q => c266 (by rw [q]; decide)
        · exact fun q => c281 (by rw [q]; decide)
        · exact fun q => c290 (by rw [q]; decide)
        · exact fun q => c303 (by rw [q]; decide)
        · exact fun q => c316 (by rw [q]; decide)
        · exact fun q => c325 (by rw [q]; decide)
        · exact fun q => c340 (by rw [q]; decide)
        · exact fun q => c351 (by rw [q]; decide)
        · exact fun q => c362 (by rw [q]; decide)
        · exact fun q => c371 (by rw [q]; decide)
        · exact fun q => c380 (by rw [q]; decide)
        · exact fun q => c391 (by rw [q]; decide)
        · exact fun q => c404 (by rw [q]; decide)
        · exact fun q => c419 (by rw [q]; decide)
        · exact fun q => c428 (by rw [q]; decide)
        · exact fun q => c441 (by rw [q]; decide)
      replace H := vl_some H
      obtain ⟨x452, ex452, H⟩ := H
      refine lw_iincx (loc2 := [some (.retAddr 0), some (.ref l1), some (.ref l2), some (.int x452)]) dL_law_1293 rfl (by decide) ex452 (by decide) rfl ?_
      refine lw_goto (tgt := 18) dL_law_1296 (by decide) ?_
      exact ih l0 l1 l2 x452 h H
def f_L_law (sc : Sc) (h : Hp) : Option (Int32 × Hp) :=
vl (gN h) fun b1 =>
vl (nw h 9 14 0) fun h2 =>
bnd (f_X9_init h2 b1) fun u3 h4 =>
vl (gN h4) fun b5 =>
vl (nw h4 10 53 0) fun h6 =>
bnd (f_X10_init h6 b5) fun u7 h8 =>
f_L_law_L18 sc 6000 () b1 b5 (0 : Int32) h8
set_option maxHeartbeats 4000000 in
set_option maxRecDepth 100000 in
theorem t_L_law {sc : Sc} {X : Cx} {h h' : Hp} (H : f_L_law sc h = some ((1 : Int32), h')) : LW sc X mL_law h h' 0 [some (.retAddr 0), none, none, none] [] h := by
  unfold f_L_law at H
  replace H := vl_some H
  obtain ⟨b1, eb1, H⟩ := H
  replace H := vl_some H
  obtain ⟨h2, eh2, H⟩ := H
  refine lw_newx dL_law_0 ndL_7 eb1 eh2 ?_
  refine lw_dup dL_law_3 rfl ?_
  replace H := bnd_some H
  obtain ⟨u3, h4, eh4, H⟩ := H
  have ph4 := t_X9_init (X := X) (d := 4) (Nat.le_refl _) eh4
  refine lw_callI (as := []) dL_law_4 ph4 ok_X9_init (by decide) rfl k1_22 k1_23 rfl rfl rfl (Nat.le_of_ble_eq_true rfl) ?_
  refine lw_astore_n (loc2 := [some (.retAddr 0), some (.ref b1), none, none]) dL_law_7 rfl (by decide) rfl ?_
  replace H := vl_some H
  obtain ⟨b5, eb5, H⟩ := H
  replace H := vl_some H
  obtain ⟨h6, eh6, H⟩ := H
  refine lw_newx dL_law_8 ndL_10 eb5 eh6 ?_
  refine lw_dup dL_law_11 rfl ?_
  replace H := bnd_some H
  obtain ⟨u7, h8, eh8, H⟩ := H
  have ph8 := t_X10_init (X := X) (d := 3) (Nat.le_refl _) eh8
  refine lw_callI (as := []) dL_law_12 ph8 ok_X10_init (by decide) rfl k4_142 k4_143 rfl rfl rfl (Nat.le_of_ble_eq_true rfl) ?_
  refine lw_astore_n (loc2 := [some (.retAddr 0), some (.ref b1), some (.ref b5), none]) dL_law_15 rfl (by decide) rfl ?_
  refine lw_iconst (v := (0 : Int32)) dL_law_16 (by decide) ?_
  refine lw_istore_n (loc2 := [some (.retAddr 0), some (.ref b1), some (.ref b5), some (.int (0 : Int32))]) dL_law_17 rfl (by decide) rfl ?_
  refine t_L_law_L18   6000 () b1 b5 (0 : Int32) h8 H
