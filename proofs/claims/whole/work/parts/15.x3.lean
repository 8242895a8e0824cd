def F_X3_act_307 (u : St) (x2 : Int32) : Option (Int32 × St) := ((F_X3_within u x2 9 11).bind fun q1 => (if q1.1 = 0 then (some (0, q1.2)) else ((F_X3_giveBack q1.2).bind fun q4 => (some (0, q4.2)))))
def F_X3_act_278 (u : St) (x2 : Int32) : Option (Int32 × St) := (if x2 = 14 then (sb (su u 0 5 ((u 0 5) - 1)) fun u2 => (if ((u2 0 5) < 0 ∨ 8 ≤ (u2 0 5).toNatClampNeg) then none else F_X3_act_307 (su u2 0 4 (u2 4 (u2 0 5).toNatClampNeg)) x2)) else F_X3_act_307 u x2)
def F_X3_act_250 (u : St) (x1 x2 : Int32) : Option (Int32 × St) := (if x2 = 13 then (if ((u 0 5) < 0 ∨ 8 ≤ (u 0 5).toNatClampNeg) then none else (sb (su u 4 (u 0 5).toNatClampNeg (x1 + 1)) fun u3 => F_X3_act_278 (su u3 0 5 ((u3 0 5) + 1)) x2)) else F_X3_act_278 u x2)
def F_X3_act_238 (u : St) (x1 x2 x3 : Int32) : Option (Int32 × St) := (if x2 = 11 then ((F_X3_write u x3 0).bind fun q2 => F_X3_act_250 q2.2 x1 x2) else F_X3_act_250 u x1 x2)
def F_X3_act_204 (k204 : St → Int32 → Int32 → Int32 → Int32 → Int32 → Option (Int32 × St)) (u : St) (x1 x2 x3 x6 x7 : Int32) : Option (Int32 × St) := (if 6 ≤ x7 then ((F_X3_write u x3 x6).bind fun q2 => F_X3_act_238 q2.2 x1 x2 x3) else (if (((6 * x6) + x7) < 0 ∨ 150 ≤ ((6 * x6) + x7).toNatClampNeg) then none else k204 (su u 8 ((6 * x6) + x7).toNatClampNeg 0) x1 x2 x3 x6 ((x7 + 1))))
def L_X3_act_204  : Nat → St → Int32 → Int32 → Int32 → Int32 → Int32 → Option (Int32 × St)
  | 0 => fun _ _ _ _ _ _ => none
  | n + 1 => fun u x1 x2 x3 x6 x7 => F_X3_act_204 (L_X3_act_204 n) u x1 x2 x3 x6 x7
def F_X3_act_180 (u : St) (x1 x2 x3 x4 : Int32) : Option (Int32 × St) := (if x2 = 9 then ((F_X3_free u).bind fun q2 => (if (q2.1 < 0 ∨ 25 ≤ q2.1.toNatClampNeg) then none else (sb (su q2.2 7 q2.1.toNatClampNeg x4) fun u5 => L_X3_act_204 fuel u5 x1 x2 x3 (q2.1) 0))) else F_X3_act_238 u x1 x2 x3)
def F_X3_act_160 (u : St) (x1 x2 x3 x4 : Int32) : Option (Int32 × St) := (if x2 = 8 then ((F_X3_read u x4).bind fun q2 => (if q2.1 = 0 then F_X3_act_180 q2.2 x1 x2 x3 x4 else F_X3_act_180 (su q2.2 0 4 x3) x1 x2 x3 x4)) else F_X3_act_180 u x1 x2 x3 x4)
def F_X3_act_155 (u : St) (x1 x2 x3 x4 : Int32) : Option (Int32 × St) := F_X3_act_160 (su u 0 4 x3) x1 x2 x3 x4
def F_X3_act_143 (u : St) (x1 x2 x3 x4 : Int32) : Option (Int32 × St) := (if x2 = 7 then F_X3_act_155 u x1 x2 x3 x4 else (if x2 = 13 then F_X3_act_155 u x1 x2 x3 x4 else F_X3_act_160 u x1 x2 x3 x4))
def F_X3_act_114 (u : St) (x1 x2 x3 x4 x5 : Int32) : Option (Int32 × St) := ((F_X3_read u x4).bind fun q1 => ((F_X3_read q1.2 x5).bind fun q3 => ((F_X3_value q3.2 x2 (q1.1) (q3.1)).bind fun q5 => ((F_X3_write q5.2 x3 (q5.1)).bind fun q7 => F_X3_act_143 q7.2 x1 x2 x3 x4))))
def F_X3_act_98 (u : St) (x1 x2 x3 x4 x5 : Int32) : Option (Int32 × St) := ((F_X3_within u x2 3 6).bind fun q1 => (if q1.1 = 0 then (if x2 = 12 then F_X3_act_114 q1.2 x1 x2 x3 x4 x5 else F_X3_act_143 q1.2 x1 x2 x3 x4) else F_X3_act_114 q1.2 x1 x2 x3 x4 x5))
def F_X3_act_83 (u : St) (x1 x2 x3 x4 x5 : Int32) : Option (Int32 × St) := ((F_X3_read u x4).bind fun q1 => ((F_X3_write q1.2 x3 (q1.1)).bind fun q3 => F_X3_act_98 q3.2 x1 x2 x3 x4 x5))
def F_X3_act_72 (u : St) (x1 x2 x3 x4 x5 : Int32) : Option (Int32 × St) := (if x2 = 2 then F_X3_act_83 u x1 x2 x3 x4 x5 else (if x2 = 10 then F_X3_act_83 u x1 x2 x3 x4 x5 else F_X3_act_98 u x1 x2 x3 x4 x5))
def F_X3_act_60 (u : St) (x1 x2 x3 x4 x5 : Int32) : Option (Int32 × St) := (if x2 = 1 then ((F_X3_write u x3 x4).bind fun q2 => F_X3_act_72 q2.2 x1 x2 x3 x4 x5) else F_X3_act_72 u x1 x2 x3 x4 x5)
def F_X3_act (u : St) (x1 : Int32) : Option (Int32 × St) := (if ((4 * x1) < 0 ∨ 160 ≤ (4 * x1).toNatClampNeg) then none else (if (((4 * x1) + 1) < 0 ∨ 160 ≤ ((4 * x1) + 1).toNatClampNeg) then none else (if (((4 * x1) + 2) < 0 ∨ 160 ≤ ((4 * x1) + 2).toNatClampNeg) then none else (if (((4 * x1) + 3) < 0 ∨ 160 ≤ ((4 * x1) + 3).toNatClampNeg) then none else (sb (su u 0 4 (x1 + 1)) fun u5 => (if (u 3 (4 * x1).toNatClampNeg) = 0 then F_X3_act_60 (su u5 0 4 x1) x1 ((u 3 (4 * x1).toNatClampNeg)) ((u 3 ((4 * x1) + 1).toNatClampNeg)) ((u 3 ((4 * x1) + 2).toNatClampNeg)) ((u 3 ((4 * x1) + 3).toNatClampNeg)) else F_X3_act_60 u5 x1 ((u 3 (4 * x1).toNatClampNeg)) ((u 3 ((4 * x1) + 1).toNatClampNeg)) ((u 3 ((4 * x1) + 2).toNatClampNeg)) ((u 3 ((4 * x1) + 3).toNatClampNeg))))))))
set_option maxRecDepth 100000 in
set_option maxHeartbeats 4000000 in
theorem c_X3_act (l : Launch) (dC : Nat → ClassId) (dI : Nat → Nat → Nat) (cI cZ : ClassId) (a : Nat → Nat) (u : St) (x1 : Int32) (o : Int32 × St) (hF : F_X3_act u x1 = some o) : MV l yX3_act wsX3_act 3 68 none dC dI cI cZ (wD a cI cZ) [.ref (a 0), .int x1] u o := by
  refine mvOf (cc := cX3_act) (maxL := 8) (by decide) rfl (Nat.le_of_ble_eq_true rfl) ?_
  intro p e s m args below meth c A Q H locs ls hx hb hml hts hown hK hA hz hQ hP hD hS hl
  replace hown : s.vm.findClass RX3 = some m.cls := hown
  replace hl : lv_has ls 8 [(0, .ref (a 0)), (1, .int x1)] := hl
  have hin : ∀ w ∈ u_ws RX3 TX3 17, w ∈ wsX3_act := by decide +kernel
  have fl16 := hts (.fieldLink RX3 16 "CountedHeapModel" "code" "[I") (by decide +kernel)
  have fl19 := hts (.fieldLink RX3 19 "CountedHeapModel" "stack" "[I") (by decide +kernel)
  have fl28 := hts (.fieldLink RX3 28 "CountedHeapModel" "kind" "[I") (by decide +kernel)
  have fl31 := hts (.fieldLink RX3 31 "CountedHeapModel" "words" "[I") (by decide +kernel)
  have fl63 := hts (.fieldLink RX3 63 "CountedHeapModel" "next" "I") (by decide +kernel)
  have fl66 := hts (.fieldLink RX3 66 "CountedHeapModel" "depth" "I") (by decide +kernel)
  have b307 : ∀  (x2 : Int32) (u : St), F_X3_act_307 u x2 = some o → GW p l e (rmK 3 68) s m args below meth c Q dC dI (wD a cI cZ) A 8 307 [(0, .ref (a 0)), (2, .int x2)] [] u := by
      intro  x2 u hF H locs ls hP hD hS hl
      unfold F_X3_act_307 at hF
      refine lv_iload_n hx hb dX3_act_307 rfl (lv_at hl 1 rfl) ?_
      refine lv_bipush (v := 9) hx hb dX3_act_308 (by decide) ?_
      refine lv_bipush (v := 11) hx hb dX3_act_310 (by decide) ?_
      obtain ⟨q1, e2, hF⟩ := bd hF
      refine callSI (As := [.int x2, .int 9, .int 11]) (rest := []) ⟨hx, hb, hml, hown, hts⟩ (c_X3_within l dC dI cI cZ a u x2 9 11 q1 e2) gX3_act_X3_within rfl hd_X3_within ⟨Nat.le_of_ble_eq_true rfl, Nat.le_of_ble_eq_true rfl⟩ True.intro hK hP hD hS hA rfl hl.1 rfl (Nat.le_of_ble_eq_true rfl) dX3_act_312 (fun H locs hP hD hS => ?_)
      refine lv_if_eq (tgt := 322) hx hb dX3_act_315 (by decide) (fun h3 => ?_) (fun h3 => ?_)
      · replace hF := ip h3 hF
        exact hQ _ _ _ _ _ (Option.some.inj hF) hP hD hS dX3_act_322
      · replace hF := iq h3 hF
        refine lv_aload_n hx hb dX3_act_318 rfl (lv_at hl 0 rfl) ?_
        obtain ⟨q4, e5, hF⟩ := bd hF
        refine callVV (C := RX3) (ci := 3) (q0 := 0) (As := []) (rest := []) ⟨hx, hb, hml, hown, hts⟩ (c_X3_giveBack l dC dI cI cZ a q1.2 q4 e5) gX3_act_X3_giveBack rfl hd_X3_giveBack rfl rfl rfl ⟨Nat.le_of_ble_eq_true rfl, Nat.le_of_ble_eq_true rfl⟩ True.intro hK hP hD hS hA rfl hl.1 rfl (Nat.le_of_ble_eq_true rfl) dX3_act_319 (fun H locs hP hD hS => ?_)
        exact hQ _ _ _ _ _ (Option.some.inj hF) hP hD hS dX3_act_322
  have b278 : ∀  (x2 : Int32) (u : St), F_X3_act_278 u x2 = some o → GW p l e (rmK 3 68) s m args below meth c Q dC dI (wD a cI cZ) A 8 278 [(0, .ref (a 0)), (2, .int x2)] [] u := by
      intro  x2 u hF H locs ls hP hD hS hl
      unfold F_X3_act_278 at hF
      refine lv_iload_n hx hb dX3_act_278 rfl (lv_at hl 1 rfl) ?_
      refine lv_bipush (v := 14) hx hb dX3_act_279 (by decide) ?_
      refine lv_icmp_ne (tgt := 307) hx hb dX3_act_281 (by decide) (fun h1 => ?_) (fun h1 => ?_)
      · replace hF := iq h1 hF
        exact b307  x2 u hF H locs ls hP hD hS (lv_sub hl [0, 1] rfl)
      · replace hF := ip h1 hF
        refine lv_aload_n hx hb dX3_act_284 rfl (lv_at hl 0 rfl) ?_
        refine lv_dup hx hb dX3_act_285 rfl ?_
        refine va_get (D := (dC, dI)) (ci := 3) (v := .int (u 0 5)) (C := RX3) (T := TX3) (N := 17) hx hb hts hin hown hK hP 0 rfl rfl 5 (by decide) fl66 (fun _ h9 => h9) rfl dX3_act_286 ?_
        refine lv_iconst (v := 1) hx hb dX3_act_289 (by decide) ?_
        refine lv_isub hx hb dX3_act_290 ?_
        refine va_put (D := (dC, dI)) (ci := 3) (v := .int ((u 0 5) - 1)) (ty := .int) (C := RX3) (T := TX3) (N := 17) hx hb hts hin tyX3 tyX3_ok nmX3 hown hK hP hD hS 0 rfl rfl 5 (by decide) fl66 (fun _ h9 => h9) rfl (tyX3_ok 5 (by decide)) rfl rfl (Nat.le_of_ble_eq_true rfl) dX3_act_291 (fun H locs hP hD hS => ?_)
        replace hP := wD_p0_5 hP
        replace hD := wD_d0_5 hD
        replace hF := sbE hF
        generalize (su u 0 5 ((u 0 5) - 1)) = u2 at hF hP hD
        refine lv_aload_n hx hb dX3_act_294 rfl (lv_at hl 0 rfl) ?_
        refine lv_aload_n hx hb dX3_act_295 rfl (lv_at hl 0 rfl) ?_
        refine va_get (D := (dC, dI)) (ci := 3) (v := .ref (a 4)) (C := RX3) (T := TX3) (N := 17) hx hb hts hin hown hK hP 0 rfl rfl 8 (by decide) fl19 (fun _ h9 => h9) rfl dX3_act_296 ?_
        refine lv_aload_n hx hb dX3_act_299 rfl (lv_at hl 0 rfl) ?_
        refine va_get (D := (dC, dI)) (ci := 3) (v := .int (u2 0 5)) (C := RX3) (T := TX3) (N := 17) hx hb hts hin hown hK hP 0 rfl rfl 5 (by decide) fl66 (fun _ h9 => h9) rfl dX3_act_300 ?_
        obtain ⟨hi3, hF⟩ := ck hF
        refine va_iald hx hb hK hP 4 0 rfl rfl hi3 dX3_act_303 ?_
        refine va_put (D := (dC, dI)) (ci := 3) (v := .int (u2 4 (u2 0 5).toNatClampNeg)) (ty := .int) (C := RX3) (T := TX3) (N := 17) hx hb hts hin tyX3 tyX3_ok nmX3 hown hK hP hD hS 0 rfl rfl 4 (by decide) fl63 (fun _ h9 => h9) rfl (tyX3_ok 4 (by decide)) rfl rfl (Nat.le_of_ble_eq_true rfl) dX3_act_304 (fun H locs hP hD hS => ?_)
        replace hP := wD_p0_4 hP
        replace hD := wD_d0_4 hD
        exact b307  x2 (su u2 0 4 (u2 4 (u2 0 5).toNatClampNeg)) hF H locs ls hP hD hS (lv_sub hl [0, 1] rfl)
  have b250 : ∀  (x1 x2 : Int32) (u : St), F_X3_act_250 u x1 x2 = some o → GW p l e (rmK 3 68) s m args below meth c Q dC dI (wD a cI cZ) A 8 250 [(0, .ref (a 0)), (1, .int x1), (2, .int x2)] [] u := by
      intro  x1 x2 u hF H locs ls hP hD hS hl
      unfold F_X3_act_250 at hF
      refine lv_iload_n hx hb dX3_act_250 rfl (lv_at hl 2 rfl) ?_
      refine lv_bipush (v := 13) hx hb dX3_act_251 (by decide) ?_
      refine lv_icmp_ne (tgt := 278) hx hb dX3_act_253 (by decide) (fun h1 => ?_) (fun h1 => ?_)
      · replace hF := iq h1 hF
        exact b278  x2 u hF H locs ls hP hD hS (lv_sub hl [0, 2] rfl)
      · replace hF := ip h1 hF
        refine lv_aload_n hx hb dX3_act_256 rfl (lv_at hl 0 rfl) ?_
        refine va_get (D := (dC, dI)) (ci := 3) (v := .ref (a 4)) (C := RX3) (T := TX3) (N := 17) hx hb hts hin hown hK hP 0 rfl rfl 8 (by decide) fl19 (fun _ h9 => h9) rfl dX3_act_257 ?_
        refine lv_aload_n hx hb dX3_act_260 rfl (lv_at hl 0 rfl) ?_
        refine va_get (D := (dC, dI)) (ci := 3) (v := .int (u 0 5)) (C := RX3) (T := TX3) (N := 17) hx hb hts hin hown hK hP 0 rfl rfl 5 (by decide) fl66 (fun _ h9 => h9) rfl dX3_act_261 ?_
        refine lv_iload_n hx hb dX3_act_264 rfl (lv_at hl 1 rfl) ?_
        refine lv_iconst (v := 1) hx hb dX3_act_265 (by decide) ?_
        refine lv_iadd hx hb dX3_act_266 ?_
        obtain ⟨hi2, hF⟩ := ck hF
        refine va_iast hx hb hK hP hD hS 4 0 rfl rfl hi2 dX3_act_267 (fun H locs hP hD hS => ?_)
        replace hP := wD_p4 hP
        replace hD := wD_d4 hD
        replace hF := sbE hF
        generalize (su u 4 (u 0 5).toNatClampNeg (x1 + 1)) = u3 at hF hP hD
        refine lv_aload_n hx hb dX3_act_268 rfl (lv_at hl 0 rfl) ?_
        refine lv_dup hx hb dX3_act_269 rfl ?_
        refine va_get (D := (dC, dI)) (ci := 3) (v := .int (u3 0 5)) (C := RX3) (T := TX3) (N := 17) hx hb hts hin hown hK hP 0 rfl rfl 5 (by decide) fl66 (fun _ h9 => h9) rfl dX3_act_270 ?_
        refine lv_iconst (v := 1) hx hb dX3_act_273 (by decide) ?_
        refine lv_iadd hx hb dX3_act_274 ?_
        refine va_put (D := (dC, dI)) (ci := 3) (v := .int ((u3 0 5) + 1)) (ty := .int) (C := RX3) (T := TX3) (N := 17) hx hb hts hin tyX3 tyX3_ok nmX3 hown hK hP hD hS 0 rfl rfl 5 (by decide) fl66 (fun _ h9 => h9) rfl (tyX3_ok 5 (by decide)) rfl rfl (Nat.le_of_ble_eq_true rfl) dX3_act_275 (fun H locs hP hD hS => ?_)
        replace hP := wD_p0_5 hP
        replace hD := wD_d0_5 hD
        exact b278  x2 (su u3 0 5 ((u3 0 5) + 1)) hF H locs ls hP hD hS (lv_sub hl [0, 2] rfl)
  have b238 : ∀  (x1 x2 x3 : Int32) (u : St), F_X3_act_238 u x1 x2 x3 = some o → GW p l e (rmK 3 68) s m args below meth c Q dC dI (wD a cI cZ) A 8 238 [(0, .ref (a 0)), (1, .int x1), (2, .int x2), (3, .int x3)] [] u := by
      intro  x1 x2 x3 u hF H locs ls hP hD hS hl
      unfold F_X3_act_238 at hF
      refine lv_iload_n hx hb dX3_act_238 rfl (lv_at hl 2 rfl) ?_
      refine lv_bipush (v := 11) hx hb dX3_act_239 (by decide) ?_
      refine lv_icmp_ne (tgt := 250) hx hb dX3_act_241 (by decide) (fun h1 => ?_) (fun h1 => ?_)
      · replace hF := iq h1 hF
        exact b250  x1 x2 u hF H locs ls hP hD hS (lv_sub hl [0, 1, 2] rfl)
      · replace hF := ip h1 hF
        refine lv_aload_n hx hb dX3_act_244 rfl (lv_at hl 0 rfl) ?_
        refine lv_iload_n hx hb dX3_act_245 rfl (lv_at hl 3 rfl) ?_
        refine lv_iconst (v := 0) hx hb dX3_act_246 (by decide) ?_
        obtain ⟨q2, e3, hF⟩ := bd hF
        refine callVV (C := RX3) (ci := 3) (q0 := 0) (As := [.int x3, .int 0]) (rest := []) ⟨hx, hb, hml, hown, hts⟩ (c_X3_write l dC dI cI cZ a u x3 0 q2 e3) gX3_act_X3_write rfl hd_X3_write rfl rfl rfl ⟨Nat.le_of_ble_eq_true rfl, Nat.le_of_ble_eq_true rfl⟩ True.intro hK hP hD hS hA rfl hl.1 rfl (Nat.le_of_ble_eq_true rfl) dX3_act_247 (fun H locs hP hD hS => ?_)
        exact b250  x1 x2 q2.2 hF H locs ls hP hD hS (lv_sub hl [0, 1, 2] rfl)
  have b204 : ∀ (k204 : St → Int32 → Int32 → Int32 → Int32 → Int32 → Option (Int32 × St)) (hk204 : ∀ (x1 x2 x3 x6 x7 : Int32) (u : St), k204 u x1 x2 x3 x6 x7 = some o → GW p l e (rmK 3 68) s m args below meth c Q dC dI (wD a cI cZ) A 8 204 [(0, .ref (a 0)), (1, .int x1), (2, .int x2), (3, .int x3), (6, .int x6), (7, .int x7)] [] u) (x1 x2 x3 x6 x7 : Int32) (u : St), F_X3_act_204 k204 u x1 x2 x3 x6 x7 = some o → GW p l e (rmK 3 68) s m args below meth c Q dC dI (wD a cI cZ) A 8 204 [(0, .ref (a 0)), (1, .int x1), (2, .int x2), (3, .int x3), (6, .int x6), (7, .int x7)] [] u := by
      intro k204 hk204 x1 x2 x3 x6 x7 u hF H locs ls hP hD hS hl
      unfold F_X3_act_204 at hF
      refine lv_iload hx hb dX3_act_204 (lv_at hl 5 rfl) ?_
      refine lv_bipush (v := 6) hx hb dX3_act_206 (by decide) ?_
      refine lv_icmp_ge (tgt := 231) hx hb dX3_act_208 (by decide) (fun h1 => ?_) (fun h1 => ?_)
      · replace hF := ip h1 hF
        refine lv_aload_n hx hb dX3_act_231 rfl (lv_at hl 0 rfl) ?_
        refine lv_iload_n hx hb dX3_act_232 rfl (lv_at hl 3 rfl) ?_
        refine lv_iload hx hb dX3_act_233 (lv_at hl 4 rfl) ?_
        obtain ⟨q2, e3, hF⟩ := bd hF
        refine callVV (C := RX3) (ci := 3) (q0 := 0) (As := [.int x3, .int x6]) (rest := []) ⟨hx, hb, hml, hown, hts⟩ (c_X3_write l dC dI cI cZ a u x3 x6 q2 e3) gX3_act_X3_write rfl hd_X3_write rfl rfl rfl ⟨Nat.le_of_ble_eq_true rfl, Nat.le_of_ble_eq_true rfl⟩ True.intro hK hP hD hS hA rfl hl.1 rfl (Nat.le_of_ble_eq_true rfl) dX3_act_235 (fun H locs hP hD hS => ?_)
        exact b238  x1 x2 x3 q2.2 hF H locs ls hP hD hS (lv_sub hl [0, 1, 2, 3] rfl)
      · replace hF := iq h1 hF
        refine lv_aload_n hx hb dX3_act_211 rfl (lv_at hl 0 rfl) ?_
        refine va_get (D := (dC, dI)) (ci := 3) (v := .ref (a 8)) (C := RX3) (T := TX3) (N := 17) hx hb hts hin hown hK hP 0 rfl rfl 12 (by decide) fl31 (fun _ h9 => h9) rfl dX3_act_212 ?_
        refine lv_bipush (v := 6) hx hb dX3_act_215 (by decide) ?_
        refine lv_iload hx hb dX3_act_217 (lv_at hl 4 rfl) ?_
        refine lv_imul hx hb dX3_act_219 ?_
        refine lv_iload hx hb dX3_act_220 (lv_at hl 5 rfl) ?_
        refine lv_iadd hx hb dX3_act_222 ?_
        refine lv_iconst (v := 0) hx hb dX3_act_223 (by decide) ?_
        obtain ⟨hi4, hF⟩ := ck hF
        refine va_iast hx hb hK hP hD hS 8 0 rfl rfl hi4 dX3_act_224 (fun H locs hP hD hS => ?_)
        replace hP := wD_p8 hP
        replace hD := wD_d8 hD
        refine lv_iinc (v := (x7 + 1)) (lv' := [(7, .int (x7 + 1)), (0, .ref (a 0)), (1, .int x1), (2, .int x2), (3, .int x3), (6, .int x6)]) hx hb dX3_act_225 hl (k := 5) rfl rfl (by decide) rfl (fun ls hl => ?_)
        refine lv_goto (tgt := 204) hx hb dX3_act_228 (by decide) ?_
        exact hk204 x1 x2 x3 x6 ((x7 + 1)) (su u 8 ((6 * x6) + x7).toNatClampNeg 0) hF H locs ls hP hD hS (lv_sub hl [1, 2, 3, 4, 5, 0] rfl)
  have l204 : ∀  (n : Nat) (x1 x2 x3 x6 x7 : Int32) (u : St), L_X3_act_204  n u x1 x2 x3 x6 x7 = some o → GW p l e (rmK 3 68) s m args below meth c Q dC dI (wD a cI cZ) A 8 204 [(0, .ref (a 0)), (1, .int x1), (2, .int x2), (3, .int x3), (6, .int x6), (7, .int x7)] [] u := by
      intro  n
      induction n with
      | zero =>
        intro x1 x2 x3 x6 x7 u hF
        have hF : (none : Option (Int32 × St)) = some o := hF
        cases hF
      | succ n ih =>
        intro x1 x2 x3 x6 x7 u hF
        exact b204 (L_X3_act_204 n) ih x1 x2 x3 x6 x7 u hF
  have b180 : ∀  (x1 x2 x3 x4 : Int32) (u : St), F_X3_act_180 u x1 x2 x3 x4 = some o → GW p l e (rmK 3 68) s m args below meth c Q dC dI (wD a cI cZ) A 8 180 [(0, .ref (a 0)), (1, .int x1), (2, .int x2), (3, .int x3), (4, .int x4)] [] u := by
      intro  x1 x2 x3 x4 u hF H locs ls hP hD hS hl
      unfold F_X3_act_180 at hF
      refine lv_iload_n hx hb dX3_act_180 rfl (lv_at hl 2 rfl) ?_
      refine lv_bipush (v := 9) hx hb dX3_act_181 (by decide) ?_
      refine lv_icmp_ne (tgt := 238) hx hb dX3_act_183 (by decide) (fun h1 => ?_) (fun h1 => ?_)
      · replace hF := iq h1 hF
        exact b238  x1 x2 x3 u hF H locs ls hP hD hS (lv_sub hl [0, 1, 2, 3] rfl)
      · replace hF := ip h1 hF
        refine lv_aload_n hx hb dX3_act_186 rfl (lv_at hl 0 rfl) ?_
        obtain ⟨q2, e3, hF⟩ := bd hF
        refine callVI (C := RX3) (ci := 3) (q0 := 0) (As := []) (rest := []) ⟨hx, hb, hml, hown, hts⟩ (c_X3_free l dC dI cI cZ a u q2 e3) gX3_act_X3_free rfl hd_X3_free rfl rfl rfl ⟨Nat.le_of_ble_eq_true rfl, Nat.le_of_ble_eq_true rfl⟩ True.intro hK hP hD hS hA rfl hl.1 rfl (Nat.le_of_ble_eq_true rfl) dX3_act_187 (fun H locs hP hD hS => ?_)
        refine lv_istore (lv' := [(6, .int q2.1), (0, .ref (a 0)), (1, .int x1), (2, .int x2), (3, .int x3), (4, .int x4)]) hx hb dX3_act_190 hl (by decide) rfl (fun ls hl => ?_)
        refine lv_aload_n hx hb dX3_act_192 rfl (lv_at hl 1 rfl) ?_
        refine va_get (D := (dC, dI)) (ci := 3) (v := .ref (a 7)) (C := RX3) (T := TX3) (N := 17) hx hb hts hin hown hK hP 0 rfl rfl 11 (by decide) fl28 (fun _ h9 => h9) rfl dX3_act_193 ?_
        refine lv_iload hx hb dX3_act_196 (lv_at hl 0 rfl) ?_
        refine lv_iload hx hb dX3_act_198 (lv_at hl 5 rfl) ?_
        obtain ⟨hi4, hF⟩ := ck hF
        refine va_iast hx hb hK hP hD hS 7 0 rfl rfl hi4 dX3_act_200 (fun H locs hP hD hS => ?_)
        replace hP := wD_p7 hP
        replace hD := wD_d7 hD
        replace hF := sbE hF
        generalize (su q2.2 7 q2.1.toNatClampNeg x4) = u5 at hF hP hD
        refine lv_iconst (v := 0) hx hb dX3_act_201 (by decide) ?_
        refine lv_istore (lv' := [(7, .int 0), (6, .int q2.1), (0, .ref (a 0)), (1, .int x1), (2, .int x2), (3, .int x3), (4, .int x4)]) hx hb dX3_act_202 hl (by decide) rfl (fun ls hl => ?_)
        exact l204  fuel x1 x2 x3 (q2.1) 0 u5 hF H locs ls hP hD hS (lv_sub hl [2, 3, 4, 5, 1, 0] rfl)
  have b160 : ∀  (x1 x2 x3 x4 : Int32) (u : St), F_X3_act_160 u x1 x2 x3 x4 = some o → GW p l e (rmK 3 68) s m args below meth c Q dC dI (wD a cI cZ) A 8 160 [(0, .ref (a 0)), (1, .int x1), (2, .int x2), (3, .int x3), (4, .int x4)] [] u := by
      intro  x1 x2 x3 x4 u hF H locs ls hP hD hS hl
      unfold F_X3_act_160 at hF
      refine lv_iload_n hx hb dX3_act_160 rfl (lv_at hl 2 rfl) ?_
      refine lv_bipush (v := 8) hx hb dX3_act_161 (by decide) ?_
      refine lv_icmp_ne (tgt := 180) hx hb dX3_act_163 (by decide) (fun h1 => ?_) (fun h1 => ?_)
      · replace hF := iq h1 hF
        exact b180  x1 x2 x3 x4 u hF H locs ls hP hD hS (lv_sub hl [0, 1, 2, 3, 4] rfl)
      · replace hF := ip h1 hF
        refine lv_aload_n hx hb dX3_act_166 rfl (lv_at hl 0 rfl) ?_
        refine lv_iload hx hb dX3_act_167 (lv_at hl 4 rfl) ?_
        obtain ⟨q2, e3, hF⟩ := bd hF
        refine callVI (C := RX3) (ci := 3) (q0 := 0) (As := [.int x4]) (rest := []) ⟨hx, hb, hml, hown, hts⟩ (c_X3_read l dC dI cI cZ a u x4 q2 e3) gX3_act_X3_read rfl hd_X3_read rfl rfl rfl ⟨Nat.le_of_ble_eq_true rfl, Nat.le_of_ble_eq_true rfl⟩ True.intro hK hP hD hS hA rfl hl.1 rfl (Nat.le_of_ble_eq_true rfl) dX3_act_169 (fun H locs hP hD hS => ?_)
        refine lv_if_eq (tgt := 180) hx hb dX3_act_172 (by decide) (fun h4 => ?_) (fun h4 => ?_)
        · replace hF := ip h4 hF
          exact b180  x1 x2 x3 x4 q2.2 hF H locs ls hP hD hS (lv_sub hl [0, 1, 2, 3, 4] rfl)
        · replace hF := iq h4 hF
          refine lv_aload_n hx hb dX3_act_175 rfl (lv_at hl 0 rfl) ?_
          refine lv_iload_n hx hb dX3_act_176 rfl (lv_at hl 3 rfl) ?_
          refine va_put (D := (dC, dI)) (ci := 3) (v := .int x3) (ty := .int) (C := RX3) (T := TX3) (N := 17) hx hb hts hin tyX3 tyX3_ok nmX3 hown hK hP hD hS 0 rfl rfl 4 (by decide) fl63 (fun _ h9 => h9) rfl (tyX3_ok 4 (by decide)) rfl rfl (Nat.le_of_ble_eq_true rfl) dX3_act_177 (fun H locs hP hD hS => ?_)
          replace hP := wD_p0_4 hP
          replace hD := wD_d0_4 hD
          exact b180  x1 x2 x3 x4 (su q2.2 0 4 x3) hF H locs ls hP hD hS (lv_sub hl [0, 1, 2, 3, 4] rfl)
  have b155 : ∀  (x1 x2 x3 x4 : Int32) (u : St), F_X3_act_155 u x1 x2 x3 x4 = some o → GW p l e (rmK 3 68) s m args below meth c Q dC dI (wD a cI cZ) A 8 155 [(0, .ref (a 0)), (1, .int x1), (2, .int x2), (3, .int x3), (4, .int x4)] [] u := by
      intro  x1 x2 x3 x4 u hF H locs ls hP hD hS hl
      unfold F_X3_act_155 at hF
      refine lv_aload_n hx hb dX3_act_155 rfl (lv_at hl 0 rfl) ?_
      refine lv_iload_n hx hb dX3_act_156 rfl (lv_at hl 3 rfl) ?_
      refine va_put (D := (dC, dI)) (ci := 3) (v := .int x3) (ty := .int) (C := RX3) (T := TX3) (N := 17) hx hb hts hin tyX3 tyX3_ok nmX3 hown hK hP hD hS 0 rfl rfl 4 (by decide) fl63 (fun _ h9 => h9) rfl (tyX3_ok 4 (by decide)) rfl rfl (Nat.le_of_ble_eq_true rfl) dX3_act_157 (fun H locs hP hD hS => ?_)
      replace hP := wD_p0_4 hP
      replace hD := wD_d0_4 hD
      exact b160  x1 x2 x3 x4 (su u 0 4 x3) hF H locs ls hP hD hS (lv_sub hl [0, 1, 2, 3, 4] rfl)
  have b143 : ∀  (x1 x2 x3 x4 : Int32) (u : St), F_X3_act_143 u x1 x2 x3 x4 = some o → GW p l e (rmK 3 68) s m args below meth c Q dC dI (wD a cI cZ) A 8 143 [(0, .ref (a 0)), (1, .int x1), (2, .int x2), (3, .int x3), (4, .int x4)] [] u := by
      intro  x1 x2 x3 x4 u hF H locs ls hP hD hS hl
      unfold F_X3_act_143 at hF
      refine lv_iload_n hx hb dX3_act_143 rfl (lv_at hl 2 rfl) ?_
      refine lv_bipush (v := 7) hx hb dX3_act_144 (by decide) ?_
      refine lv_icmp_eq (tgt := 155) hx hb dX3_act_146 (by decide) (fun h1 => ?_) (fun h1 => ?_)
      · replace hF := ip h1 hF
        exact b155  x1 x2 x3 x4 u hF H locs ls hP hD hS (lv_sub hl [0, 1, 2, 3, 4] rfl)
      · replace hF := iq h1 hF
        refine lv_iload_n hx hb dX3_act_149 rfl (lv_at hl 2 rfl) ?_
        refine lv_bipush (v := 13) hx hb dX3_act_150 (by decide) ?_
        refine lv_icmp_ne (tgt := 160) hx hb dX3_act_152 (by decide) (fun h2 => ?_) (fun h2 => ?_)
        · replace hF := iq h2 hF
          exact b160  x1 x2 x3 x4 u hF H locs ls hP hD hS (lv_sub hl [0, 1, 2, 3, 4] rfl)
        · replace hF := ip h2 hF
          exact b155  x1 x2 x3 x4 u hF H locs ls hP hD hS (lv_sub hl [0, 1, 2, 3, 4] rfl)
  have b114 : ∀  (x1 x2 x3 x4 x5 : Int32) (u : St), F_X3_act_114 u x1 x2 x3 x4 x5 = some o → GW p l e (rmK 3 68) s m args below meth c Q dC dI (wD a cI cZ) A 8 114 [(0, .ref (a 0)), (1, .int x1), (2, .int x2), (3, .int x3), (4, .int x4), (5, .int x5)] [] u := by
      intro  x1 x2 x3 x4 x5 u hF H locs ls hP hD hS hl
      unfold F_X3_act_114 at hF
      refine lv_aload_n hx hb dX3_act_114 rfl (lv_at hl 0 rfl) ?_
      refine lv_iload hx hb dX3_act_115 (lv_at hl 4 rfl) ?_
      obtain ⟨q1, e2, hF⟩ := bd hF
      refine callVI (C := RX3) (ci := 3) (q0 := 0) (As := [.int x4]) (rest := []) ⟨hx, hb, hml, hown, hts⟩ (c_X3_read l dC dI cI cZ a u x4 q1 e2) gX3_act_X3_read rfl hd_X3_read rfl rfl rfl ⟨Nat.le_of_ble_eq_true rfl, Nat.le_of_ble_eq_true rfl⟩ True.intro hK hP hD hS hA rfl hl.1 rfl (Nat.le_of_ble_eq_true rfl) dX3_act_117 (fun H locs hP hD hS => ?_)
      refine lv_istore (lv' := [(6, .int q1.1), (0, .ref (a 0)), (1, .int x1), (2, .int x2), (3, .int x3), (4, .int x4), (5, .int x5)]) hx hb dX3_act_120 hl (by decide) rfl (fun ls hl => ?_)
      refine lv_aload_n hx hb dX3_act_122 rfl (lv_at hl 1 rfl) ?_
      refine lv_iload hx hb dX3_act_123 (lv_at hl 6 rfl) ?_
      obtain ⟨q3, e4, hF⟩ := bd hF
      refine callVI (C := RX3) (ci := 3) (q0 := 0) (As := [.int x5]) (rest := []) ⟨hx, hb, hml, hown, hts⟩ (c_X3_read l dC dI cI cZ a q1.2 x5 q3 e4) gX3_act_X3_read rfl hd_X3_read rfl rfl rfl ⟨Nat.le_of_ble_eq_true rfl, Nat.le_of_ble_eq_true rfl⟩ True.intro hK hP hD hS hA rfl hl.1 rfl (Nat.le_of_ble_eq_true rfl) dX3_act_125 (fun H locs hP hD hS => ?_)
      refine lv_istore (lv' := [(7, .int q3.1), (6, .int q1.1), (0, .ref (a 0)), (1, .int x1), (2, .int x2), (3, .int x3), (4, .int x4), (5, .int x5)]) hx hb dX3_act_128 hl (by decide) rfl (fun ls hl => ?_)
      refine lv_aload_n hx hb dX3_act_130 rfl (lv_at hl 2 rfl) ?_
      refine lv_iload_n hx hb dX3_act_131 rfl (lv_at hl 5 rfl) ?_
      refine lv_iload_n hx hb dX3_act_132 rfl (lv_at hl 4 rfl) ?_
      refine lv_iload hx hb dX3_act_133 (lv_at hl 1 rfl) ?_
      refine lv_iload hx hb dX3_act_135 (lv_at hl 0 rfl) ?_
      obtain ⟨q5, e6, hF⟩ := bd hF
      refine callSI (As := [.int x2, .int q1.1, .int q3.1]) (rest := [.int x3, .ref (a 0)]) ⟨hx, hb, hml, hown, hts⟩ (c_X3_value l dC dI cI cZ a q3.2 x2 (q1.1) (q3.1) q5 e6) gX3_act_X3_value rfl hd_X3_value ⟨Nat.le_of_ble_eq_true rfl, Nat.le_of_ble_eq_true rfl⟩ True.intro hK hP hD hS hA rfl hl.1 rfl (Nat.le_of_ble_eq_true rfl) dX3_act_137 (fun H locs hP hD hS => ?_)
      obtain ⟨q7, e8, hF⟩ := bd hF
      refine callVV (C := RX3) (ci := 3) (q0 := 0) (As := [.int x3, .int q5.1]) (rest := []) ⟨hx, hb, hml, hown, hts⟩ (c_X3_write l dC dI cI cZ a q5.2 x3 (q5.1) q7 e8) gX3_act_X3_write rfl hd_X3_write rfl rfl rfl ⟨Nat.le_of_ble_eq_true rfl, Nat.le_of_ble_eq_true rfl⟩ True.intro hK hP hD hS hA rfl hl.1 rfl (Nat.le_of_ble_eq_true rfl) dX3_act_140 (fun H locs hP hD hS => ?_)
      exact b143  x1 x2 x3 x4 q7.2 hF H locs ls hP hD hS (lv_sub hl [2, 3, 4, 5, 6] rfl)
  have b98 : ∀  (x1 x2 x3 x4 x5 : Int32) (u : St), F_X3_act_98 u x1 x2 x3 x4 x5 = some o → GW p l e (rmK 3 68) s m args below meth c Q dC dI (wD a cI cZ) A 8 98 [(0, .ref (a 0)), (1, .int x1), (2, .int x2), (3, .int x3), (4, .int x4), (5, .int x5)] [] u := by
      intro  x1 x2 x3 x4 x5 u hF H locs ls hP hD hS hl
      unfold F_X3_act_98 at hF
      refine lv_iload_n hx hb dX3_act_98 rfl (lv_at hl 2 rfl) ?_
      refine lv_iconst (v := 3) hx hb dX3_act_99 (by decide) ?_
      refine lv_bipush (v := 6) hx hb dX3_act_100 (by decide) ?_
      obtain ⟨q1, e2, hF⟩ := bd hF
      refine callSI (As := [.int x2, .int 3, .int 6]) (rest := []) ⟨hx, hb, hml, hown, hts⟩ (c_X3_within l dC dI cI cZ a u x2 3 6 q1 e2) gX3_act_X3_within rfl hd_X3_within ⟨Nat.le_of_ble_eq_true rfl, Nat.le_of_ble_eq_true rfl⟩ True.intro hK hP hD hS hA rfl hl.1 rfl (Nat.le_of_ble_eq_true rfl) dX3_act_102 (fun H locs hP hD hS => ?_)
      refine lv_if_ne (tgt := 114) hx hb dX3_act_105 (by decide) (fun h3 => ?_) (fun h3 => ?_)
      · replace hF := iq h3 hF
        exact b114  x1 x2 x3 x4 x5 q1.2 hF H locs ls hP hD hS (lv_sub hl [0, 1, 2, 3, 4, 5] rfl)
      · replace hF := ip h3 hF
        refine lv_iload_n hx hb dX3_act_108 rfl (lv_at hl 2 rfl) ?_
        refine lv_bipush (v := 12) hx hb dX3_act_109 (by decide) ?_
        refine lv_icmp_ne (tgt := 143) hx hb dX3_act_111 (by decide) (fun h4 => ?_) (fun h4 => ?_)
        · replace hF := iq h4 hF
          exact b143  x1 x2 x3 x4 q1.2 hF H locs ls hP hD hS (lv_sub hl [0, 1, 2, 3, 4] rfl)
        · replace hF := ip h4 hF
          exact b114  x1 x2 x3 x4 x5 q1.2 hF H locs ls hP hD hS (lv_sub hl [0, 1, 2, 3, 4, 5] rfl)
  have b83 : ∀  (x1 x2 x3 x4 x5 : Int32) (u : St), F_X3_act_83 u x1 x2 x3 x4 x5 = some o → GW p l e (rmK 3 68) s m args below meth c Q dC dI (wD a cI cZ) A 8 83 [(0, .ref (a 0)), (1, .int x1), (2, .int x2), (3, .int x3), (4, .int x4), (5, .int x5)] [] u := by
      intro  x1 x2 x3 x4 x5 u hF H locs ls hP hD hS hl
      unfold F_X3_act_83 at hF
      refine lv_aload_n hx hb dX3_act_83 rfl (lv_at hl 0 rfl) ?_
      refine lv_iload hx hb dX3_act_84 (lv_at hl 4 rfl) ?_
      obtain ⟨q1, e2, hF⟩ := bd hF
      refine callVI (C := RX3) (ci := 3) (q0 := 0) (As := [.int x4]) (rest := []) ⟨hx, hb, hml, hown, hts⟩ (c_X3_read l dC dI cI cZ a u x4 q1 e2) gX3_act_X3_read rfl hd_X3_read rfl rfl rfl ⟨Nat.le_of_ble_eq_true rfl, Nat.le_of_ble_eq_true rfl⟩ True.intro hK hP hD hS hA rfl hl.1 rfl (Nat.le_of_ble_eq_true rfl) dX3_act_86 (fun H locs hP hD hS => ?_)
      refine lv_istore (lv' := [(6, .int q1.1), (0, .ref (a 0)), (1, .int x1), (2, .int x2), (3, .int x3), (4, .int x4), (5, .int x5)]) hx hb dX3_act_89 hl (by decide) rfl (fun ls hl => ?_)
      refine lv_aload_n hx hb dX3_act_91 rfl (lv_at hl 1 rfl) ?_
      refine lv_iload_n hx hb dX3_act_92 rfl (lv_at hl 4 rfl) ?_
      refine lv_iload hx hb dX3_act_93 (lv_at hl 0 rfl) ?_
      obtain ⟨q3, e4, hF⟩ := bd hF
      refine callVV (C := RX3) (ci := 3) (q0 := 0) (As := [.int x3, .int q1.1]) (rest := []) ⟨hx, hb, hml, hown, hts⟩ (c_X3_write l dC dI cI cZ a q1.2 x3 (q1.1) q3 e4) gX3_act_X3_write rfl hd_X3_write rfl rfl rfl ⟨Nat.le_of_ble_eq_true rfl, Nat.le_of_ble_eq_true rfl⟩ True.intro hK hP hD hS hA rfl hl.1 rfl (Nat.le_of_ble_eq_true rfl) dX3_act_95 (fun H locs hP hD hS => ?_)
      exact b98  x1 x2 x3 x4 x5 q3.2 hF H locs ls hP hD hS (lv_sub hl [1, 2, 3, 4, 5, 6] rfl)
  have b72 : ∀  (x1 x2 x3 x4 x5 : Int32) (u : St), F_X3_act_72 u x1 x2 x3 x4 x5 = some o → GW p l e (rmK 3 68) s m args below meth c Q dC dI (wD a cI cZ) A 8 72 [(0, .ref (a 0)), (1, .int x1), (2, .int x2), (3, .int x3), (4, .int x4), (5, .int x5)] [] u := by
      intro  x1 x2 x3 x4 x5 u hF H locs ls hP hD hS hl
      unfold F_X3_act_72 at hF
      refine lv_iload_n hx hb dX3_act_72 rfl (lv_at hl 2 rfl) ?_
      refine lv_iconst (v := 2) hx hb dX3_act_73 (by decide) ?_
      refine lv_icmp_eq (tgt := 83) hx hb dX3_act_74 (by decide) (fun h1 => ?_) (fun h1 => ?_)
      · replace hF := ip h1 hF
        exact b83  x1 x2 x3 x4 x5 u hF H locs ls hP hD hS (lv_sub hl [0, 1, 2, 3, 4, 5] rfl)
      · replace hF := iq h1 hF
        refine lv_iload_n hx hb dX3_act_77 rfl (lv_at hl 2 rfl) ?_
        refine lv_bipush (v := 10) hx hb dX3_act_78 (by decide) ?_
        refine lv_icmp_ne (tgt := 98) hx hb dX3_act_80 (by decide) (fun h2 => ?_) (fun h2 => ?_)
        · replace hF := iq h2 hF
          exact b98  x1 x2 x3 x4 x5 u hF H locs ls hP hD hS (lv_sub hl [0, 1, 2, 3, 4, 5] rfl)
        · replace hF := ip h2 hF
          exact b83  x1 x2 x3 x4 x5 u hF H locs ls hP hD hS (lv_sub hl [0, 1, 2, 3, 4, 5] rfl)
  have b60 : ∀  (x1 x2 x3 x4 x5 : Int32) (u : St), F_X3_act_60 u x1 x2 x3 x4 x5 = some o → GW p l e (rmK 3 68) s m args below meth c Q dC dI (wD a cI cZ) A 8 60 [(0, .ref (a 0)), (1, .int x1), (2, .int x2), (3, .int x3), (4, .int x4), (5, .int x5)] [] u := by
      intro  x1 x2 x3 x4 x5 u hF H locs ls hP hD hS hl
      unfold F_X3_act_60 at hF
      refine lv_iload_n hx hb dX3_act_60 rfl (lv_at hl 2 rfl) ?_
      refine lv_iconst (v := 1) hx hb dX3_act_61 (by decide) ?_
      refine lv_icmp_ne (tgt := 72) hx hb dX3_act_62 (by decide) (fun h1 => ?_) (fun h1 => ?_)
      · replace hF := iq h1 hF
        exact b72  x1 x2 x3 x4 x5 u hF H locs ls hP hD hS (lv_sub hl [0, 1, 2, 3, 4, 5] rfl)
      · replace hF := ip h1 hF
        refine lv_aload_n hx hb dX3_act_65 rfl (lv_at hl 0 rfl) ?_
        refine lv_iload_n hx hb dX3_act_66 rfl (lv_at hl 3 rfl) ?_
        refine lv_iload hx hb dX3_act_67 (lv_at hl 4 rfl) ?_
        obtain ⟨q2, e3, hF⟩ := bd hF
        refine callVV (C := RX3) (ci := 3) (q0 := 0) (As := [.int x3, .int x4]) (rest := []) ⟨hx, hb, hml, hown, hts⟩ (c_X3_write l dC dI cI cZ a u x3 x4 q2 e3) gX3_act_X3_write rfl hd_X3_write rfl rfl rfl ⟨Nat.le_of_ble_eq_true rfl, Nat.le_of_ble_eq_true rfl⟩ True.intro hK hP hD hS hA rfl hl.1 rfl (Nat.le_of_ble_eq_true rfl) dX3_act_69 (fun H locs hP hD hS => ?_)
        exact b72  x1 x2 x3 x4 x5 q2.2 hF H locs ls hP hD hS (lv_sub hl [0, 1, 2, 3, 4, 5] rfl)
  unfold F_X3_act at hF
  refine lv_aload_n hx hb dX3_act_0 rfl (lv_at hl 0 rfl) ?_
  refine va_get (D := (dC, dI)) (ci := 3) (v := .ref (a 3)) (C := RX3) (T := TX3) (N := 17) hx hb hts hin hown hK hP 0 rfl rfl 2 (by decide) fl16 (fun _ h9 => h9) rfl dX3_act_1 ?_
  refine lv_iconst (v := 4) hx hb dX3_act_4 (by decide) ?_
  refine lv_iload_n hx hb dX3_act_5 rfl (lv_at hl 1 rfl) ?_
  refine lv_imul hx hb dX3_act_6 ?_
  obtain ⟨hi1, hF⟩ := ck hF
  refine va_iald hx hb hK hP 3 0 rfl rfl hi1 dX3_act_7 ?_
  refine lv_istore_n (lv' := [(2, .int (u 3 (4 * x1).toNatClampNeg)), (0, .ref (a 0)), (1, .int x1)]) hx hb dX3_act_8 rfl hl (by decide) rfl (fun ls hl => ?_)
  refine lv_aload_n hx hb dX3_act_9 rfl (lv_at hl 1 rfl) ?_
  refine va_get (D := (dC, dI)) (ci := 3) (v := .ref (a 3)) (C := RX3) (T := TX3) (N := 17) hx hb hts hin hown hK hP 0 rfl rfl 2 (by decide) fl16 (fun _ h9 => h9) rfl dX3_act_10 ?_
  refine lv_iconst (v := 4) hx hb dX3_act_13 (by decide) ?_
  refine lv_iload_n hx hb dX3_act_14 rfl (lv_at hl 2 rfl) ?_
  refine lv_imul hx hb dX3_act_15 ?_
  refine lv_iconst (v := 1) hx hb dX3_act_16 (by decide) ?_
  refine lv_iadd hx hb dX3_act_17 ?_
  obtain ⟨hi2, hF⟩ := ck hF
  refine va_iald hx hb hK hP 3 0 rfl rfl hi2 dX3_act_18 ?_
  refine lv_istore_n (lv' := [(3, .int (u 3 ((4 * x1) + 1).toNatClampNeg)), (2, .int (u 3 (4 * x1).toNatClampNeg)), (0, .ref (a 0)), (1, .int x1)]) hx hb dX3_act_19 rfl hl (by decide) rfl (fun ls hl => ?_)
  refine lv_aload_n hx hb dX3_act_20 rfl (lv_at hl 2 rfl) ?_
  refine va_get (D := (dC, dI)) (ci := 3) (v := .ref (a 3)) (C := RX3) (T := TX3) (N := 17) hx hb hts hin hown hK hP 0 rfl rfl 2 (by decide) fl16 (fun _ h9 => h9) rfl dX3_act_21 ?_
  refine lv_iconst (v := 4) hx hb dX3_act_24 (by decide) ?_
  refine lv_iload_n hx hb dX3_act_25 rfl (lv_at hl 3 rfl) ?_
  refine lv_imul hx hb dX3_act_26 ?_
  refine lv_iconst (v := 2) hx hb dX3_act_27 (by decide) ?_
  refine lv_iadd hx hb dX3_act_28 ?_
  obtain ⟨hi3, hF⟩ := ck hF
  refine va_iald hx hb hK hP 3 0 rfl rfl hi3 dX3_act_29 ?_
  refine lv_istore (lv' := [(4, .int (u 3 ((4 * x1) + 2).toNatClampNeg)), (3, .int (u 3 ((4 * x1) + 1).toNatClampNeg)), (2, .int (u 3 (4 * x1).toNatClampNeg)), (0, .ref (a 0)), (1, .int x1)]) hx hb dX3_act_30 hl (by decide) rfl (fun ls hl => ?_)
  refine lv_aload_n hx hb dX3_act_32 rfl (lv_at hl 3 rfl) ?_
  refine va_get (D := (dC, dI)) (ci := 3) (v := .ref (a 3)) (C := RX3) (T := TX3) (N := 17) hx hb hts hin hown hK hP 0 rfl rfl 2 (by decide) fl16 (fun _ h9 => h9) rfl dX3_act_33 ?_
  refine lv_iconst (v := 4) hx hb dX3_act_36 (by decide) ?_
  refine lv_iload_n hx hb dX3_act_37 rfl (lv_at hl 4 rfl) ?_
  refine lv_imul hx hb dX3_act_38 ?_
  refine lv_iconst (v := 3) hx hb dX3_act_39 (by decide) ?_
  refine lv_iadd hx hb dX3_act_40 ?_
  obtain ⟨hi4, hF⟩ := ck hF
  refine va_iald hx hb hK hP 3 0 rfl rfl hi4 dX3_act_41 ?_
  refine lv_istore (lv' := [(5, .int (u 3 ((4 * x1) + 3).toNatClampNeg)), (4, .int (u 3 ((4 * x1) + 2).toNatClampNeg)), (3, .int (u 3 ((4 * x1) + 1).toNatClampNeg)), (2, .int (u 3 (4 * x1).toNatClampNeg)), (0, .ref (a 0)), (1, .int x1)]) hx hb dX3_act_42 hl (by decide) rfl (fun ls hl => ?_)
  refine lv_aload_n hx hb dX3_act_44 rfl (lv_at hl 4 rfl) ?_
  refine lv_iload_n hx hb dX3_act_45 rfl (lv_at hl 5 rfl) ?_
  refine lv_iconst (v := 1) hx hb dX3_act_46 (by decide) ?_
  refine lv_iadd hx hb dX3_act_47 ?_
  refine va_put (D := (dC, dI)) (ci := 3) (v := .int (x1 + 1)) (ty := .int) (C := RX3) (T := TX3) (N := 17) hx hb hts hin tyX3 tyX3_ok nmX3 hown hK hP hD hS 0 rfl rfl 4 (by decide) fl63 (fun _ h9 => h9) rfl (tyX3_ok 4 (by decide)) rfl rfl (Nat.le_of_ble_eq_true rfl) dX3_act_48 (fun H locs hP hD hS => ?_)
  replace hP := wD_p0_4 hP
  replace hD := wD_d0_4 hD
  replace hF := sbE hF
  generalize (su u 0 4 (x1 + 1)) = u5 at hF hP hD
  refine lv_iload_n hx hb dX3_act_51 rfl (lv_at hl 3 rfl) ?_
  refine lv_if_ne (tgt := 60) hx hb dX3_act_52 (by decide) (fun h6 => ?_) (fun h6 => ?_)
  · replace hF := iq h6 hF
    exact b60  x1 ((u 3 (4 * x1).toNatClampNeg)) ((u 3 ((4 * x1) + 1).toNatClampNeg)) ((u 3 ((4 * x1) + 2).toNatClampNeg)) ((u 3 ((4 * x1) + 3).toNatClampNeg)) u5 hF H locs ls hP hD hS (lv_sub hl [4, 5, 3, 2, 1, 0] rfl)
  · replace hF := ip h6 hF
    refine lv_aload_n hx hb dX3_act_55 rfl (lv_at hl 4 rfl) ?_
    refine lv_iload_n hx hb dX3_act_56 rfl (lv_at hl 5 rfl) ?_
    refine va_put (D := (dC, dI)) (ci := 3) (v := .int x1) (ty := .int) (C := RX3) (T := TX3) (N := 17) hx hb hts hin tyX3 tyX3_ok nmX3 hown hK hP hD hS 0 rfl rfl 4 (by decide) fl63 (fun _ h9 => h9) rfl (tyX3_ok 4 (by decide)) rfl rfl (Nat.le_of_ble_eq_true rfl) dX3_act_57 (fun H locs hP hD hS => ?_)
    replace hP := wD_p0_4 hP
    replace hD := wD_d0_4 hD
    exact b60  x1 ((u 3 (4 * x1).toNatClampNeg)) ((u 3 ((4 * x1) + 1).toNatClampNeg)) ((u 3 ((4 * x1) + 2).toNatClampNeg)) ((u 3 ((4 * x1) + 3).toNatClampNeg)) (su u5 0 4 x1) hF H locs ls hP hD hS (lv_sub hl [4, 5, 3, 2, 1, 0] rfl)
theorem hd_X3_act : yX3_act.cls = RX3 ∧ yX3_act.cls ≠ "java/lang/invoke/MethodHandle" ∧ yX3_act.cls ≠ "java/lang/invoke/VarHandle" ∧ (parseMethodDescriptor yX3_act.desc).map (fun d => d.parameters.length) = some 1 := by decide +kernel

def F_X3_run_87 (k27 : St → Int32 → Int32 → Int32 → Option (Int32 × St)) (u : St) (x1 x2 t0 : Int32) : Option (Int32 × St) := ((F_X3_act u ((u 0 4))).bind fun q1 => k27 q1.2 x1 ((x2 + 1)) t0)
def F_X3_run_27 (k27 : St → Int32 → Int32 → Int32 → Option (Int32 × St)) (u : St) (x1 x2 x3 : Int32) : Option (Int32 × St) := (if x1 ≤ x2 then (some (x2, u)) else (if x3 = 0 then (some (x2, u)) else (if (u 0 3) ≤ (u 0 4) then (some (x2, u)) else ((F_X3_fault u ((u 0 4))).bind fun q4 => (sb (su q4.2 0 7 q4.1) fun u6 => (if (u6 0 7) ≤ 0 then (if ((4 * (u6 0 4)) < 0 ∨ 160 ≤ (4 * (u6 0 4)).toNatClampNeg) then none else (if (u6 3 (4 * (u6 0 4)).toNatClampNeg) = 0 then F_X3_run_87 k27 u6 x1 x2 0 else F_X3_run_87 k27 u6 x1 x2 1)) else (some (0, u6))))))))
def L_X3_run_27  : Nat → St → Int32 → Int32 → Int32 → Option (Int32 × St)
  | 0 => fun _ _ _ _ => none
  | n + 1 => fun u x1 x2 x3 => F_X3_run_27 (L_X3_run_27 n) u x1 x2 x3
def F_X3_run (u : St) (x1 : Int32) : Option (Int32 × St) := (sb (su u 0 7 0) fun u1 => ((F_X3_within u1 x1 0 500).bind fun q2 => (if q2.1 = 0 then (sb (su q2.2 0 7 3) fun u5 => (some (0, u5))) else L_X3_run_27 fuel q2.2 x1 0 1)))
set_option maxRecDepth 100000 in
set_option maxHeartbeats 4000000 in
theorem c_X3_run (l : Launch) (dC : Nat → ClassId) (dI : Nat → Nat → Nat) (cI cZ : ClassId) (a : Nat → Nat) (u : St) (x1 : Int32) (o : Int32 × St) (hF : F_X3_run u x1 = some o) : MI l yX3_run wsX3_run 4 95 none dC dI cI cZ (wD a cI cZ) [.ref (a 0), .int x1] u o := by
  refine miOf (cc := cX3_run) (maxL := 4) (ret := .int) (by decide) rfl (Nat.le_of_ble_eq_true rfl) ?_
  intro p e s m args below meth c A Q H locs ls hx hb hml hts hown hK hA hz hQ hP hD hS hl
  replace hown : s.vm.findClass RX3 = some m.cls := hown
  replace hl : lv_has ls 4 [(0, .ref (a 0)), (1, .int x1)] := hl
  have hin : ∀ w ∈ u_ws RX3 TX3 17, w ∈ wsX3_run := by decide +kernel
  have fl16 := hts (.fieldLink RX3 16 "CountedHeapModel" "code" "[I") (by decide +kernel)
  have fl41 := hts (.fieldLink RX3 41 "CountedHeapModel" "thrown" "I") (by decide +kernel)
  have fl60 := hts (.fieldLink RX3 60 "CountedHeapModel" "length" "I") (by decide +kernel)
  have fl63 := hts (.fieldLink RX3 63 "CountedHeapModel" "next" "I") (by decide +kernel)
  have b87 : ∀ (k27 : St → Int32 → Int32 → Int32 → Option (Int32 × St)) (hk27 : ∀ (x1 x2 x3 : Int32) (u : St), k27 u x1 x2 x3 = some o → GW p l e (rmK 4 95) s m args below meth c Q dC dI (wD a cI cZ) A 4 27 [(0, .ref (a 0)), (1, .int x1), (2, .int x2), (3, .int x3)] [] u) (x1 x2 t0 : Int32) (u : St), F_X3_run_87 k27 u x1 x2 t0 = some o → GW p l e (rmK 4 95) s m args below meth c Q dC dI (wD a cI cZ) A 4 87 [(0, .ref (a 0)), (1, .int x1), (2, .int x2)] [.int t0] u := by
      intro k27 hk27 x1 x2 t0 u hF H locs ls hP hD hS hl
      unfold F_X3_run_87 at hF
      refine lv_istore_n (lv' := [(3, .int t0), (0, .ref (a 0)), (1, .int x1), (2, .int x2)]) hx hb dX3_run_87 rfl hl (by decide) rfl (fun ls hl => ?_)
      refine lv_aload_n hx hb dX3_run_88 rfl (lv_at hl 1 rfl) ?_
      refine lv_aload_n hx hb dX3_run_89 rfl (lv_at hl 1 rfl) ?_
      refine va_get (D := (dC, dI)) (ci := 3) (v := .int (u 0 4)) (C := RX3) (T := TX3) (N := 17) hx hb hts hin hown hK hP 0 rfl rfl 4 (by decide) fl63 (fun _ h9 => h9) rfl dX3_run_90 ?_
      obtain ⟨q1, e2, hF⟩ := bd hF
      refine callVV (C := RX3) (ci := 3) (q0 := 0) (As := [.int (u 0 4)]) (rest := []) ⟨hx, hb, hml, hown, hts⟩ (c_X3_act l dC dI cI cZ a u ((u 0 4)) q1 e2) gX3_run_X3_act rfl hd_X3_act rfl rfl rfl ⟨Nat.le_of_ble_eq_true rfl, Nat.le_of_ble_eq_true rfl⟩ True.intro hK hP hD hS hA rfl hl.1 rfl (Nat.le_of_ble_eq_true rfl) dX3_run_93 (fun H locs hP hD hS => ?_)
      refine lv_iinc (v := (x2 + 1)) (lv' := [(2, .int (x2 + 1)), (3, .int t0), (0, .ref (a 0)), (1, .int x1)]) hx hb dX3_run_96 hl (k := 3) rfl rfl (by decide) rfl (fun ls hl => ?_)
      refine lv_goto (tgt := 27) hx hb dX3_run_99 (by decide) ?_
      exact hk27 x1 ((x2 + 1)) t0 q1.2 hF H locs ls hP hD hS (lv_sub hl [2, 3, 0, 1] rfl)
  have b27 : ∀ (k27 : St → Int32 → Int32 → Int32 → Option (Int32 × St)) (hk27 : ∀ (x1 x2 x3 : Int32) (u : St), k27 u x1 x2 x3 = some o → GW p l e (rmK 4 95) s m args below meth c Q dC dI (wD a cI cZ) A 4 27 [(0, .ref (a 0)), (1, .int x1), (2, .int x2), (3, .int x3)] [] u) (x1 x2 x3 : Int32) (u : St), F_X3_run_27 k27 u x1 x2 x3 = some o → GW p l e (rmK 4 95) s m args below meth c Q dC dI (wD a cI cZ) A 4 27 [(0, .ref (a 0)), (1, .int x1), (2, .int x2), (3, .int x3)] [] u := by
      intro k27 hk27 x1 x2 x3 u hF H locs ls hP hD hS hl
      unfold F_X3_run_27 at hF
      refine lv_iload_n hx hb dX3_run_27 rfl (lv_at hl 2 rfl) ?_
      refine lv_iload_n hx hb dX3_run_28 rfl (lv_at hl 1 rfl) ?_
      refine lv_icmp_ge (tgt := 102) hx hb dX3_run_29 (by decide) (fun h1 => ?_) (fun h1 => ?_)
      · replace hF := ip h1 hF
        refine lv_iload_n hx hb dX3_run_102 rfl (lv_at hl 2 rfl) ?_
        exact hQ _ _ _ _ _ _ (Option.some.inj hF) (vp_nar_int _) hP hD hS dX3_run_103
      · replace hF := iq h1 hF
        refine lv_iload_n hx hb dX3_run_32 rfl (lv_at hl 3 rfl) ?_
        refine lv_if_eq (tgt := 102) hx hb dX3_run_33 (by decide) (fun h2 => ?_) (fun h2 => ?_)
        · replace hF := ip h2 hF
          refine lv_iload_n hx hb dX3_run_102 rfl (lv_at hl 2 rfl) ?_
          exact hQ _ _ _ _ _ _ (Option.some.inj hF) (vp_nar_int _) hP hD hS dX3_run_103
        · replace hF := iq h2 hF
          refine lv_aload_n hx hb dX3_run_36 rfl (lv_at hl 0 rfl) ?_
          refine va_get (D := (dC, dI)) (ci := 3) (v := .int (u 0 4)) (C := RX3) (T := TX3) (N := 17) hx hb hts hin hown hK hP 0 rfl rfl 4 (by decide) fl63 (fun _ h9 => h9) rfl dX3_run_37 ?_
          refine lv_aload_n hx hb dX3_run_40 rfl (lv_at hl 0 rfl) ?_
          refine va_get (D := (dC, dI)) (ci := 3) (v := .int (u 0 3)) (C := RX3) (T := TX3) (N := 17) hx hb hts hin hown hK hP 0 rfl rfl 3 (by decide) fl60 (fun _ h9 => h9) rfl dX3_run_41 ?_
          refine lv_icmp_ge (tgt := 102) hx hb dX3_run_44 (by decide) (fun h3 => ?_) (fun h3 => ?_)
          · replace hF := ip h3 hF
            refine lv_iload_n hx hb dX3_run_102 rfl (lv_at hl 2 rfl) ?_
            exact hQ _ _ _ _ _ _ (Option.some.inj hF) (vp_nar_int _) hP hD hS dX3_run_103
          · replace hF := iq h3 hF
            refine lv_aload_n hx hb dX3_run_47 rfl (lv_at hl 0 rfl) ?_
            refine lv_aload_n hx hb dX3_run_48 rfl (lv_at hl 0 rfl) ?_
            refine lv_aload_n hx hb dX3_run_49 rfl (lv_at hl 0 rfl) ?_
            refine va_get (D := (dC, dI)) (ci := 3) (v := .int (u 0 4)) (C := RX3) (T := TX3) (N := 17) hx hb hts hin hown hK hP 0 rfl rfl 4 (by decide) fl63 (fun _ h9 => h9) rfl dX3_run_50 ?_
            obtain ⟨q4, e5, hF⟩ := bd hF
            refine callVI (C := RX3) (ci := 3) (q0 := 0) (As := [.int (u 0 4)]) (rest := [.ref (a 0)]) ⟨hx, hb, hml, hown, hts⟩ (c_X3_fault l dC dI cI cZ a u ((u 0 4)) q4 e5) gX3_run_X3_fault rfl hd_X3_fault rfl rfl rfl ⟨Nat.le_of_ble_eq_true rfl, Nat.le_of_ble_eq_true rfl⟩ True.intro hK hP hD hS hA rfl hl.1 rfl (Nat.le_of_ble_eq_true rfl) dX3_run_53 (fun H locs hP hD hS => ?_)
            refine va_put (D := (dC, dI)) (ci := 3) (v := .int q4.1) (ty := .int) (C := RX3) (T := TX3) (N := 17) hx hb hts hin tyX3 tyX3_ok nmX3 hown hK hP hD hS 0 rfl rfl 7 (by decide) fl41 (fun _ h9 => h9) rfl (tyX3_ok 7 (by decide)) rfl rfl (Nat.le_of_ble_eq_true rfl) dX3_run_56 (fun H locs hP hD hS => ?_)
            replace hP := wD_p0_7 hP
            replace hD := wD_d0_7 hD
            replace hF := sbE hF
            generalize (su q4.2 0 7 q4.1) = u6 at hF hP hD
            refine lv_aload_n hx hb dX3_run_59 rfl (lv_at hl 0 rfl) ?_
            refine va_get (D := (dC, dI)) (ci := 3) (v := .int (u6 0 7)) (C := RX3) (T := TX3) (N := 17) hx hb hts hin hown hK hP 0 rfl rfl 7 (by decide) fl41 (fun _ h9 => h9) rfl dX3_run_60 ?_
            refine lv_if_le (tgt := 68) hx hb dX3_run_63 (by decide) (fun h7 => ?_) (fun h7 => ?_)
            · replace hF := ip h7 hF
              refine lv_aload_n hx hb dX3_run_68 rfl (lv_at hl 0 rfl) ?_
              refine va_get (D := (dC, dI)) (ci := 3) (v := .ref (a 3)) (C := RX3) (T := TX3) (N := 17) hx hb hts hin hown hK hP 0 rfl rfl 2 (by decide) fl16 (fun _ h9 => h9) rfl dX3_run_69 ?_
              refine lv_iconst (v := 4) hx hb dX3_run_72 (by decide) ?_
              refine lv_aload_n hx hb dX3_run_73 rfl (lv_at hl 0 rfl) ?_
              refine va_get (D := (dC, dI)) (ci := 3) (v := .int (u6 0 4)) (C := RX3) (T := TX3) (N := 17) hx hb hts hin hown hK hP 0 rfl rfl 4 (by decide) fl63 (fun _ h9 => h9) rfl dX3_run_74 ?_
              refine lv_imul hx hb dX3_run_77 ?_
              obtain ⟨hi8, hF⟩ := ck hF
              refine va_iald hx hb hK hP 3 0 rfl rfl hi8 dX3_run_78 ?_
              refine lv_if_eq (tgt := 86) hx hb dX3_run_79 (by decide) (fun h9 => ?_) (fun h9 => ?_)
              · replace hF := ip h9 hF
                refine lv_iconst (v := 0) hx hb dX3_run_86 (by decide) ?_
                exact b87 k27 hk27 x1 x2 0 u6 hF H locs ls hP hD hS (lv_sub hl [0, 1, 2] rfl)
              · replace hF := iq h9 hF
                refine lv_iconst (v := 1) hx hb dX3_run_82 (by decide) ?_
                refine lv_goto (tgt := 87) hx hb dX3_run_83 (by decide) ?_
                exact b87 k27 hk27 x1 x2 1 u6 hF H locs ls hP hD hS (lv_sub hl [0, 1, 2] rfl)
            · replace hF := iq h7 hF
              refine lv_iconst (v := 0) hx hb dX3_run_66 (by decide) ?_
              exact hQ _ _ _ _ _ _ (Option.some.inj hF) (vp_nar_int _) hP hD hS dX3_run_67
  have l27 : ∀  (n : Nat) (x1 x2 x3 : Int32) (u : St), L_X3_run_27  n u x1 x2 x3 = some o → GW p l e (rmK 4 95) s m args below meth c Q dC dI (wD a cI cZ) A 4 27 [(0, .ref (a 0)), (1, .int x1), (2, .int x2), (3, .int x3)] [] u := by
      intro  n
      induction n with
      | zero =>
        intro x1 x2 x3 u hF
        have hF : (none : Option (Int32 × St)) = some o := hF
        cases hF
      | succ n ih =>
        intro x1 x2 x3 u hF
        exact b27 (L_X3_run_27 n) ih x1 x2 x3 u hF
  unfold F_X3_run at hF
  refine lv_aload_n hx hb dX3_run_0 rfl (lv_at hl 0 rfl) ?_
  refine lv_iconst (v := 0) hx hb dX3_run_1 (by decide) ?_
  refine va_put (D := (dC, dI)) (ci := 3) (v := .int 0) (ty := .int) (C := RX3) (T := TX3) (N := 17) hx hb hts hin tyX3 tyX3_ok nmX3 hown hK hP hD hS 0 rfl rfl 7 (by decide) fl41 (fun _ h9 => h9) rfl (tyX3_ok 7 (by decide)) rfl rfl (Nat.le_of_ble_eq_true rfl) dX3_run_2 (fun H locs hP hD hS => ?_)
  replace hP := wD_p0_7 hP
  replace hD := wD_d0_7 hD
  replace hF := sbE hF
  generalize (su u 0 7 0) = u1 at hF hP hD
  refine lv_iload_n hx hb dX3_run_5 rfl (lv_at hl 1 rfl) ?_
  refine lv_iconst (v := 0) hx hb dX3_run_6 (by decide) ?_
  refine lv_sipush (v := 500) hx hb dX3_run_7 (by decide) ?_
  obtain ⟨q2, e3, hF⟩ := bd hF
  refine callSI (As := [.int x1, .int 0, .int 500]) (rest := []) ⟨hx, hb, hml, hown, hts⟩ (c_X3_within l dC dI cI cZ a u1 x1 0 500 q2 e3) gX3_run_X3_within rfl hd_X3_within ⟨Nat.le_of_ble_eq_true rfl, Nat.le_of_ble_eq_true rfl⟩ True.intro hK hP hD hS hA rfl hl.1 rfl (Nat.le_of_ble_eq_true rfl) dX3_run_10 (fun H locs hP hD hS => ?_)
  refine lv_if_ne (tgt := 23) hx hb dX3_run_13 (by decide) (fun h4 => ?_) (fun h4 => ?_)
  · replace hF := iq h4 hF
    refine lv_iconst (v := 0) hx hb dX3_run_23 (by decide) ?_
    refine lv_istore_n (lv' := [(2, .int 0), (0, .ref (a 0)), (1, .int x1)]) hx hb dX3_run_24 rfl hl (by decide) rfl (fun ls hl => ?_)
    refine lv_iconst (v := 1) hx hb dX3_run_25 (by decide) ?_
    refine lv_istore_n (lv' := [(3, .int 1), (2, .int 0), (0, .ref (a 0)), (1, .int x1)]) hx hb dX3_run_26 rfl hl (by decide) rfl (fun ls hl => ?_)
    exact l27  fuel x1 0 1 q2.2 hF H locs ls hP hD hS (lv_sub hl [2, 3, 1, 0] rfl)
  · replace hF := ip h4 hF
    refine lv_aload_n hx hb dX3_run_16 rfl (lv_at hl 0 rfl) ?_
    refine lv_iconst (v := 3) hx hb dX3_run_17 (by decide) ?_
    refine va_put (D := (dC, dI)) (ci := 3) (v := .int 3) (ty := .int) (C := RX3) (T := TX3) (N := 17) hx hb hts hin tyX3 tyX3_ok nmX3 hown hK hP hD hS 0 rfl rfl 7 (by decide) fl41 (fun _ h9 => h9) rfl (tyX3_ok 7 (by decide)) rfl rfl (Nat.le_of_ble_eq_true rfl) dX3_run_18 (fun H locs hP hD hS => ?_)
    replace hP := wD_p0_7 hP
    replace hD := wD_d0_7 hD
    replace hF := sbE hF
    generalize (su q2.2 0 7 3) = u5 at hF hP hD
    refine lv_iconst (v := 0) hx hb dX3_run_21 (by decide) ?_
    exact hQ _ _ _ _ _ _ (Option.some.inj hF) (vp_nar_int _) hP hD hS dX3_run_22
theorem hd_X3_run : yX3_run.cls = RX3 ∧ yX3_run.cls ≠ "java/lang/invoke/MethodHandle" ∧ yX3_run.cls ≠ "java/lang/invoke/VarHandle" ∧ (parseMethodDescriptor yX3_run.desc).map (fun d => d.parameters.length) = some 1 := by decide +kernel

def F_X3_next (u : St) : Option (Int32 × St) := (sb (su u 0 7 0) fun u1 => (some ((u1 0 4), u1)))
set_option maxRecDepth 100000 in
set_option maxHeartbeats 4000000 in
theorem c_X3_next (l : Launch) (dC : Nat → ClassId) (dI : Nat → Nat → Nat) (cI cZ : ClassId) (a : Nat → Nat) (u : St) (o : Int32 × St) (hF : F_X3_next u = some o) : MI l yX3_next wsX3_next 0 0 none dC dI cI cZ (wD a cI cZ) [.ref (a 0)] u o := by
  refine miOf (cc := cX3_next) (maxL := 1) (ret := .int) (by decide) rfl (Nat.le_of_ble_eq_true rfl) ?_
  intro p e s m args below meth c A Q H locs ls hx hb hml hts hown hK hA hz hQ hP hD hS hl
  replace hown : s.vm.findClass RX3 = some m.cls := hown
  replace hl : lv_has ls 1 [(0, .ref (a 0))] := hl
  have hin : ∀ w ∈ u_ws RX3 TX3 17, w ∈ wsX3_next := by decide +kernel
  have fl41 := hts (.fieldLink RX3 41 "CountedHeapModel" "thrown" "I") (by decide +kernel)
  have fl63 := hts (.fieldLink RX3 63 "CountedHeapModel" "next" "I") (by decide +kernel)
  unfold F_X3_next at hF
  refine lv_aload_n hx hb dX3_next_0 rfl (lv_at hl 0 rfl) ?_
  refine lv_iconst (v := 0) hx hb dX3_next_1 (by decide) ?_
  refine va_put (D := (dC, dI)) (ci := 3) (v := .int 0) (ty := .int) (C := RX3) (T := TX3) (N := 17) hx hb hts hin tyX3 tyX3_ok nmX3 hown hK hP hD hS 0 rfl rfl 7 (by decide) fl41 (fun _ h9 => h9) rfl (tyX3_ok 7 (by decide)) rfl rfl (Nat.le_of_ble_eq_true rfl) dX3_next_2 (fun H locs hP hD hS => ?_)
  replace hP := wD_p0_7 hP
  replace hD := wD_d0_7 hD
  replace hF := sbE hF
  generalize (su u 0 7 0) = u1 at hF hP hD
  refine lv_aload_n hx hb dX3_next_5 rfl (lv_at hl 0 rfl) ?_
  refine va_get (D := (dC, dI)) (ci := 3) (v := .int (u1 0 4)) (C := RX3) (T := TX3) (N := 17) hx hb hts hin hown hK hP 0 rfl rfl 4 (by decide) fl63 (fun _ h9 => h9) rfl dX3_next_6 ?_
  exact hQ _ _ _ _ _ _ (Option.some.inj hF) (vp_nar_int _) hP hD hS dX3_next_9
theorem hd_X3_next : yX3_next.cls = RX3 ∧ yX3_next.cls ≠ "java/lang/invoke/MethodHandle" ∧ yX3_next.cls ≠ "java/lang/invoke/VarHandle" ∧ (parseMethodDescriptor yX3_next.desc).map (fun d => d.parameters.length) = some 0 := by decide +kernel

def F_X3_open (u : St) : Option (Int32 × St) := (sb (su u 0 7 0) fun u1 => (some ((u1 0 5), u1)))
set_option maxRecDepth 100000 in
set_option maxHeartbeats 4000000 in
theorem c_X3_open (l : Launch) (dC : Nat → ClassId) (dI : Nat → Nat → Nat) (cI cZ : ClassId) (a : Nat → Nat) (u : St) (o : Int32 × St) (hF : F_X3_open u = some o) : MI l yX3_open wsX3_open 0 0 none dC dI cI cZ (wD a cI cZ) [.ref (a 0)] u o := by
  refine miOf (cc := cX3_open) (maxL := 1) (ret := .int) (by decide) rfl (Nat.le_of_ble_eq_true rfl) ?_
  intro p e s m args below meth c A Q H locs ls hx hb hml hts hown hK hA hz hQ hP hD hS hl
  replace hown : s.vm.findClass RX3 = some m.cls := hown
  replace hl : lv_has ls 1 [(0, .ref (a 0))] := hl
  have hin : ∀ w ∈ u_ws RX3 TX3 17, w ∈ wsX3_open := by decide +kernel
  have fl41 := hts (.fieldLink RX3 41 "CountedHeapModel" "thrown" "I") (by decide +kernel)
  have fl66 := hts (.fieldLink RX3 66 "CountedHeapModel" "depth" "I") (by decide +kernel)
  unfold F_X3_open at hF
  refine lv_aload_n hx hb dX3_open_0 rfl (lv_at hl 0 rfl) ?_
  refine lv_iconst (v := 0) hx hb dX3_open_1 (by decide) ?_
  refine va_put (D := (dC, dI)) (ci := 3) (v := .int 0) (ty := .int) (C := RX3) (T := TX3) (N := 17) hx hb hts hin tyX3 tyX3_ok nmX3 hown hK hP hD hS 0 rfl rfl 7 (by decide) fl41 (fun _ h9 => h9) rfl (tyX3_ok 7 (by decide)) rfl rfl (Nat.le_of_ble_eq_true rfl) dX3_open_2 (fun H locs hP hD hS => ?_)
  replace hP := wD_p0_7 hP
  replace hD := wD_d0_7 hD
  replace hF := sbE hF
  generalize (su u 0 7 0) = u1 at hF hP hD
  refine lv_aload_n hx hb dX3_open_5 rfl (lv_at hl 0 rfl) ?_
  refine va_get (D := (dC, dI)) (ci := 3) (v := .int (u1 0 5)) (C := RX3) (T := TX3) (N := 17) hx hb hts hin hown hK hP 0 rfl rfl 5 (by decide) fl66 (fun _ h9 => h9) rfl dX3_open_6 ?_
  exact hQ _ _ _ _ _ _ (Option.some.inj hF) (vp_nar_int _) hP hD hS dX3_open_9
theorem hd_X3_open : yX3_open.cls = RX3 ∧ yX3_open.cls ≠ "java/lang/invoke/MethodHandle" ∧ yX3_open.cls ≠ "java/lang/invoke/VarHandle" ∧ (parseMethodDescriptor yX3_open.desc).map (fun d => d.parameters.length) = some 0 := by decide +kernel

def F_X3_frame (u : St) (x1 : Int32) : Option (Int32 × St) := (sb (su u 0 7 0) fun u1 => ((F_X3_within u1 x1 0 3).bind fun q2 => (if q2.1 = 0 then (some (0, q2.2)) else (if (x1 < 0 ∨ 4 ≤ x1.toNatClampNeg) then none else (some ((q2.2 5 x1.toNatClampNeg), q2.2))))))
set_option maxRecDepth 100000 in
set_option maxHeartbeats 4000000 in
theorem c_X3_frame (l : Launch) (dC : Nat → ClassId) (dI : Nat → Nat → Nat) (cI cZ : ClassId) (a : Nat → Nat) (u : St) (x1 : Int32) (o : Int32 × St) (hF : F_X3_frame u x1 = some o) : MI l yX3_frame wsX3_frame 1 22 none dC dI cI cZ (wD a cI cZ) [.ref (a 0), .int x1] u o := by
  refine miOf (cc := cX3_frame) (maxL := 2) (ret := .int) (by decide) rfl (Nat.le_of_ble_eq_true rfl) ?_
  intro p e s m args below meth c A Q H locs ls hx hb hml hts hown hK hA hz hQ hP hD hS hl
  replace hown : s.vm.findClass RX3 = some m.cls := hown
  replace hl : lv_has ls 2 [(0, .ref (a 0)), (1, .int x1)] := hl
  have hin : ∀ w ∈ u_ws RX3 TX3 17, w ∈ wsX3_frame := by decide +kernel
  have fl22 := hts (.fieldLink RX3 22 "CountedHeapModel" "ints" "[I") (by decide +kernel)
  have fl41 := hts (.fieldLink RX3 41 "CountedHeapModel" "thrown" "I") (by decide +kernel)
  unfold F_X3_frame at hF
  refine lv_aload_n hx hb dX3_frame_0 rfl (lv_at hl 0 rfl) ?_
  refine lv_iconst (v := 0) hx hb dX3_frame_1 (by decide) ?_
  refine va_put (D := (dC, dI)) (ci := 3) (v := .int 0) (ty := .int) (C := RX3) (T := TX3) (N := 17) hx hb hts hin tyX3 tyX3_ok nmX3 hown hK hP hD hS 0 rfl rfl 7 (by decide) fl41 (fun _ h9 => h9) rfl (tyX3_ok 7 (by decide)) rfl rfl (Nat.le_of_ble_eq_true rfl) dX3_frame_2 (fun H locs hP hD hS => ?_)
  replace hP := wD_p0_7 hP
  replace hD := wD_d0_7 hD
  replace hF := sbE hF
  generalize (su u 0 7 0) = u1 at hF hP hD
  refine lv_iload_n hx hb dX3_frame_5 rfl (lv_at hl 1 rfl) ?_
  refine lv_iconst (v := 0) hx hb dX3_frame_6 (by decide) ?_
  refine lv_iconst (v := 3) hx hb dX3_frame_7 (by decide) ?_
  obtain ⟨q2, e3, hF⟩ := bd hF
  refine callSI (As := [.int x1, .int 0, .int 3]) (rest := []) ⟨hx, hb, hml, hown, hts⟩ (c_X3_within l dC dI cI cZ a u1 x1 0 3 q2 e3) gX3_frame_X3_within rfl hd_X3_within ⟨Nat.le_of_ble_eq_true rfl, Nat.le_of_ble_eq_true rfl⟩ True.intro hK hP hD hS hA rfl hl.1 rfl (Nat.le_of_ble_eq_true rfl) dX3_frame_8 (fun H locs hP hD hS => ?_)
  refine lv_if_eq (tgt := 23) hx hb dX3_frame_11 (by decide) (fun h4 => ?_) (fun h4 => ?_)
  · replace hF := ip h4 hF
    refine lv_iconst (v := 0) hx hb dX3_frame_23 (by decide) ?_
    exact hQ _ _ _ _ _ _ (Option.some.inj hF) (vp_nar_int _) hP hD hS dX3_frame_24
  · replace hF := iq h4 hF
    refine lv_aload_n hx hb dX3_frame_14 rfl (lv_at hl 0 rfl) ?_
    refine va_get (D := (dC, dI)) (ci := 3) (v := .ref (a 5)) (C := RX3) (T := TX3) (N := 17) hx hb hts hin hown hK hP 0 rfl rfl 9 (by decide) fl22 (fun _ h9 => h9) rfl dX3_frame_15 ?_
    refine lv_iload_n hx hb dX3_frame_18 rfl (lv_at hl 1 rfl) ?_
    obtain ⟨hi5, hF⟩ := ck hF
    refine va_iald hx hb hK hP 5 0 rfl rfl hi5 dX3_frame_19 ?_
    refine lv_goto (tgt := 24) hx hb dX3_frame_20 (by decide) ?_
    exact hQ _ _ _ _ _ _ (Option.some.inj hF) (vp_nar_int _) hP hD hS dX3_frame_24
theorem hd_X3_frame : yX3_frame.cls = RX3 ∧ yX3_frame.cls ≠ "java/lang/invoke/MethodHandle" ∧ yX3_frame.cls ≠ "java/lang/invoke/VarHandle" ∧ (parseMethodDescriptor yX3_frame.desc).map (fun d => d.parameters.length) = some 1 := by decide +kernel

def F_X3_set (u : St) (x1 x2 : Int32) : Option (Int32 × St) := (sb (su u 0 7 0) fun u1 => ((F_X3_within u1 x1 0 3).bind fun q2 => (if q2.1 = 0 then (some (0, q2.2)) else (if (x1 < 0 ∨ 4 ≤ x1.toNatClampNeg) then none else (sb (su q2.2 5 x1.toNatClampNeg x2) fun u6 => (some (1, u6)))))))
set_option maxRecDepth 100000 in
set_option maxHeartbeats 4000000 in
theorem c_X3_set (l : Launch) (dC : Nat → ClassId) (dI : Nat → Nat → Nat) (cI cZ : ClassId) (a : Nat → Nat) (u : St) (x1 x2 : Int32) (o : Int32 × St) (hF : F_X3_set u x1 x2 = some o) : MI l yX3_set wsX3_set 1 22 none dC dI cI cZ (wD a cI cZ) [.ref (a 0), .int x1, .int x2] u o := by
  refine miOf (cc := cX3_set) (maxL := 3) (ret := .boolean) (by decide) rfl (Nat.le_of_ble_eq_true rfl) ?_
  intro p e s m args below meth c A Q H locs ls hx hb hml hts hown hK hA hz hQ hP hD hS hl
  replace hown : s.vm.findClass RX3 = some m.cls := hown
  replace hl : lv_has ls 3 [(0, .ref (a 0)), (1, .int x1), (2, .int x2)] := hl
  have hin : ∀ w ∈ u_ws RX3 TX3 17, w ∈ wsX3_set := by decide +kernel
  have fl22 := hts (.fieldLink RX3 22 "CountedHeapModel" "ints" "[I") (by decide +kernel)
  have fl41 := hts (.fieldLink RX3 41 "CountedHeapModel" "thrown" "I") (by decide +kernel)
  unfold F_X3_set at hF
  refine lv_aload_n hx hb dX3_set_0 rfl (lv_at hl 0 rfl) ?_
  refine lv_iconst (v := 0) hx hb dX3_set_1 (by decide) ?_
  refine va_put (D := (dC, dI)) (ci := 3) (v := .int 0) (ty := .int) (C := RX3) (T := TX3) (N := 17) hx hb hts hin tyX3 tyX3_ok nmX3 hown hK hP hD hS 0 rfl rfl 7 (by decide) fl41 (fun _ h9 => h9) rfl (tyX3_ok 7 (by decide)) rfl rfl (Nat.le_of_ble_eq_true rfl) dX3_set_2 (fun H locs hP hD hS => ?_)
  replace hP := wD_p0_7 hP
  replace hD := wD_d0_7 hD
  replace hF := sbE hF
  generalize (su u 0 7 0) = u1 at hF hP hD
  refine lv_iload_n hx hb dX3_set_5 rfl (lv_at hl 1 rfl) ?_
  refine lv_iconst (v := 0) hx hb dX3_set_6 (by decide) ?_
  refine lv_iconst (v := 3) hx hb dX3_set_7 (by decide) ?_
  obtain ⟨q2, e3, hF⟩ := bd hF
  refine callSI (As := [.int x1, .int 0, .int 3]) (rest := []) ⟨hx, hb, hml, hown, hts⟩ (c_X3_within l dC dI cI cZ a u1 x1 0 3 q2 e3) gX3_set_X3_within rfl hd_X3_within ⟨Nat.le_of_ble_eq_true rfl, Nat.le_of_ble_eq_true rfl⟩ True.intro hK hP hD hS hA rfl hl.1 rfl (Nat.le_of_ble_eq_true rfl) dX3_set_8 (fun H locs hP hD hS => ?_)
  refine lv_if_ne (tgt := 16) hx hb dX3_set_11 (by decide) (fun h4 => ?_) (fun h4 => ?_)
  · replace hF := iq h4 hF
    refine lv_aload_n hx hb dX3_set_16 rfl (lv_at hl 0 rfl) ?_
    refine va_get (D := (dC, dI)) (ci := 3) (v := .ref (a 5)) (C := RX3) (T := TX3) (N := 17) hx hb hts hin hown hK hP 0 rfl rfl 9 (by decide) fl22 (fun _ h9 => h9) rfl dX3_set_17 ?_
    refine lv_iload_n hx hb dX3_set_20 rfl (lv_at hl 1 rfl) ?_
    refine lv_iload_n hx hb dX3_set_21 rfl (lv_at hl 2 rfl) ?_
    obtain ⟨hi5, hF⟩ := ck hF
    refine va_iast hx hb hK hP hD hS 5 0 rfl rfl hi5 dX3_set_22 (fun H locs hP hD hS => ?_)
    replace hP := wD_p5 hP
    replace hD := wD_d5 hD
    replace hF := sbE hF
    generalize (su q2.2 5 x1.toNatClampNeg x2) = u6 at hF hP hD
    refine lv_iconst (v := 1) hx hb dX3_set_23 (by decide) ?_
    exact hQ _ _ _ _ _ _ (Option.some.inj hF) rfl hP hD hS dX3_set_24
  · replace hF := ip h4 hF
    refine lv_iconst (v := 0) hx hb dX3_set_14 (by decide) ?_
    exact hQ _ _ _ _ _ _ (Option.some.inj hF) rfl hP hD hS dX3_set_15
theorem hd_X3_set : yX3_set.cls = RX3 ∧ yX3_set.cls ≠ "java/lang/invoke/MethodHandle" ∧ yX3_set.cls ≠ "java/lang/invoke/VarHandle" ∧ (parseMethodDescriptor yX3_set.desc).map (fun d => d.parameters.length) = some 2 := by decide +kernel

def F_X3_root (u : St) (x1 : Int32) : Option (Int32 × St) := (sb (su u 0 7 0) fun u1 => ((F_X3_within u1 x1 0 3).bind fun q2 => (if q2.1 = 0 then (some ((-1), q2.2)) else (if (x1 < 0 ∨ 4 ≤ x1.toNatClampNeg) then none else (some ((q2.2 6 x1.toNatClampNeg), q2.2))))))
set_option maxRecDepth 100000 in
set_option maxHeartbeats 4000000 in
theorem c_X3_root (l : Launch) (dC : Nat → ClassId) (dI : Nat → Nat → Nat) (cI cZ : ClassId) (a : Nat → Nat) (u : St) (x1 : Int32) (o : Int32 × St) (hF : F_X3_root u x1 = some o) : MI l yX3_root wsX3_root 1 22 none dC dI cI cZ (wD a cI cZ) [.ref (a 0), .int x1] u o := by
  refine miOf (cc := cX3_root) (maxL := 2) (ret := .int) (by decide) rfl (Nat.le_of_ble_eq_true rfl) ?_
  intro p e s m args below meth c A Q H locs ls hx hb hml hts hown hK hA hz hQ hP hD hS hl
  replace hown : s.vm.findClass RX3 = some m.cls := hown
  replace hl : lv_has ls 2 [(0, .ref (a 0)), (1, .int x1)] := hl
  have hin : ∀ w ∈ u_ws RX3 TX3 17, w ∈ wsX3_root := by decide +kernel
  have fl25 := hts (.fieldLink RX3 25 "CountedHeapModel" "roots" "[I") (by decide +kernel)
  have fl41 := hts (.fieldLink RX3 41 "CountedHeapModel" "thrown" "I") (by decide +kernel)
  unfold F_X3_root at hF
  refine lv_aload_n hx hb dX3_root_0 rfl (lv_at hl 0 rfl) ?_
  refine lv_iconst (v := 0) hx hb dX3_root_1 (by decide) ?_
  refine va_put (D := (dC, dI)) (ci := 3) (v := .int 0) (ty := .int) (C := RX3) (T := TX3) (N := 17) hx hb hts hin tyX3 tyX3_ok nmX3 hown hK hP hD hS 0 rfl rfl 7 (by decide) fl41 (fun _ h9 => h9) rfl (tyX3_ok 7 (by decide)) rfl rfl (Nat.le_of_ble_eq_true rfl) dX3_root_2 (fun H locs hP hD hS => ?_)
  replace hP := wD_p0_7 hP
  replace hD := wD_d0_7 hD
  replace hF := sbE hF
  generalize (su u 0 7 0) = u1 at hF hP hD
  refine lv_iload_n hx hb dX3_root_5 rfl (lv_at hl 1 rfl) ?_
  refine lv_iconst (v := 0) hx hb dX3_root_6 (by decide) ?_
  refine lv_iconst (v := 3) hx hb dX3_root_7 (by decide) ?_
  obtain ⟨q2, e3, hF⟩ := bd hF
  refine callSI (As := [.int x1, .int 0, .int 3]) (rest := []) ⟨hx, hb, hml, hown, hts⟩ (c_X3_within l dC dI cI cZ a u1 x1 0 3 q2 e3) gX3_root_X3_within rfl hd_X3_within ⟨Nat.le_of_ble_eq_true rfl, Nat.le_of_ble_eq_true rfl⟩ True.intro hK hP hD hS hA rfl hl.1 rfl (Nat.le_of_ble_eq_true rfl) dX3_root_8 (fun H locs hP hD hS => ?_)
  refine lv_if_eq (tgt := 23) hx hb dX3_root_11 (by decide) (fun h4 => ?_) (fun h4 => ?_)
  · replace hF := ip h4 hF
    refine lv_iconst (v := (-1)) hx hb dX3_root_23 (by decide) ?_
    exact hQ _ _ _ _ _ _ (Option.some.inj hF) (vp_nar_int _) hP hD hS dX3_root_24
  · replace hF := iq h4 hF
    refine lv_aload_n hx hb dX3_root_14 rfl (lv_at hl 0 rfl) ?_
    refine va_get (D := (dC, dI)) (ci := 3) (v := .ref (a 6)) (C := RX3) (T := TX3) (N := 17) hx hb hts hin hown hK hP 0 rfl rfl 10 (by decide) fl25 (fun _ h9 => h9) rfl dX3_root_15 ?_
    refine lv_iload_n hx hb dX3_root_18 rfl (lv_at hl 1 rfl) ?_
    obtain ⟨hi5, hF⟩ := ck hF
    refine va_iald hx hb hK hP 6 0 rfl rfl hi5 dX3_root_19 ?_
    refine lv_goto (tgt := 24) hx hb dX3_root_20 (by decide) ?_
    exact hQ _ _ _ _ _ _ (Option.some.inj hF) (vp_nar_int _) hP hD hS dX3_root_24
theorem hd_X3_root : yX3_root.cls = RX3 ∧ yX3_root.cls ≠ "java/lang/invoke/MethodHandle" ∧ yX3_root.cls ≠ "java/lang/invoke/VarHandle" ∧ (parseMethodDescriptor yX3_root.desc).map (fun d => d.parameters.length) = some 1 := by decide +kernel

def F_X3_blocks_9 (k9 : St → Int32 → Int32 → Option (Int32 × St)) (u : St) (x1 x2 : Int32) : Option (Int32 × St) := (if 25 ≤ x2 then (some (x1, u)) else (if (x2 < 0 ∨ 25 ≤ x2.toNatClampNeg) then none else (if (u 7 x2.toNatClampNeg) < 0 then k9 u x1 ((x2 + 1)) else k9 u ((x1 + 1)) ((x2 + 1)))))
def L_X3_blocks_9  : Nat → St → Int32 → Int32 → Option (Int32 × St)
  | 0 => fun _ _ _ => none
  | n + 1 => fun u x1 x2 => F_X3_blocks_9 (L_X3_blocks_9 n) u x1 x2
def F_X3_blocks (u : St) : Option (Int32 × St) := (sb (su u 0 7 0) fun u1 => L_X3_blocks_9 fuel u1 0 1)
set_option maxRecDepth 100000 in
set_option maxHeartbeats 4000000 in
theorem c_X3_blocks (l : Launch) (dC : Nat → ClassId) (dI : Nat → Nat → Nat) (cI cZ : ClassId) (a : Nat → Nat) (u : St) (o : Int32 × St) (hF : F_X3_blocks u = some o) : MI l yX3_blocks wsX3_blocks 0 0 none dC dI cI cZ (wD a cI cZ) [.ref (a 0)] u o := by
  refine miOf (cc := cX3_blocks) (maxL := 3) (ret := .int) (by decide) rfl (Nat.le_of_ble_eq_true rfl) ?_
  intro p e s m args below meth c A Q H locs ls hx hb hml hts hown hK hA hz hQ hP hD hS hl
  replace hown : s.vm.findClass RX3 = some m.cls := hown
  replace hl : lv_has ls 3 [(0, .ref (a 0))] := hl
  have hin : ∀ w ∈ u_ws RX3 TX3 17, w ∈ wsX3_blocks := by decide +kernel
  have fl28 := hts (.fieldLink RX3 28 "CountedHeapModel" "kind" "[I") (by decide +kernel)
  have fl41 := hts (.fieldLink RX3 41 "CountedHeapModel" "thrown" "I") (by decide +kernel)
  have b9 : ∀ (k9 : St → Int32 → Int32 → Option (Int32 × St)) (hk9 : ∀ (x1 x2 : Int32) (u : St), k9 u x1 x2 = some o → GW p l e (rmK 0 0) s m args below meth c Q dC dI (wD a cI cZ) A 3 9 [(0, .ref (a 0)), (1, .int x1), (2, .int x2)] [] u) (x1 x2 : Int32) (u : St), F_X3_blocks_9 k9 u x1 x2 = some o → GW p l e (rmK 0 0) s m args below meth c Q dC dI (wD a cI cZ) A 3 9 [(0, .ref (a 0)), (1, .int x1), (2, .int x2)] [] u := by
      intro k9 hk9 x1 x2 u hF H locs ls hP hD hS hl
      unfold F_X3_blocks_9 at hF
      refine lv_iload_n hx hb dX3_blocks_9 rfl (lv_at hl 2 rfl) ?_
      refine lv_bipush (v := 25) hx hb dX3_blocks_10 (by decide) ?_
      refine lv_icmp_ge (tgt := 33) hx hb dX3_blocks_12 (by decide) (fun h1 => ?_) (fun h1 => ?_)
      · replace hF := ip h1 hF
        refine lv_iload_n hx hb dX3_blocks_33 rfl (lv_at hl 1 rfl) ?_
        exact hQ _ _ _ _ _ _ (Option.some.inj hF) (vp_nar_int _) hP hD hS dX3_blocks_34
      · replace hF := iq h1 hF
        refine lv_aload_n hx hb dX3_blocks_15 rfl (lv_at hl 0 rfl) ?_
        refine va_get (D := (dC, dI)) (ci := 3) (v := .ref (a 7)) (C := RX3) (T := TX3) (N := 17) hx hb hts hin hown hK hP 0 rfl rfl 11 (by decide) fl28 (fun _ h9 => h9) rfl dX3_blocks_16 ?_
        refine lv_iload_n hx hb dX3_blocks_19 rfl (lv_at hl 2 rfl) ?_
        obtain ⟨hi2, hF⟩ := ck hF
        refine va_iald hx hb hK hP 7 0 rfl rfl hi2 dX3_blocks_20 ?_
        refine lv_if_lt (tgt := 27) hx hb dX3_blocks_21 (by decide) (fun h3 => ?_) (fun h3 => ?_)
        · replace hF := ip h3 hF
          refine lv_iinc (v := (x2 + 1)) (lv' := [(2, .int (x2 + 1)), (0, .ref (a 0)), (1, .int x1)]) hx hb dX3_blocks_27 hl (k := 2) rfl rfl (by decide) rfl (fun ls hl => ?_)
          refine lv_goto (tgt := 9) hx hb dX3_blocks_30 (by decide) ?_
          exact hk9 x1 ((x2 + 1)) u hF H locs ls hP hD hS (lv_sub hl [1, 2, 0] rfl)
        · replace hF := iq h3 hF
          refine lv_iinc (v := (x1 + 1)) (lv' := [(1, .int (x1 + 1)), (0, .ref (a 0)), (2, .int x2)]) hx hb dX3_blocks_24 hl (k := 1) rfl rfl (by decide) rfl (fun ls hl => ?_)
          refine lv_iinc (v := (x2 + 1)) (lv' := [(2, .int (x2 + 1)), (1, .int (x1 + 1)), (0, .ref (a 0))]) hx hb dX3_blocks_27 hl (k := 2) rfl rfl (by decide) rfl (fun ls hl => ?_)
          refine lv_goto (tgt := 9) hx hb dX3_blocks_30 (by decide) ?_
          exact hk9 ((x1 + 1)) ((x2 + 1)) u hF H locs ls hP hD hS (lv_sub hl [2, 1, 0] rfl)
  have l9 : ∀  (n : Nat) (x1 x2 : Int32) (u : St), L_X3_blocks_9  n u x1 x2 = some o → GW p l e (rmK 0 0) s m args below meth c Q dC dI (wD a cI cZ) A 3 9 [(0, .ref (a 0)), (1, .int x1), (2, .int x2)] [] u := by
      intro  n
      induction n with
      | zero =>
        intro x1 x2 u hF
        have hF : (none : Option (Int32 × St)) = some o := hF
        cases hF
      | succ n ih =>
        intro x1 x2 u hF
        exact b9 (L_X3_blocks_9 n) ih x1 x2 u hF
  unfold F_X3_blocks at hF
  refine lv_aload_n hx hb dX3_blocks_0 rfl (lv_at hl 0 rfl) ?_
  refine lv_iconst (v := 0) hx hb dX3_blocks_1 (by decide) ?_
  refine va_put (D := (dC, dI)) (ci := 3) (v := .int 0) (ty := .int) (C := RX3) (T := TX3) (N := 17) hx hb hts hin tyX3 tyX3_ok nmX3 hown hK hP hD hS 0 rfl rfl 7 (by decide) fl41 (fun _ h9 => h9) rfl (tyX3_ok 7 (by decide)) rfl rfl (Nat.le_of_ble_eq_true rfl) dX3_blocks_2 (fun H locs hP hD hS => ?_)
  replace hP := wD_p0_7 hP
  replace hD := wD_d0_7 hD
  replace hF := sbE hF
  generalize (su u 0 7 0) = u1 at hF hP hD
  refine lv_iconst (v := 0) hx hb dX3_blocks_5 (by decide) ?_
  refine lv_istore_n (lv' := [(1, .int 0), (0, .ref (a 0))]) hx hb dX3_blocks_6 rfl hl (by decide) rfl (fun ls hl => ?_)
  refine lv_iconst (v := 1) hx hb dX3_blocks_7 (by decide) ?_
  refine lv_istore_n (lv' := [(2, .int 1), (1, .int 0), (0, .ref (a 0))]) hx hb dX3_blocks_8 rfl hl (by decide) rfl (fun ls hl => ?_)
  exact l9  fuel 0 1 u1 hF H locs ls hP hD hS (lv_sub hl [2, 1, 0] rfl)
theorem hd_X3_blocks : yX3_blocks.cls = RX3 ∧ yX3_blocks.cls ≠ "java/lang/invoke/MethodHandle" ∧ yX3_blocks.cls ≠ "java/lang/invoke/VarHandle" ∧ (parseMethodDescriptor yX3_blocks.desc).map (fun d => d.parameters.length) = some 0 := by decide +kernel

def F_X3_count (u : St) (x1 : Int32) : Option (Int32 × St) := (sb (su u 0 7 0) fun u1 => ((F_X3_isBlock u1 x1).bind fun q2 => (if q2.1 = 0 then (some ((-1), q2.2)) else ((F_X3_countAll q2.2).bind fun q5 => (if (x1 < 0 ∨ 25 ≤ x1.toNatClampNeg) then none else (some ((q5.2 9 x1.toNatClampNeg), q5.2)))))))
set_option maxRecDepth 100000 in
set_option maxHeartbeats 4000000 in
theorem c_X3_count (l : Launch) (dC : Nat → ClassId) (dI : Nat → Nat → Nat) (cI cZ : ClassId) (a : Nat → Nat) (u : St) (x1 : Int32) (o : Int32 × St) (hF : F_X3_count u x1 = some o) : MI l yX3_count wsX3_count 2 44 none dC dI cI cZ (wD a cI cZ) [.ref (a 0), .int x1] u o := by
  refine miOf (cc := cX3_count) (maxL := 2) (ret := .int) (by decide) rfl (Nat.le_of_ble_eq_true rfl) ?_
  intro p e s m args below meth c A Q H locs ls hx hb hml hts hown hK hA hz hQ hP hD hS hl
  replace hown : s.vm.findClass RX3 = some m.cls := hown
  replace hl : lv_has ls 2 [(0, .ref (a 0)), (1, .int x1)] := hl
  have hin : ∀ w ∈ u_ws RX3 TX3 17, w ∈ wsX3_count := by decide +kernel
  have fl34 := hts (.fieldLink RX3 34 "CountedHeapModel" "pointers" "[I") (by decide +kernel)
  have fl41 := hts (.fieldLink RX3 41 "CountedHeapModel" "thrown" "I") (by decide +kernel)
  unfold F_X3_count at hF
  refine lv_aload_n hx hb dX3_count_0 rfl (lv_at hl 0 rfl) ?_
  refine lv_iconst (v := 0) hx hb dX3_count_1 (by decide) ?_
  refine va_put (D := (dC, dI)) (ci := 3) (v := .int 0) (ty := .int) (C := RX3) (T := TX3) (N := 17) hx hb hts hin tyX3 tyX3_ok nmX3 hown hK hP hD hS 0 rfl rfl 7 (by decide) fl41 (fun _ h9 => h9) rfl (tyX3_ok 7 (by decide)) rfl rfl (Nat.le_of_ble_eq_true rfl) dX3_count_2 (fun H locs hP hD hS => ?_)
  replace hP := wD_p0_7 hP
  replace hD := wD_d0_7 hD
  replace hF := sbE hF
  generalize (su u 0 7 0) = u1 at hF hP hD
  refine lv_aload_n hx hb dX3_count_5 rfl (lv_at hl 0 rfl) ?_
  refine lv_iload_n hx hb dX3_count_6 rfl (lv_at hl 1 rfl) ?_
  obtain ⟨q2, e3, hF⟩ := bd hF
  refine callVI (C := RX3) (ci := 3) (q0 := 0) (As := [.int x1]) (rest := []) ⟨hx, hb, hml, hown, hts⟩ (c_X3_isBlock l dC dI cI cZ a u1 x1 q2 e3) gX3_count_X3_isBlock rfl hd_X3_isBlock rfl rfl rfl ⟨Nat.le_of_ble_eq_true rfl, Nat.le_of_ble_eq_true rfl⟩ True.intro hK hP hD hS hA rfl hl.1 rfl (Nat.le_of_ble_eq_true rfl) dX3_count_7 (fun H locs hP hD hS => ?_)
  refine lv_if_ne (tgt := 15) hx hb dX3_count_10 (by decide) (fun h4 => ?_) (fun h4 => ?_)
  · replace hF := iq h4 hF
    refine lv_aload_n hx hb dX3_count_15 rfl (lv_at hl 0 rfl) ?_
    obtain ⟨q5, e6, hF⟩ := bd hF
    refine callVV (C := RX3) (ci := 3) (q0 := 0) (As := []) (rest := []) ⟨hx, hb, hml, hown, hts⟩ (c_X3_countAll l dC dI cI cZ a q2.2 q5 e6) gX3_count_X3_countAll rfl hd_X3_countAll rfl rfl rfl ⟨Nat.le_of_ble_eq_true rfl, Nat.le_of_ble_eq_true rfl⟩ True.intro hK hP hD hS hA rfl hl.1 rfl (Nat.le_of_ble_eq_true rfl) dX3_count_16 (fun H locs hP hD hS => ?_)
    refine lv_aload_n hx hb dX3_count_19 rfl (lv_at hl 0 rfl) ?_
    refine va_get (D := (dC, dI)) (ci := 3) (v := .ref (a 9)) (C := RX3) (T := TX3) (N := 17) hx hb hts hin hown hK hP 0 rfl rfl 13 (by decide) fl34 (fun _ h9 => h9) rfl dX3_count_20 ?_
    refine lv_iload_n hx hb dX3_count_23 rfl (lv_at hl 1 rfl) ?_
    obtain ⟨hi7, hF⟩ := ck hF
    refine va_iald hx hb hK hP 9 0 rfl rfl hi7 dX3_count_24 ?_
    exact hQ _ _ _ _ _ _ (Option.some.inj hF) (vp_nar_int _) hP hD hS dX3_count_25
  · replace hF := ip h4 hF
    refine lv_iconst (v := (-1)) hx hb dX3_count_13 (by decide) ?_
    exact hQ _ _ _ _ _ _ (Option.some.inj hF) (vp_nar_int _) hP hD hS dX3_count_14
theorem hd_X3_count : yX3_count.cls = RX3 ∧ yX3_count.cls ≠ "java/lang/invoke/MethodHandle" ∧ yX3_count.cls ≠ "java/lang/invoke/VarHandle" ∧ (parseMethodDescriptor yX3_count.desc).map (fun d => d.parameters.length) = some 1 := by decide +kernel

def F_X3_typeOf (u : St) (x1 : Int32) : Option (Int32 × St) := (sb (su u 0 7 0) fun u1 => ((F_X3_isBlock u1 x1).bind fun q2 => (if q2.1 = 0 then (some ((-1), q2.2)) else (if (x1 < 0 ∨ 25 ≤ x1.toNatClampNeg) then none else (some ((q2.2 7 x1.toNatClampNeg), q2.2))))))
set_option maxRecDepth 100000 in
set_option maxHeartbeats 4000000 in
theorem c_X3_typeOf (l : Launch) (dC : Nat → ClassId) (dI : Nat → Nat → Nat) (cI cZ : ClassId) (a : Nat → Nat) (u : St) (x1 : Int32) (o : Int32 × St) (hF : F_X3_typeOf u x1 = some o) : MI l yX3_typeOf wsX3_typeOf 2 43 none dC dI cI cZ (wD a cI cZ) [.ref (a 0), .int x1] u o := by
  refine miOf (cc := cX3_typeOf) (maxL := 2) (ret := .int) (by decide) rfl (Nat.le_of_ble_eq_true rfl) ?_
  intro p e s m args below meth c A Q H locs ls hx hb hml hts hown hK hA hz hQ hP hD hS hl
  replace hown : s.vm.findClass RX3 = some m.cls := hown
  replace hl : lv_has ls 2 [(0, .ref (a 0)), (1, .int x1)] := hl
  have hin : ∀ w ∈ u_ws RX3 TX3 17, w ∈ wsX3_typeOf := by decide +kernel
  have fl28 := hts (.fieldLink RX3 28 "CountedHeapModel" "kind" "[I") (by decide +kernel)
  have fl41 := hts (.fieldLink RX3 41 "CountedHeapModel" "thrown" "I") (by decide +kernel)
  unfold F_X3_typeOf at hF
  refine lv_aload_n hx hb dX3_typeOf_0 rfl (lv_at hl 0 rfl) ?_
  refine lv_iconst (v := 0) hx hb dX3_typeOf_1 (by decide) ?_
  refine va_put (D := (dC, dI)) (ci := 3) (v := .int 0) (ty := .int) (C := RX3) (T := TX3) (N := 17) hx hb hts hin tyX3 tyX3_ok nmX3 hown hK hP hD hS 0 rfl rfl 7 (by decide) fl41 (fun _ h9 => h9) rfl (tyX3_ok 7 (by decide)) rfl rfl (Nat.le_of_ble_eq_true rfl) dX3_typeOf_2 (fun H locs hP hD hS => ?_)
  replace hP := wD_p0_7 hP
  replace hD := wD_d0_7 hD
  replace hF := sbE hF
  generalize (su u 0 7 0) = u1 at hF hP hD
  refine lv_aload_n hx hb dX3_typeOf_5 rfl (lv_at hl 0 rfl) ?_
  refine lv_iload_n hx hb dX3_typeOf_6 rfl (lv_at hl 1 rfl) ?_
  obtain ⟨q2, e3, hF⟩ := bd hF
  refine callVI (C := RX3) (ci := 3) (q0 := 0) (As := [.int x1]) (rest := []) ⟨hx, hb, hml, hown, hts⟩ (c_X3_isBlock l dC dI cI cZ a u1 x1 q2 e3) gX3_typeOf_X3_isBlock rfl hd_X3_isBlock rfl rfl rfl ⟨Nat.le_of_ble_eq_true rfl, Nat.le_of_ble_eq_true rfl⟩ True.intro hK hP hD hS hA rfl hl.1 rfl (Nat.le_of_ble_eq_true rfl) dX3_typeOf_7 (fun H locs hP hD hS => ?_)
  refine lv_if_eq (tgt := 22) hx hb dX3_typeOf_10 (by decide) (fun h4 => ?_) (fun h4 => ?_)
  · replace hF := ip h4 hF
    refine lv_iconst (v := (-1)) hx hb dX3_typeOf_22 (by decide) ?_
    exact hQ _ _ _ _ _ _ (Option.some.inj hF) (vp_nar_int _) hP hD hS dX3_typeOf_23
  · replace hF := iq h4 hF
    refine lv_aload_n hx hb dX3_typeOf_13 rfl (lv_at hl 0 rfl) ?_
    refine va_get (D := (dC, dI)) (ci := 3) (v := .ref (a 7)) (C := RX3) (T := TX3) (N := 17) hx hb hts hin hown hK hP 0 rfl rfl 11 (by decide) fl28 (fun _ h9 => h9) rfl dX3_typeOf_14 ?_
    refine lv_iload_n hx hb dX3_typeOf_17 rfl (lv_at hl 1 rfl) ?_
    obtain ⟨hi5, hF⟩ := ck hF
    refine va_iald hx hb hK hP 7 0 rfl rfl hi5 dX3_typeOf_18 ?_
    refine lv_goto (tgt := 23) hx hb dX3_typeOf_19 (by decide) ?_
    exact hQ _ _ _ _ _ _ (Option.some.inj hF) (vp_nar_int _) hP hD hS dX3_typeOf_23
theorem hd_X3_typeOf : yX3_typeOf.cls = RX3 ∧ yX3_typeOf.cls ≠ "java/lang/invoke/MethodHandle" ∧ yX3_typeOf.cls ≠ "java/lang/invoke/VarHandle" ∧ (parseMethodDescriptor yX3_typeOf.desc).map (fun d => d.parameters.length) = some 1 := by decide +kernel

def F_X3_word (u : St) (x1 x2 : Int32) : Option (Int64 × St) := (sb (su u 0 7 0) fun u1 => ((F_X3_isBlock u1 x1).bind fun q2 => (if q2.1 = 0 then (some (4294967296, q2.2)) else (if (x1 < 0 ∨ 25 ≤ x1.toNatClampNeg) then none else (if ((q2.2 7 x1.toNatClampNeg) < 0 ∨ 4 ≤ (q2.2 7 x1.toNatClampNeg).toNatClampNeg) then none else ((F_X3_within q2.2 x2 0 (((q2.2 1 (q2.2 7 x1.toNatClampNeg).toNatClampNeg) - 1))).bind fun q7 => (if q7.1 = 0 then (some (4294967296, q7.2)) else (if (((6 * x1) + x2) < 0 ∨ 150 ≤ ((6 * x1) + x2).toNatClampNeg) then none else (some ((q7.2 8 ((6 * x1) + x2).toNatClampNeg).toInt64, q7.2))))))))))
set_option maxRecDepth 100000 in
set_option maxHeartbeats 4000000 in
theorem c_X3_word (l : Launch) (dC : Nat → ClassId) (dI : Nat → Nat → Nat) (cI cZ : ClassId) (a : Nat → Nat) (u : St) (x1 x2 : Int32) (o : Int64 × St) (hF : F_X3_word u x1 x2 = some o) : ML l yX3_word wsX3_word 2 43 none dC dI cI cZ (wD a cI cZ) [.ref (a 0), .int x1, .int x2] u o := by
  refine mlOf (cc := cX3_word) (maxL := 3) (by decide) rfl (Nat.le_of_ble_eq_true rfl) ?_
  intro p e s m args below meth c A Q H locs ls hx hb hml hts hown hK hA hz hQ hP hD hS hl
  replace hown : s.vm.findClass RX3 = some m.cls := hown
  replace hl : lv_has ls 3 [(0, .ref (a 0)), (1, .int x1), (2, .int x2)] := hl
  have hin : ∀ w ∈ u_ws RX3 TX3 17, w ∈ wsX3_word := by decide +kernel
  have fl7 := hts (.fieldLink RX3 7 "CountedHeapModel" "size" "[I") (by decide +kernel)
  have fl28 := hts (.fieldLink RX3 28 "CountedHeapModel" "kind" "[I") (by decide +kernel)
  have fl31 := hts (.fieldLink RX3 31 "CountedHeapModel" "words" "[I") (by decide +kernel)
  have fl41 := hts (.fieldLink RX3 41 "CountedHeapModel" "thrown" "I") (by decide +kernel)
  unfold F_X3_word at hF
  refine lv_aload_n hx hb dX3_word_0 rfl (lv_at hl 0 rfl) ?_
  refine lv_iconst (v := 0) hx hb dX3_word_1 (by decide) ?_
  refine va_put (D := (dC, dI)) (ci := 3) (v := .int 0) (ty := .int) (C := RX3) (T := TX3) (N := 17) hx hb hts hin tyX3 tyX3_ok nmX3 hown hK hP hD hS 0 rfl rfl 7 (by decide) fl41 (fun _ h9 => h9) rfl (tyX3_ok 7 (by decide)) rfl rfl (Nat.le_of_ble_eq_true rfl) dX3_word_2 (fun H locs hP hD hS => ?_)
  replace hP := wD_p0_7 hP
  replace hD := wD_d0_7 hD
  replace hF := sbE hF
  generalize (su u 0 7 0) = u1 at hF hP hD
  refine lv_aload_n hx hb dX3_word_5 rfl (lv_at hl 0 rfl) ?_
  refine lv_iload_n hx hb dX3_word_6 rfl (lv_at hl 1 rfl) ?_
  obtain ⟨q2, e3, hF⟩ := bd hF
  refine callVI (C := RX3) (ci := 3) (q0 := 0) (As := [.int x1]) (rest := []) ⟨hx, hb, hml, hown, hts⟩ (c_X3_isBlock l dC dI cI cZ a u1 x1 q2 e3) gX3_word_X3_isBlock rfl hd_X3_isBlock rfl rfl rfl ⟨Nat.le_of_ble_eq_true rfl, Nat.le_of_ble_eq_true rfl⟩ True.intro hK hP hD hS hA rfl hl.1 rfl (Nat.le_of_ble_eq_true rfl) dX3_word_7 (fun H locs hP hD hS => ?_)
  refine lv_if_eq (tgt := 49) hx hb dX3_word_10 (by decide) (fun h4 => ?_) (fun h4 => ?_)
  · replace hF := ip h4 hF
    refine lv_ldc2 (v := 4294967296) hx hb hown (hts (.constantLong RX3 117 4294967296) (by decide +kernel)) dX3_word_49 ?_
    exact hQ _ _ _ _ _ _ (Option.some.inj hF) hP hD hS dX3_word_52
  · replace hF := iq h4 hF
    refine lv_iload_n hx hb dX3_word_13 rfl (lv_at hl 2 rfl) ?_
    refine lv_iconst (v := 0) hx hb dX3_word_14 (by decide) ?_
    refine lv_aload_n hx hb dX3_word_15 rfl (lv_at hl 0 rfl) ?_
    refine va_get (D := (dC, dI)) (ci := 3) (v := .ref (a 1)) (C := RX3) (T := TX3) (N := 17) hx hb hts hin hown hK hP 0 rfl rfl 0 (by decide) fl7 (fun _ h9 => h9) rfl dX3_word_16 ?_
    refine lv_aload_n hx hb dX3_word_19 rfl (lv_at hl 0 rfl) ?_
    refine va_get (D := (dC, dI)) (ci := 3) (v := .ref (a 7)) (C := RX3) (T := TX3) (N := 17) hx hb hts hin hown hK hP 0 rfl rfl 11 (by decide) fl28 (fun _ h9 => h9) rfl dX3_word_20 ?_
    refine lv_iload_n hx hb dX3_word_23 rfl (lv_at hl 1 rfl) ?_
    obtain ⟨hi5, hF⟩ := ck hF
    refine va_iald hx hb hK hP 7 0 rfl rfl hi5 dX3_word_24 ?_
    obtain ⟨hi6, hF⟩ := ck hF
    refine va_iald hx hb hK hP 1 0 rfl rfl hi6 dX3_word_25 ?_
    refine lv_iconst (v := 1) hx hb dX3_word_26 (by decide) ?_
    refine lv_isub hx hb dX3_word_27 ?_
    obtain ⟨q7, e8, hF⟩ := bd hF
    refine callSI (As := [.int x2, .int 0, .int ((q2.2 1 (q2.2 7 x1.toNatClampNeg).toNatClampNeg) - 1)]) (rest := []) ⟨hx, hb, hml, hown, hts⟩ (c_X3_within l dC dI cI cZ a q2.2 x2 0 (((q2.2 1 (q2.2 7 x1.toNatClampNeg).toNatClampNeg) - 1)) q7 e8) gX3_word_X3_within rfl hd_X3_within ⟨Nat.le_of_ble_eq_true rfl, Nat.le_of_ble_eq_true rfl⟩ True.intro hK hP hD hS hA rfl hl.1 rfl (Nat.le_of_ble_eq_true rfl) dX3_word_28 (fun H locs hP hD hS => ?_)
    refine lv_if_eq (tgt := 49) hx hb dX3_word_31 (by decide) (fun h9 => ?_) (fun h9 => ?_)
    · replace hF := ip h9 hF
      refine lv_ldc2 (v := 4294967296) hx hb hown (hts (.constantLong RX3 117 4294967296) (by decide +kernel)) dX3_word_49 ?_
      exact hQ _ _ _ _ _ _ (Option.some.inj hF) hP hD hS dX3_word_52
    · replace hF := iq h9 hF
      refine lv_aload_n hx hb dX3_word_34 rfl (lv_at hl 0 rfl) ?_
      refine va_get (D := (dC, dI)) (ci := 3) (v := .ref (a 8)) (C := RX3) (T := TX3) (N := 17) hx hb hts hin hown hK hP 0 rfl rfl 12 (by decide) fl31 (fun _ h9 => h9) rfl dX3_word_35 ?_
      refine lv_bipush (v := 6) hx hb dX3_word_38 (by decide) ?_
      refine lv_iload_n hx hb dX3_word_40 rfl (lv_at hl 1 rfl) ?_
      refine lv_imul hx hb dX3_word_41 ?_
      refine lv_iload_n hx hb dX3_word_42 rfl (lv_at hl 2 rfl) ?_
      refine lv_iadd hx hb dX3_word_43 ?_
      obtain ⟨hi10, hF⟩ := ck hF
      refine va_iald hx hb hK hP 8 0 rfl rfl hi10 dX3_word_44 ?_
      refine lv_i2l (v := (q7.2 8 ((6 * x1) + x2).toNatClampNeg).toInt64) hx hb dX3_word_45 rfl ?_
      refine lv_goto (tgt := 52) hx hb dX3_word_46 (by decide) ?_
      exact hQ _ _ _ _ _ _ (Option.some.inj hF) hP hD hS dX3_word_52
theorem hd_X3_word : yX3_word.cls = RX3 ∧ yX3_word.cls ≠ "java/lang/invoke/MethodHandle" ∧ yX3_word.cls ≠ "java/lang/invoke/VarHandle" ∧ (parseMethodDescriptor yX3_word.desc).map (fun d => d.parameters.length) = some 2 := by decide +kernel

def F_X3_given (u : St) : Option (Int32 × St) := (sb (su u 0 7 0) fun u1 => (some ((u1 0 6), u1)))
set_option maxRecDepth 100000 in
set_option maxHeartbeats 4000000 in
theorem c_X3_given (l : Launch) (dC : Nat → ClassId) (dI : Nat → Nat → Nat) (cI cZ : ClassId) (a : Nat → Nat) (u : St) (o : Int32 × St) (hF : F_X3_given u = some o) : MI l yX3_given wsX3_given 0 0 none dC dI cI cZ (wD a cI cZ) [.ref (a 0)] u o := by
  refine miOf (cc := cX3_given) (maxL := 1) (ret := .int) (by decide) rfl (Nat.le_of_ble_eq_true rfl) ?_
  intro p e s m args below meth c A Q H locs ls hx hb hml hts hown hK hA hz hQ hP hD hS hl
  replace hown : s.vm.findClass RX3 = some m.cls := hown
  replace hl : lv_has ls 1 [(0, .ref (a 0))] := hl
  have hin : ∀ w ∈ u_ws RX3 TX3 17, w ∈ wsX3_given := by decide +kernel
  have fl41 := hts (.fieldLink RX3 41 "CountedHeapModel" "thrown" "I") (by decide +kernel)
  have fl76 := hts (.fieldLink RX3 76 "CountedHeapModel" "given" "I") (by decide +kernel)
  unfold F_X3_given at hF
  refine lv_aload_n hx hb dX3_given_0 rfl (lv_at hl 0 rfl) ?_
  refine lv_iconst (v := 0) hx hb dX3_given_1 (by decide) ?_
  refine va_put (D := (dC, dI)) (ci := 3) (v := .int 0) (ty := .int) (C := RX3) (T := TX3) (N := 17) hx hb hts hin tyX3 tyX3_ok nmX3 hown hK hP hD hS 0 rfl rfl 7 (by decide) fl41 (fun _ h9 => h9) rfl (tyX3_ok 7 (by decide)) rfl rfl (Nat.le_of_ble_eq_true rfl) dX3_given_2 (fun H locs hP hD hS => ?_)
  replace hP := wD_p0_7 hP
  replace hD := wD_d0_7 hD
  replace hF := sbE hF
  generalize (su u 0 7 0) = u1 at hF hP hD
  refine lv_aload_n hx hb dX3_given_5 rfl (lv_at hl 0 rfl) ?_
  refine va_get (D := (dC, dI)) (ci := 3) (v := .int (u1 0 6)) (C := RX3) (T := TX3) (N := 17) hx hb hts hin hown hK hP 0 rfl rfl 6 (by decide) fl76 (fun _ h9 => h9) rfl dX3_given_6 ?_
  exact hQ _ _ _ _ _ _ (Option.some.inj hF) (vp_nar_int _) hP hD hS dX3_given_9
theorem hd_X3_given : yX3_given.cls = RX3 ∧ yX3_given.cls ≠ "java/lang/invoke/MethodHandle" ∧ yX3_given.cls ≠ "java/lang/invoke/VarHandle" ∧ (parseMethodDescriptor yX3_given.desc).map (fun d => d.parameters.length) = some 0 := by decide +kernel

def F_X3_lost_13 (k13 : St → Int32 → Int32 → Option (Int32 × St)) (u : St) (x1 x2 : Int32) : Option (Int32 × St) := (if 25 ≤ x2 then (some (x1, u)) else (if (x2 < 0 ∨ 25 ≤ x2.toNatClampNeg) then none else (if (u 7 x2.toNatClampNeg) < 0 then k13 u x1 ((x2 + 1)) else (if (x2 < 0 ∨ 25 ≤ x2.toNatClampNeg) then none else (if (u 10 x2.toNatClampNeg) = 0 then k13 u ((x1 + 1)) ((x2 + 1)) else k13 u x1 ((x2 + 1)))))))
def L_X3_lost_13  : Nat → St → Int32 → Int32 → Option (Int32 × St)
  | 0 => fun _ _ _ => none
  | n + 1 => fun u x1 x2 => F_X3_lost_13 (L_X3_lost_13 n) u x1 x2
def F_X3_lost (u : St) : Option (Int32 × St) := (sb (su u 0 7 0) fun u1 => ((F_X3_reach u1).bind fun q2 => L_X3_lost_13 fuel q2.2 0 1))
set_option maxRecDepth 100000 in
set_option maxHeartbeats 4000000 in
theorem c_X3_lost (l : Launch) (dC : Nat → ClassId) (dI : Nat → Nat → Nat) (cI cZ : ClassId) (a : Nat → Nat) (u : St) (o : Int32 × St) (hF : F_X3_lost u = some o) : MI l yX3_lost wsX3_lost 2 45 none dC dI cI cZ (wD a cI cZ) [.ref (a 0)] u o := by
  refine miOf (cc := cX3_lost) (maxL := 3) (ret := .int) (by decide) rfl (Nat.le_of_ble_eq_true rfl) ?_
  intro p e s m args below meth c A Q H locs ls hx hb hml hts hown hK hA hz hQ hP hD hS hl
  replace hown : s.vm.findClass RX3 = some m.cls := hown
  replace hl : lv_has ls 3 [(0, .ref (a 0))] := hl
  have hin : ∀ w ∈ u_ws RX3 TX3 17, w ∈ wsX3_lost := by decide +kernel
  have fl28 := hts (.fieldLink RX3 28 "CountedHeapModel" "kind" "[I") (by decide +kernel)
  have fl37 := hts (.fieldLink RX3 37 "CountedHeapModel" "seen" "[Z") (by decide +kernel)
  have fl41 := hts (.fieldLink RX3 41 "CountedHeapModel" "thrown" "I") (by decide +kernel)
  have b13 : ∀ (k13 : St → Int32 → Int32 → Option (Int32 × St)) (hk13 : ∀ (x1 x2 : Int32) (u : St), k13 u x1 x2 = some o → GW p l e (rmK 2 45) s m args below meth c Q dC dI (wD a cI cZ) A 3 13 [(0, .ref (a 0)), (1, .int x1), (2, .int x2)] [] u) (x1 x2 : Int32) (u : St), F_X3_lost_13 k13 u x1 x2 = some o → GW p l e (rmK 2 45) s m args below meth c Q dC dI (wD a cI cZ) A 3 13 [(0, .ref (a 0)), (1, .int x1), (2, .int x2)] [] u := by
      intro k13 hk13 x1 x2 u hF H locs ls hP hD hS hl
      unfold F_X3_lost_13 at hF
      refine lv_iload_n hx hb dX3_lost_13 rfl (lv_at hl 2 rfl) ?_
      refine lv_bipush (v := 25) hx hb dX3_lost_14 (by decide) ?_
      refine lv_icmp_ge (tgt := 46) hx hb dX3_lost_16 (by decide) (fun h1 => ?_) (fun h1 => ?_)
      · replace hF := ip h1 hF
        refine lv_iload_n hx hb dX3_lost_46 rfl (lv_at hl 1 rfl) ?_
        exact hQ _ _ _ _ _ _ (Option.some.inj hF) (vp_nar_int _) hP hD hS dX3_lost_47
      · replace hF := iq h1 hF
        refine lv_aload_n hx hb dX3_lost_19 rfl (lv_at hl 0 rfl) ?_
        refine va_get (D := (dC, dI)) (ci := 3) (v := .ref (a 7)) (C := RX3) (T := TX3) (N := 17) hx hb hts hin hown hK hP 0 rfl rfl 11 (by decide) fl28 (fun _ h9 => h9) rfl dX3_lost_20 ?_
        refine lv_iload_n hx hb dX3_lost_23 rfl (lv_at hl 2 rfl) ?_
        obtain ⟨hi2, hF⟩ := ck hF
        refine va_iald hx hb hK hP 7 0 rfl rfl hi2 dX3_lost_24 ?_
        refine lv_if_lt (tgt := 40) hx hb dX3_lost_25 (by decide) (fun h3 => ?_) (fun h3 => ?_)
        · replace hF := ip h3 hF
          refine lv_iinc (v := (x2 + 1)) (lv' := [(2, .int (x2 + 1)), (0, .ref (a 0)), (1, .int x1)]) hx hb dX3_lost_40 hl (k := 2) rfl rfl (by decide) rfl (fun ls hl => ?_)
          refine lv_goto (tgt := 13) hx hb dX3_lost_43 (by decide) ?_
          exact hk13 x1 ((x2 + 1)) u hF H locs ls hP hD hS (lv_sub hl [1, 2, 0] rfl)
        · replace hF := iq h3 hF
          refine lv_aload_n hx hb dX3_lost_28 rfl (lv_at hl 0 rfl) ?_
          refine va_get (D := (dC, dI)) (ci := 3) (v := .ref (a 10)) (C := RX3) (T := TX3) (N := 17) hx hb hts hin hown hK hP 0 rfl rfl 14 (by decide) fl37 (fun _ h9 => h9) rfl dX3_lost_29 ?_
          refine lv_iload_n hx hb dX3_lost_32 rfl (lv_at hl 2 rfl) ?_
          obtain ⟨hi4, hF⟩ := ck hF
          refine va_zald hx hb hK hP 10 1 rfl rfl hi4 dX3_lost_33 ?_
          refine lv_if_ne (tgt := 40) hx hb dX3_lost_34 (by decide) (fun h5 => ?_) (fun h5 => ?_)
          · replace hF := iq h5 hF
            refine lv_iinc (v := (x2 + 1)) (lv' := [(2, .int (x2 + 1)), (0, .ref (a 0)), (1, .int x1)]) hx hb dX3_lost_40 hl (k := 2) rfl rfl (by decide) rfl (fun ls hl => ?_)
            refine lv_goto (tgt := 13) hx hb dX3_lost_43 (by decide) ?_
            exact hk13 x1 ((x2 + 1)) u hF H locs ls hP hD hS (lv_sub hl [1, 2, 0] rfl)
          · replace hF := ip h5 hF
            refine lv_iinc (v := (x1 + 1)) (lv' := [(1, .int (x1 + 1)), (0, .ref (a 0)), (2, .int x2)]) hx hb dX3_lost_37 hl (k := 1) rfl rfl (by decide) rfl (fun ls hl => ?_)
            refine lv_iinc (v := (x2 + 1)) (lv' := [(2, .int (x2 + 1)), (1, .int (x1 + 1)), (0, .ref (a 0))]) hx hb dX3_lost_40 hl (k := 2) rfl rfl (by decide) rfl (fun ls hl => ?_)
            refine lv_goto (tgt := 13) hx hb dX3_lost_43 (by decide) ?_
            exact hk13 ((x1 + 1)) ((x2 + 1)) u hF H locs ls hP hD hS (lv_sub hl [2, 1, 0] rfl)
  have l13 : ∀  (n : Nat) (x1 x2 : Int32) (u : St), L_X3_lost_13  n u x1 x2 = some o → GW p l e (rmK 2 45) s m args below meth c Q dC dI (wD a cI cZ) A 3 13 [(0, .ref (a 0)), (1, .int x1), (2, .int x2)] [] u := by
      intro  n
      induction n with
      | zero =>
        intro x1 x2 u hF
        have hF : (none : Option (Int32 × St)) = some o := hF
        cases hF
      | succ n ih =>
        intro x1 x2 u hF
        exact b13 (L_X3_lost_13 n) ih x1 x2 u hF
  unfold F_X3_lost at hF
  refine lv_aload_n hx hb dX3_lost_0 rfl (lv_at hl 0 rfl) ?_
  refine lv_iconst (v := 0) hx hb dX3_lost_1 (by decide) ?_
  refine va_put (D := (dC, dI)) (ci := 3) (v := .int 0) (ty := .int) (C := RX3) (T := TX3) (N := 17) hx hb hts hin tyX3 tyX3_ok nmX3 hown hK hP hD hS 0 rfl rfl 7 (by decide) fl41 (fun _ h9 => h9) rfl (tyX3_ok 7 (by decide)) rfl rfl (Nat.le_of_ble_eq_true rfl) dX3_lost_2 (fun H locs hP hD hS => ?_)
  replace hP := wD_p0_7 hP
  replace hD := wD_d0_7 hD
  replace hF := sbE hF
  generalize (su u 0 7 0) = u1 at hF hP hD
  refine lv_aload_n hx hb dX3_lost_5 rfl (lv_at hl 0 rfl) ?_
  obtain ⟨q2, e3, hF⟩ := bd hF
  refine callVV (C := RX3) (ci := 3) (q0 := 0) (As := []) (rest := []) ⟨hx, hb, hml, hown, hts⟩ (c_X3_reach l dC dI cI cZ a u1 q2 e3) gX3_lost_X3_reach rfl hd_X3_reach rfl rfl rfl ⟨Nat.le_of_ble_eq_true rfl, Nat.le_of_ble_eq_true rfl⟩ True.intro hK hP hD hS hA rfl hl.1 rfl (Nat.le_of_ble_eq_true rfl) dX3_lost_6 (fun H locs hP hD hS => ?_)
  refine lv_iconst (v := 0) hx hb dX3_lost_9 (by decide) ?_
  refine lv_istore_n (lv' := [(1, .int 0), (0, .ref (a 0))]) hx hb dX3_lost_10 rfl hl (by decide) rfl (fun ls hl => ?_)
  refine lv_iconst (v := 1) hx hb dX3_lost_11 (by decide) ?_
  refine lv_istore_n (lv' := [(2, .int 1), (1, .int 0), (0, .ref (a 0))]) hx hb dX3_lost_12 rfl hl (by decide) rfl (fun ls hl => ?_)
  exact l13  fuel 0 1 q2.2 hF H locs ls hP hD hS (lv_sub hl [2, 1, 0] rfl)
theorem hd_X3_lost : yX3_lost.cls = RX3 ∧ yX3_lost.cls ≠ "java/lang/invoke/MethodHandle" ∧ yX3_lost.cls ≠ "java/lang/invoke/VarHandle" ∧ (parseMethodDescriptor yX3_lost.desc).map (fun d => d.parameters.length) = some 0 := by decide +kernel

def F_X3_collect_7 (k7 : St → Int32 → Int32 → Option (Int32 × St)) (u : St) (x1 x2 : Int32) : Option (Int32 × St) := (if 25 ≤ x2 then (sb (su u 0 6 ((u 0 6) + x1)) fun u2 => (some (x1, u2))) else (if (x2 < 0 ∨ 25 ≤ x2.toNatClampNeg) then none else (if (u 10 x2.toNatClampNeg) = 0 then (if (x2 < 0 ∨ 25 ≤ x2.toNatClampNeg) then none else k7 (su u 7 x2.toNatClampNeg (-1)) x1 ((x2 + 1))) else k7 u x1 ((x2 + 1)))))
def L_X3_collect_7  : Nat → St → Int32 → Int32 → Option (Int32 × St)
  | 0 => fun _ _ _ => none
  | n + 1 => fun u x1 x2 => F_X3_collect_7 (L_X3_collect_7 n) u x1 x2
def F_X3_collect (u : St) : Option (Int32 × St) := ((F_X3_lost u).bind fun q1 => L_X3_collect_7 fuel q1.2 (q1.1) 1)
set_option maxRecDepth 100000 in
set_option maxHeartbeats 4000000 in
theorem c_X3_collect (l : Launch) (dC : Nat → ClassId) (dI : Nat → Nat → Nat) (cI cZ : ClassId) (a : Nat → Nat) (u : St) (o : Int32 × St) (hF : F_X3_collect u = some o) : MI l yX3_collect wsX3_collect 3 67 none dC dI cI cZ (wD a cI cZ) [.ref (a 0)] u o := by
  refine miOf (cc := cX3_collect) (maxL := 3) (ret := .int) (by decide) rfl (Nat.le_of_ble_eq_true rfl) ?_
  intro p e s m args below meth c A Q H locs ls hx hb hml hts hown hK hA hz hQ hP hD hS hl
  replace hown : s.vm.findClass RX3 = some m.cls := hown
  replace hl : lv_has ls 3 [(0, .ref (a 0))] := hl
  have hin : ∀ w ∈ u_ws RX3 TX3 17, w ∈ wsX3_collect := by decide +kernel
  have fl28 := hts (.fieldLink RX3 28 "CountedHeapModel" "kind" "[I") (by decide +kernel)
  have fl37 := hts (.fieldLink RX3 37 "CountedHeapModel" "seen" "[Z") (by decide +kernel)
  have fl76 := hts (.fieldLink RX3 76 "CountedHeapModel" "given" "I") (by decide +kernel)
  have b7 : ∀ (k7 : St → Int32 → Int32 → Option (Int32 × St)) (hk7 : ∀ (x1 x2 : Int32) (u : St), k7 u x1 x2 = some o → GW p l e (rmK 3 67) s m args below meth c Q dC dI (wD a cI cZ) A 3 7 [(0, .ref (a 0)), (1, .int x1), (2, .int x2)] [] u) (x1 x2 : Int32) (u : St), F_X3_collect_7 k7 u x1 x2 = some o → GW p l e (rmK 3 67) s m args below meth c Q dC dI (wD a cI cZ) A 3 7 [(0, .ref (a 0)), (1, .int x1), (2, .int x2)] [] u := by
      intro k7 hk7 x1 x2 u hF H locs ls hP hD hS hl
      unfold F_X3_collect_7 at hF
      refine lv_iload_n hx hb dX3_collect_7 rfl (lv_at hl 2 rfl) ?_
      refine lv_bipush (v := 25) hx hb dX3_collect_8 (by decide) ?_
      refine lv_icmp_ge (tgt := 35) hx hb dX3_collect_10 (by decide) (fun h1 => ?_) (fun h1 => ?_)
      · replace hF := ip h1 hF
        refine lv_aload_n hx hb dX3_collect_35 rfl (lv_at hl 0 rfl) ?_
        refine lv_dup hx hb dX3_collect_36 rfl ?_
        refine va_get (D := (dC, dI)) (ci := 3) (v := .int (u 0 6)) (C := RX3) (T := TX3) (N := 17) hx hb hts hin hown hK hP 0 rfl rfl 6 (by decide) fl76 (fun _ h9 => h9) rfl dX3_collect_37 ?_
        refine lv_iload_n hx hb dX3_collect_40 rfl (lv_at hl 1 rfl) ?_
        refine lv_iadd hx hb dX3_collect_41 ?_
        refine va_put (D := (dC, dI)) (ci := 3) (v := .int ((u 0 6) + x1)) (ty := .int) (C := RX3) (T := TX3) (N := 17) hx hb hts hin tyX3 tyX3_ok nmX3 hown hK hP hD hS 0 rfl rfl 6 (by decide) fl76 (fun _ h9 => h9) rfl (tyX3_ok 6 (by decide)) rfl rfl (Nat.le_of_ble_eq_true rfl) dX3_collect_42 (fun H locs hP hD hS => ?_)
        replace hP := wD_p0_6 hP
        replace hD := wD_d0_6 hD
        replace hF := sbE hF
        generalize (su u 0 6 ((u 0 6) + x1)) = u2 at hF hP hD
        refine lv_iload_n hx hb dX3_collect_45 rfl (lv_at hl 1 rfl) ?_
        exact hQ _ _ _ _ _ _ (Option.some.inj hF) (vp_nar_int _) hP hD hS dX3_collect_46
      · replace hF := iq h1 hF
        refine lv_aload_n hx hb dX3_collect_13 rfl (lv_at hl 0 rfl) ?_
        refine va_get (D := (dC, dI)) (ci := 3) (v := .ref (a 10)) (C := RX3) (T := TX3) (N := 17) hx hb hts hin hown hK hP 0 rfl rfl 14 (by decide) fl37 (fun _ h9 => h9) rfl dX3_collect_14 ?_
        refine lv_iload_n hx hb dX3_collect_17 rfl (lv_at hl 2 rfl) ?_
        obtain ⟨hi3, hF⟩ := ck hF
        refine va_zald hx hb hK hP 10 1 rfl rfl hi3 dX3_collect_18 ?_
        refine lv_if_ne (tgt := 29) hx hb dX3_collect_19 (by decide) (fun h4 => ?_) (fun h4 => ?_)
        · replace hF := iq h4 hF
          refine lv_iinc (v := (x2 + 1)) (lv' := [(2, .int (x2 + 1)), (0, .ref (a 0)), (1, .int x1)]) hx hb dX3_collect_29 hl (k := 2) rfl rfl (by decide) rfl (fun ls hl => ?_)
          refine lv_goto (tgt := 7) hx hb dX3_collect_32 (by decide) ?_
          exact hk7 x1 ((x2 + 1)) u hF H locs ls hP hD hS (lv_sub hl [1, 2, 0] rfl)
        · replace hF := ip h4 hF
          refine lv_aload_n hx hb dX3_collect_22 rfl (lv_at hl 0 rfl) ?_
          refine va_get (D := (dC, dI)) (ci := 3) (v := .ref (a 7)) (C := RX3) (T := TX3) (N := 17) hx hb hts hin hown hK hP 0 rfl rfl 11 (by decide) fl28 (fun _ h9 => h9) rfl dX3_collect_23 ?_
          refine lv_iload_n hx hb dX3_collect_26 rfl (lv_at hl 2 rfl) ?_
          refine lv_iconst (v := (-1)) hx hb dX3_collect_27 (by decide) ?_
          obtain ⟨hi5, hF⟩ := ck hF
          refine va_iast hx hb hK hP hD hS 7 0 rfl rfl hi5 dX3_collect_28 (fun H locs hP hD hS => ?_)
          replace hP := wD_p7 hP
          replace hD := wD_d7 hD
          refine lv_iinc (v := (x2 + 1)) (lv' := [(2, .int (x2 + 1)), (0, .ref (a 0)), (1, .int x1)]) hx hb dX3_collect_29 hl (k := 2) rfl rfl (by decide) rfl (fun ls hl => ?_)
          refine lv_goto (tgt := 7) hx hb dX3_collect_32 (by decide) ?_
          exact hk7 x1 ((x2 + 1)) (su u 7 x2.toNatClampNeg (-1)) hF H locs ls hP hD hS (lv_sub hl [1, 2, 0] rfl)
  have l7 : ∀  (n : Nat) (x1 x2 : Int32) (u : St), L_X3_collect_7  n u x1 x2 = some o → GW p l e (rmK 3 67) s m args below meth c Q dC dI (wD a cI cZ) A 3 7 [(0, .ref (a 0)), (1, .int x1), (2, .int x2)] [] u := by
      intro  n
      induction n with
      | zero =>
        intro x1 x2 u hF
        have hF : (none : Option (Int32 × St)) = some o := hF
        cases hF
      | succ n ih =>
        intro x1 x2 u hF
        exact b7 (L_X3_collect_7 n) ih x1 x2 u hF
  unfold F_X3_collect at hF
  refine lv_aload_n hx hb dX3_collect_0 rfl (lv_at hl 0 rfl) ?_
  obtain ⟨q1, e2, hF⟩ := bd hF
  refine callVI (C := RX3) (ci := 3) (q0 := 0) (As := []) (rest := []) ⟨hx, hb, hml, hown, hts⟩ (c_X3_lost l dC dI cI cZ a u q1 e2) gX3_collect_X3_lost rfl hd_X3_lost rfl rfl rfl ⟨Nat.le_of_ble_eq_true rfl, Nat.le_of_ble_eq_true rfl⟩ True.intro hK hP hD hS hA rfl hl.1 rfl (Nat.le_of_ble_eq_true rfl) dX3_collect_1 (fun H locs hP hD hS => ?_)
  refine lv_istore_n (lv' := [(1, .int q1.1), (0, .ref (a 0))]) hx hb dX3_collect_4 rfl hl (by decide) rfl (fun ls hl => ?_)
  refine lv_iconst (v := 1) hx hb dX3_collect_5 (by decide) ?_
  refine lv_istore_n (lv' := [(2, .int 1), (1, .int q1.1), (0, .ref (a 0))]) hx hb dX3_collect_6 rfl hl (by decide) rfl (fun ls hl => ?_)
  exact l7  fuel (q1.1) 1 q1.2 hF H locs ls hP hD hS (lv_sub hl [2, 1, 0] rfl)
theorem hd_X3_collect : yX3_collect.cls = RX3 ∧ yX3_collect.cls ≠ "java/lang/invoke/MethodHandle" ∧ yX3_collect.cls ≠ "java/lang/invoke/VarHandle" ∧ (parseMethodDescriptor yX3_collect.desc).map (fun d => d.parameters.length) = some 0 := by decide +kernel
