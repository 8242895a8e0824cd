def F_X3_thrown (u : St) : Option (Int32 × St) := (some ((u 0 7), u))
set_option maxRecDepth 100000 in
set_option maxHeartbeats 4000000 in
theorem c_X3_thrown (l : Launch) (dC : Nat → ClassId) (dI : Nat → Nat → Nat) (cI cZ : ClassId) (a : Nat → Nat) (u : St) (o : Int32 × St) (hF : F_X3_thrown u = some o) : MI l yX3_thrown wsX3_thrown 0 0 none dC dI cI cZ (wD a cI cZ) [.ref (a 0)] u o := by
  refine miOf (cc := cX3_thrown) (maxL := 1) (ret := .int) (by decide) rfl (Nat.le_of_ble_eq_true rfl) ?_
  intro p e s m args below meth c A Q H locs ls hx hb hml hts hown hK hA hz hQ hP hD hS hl
  replace hown : s.vm.findClass RX3 = some m.cls := hown
  replace hl : lv_has ls 1 [(0, .ref (a 0))] := hl
  have hin : ∀ w ∈ u_ws RX3 TX3 17, w ∈ wsX3_thrown := by decide +kernel
  have fl41 := hts (.fieldLink RX3 41 "CountedHeapModel" "thrown" "I") (by decide +kernel)
  unfold F_X3_thrown at hF
  refine lv_aload_n hx hb dX3_thrown_0 rfl (lv_at hl 0 rfl) ?_
  refine va_get (D := (dC, dI)) (ci := 3) (v := .int (u 0 7)) (C := RX3) (T := TX3) (N := 17) hx hb hts hin hown hK hP 0 rfl rfl 7 (by decide) fl41 (fun _ h9 => h9) rfl dX3_thrown_1 ?_
  exact hQ _ _ _ _ _ _ (Option.some.inj hF) (vp_nar_int _) hP hD hS dX3_thrown_4
theorem hd_X3_thrown : yX3_thrown.cls = RX3 ∧ yX3_thrown.cls ≠ "java/lang/invoke/MethodHandle" ∧ yX3_thrown.cls ≠ "java/lang/invoke/VarHandle" ∧ (parseMethodDescriptor yX3_thrown.desc).map (fun d => d.parameters.length) = some 0 := by decide +kernel

def F_X3_within (u : St) (x0 x1 x2 : Int32) : Option (Int32 × St) := (if x0 < x1 then (some (0, u)) else (if x2 < x0 then (some (0, u)) else (some (1, u))))
set_option maxRecDepth 100000 in
set_option maxHeartbeats 4000000 in
theorem c_X3_within (l : Launch) (dC : Nat → ClassId) (dI : Nat → Nat → Nat) (cI cZ : ClassId) (a : Nat → Nat) (u : St) (x0 x1 x2 : Int32) (o : Int32 × St) (hF : F_X3_within u x0 x1 x2 = some o) : MI l yX3_within wsX3_within 0 0 none dC dI cI cZ (wD a cI cZ) [.int x0, .int x1, .int x2] u o := by
  refine miOf (cc := cX3_within) (maxL := 3) (ret := .boolean) (by decide) rfl (Nat.le_of_ble_eq_true rfl) ?_
  intro p e s m args below meth c A Q H locs ls hx hb hml hts hown hK hA hz hQ hP hD hS hl
  replace hown : s.vm.findClass RX3 = some m.cls := hown
  replace hl : lv_has ls 3 [(0, .int x0), (1, .int x1), (2, .int x2)] := hl
  unfold F_X3_within at hF
  refine lv_iload_n hx hb dX3_within_0 rfl (lv_at hl 0 rfl) ?_
  refine lv_iload_n hx hb dX3_within_1 rfl (lv_at hl 1 rfl) ?_
  refine lv_icmp_lt (tgt := 14) hx hb dX3_within_2 (by decide) (fun h1 => ?_) (fun h1 => ?_)
  · replace hF := ip h1 hF
    refine lv_iconst (v := 0) hx hb dX3_within_14 (by decide) ?_
    exact hQ _ _ _ _ _ _ (Option.some.inj hF) rfl hP hD hS dX3_within_15
  · replace hF := iq h1 hF
    refine lv_iload_n hx hb dX3_within_5 rfl (lv_at hl 0 rfl) ?_
    refine lv_iload_n hx hb dX3_within_6 rfl (lv_at hl 2 rfl) ?_
    refine lv_icmp_gt (tgt := 14) hx hb dX3_within_7 (by decide) (fun h2 => ?_) (fun h2 => ?_)
    · replace hF := ip h2 hF
      refine lv_iconst (v := 0) hx hb dX3_within_14 (by decide) ?_
      exact hQ _ _ _ _ _ _ (Option.some.inj hF) rfl hP hD hS dX3_within_15
    · replace hF := iq h2 hF
      refine lv_iconst (v := 1) hx hb dX3_within_10 (by decide) ?_
      refine lv_goto (tgt := 15) hx hb dX3_within_11 (by decide) ?_
      exact hQ _ _ _ _ _ _ (Option.some.inj hF) rfl hP hD hS dX3_within_15
theorem hd_X3_within : yX3_within.cls ≠ "java/lang/invoke/MethodHandle" ∧ yX3_within.cls ≠ "java/lang/invoke/VarHandle" ∧ (parseMethodDescriptor yX3_within.desc).map (fun d => d.parameters.length) = some 3 := by decide +kernel

def F_X3_type_39 (k39 : St → Int32 → Int32 → Int32 → Int32 → Option (Int32 × St)) (u : St) (x1 x2 x3 x4 : Int32) : Option (Int32 × St) := (if 25 ≤ x4 then (if (x1 < 0 ∨ 4 ≤ x1.toNatClampNeg) then none else (sb (su u 1 x1.toNatClampNeg x2) fun u3 => (if (x1 < 0 ∨ 4 ≤ x1.toNatClampNeg) then none else (sb (su u3 2 x1.toNatClampNeg x3) fun u5 => (some (1, u5)))))) else (if (x4 < 0 ∨ 25 ≤ x4.toNatClampNeg) then none else (if (u 7 x4.toNatClampNeg) = x1 then (some (0, u)) else k39 u x1 x2 x3 ((x4 + 1)))))
def L_X3_type_39  : Nat → St → Int32 → Int32 → Int32 → Int32 → Option (Int32 × St)
  | 0 => fun _ _ _ _ _ => none
  | n + 1 => fun u x1 x2 x3 x4 => F_X3_type_39 (L_X3_type_39 n) u x1 x2 x3 x4
def F_X3_type (u : St) (x1 x2 x3 : Int32) : Option (Int32 × St) := (sb (su u 0 7 0) fun u1 => ((F_X3_within u1 x1 0 3).bind fun q2 => (if q2.1 = 0 then (some (0, q2.2)) else ((F_X3_within q2.2 x2 1 6).bind fun q5 => (if q5.1 = 0 then (some (0, q5.2)) else (if x3 < 0 then (some (0, q5.2)) else (if (x3 >>> (x2 &&& 31)) = 0 then L_X3_type_39 fuel q5.2 x1 x2 x3 1 else (some (0, q5.2)))))))))
set_option maxRecDepth 100000 in
set_option maxHeartbeats 4000000 in
theorem c_X3_type (l : Launch) (dC : Nat → ClassId) (dI : Nat → Nat → Nat) (cI cZ : ClassId) (a : Nat → Nat) (u : St) (x1 x2 x3 : Int32) (o : Int32 × St) (hF : F_X3_type u x1 x2 x3 = some o) : MI l yX3_type wsX3_type 1 22 none dC dI cI cZ (wD a cI cZ) [.ref (a 0), .int x1, .int x2, .int x3] u o := by
  refine miOf (cc := cX3_type) (maxL := 5) (ret := .boolean) (by decide) rfl (Nat.le_of_ble_eq_true rfl) ?_
  intro p e s m args below meth c A Q H locs ls hx hb hml hts hown hK hA hz hQ hP hD hS hl
  replace hown : s.vm.findClass RX3 = some m.cls := hown
  replace hl : lv_has ls 5 [(0, .ref (a 0)), (1, .int x1), (2, .int x2), (3, .int x3)] := hl
  have hin : ∀ w ∈ u_ws RX3 TX3 17, w ∈ wsX3_type := by decide +kernel
  have fl7 := hts (.fieldLink RX3 7 "CountedHeapModel" "size" "[I") (by decide +kernel)
  have fl13 := hts (.fieldLink RX3 13 "CountedHeapModel" "map" "[I") (by decide +kernel)
  have fl28 := hts (.fieldLink RX3 28 "CountedHeapModel" "kind" "[I") (by decide +kernel)
  have fl41 := hts (.fieldLink RX3 41 "CountedHeapModel" "thrown" "I") (by decide +kernel)
  have b39 : ∀ (k39 : St → Int32 → Int32 → Int32 → Int32 → Option (Int32 × St)) (hk39 : ∀ (x1 x2 x3 x4 : Int32) (u : St), k39 u x1 x2 x3 x4 = some o → GW p l e (rmK 1 22) s m args below meth c Q dC dI (wD a cI cZ) A 5 39 [(0, .ref (a 0)), (1, .int x1), (2, .int x2), (3, .int x3), (4, .int x4)] [] u) (x1 x2 x3 x4 : Int32) (u : St), F_X3_type_39 k39 u x1 x2 x3 x4 = some o → GW p l e (rmK 1 22) s m args below meth c Q dC dI (wD a cI cZ) A 5 39 [(0, .ref (a 0)), (1, .int x1), (2, .int x2), (3, .int x3), (4, .int x4)] [] u := by
      intro k39 hk39 x1 x2 x3 x4 u hF H locs ls hP hD hS hl
      unfold F_X3_type_39 at hF
      refine lv_iload hx hb dX3_type_39 (lv_at hl 4 rfl) ?_
      refine lv_bipush (v := 25) hx hb dX3_type_41 (by decide) ?_
      refine lv_icmp_ge (tgt := 65) hx hb dX3_type_43 (by decide) (fun h1 => ?_) (fun h1 => ?_)
      · replace hF := ip h1 hF
        refine lv_aload_n hx hb dX3_type_65 rfl (lv_at hl 0 rfl) ?_
        refine va_get (D := (dC, dI)) (ci := 3) (v := .ref (a 1)) (C := RX3) (T := TX3) (N := 17) hx hb hts hin hown hK hP 0 rfl rfl 0 (by decide) fl7 (fun _ h9 => h9) rfl dX3_type_66 ?_
        refine lv_iload_n hx hb dX3_type_69 rfl (lv_at hl 1 rfl) ?_
        refine lv_iload_n hx hb dX3_type_70 rfl (lv_at hl 2 rfl) ?_
        obtain ⟨hi2, hF⟩ := ck hF
        refine va_iast hx hb hK hP hD hS 1 0 rfl rfl hi2 dX3_type_71 (fun H locs hP hD hS => ?_)
        replace hP := wD_p1 hP
        replace hD := wD_d1 hD
        replace hF := sbE hF
        generalize (su u 1 x1.toNatClampNeg x2) = u3 at hF hP hD
        refine lv_aload_n hx hb dX3_type_72 rfl (lv_at hl 0 rfl) ?_
        refine va_get (D := (dC, dI)) (ci := 3) (v := .ref (a 2)) (C := RX3) (T := TX3) (N := 17) hx hb hts hin hown hK hP 0 rfl rfl 1 (by decide) fl13 (fun _ h9 => h9) rfl dX3_type_73 ?_
        refine lv_iload_n hx hb dX3_type_76 rfl (lv_at hl 1 rfl) ?_
        refine lv_iload_n hx hb dX3_type_77 rfl (lv_at hl 3 rfl) ?_
        obtain ⟨hi4, hF⟩ := ck hF
        refine va_iast hx hb hK hP hD hS 2 0 rfl rfl hi4 dX3_type_78 (fun H locs hP hD hS => ?_)
        replace hP := wD_p2 hP
        replace hD := wD_d2 hD
        replace hF := sbE hF
        generalize (su u3 2 x1.toNatClampNeg x3) = u5 at hF hP hD
        refine lv_iconst (v := 1) hx hb dX3_type_79 (by decide) ?_
        exact hQ _ _ _ _ _ _ (Option.some.inj hF) rfl hP hD hS dX3_type_80
      · replace hF := iq h1 hF
        refine lv_aload_n hx hb dX3_type_46 rfl (lv_at hl 0 rfl) ?_
        refine va_get (D := (dC, dI)) (ci := 3) (v := .ref (a 7)) (C := RX3) (T := TX3) (N := 17) hx hb hts hin hown hK hP 0 rfl rfl 11 (by decide) fl28 (fun _ h9 => h9) rfl dX3_type_47 ?_
        refine lv_iload hx hb dX3_type_50 (lv_at hl 4 rfl) ?_
        obtain ⟨hi6, hF⟩ := ck hF
        refine va_iald hx hb hK hP 7 0 rfl rfl hi6 dX3_type_52 ?_
        refine lv_iload_n hx hb dX3_type_53 rfl (lv_at hl 1 rfl) ?_
        refine lv_icmp_ne (tgt := 59) hx hb dX3_type_54 (by decide) (fun h7 => ?_) (fun h7 => ?_)
        · replace hF := iq h7 hF
          refine lv_iinc (v := (x4 + 1)) (lv' := [(4, .int (x4 + 1)), (0, .ref (a 0)), (1, .int x1), (2, .int x2), (3, .int x3)]) hx hb dX3_type_59 hl (k := 4) rfl rfl (by decide) rfl (fun ls hl => ?_)
          refine lv_goto (tgt := 39) hx hb dX3_type_62 (by decide) ?_
          exact hk39 x1 x2 x3 ((x4 + 1)) u hF H locs ls hP hD hS (lv_sub hl [1, 2, 3, 4, 0] rfl)
        · replace hF := ip h7 hF
          refine lv_iconst (v := 0) hx hb dX3_type_57 (by decide) ?_
          exact hQ _ _ _ _ _ _ (Option.some.inj hF) rfl hP hD hS dX3_type_58
  have l39 : ∀  (n : Nat) (x1 x2 x3 x4 : Int32) (u : St), L_X3_type_39  n u x1 x2 x3 x4 = some o → GW p l e (rmK 1 22) s m args below meth c Q dC dI (wD a cI cZ) A 5 39 [(0, .ref (a 0)), (1, .int x1), (2, .int x2), (3, .int x3), (4, .int x4)] [] u := by
      intro  n
      induction n with
      | zero =>
        intro x1 x2 x3 x4 u hF
        have hF : (none : Option (Int32 × St)) = some o := hF
        cases hF
      | succ n ih =>
        intro x1 x2 x3 x4 u hF
        exact b39 (L_X3_type_39 n) ih x1 x2 x3 x4 u hF
  unfold F_X3_type at hF
  refine lv_aload_n hx hb dX3_type_0 rfl (lv_at hl 0 rfl) ?_
  refine lv_iconst (v := 0) hx hb dX3_type_1 (by decide) ?_
  refine va_put (D := (dC, dI)) (ci := 3) (v := .int 0) (ty := .int) (C := RX3) (T := TX3) (N := 17) hx hb hts hin tyX3 tyX3_ok nmX3 hown hK hP hD hS 0 rfl rfl 7 (by decide) fl41 (fun _ h9 => h9) rfl (tyX3_ok 7 (by decide)) rfl rfl (Nat.le_of_ble_eq_true rfl) dX3_type_2 (fun H locs hP hD hS => ?_)
  replace hP := wD_p0_7 hP
  replace hD := wD_d0_7 hD
  replace hF := sbE hF
  generalize (su u 0 7 0) = u1 at hF hP hD
  refine lv_iload_n hx hb dX3_type_5 rfl (lv_at hl 1 rfl) ?_
  refine lv_iconst (v := 0) hx hb dX3_type_6 (by decide) ?_
  refine lv_iconst (v := 3) hx hb dX3_type_7 (by decide) ?_
  obtain ⟨q2, e3, hF⟩ := bd hF
  refine callSI (As := [.int x1, .int 0, .int 3]) (rest := []) ⟨hx, hb, hml, hown, hts⟩ (c_X3_within l dC dI cI cZ a u1 x1 0 3 q2 e3) gX3_type_X3_within rfl hd_X3_within ⟨Nat.le_of_ble_eq_true rfl, Nat.le_of_ble_eq_true rfl⟩ True.intro hK hP hD hS hA rfl hl.1 rfl (Nat.le_of_ble_eq_true rfl) dX3_type_8 (fun H locs hP hD hS => ?_)
  refine lv_if_eq (tgt := 34) hx hb dX3_type_11 (by decide) (fun h4 => ?_) (fun h4 => ?_)
  · replace hF := ip h4 hF
    refine lv_iconst (v := 0) hx hb dX3_type_34 (by decide) ?_
    exact hQ _ _ _ _ _ _ (Option.some.inj hF) rfl hP hD hS dX3_type_35
  · replace hF := iq h4 hF
    refine lv_iload_n hx hb dX3_type_14 rfl (lv_at hl 2 rfl) ?_
    refine lv_iconst (v := 1) hx hb dX3_type_15 (by decide) ?_
    refine lv_bipush (v := 6) hx hb dX3_type_16 (by decide) ?_
    obtain ⟨q5, e6, hF⟩ := bd hF
    refine callSI (As := [.int x2, .int 1, .int 6]) (rest := []) ⟨hx, hb, hml, hown, hts⟩ (c_X3_within l dC dI cI cZ a q2.2 x2 1 6 q5 e6) gX3_type_X3_within rfl hd_X3_within ⟨Nat.le_of_ble_eq_true rfl, Nat.le_of_ble_eq_true rfl⟩ True.intro hK hP hD hS hA rfl hl.1 rfl (Nat.le_of_ble_eq_true rfl) dX3_type_18 (fun H locs hP hD hS => ?_)
    refine lv_if_eq (tgt := 34) hx hb dX3_type_21 (by decide) (fun h7 => ?_) (fun h7 => ?_)
    · replace hF := ip h7 hF
      refine lv_iconst (v := 0) hx hb dX3_type_34 (by decide) ?_
      exact hQ _ _ _ _ _ _ (Option.some.inj hF) rfl hP hD hS dX3_type_35
    · replace hF := iq h7 hF
      refine lv_iload_n hx hb dX3_type_24 rfl (lv_at hl 3 rfl) ?_
      refine lv_if_lt (tgt := 34) hx hb dX3_type_25 (by decide) (fun h8 => ?_) (fun h8 => ?_)
      · replace hF := ip h8 hF
        refine lv_iconst (v := 0) hx hb dX3_type_34 (by decide) ?_
        exact hQ _ _ _ _ _ _ (Option.some.inj hF) rfl hP hD hS dX3_type_35
      · replace hF := iq h8 hF
        refine lv_iload_n hx hb dX3_type_28 rfl (lv_at hl 3 rfl) ?_
        refine lv_iload_n hx hb dX3_type_29 rfl (lv_at hl 2 rfl) ?_
        refine lv_ishr hx hb dX3_type_30 ?_
        refine lv_if_eq (tgt := 36) hx hb dX3_type_31 (by decide) (fun h9 => ?_) (fun h9 => ?_)
        · replace hF := ip h9 hF
          refine lv_iconst (v := 1) hx hb dX3_type_36 (by decide) ?_
          refine lv_istore (lv' := [(4, .int 1), (0, .ref (a 0)), (1, .int x1), (2, .int x2), (3, .int x3)]) hx hb dX3_type_37 hl (by decide) rfl (fun ls hl => ?_)
          exact l39  fuel x1 x2 x3 1 q5.2 hF H locs ls hP hD hS (lv_sub hl [1, 2, 3, 4, 0] rfl)
        · replace hF := iq h9 hF
          refine lv_iconst (v := 0) hx hb dX3_type_34 (by decide) ?_
          exact hQ _ _ _ _ _ _ (Option.some.inj hF) rfl hP hD hS dX3_type_35
theorem hd_X3_type : yX3_type.cls = RX3 ∧ yX3_type.cls ≠ "java/lang/invoke/MethodHandle" ∧ yX3_type.cls ≠ "java/lang/invoke/VarHandle" ∧ (parseMethodDescriptor yX3_type.desc).map (fun d => d.parameters.length) = some 3 := by decide +kernel

def F_X3_isOperand (u : St) (x0 : Int32) : Option (Int32 × St) := ((F_X3_within u x0 0 7).bind fun q1 => (if q1.1 = 0 then ((F_X3_within q1.2 x0 16 47).bind fun q4 => (if q4.1 = 0 then (some (0, q4.2)) else (some (1, q4.2)))) else (some (1, q1.2))))
set_option maxRecDepth 100000 in
set_option maxHeartbeats 4000000 in
theorem c_X3_isOperand (l : Launch) (dC : Nat → ClassId) (dI : Nat → Nat → Nat) (cI cZ : ClassId) (a : Nat → Nat) (u : St) (x0 : Int32) (o : Int32 × St) (hF : F_X3_isOperand u x0 = some o) : MI l yX3_isOperand wsX3_isOperand 1 22 none dC dI cI cZ (wD a cI cZ) [.int x0] u o := by
  refine miOf (cc := cX3_isOperand) (maxL := 1) (ret := .boolean) (by decide) rfl (Nat.le_of_ble_eq_true rfl) ?_
  intro p e s m args below meth c A Q H locs ls hx hb hml hts hown hK hA hz hQ hP hD hS hl
  replace hown : s.vm.findClass RX3 = some m.cls := hown
  replace hl : lv_has ls 1 [(0, .int x0)] := hl
  unfold F_X3_isOperand at hF
  refine lv_iload_n hx hb dX3_isOperand_0 rfl (lv_at hl 0 rfl) ?_
  refine lv_iconst (v := 0) hx hb dX3_isOperand_1 (by decide) ?_
  refine lv_bipush (v := 7) hx hb dX3_isOperand_2 (by decide) ?_
  obtain ⟨q1, e2, hF⟩ := bd hF
  refine callSI (As := [.int x0, .int 0, .int 7]) (rest := []) ⟨hx, hb, hml, hown, hts⟩ (c_X3_within l dC dI cI cZ a u x0 0 7 q1 e2) gX3_isOperand_X3_within rfl hd_X3_within ⟨Nat.le_of_ble_eq_true rfl, Nat.le_of_ble_eq_true rfl⟩ True.intro hK hP hD hS hA rfl hl.1 rfl (Nat.le_of_ble_eq_true rfl) dX3_isOperand_4 (fun H locs hP hD hS => ?_)
  refine lv_if_ne (tgt := 21) hx hb dX3_isOperand_7 (by decide) (fun h3 => ?_) (fun h3 => ?_)
  · replace hF := iq h3 hF
    refine lv_iconst (v := 1) hx hb dX3_isOperand_21 (by decide) ?_
    refine lv_goto (tgt := 26) hx hb dX3_isOperand_22 (by decide) ?_
    exact hQ _ _ _ _ _ _ (Option.some.inj hF) rfl hP hD hS dX3_isOperand_26
  · replace hF := ip h3 hF
    refine lv_iload_n hx hb dX3_isOperand_10 rfl (lv_at hl 0 rfl) ?_
    refine lv_bipush (v := 16) hx hb dX3_isOperand_11 (by decide) ?_
    refine lv_bipush (v := 47) hx hb dX3_isOperand_13 (by decide) ?_
    obtain ⟨q4, e5, hF⟩ := bd hF
    refine callSI (As := [.int x0, .int 16, .int 47]) (rest := []) ⟨hx, hb, hml, hown, hts⟩ (c_X3_within l dC dI cI cZ a q1.2 x0 16 47 q4 e5) gX3_isOperand_X3_within rfl hd_X3_within ⟨Nat.le_of_ble_eq_true rfl, Nat.le_of_ble_eq_true rfl⟩ True.intro hK hP hD hS hA rfl hl.1 rfl (Nat.le_of_ble_eq_true rfl) dX3_isOperand_15 (fun H locs hP hD hS => ?_)
    refine lv_if_eq (tgt := 25) hx hb dX3_isOperand_18 (by decide) (fun h6 => ?_) (fun h6 => ?_)
    · replace hF := ip h6 hF
      refine lv_iconst (v := 0) hx hb dX3_isOperand_25 (by decide) ?_
      exact hQ _ _ _ _ _ _ (Option.some.inj hF) rfl hP hD hS dX3_isOperand_26
    · replace hF := iq h6 hF
      refine lv_iconst (v := 1) hx hb dX3_isOperand_21 (by decide) ?_
      refine lv_goto (tgt := 26) hx hb dX3_isOperand_22 (by decide) ?_
      exact hQ _ _ _ _ _ _ (Option.some.inj hF) rfl hP hD hS dX3_isOperand_26
theorem hd_X3_isOperand : yX3_isOperand.cls ≠ "java/lang/invoke/MethodHandle" ∧ yX3_isOperand.cls ≠ "java/lang/invoke/VarHandle" ∧ (parseMethodDescriptor yX3_isOperand.desc).map (fun d => d.parameters.length) = some 1 := by decide +kernel

def F_X3_takes (u : St) (x0 x1 : Int32) : Option (Int32 × St) := (if x1 = 0 then (if x0 = 7 then (some (3, u)) else (if x0 = 8 then (some (3, u)) else (if x0 = 13 then (some (3, u)) else ((F_X3_within u x0 9 11).bind fun q17 => (if q17.1 = 0 then ((F_X3_within q17.2 x0 1 6).bind fun q20 => (if q20.1 = 0 then (if x0 = 12 then (some (1, q20.2)) else (some (0, q20.2))) else (some (1, q20.2)))) else (some (2, q17.2))))))) else (if x1 = 1 then (if x0 = 9 then (some (4, u)) else (if x0 = 10 then (some (2, u)) else (if x0 = 12 then (some (2, u)) else ((F_X3_within u x0 2 6).bind fun q10 => (if q10.1 = 0 then (if x0 = 8 then (some (1, q10.2)) else (some (0, q10.2))) else (some (1, q10.2))))))) else ((F_X3_within u x0 3 6).bind fun q3 => (if q3.1 = 0 then (if x0 = 12 then (some (2, q3.2)) else (some (0, q3.2))) else (some (1, q3.2))))))
set_option maxRecDepth 100000 in
set_option maxHeartbeats 4000000 in
theorem c_X3_takes (l : Launch) (dC : Nat → ClassId) (dI : Nat → Nat → Nat) (cI cZ : ClassId) (a : Nat → Nat) (u : St) (x0 x1 : Int32) (o : Int32 × St) (hF : F_X3_takes u x0 x1 = some o) : MI l yX3_takes wsX3_takes 1 22 none dC dI cI cZ (wD a cI cZ) [.int x0, .int x1] u o := by
  refine miOf (cc := cX3_takes) (maxL := 2) (ret := .int) (by decide) rfl (Nat.le_of_ble_eq_true rfl) ?_
  intro p e s m args below meth c A Q H locs ls hx hb hml hts hown hK hA hz hQ hP hD hS hl
  replace hown : s.vm.findClass RX3 = some m.cls := hown
  replace hl : lv_has ls 2 [(0, .int x0), (1, .int x1)] := hl
  unfold F_X3_takes at hF
  refine lv_iload_n hx hb dX3_takes_0 rfl (lv_at hl 1 rfl) ?_
  refine lv_if_ne (tgt := 63) hx hb dX3_takes_1 (by decide) (fun h1 => ?_) (fun h1 => ?_)
  · replace hF := iq h1 hF
    refine lv_iload_n hx hb dX3_takes_63 rfl (lv_at hl 1 rfl) ?_
    refine lv_iconst (v := 1) hx hb dX3_takes_64 (by decide) ?_
    refine lv_icmp_ne (tgt := 116) hx hb dX3_takes_65 (by decide) (fun h2 => ?_) (fun h2 => ?_)
    · replace hF := iq h2 hF
      refine lv_iload_n hx hb dX3_takes_116 rfl (lv_at hl 0 rfl) ?_
      refine lv_iconst (v := 3) hx hb dX3_takes_117 (by decide) ?_
      refine lv_bipush (v := 6) hx hb dX3_takes_118 (by decide) ?_
      obtain ⟨q3, e4, hF⟩ := bd hF
      refine callSI (As := [.int x0, .int 3, .int 6]) (rest := []) ⟨hx, hb, hml, hown, hts⟩ (c_X3_within l dC dI cI cZ a u x0 3 6 q3 e4) gX3_takes_X3_within rfl hd_X3_within ⟨Nat.le_of_ble_eq_true rfl, Nat.le_of_ble_eq_true rfl⟩ True.intro hK hP hD hS hA rfl hl.1 rfl (Nat.le_of_ble_eq_true rfl) dX3_takes_120 (fun H locs hP hD hS => ?_)
      refine lv_if_eq (tgt := 130) hx hb dX3_takes_123 (by decide) (fun h5 => ?_) (fun h5 => ?_)
      · replace hF := ip h5 hF
        refine lv_iload_n hx hb dX3_takes_130 rfl (lv_at hl 0 rfl) ?_
        refine lv_bipush (v := 12) hx hb dX3_takes_131 (by decide) ?_
        refine lv_icmp_ne (tgt := 140) hx hb dX3_takes_133 (by decide) (fun h6 => ?_) (fun h6 => ?_)
        · replace hF := iq h6 hF
          refine lv_iconst (v := 0) hx hb dX3_takes_140 (by decide) ?_
          exact hQ _ _ _ _ _ _ (Option.some.inj hF) (vp_nar_int _) hP hD hS dX3_takes_141
        · replace hF := ip h6 hF
          refine lv_iconst (v := 2) hx hb dX3_takes_136 (by decide) ?_
          refine lv_goto (tgt := 141) hx hb dX3_takes_137 (by decide) ?_
          exact hQ _ _ _ _ _ _ (Option.some.inj hF) (vp_nar_int _) hP hD hS dX3_takes_141
      · replace hF := iq h5 hF
        refine lv_iconst (v := 1) hx hb dX3_takes_126 (by decide) ?_
        refine lv_goto (tgt := 141) hx hb dX3_takes_127 (by decide) ?_
        exact hQ _ _ _ _ _ _ (Option.some.inj hF) (vp_nar_int _) hP hD hS dX3_takes_141
    · replace hF := ip h2 hF
      refine lv_iload_n hx hb dX3_takes_68 rfl (lv_at hl 0 rfl) ?_
      refine lv_bipush (v := 9) hx hb dX3_takes_69 (by decide) ?_
      refine lv_icmp_ne (tgt := 78) hx hb dX3_takes_71 (by decide) (fun h7 => ?_) (fun h7 => ?_)
      · replace hF := iq h7 hF
        refine lv_iload_n hx hb dX3_takes_78 rfl (lv_at hl 0 rfl) ?_
        refine lv_bipush (v := 10) hx hb dX3_takes_79 (by decide) ?_
        refine lv_icmp_eq (tgt := 90) hx hb dX3_takes_81 (by decide) (fun h8 => ?_) (fun h8 => ?_)
        · replace hF := ip h8 hF
          refine lv_iconst (v := 2) hx hb dX3_takes_90 (by decide) ?_
          refine lv_goto (tgt := 115) hx hb dX3_takes_91 (by decide) ?_
          exact hQ _ _ _ _ _ _ (Option.some.inj hF) (vp_nar_int _) hP hD hS dX3_takes_115
        · replace hF := iq h8 hF
          refine lv_iload_n hx hb dX3_takes_84 rfl (lv_at hl 0 rfl) ?_
          refine lv_bipush (v := 12) hx hb dX3_takes_85 (by decide) ?_
          refine lv_icmp_ne (tgt := 94) hx hb dX3_takes_87 (by decide) (fun h9 => ?_) (fun h9 => ?_)
          · replace hF := iq h9 hF
            refine lv_iload_n hx hb dX3_takes_94 rfl (lv_at hl 0 rfl) ?_
            refine lv_iconst (v := 2) hx hb dX3_takes_95 (by decide) ?_
            refine lv_bipush (v := 6) hx hb dX3_takes_96 (by decide) ?_
            obtain ⟨q10, e11, hF⟩ := bd hF
            refine callSI (As := [.int x0, .int 2, .int 6]) (rest := []) ⟨hx, hb, hml, hown, hts⟩ (c_X3_within l dC dI cI cZ a u x0 2 6 q10 e11) gX3_takes_X3_within rfl hd_X3_within ⟨Nat.le_of_ble_eq_true rfl, Nat.le_of_ble_eq_true rfl⟩ True.intro hK hP hD hS hA rfl hl.1 rfl (Nat.le_of_ble_eq_true rfl) dX3_takes_98 (fun H locs hP hD hS => ?_)
            refine lv_if_ne (tgt := 110) hx hb dX3_takes_101 (by decide) (fun h12 => ?_) (fun h12 => ?_)
            · replace hF := iq h12 hF
              refine lv_iconst (v := 1) hx hb dX3_takes_110 (by decide) ?_
              refine lv_goto (tgt := 115) hx hb dX3_takes_111 (by decide) ?_
              exact hQ _ _ _ _ _ _ (Option.some.inj hF) (vp_nar_int _) hP hD hS dX3_takes_115
            · replace hF := ip h12 hF
              refine lv_iload_n hx hb dX3_takes_104 rfl (lv_at hl 0 rfl) ?_
              refine lv_bipush (v := 8) hx hb dX3_takes_105 (by decide) ?_
              refine lv_icmp_ne (tgt := 114) hx hb dX3_takes_107 (by decide) (fun h13 => ?_) (fun h13 => ?_)
              · replace hF := iq h13 hF
                refine lv_iconst (v := 0) hx hb dX3_takes_114 (by decide) ?_
                exact hQ _ _ _ _ _ _ (Option.some.inj hF) (vp_nar_int _) hP hD hS dX3_takes_115
              · replace hF := ip h13 hF
                refine lv_iconst (v := 1) hx hb dX3_takes_110 (by decide) ?_
                refine lv_goto (tgt := 115) hx hb dX3_takes_111 (by decide) ?_
                exact hQ _ _ _ _ _ _ (Option.some.inj hF) (vp_nar_int _) hP hD hS dX3_takes_115
          · replace hF := ip h9 hF
            refine lv_iconst (v := 2) hx hb dX3_takes_90 (by decide) ?_
            refine lv_goto (tgt := 115) hx hb dX3_takes_91 (by decide) ?_
            exact hQ _ _ _ _ _ _ (Option.some.inj hF) (vp_nar_int _) hP hD hS dX3_takes_115
      · replace hF := ip h7 hF
        refine lv_iconst (v := 4) hx hb dX3_takes_74 (by decide) ?_
        refine lv_goto (tgt := 115) hx hb dX3_takes_75 (by decide) ?_
        exact hQ _ _ _ _ _ _ (Option.some.inj hF) (vp_nar_int _) hP hD hS dX3_takes_115
  · replace hF := ip h1 hF
    refine lv_iload_n hx hb dX3_takes_4 rfl (lv_at hl 0 rfl) ?_
    refine lv_bipush (v := 7) hx hb dX3_takes_5 (by decide) ?_
    refine lv_icmp_eq (tgt := 22) hx hb dX3_takes_7 (by decide) (fun h14 => ?_) (fun h14 => ?_)
    · replace hF := ip h14 hF
      refine lv_iconst (v := 3) hx hb dX3_takes_22 (by decide) ?_
      refine lv_goto (tgt := 62) hx hb dX3_takes_23 (by decide) ?_
      exact hQ _ _ _ _ _ _ (Option.some.inj hF) (vp_nar_int _) hP hD hS dX3_takes_62
    · replace hF := iq h14 hF
      refine lv_iload_n hx hb dX3_takes_10 rfl (lv_at hl 0 rfl) ?_
      refine lv_bipush (v := 8) hx hb dX3_takes_11 (by decide) ?_
      refine lv_icmp_eq (tgt := 22) hx hb dX3_takes_13 (by decide) (fun h15 => ?_) (fun h15 => ?_)
      · replace hF := ip h15 hF
        refine lv_iconst (v := 3) hx hb dX3_takes_22 (by decide) ?_
        refine lv_goto (tgt := 62) hx hb dX3_takes_23 (by decide) ?_
        exact hQ _ _ _ _ _ _ (Option.some.inj hF) (vp_nar_int _) hP hD hS dX3_takes_62
      · replace hF := iq h15 hF
        refine lv_iload_n hx hb dX3_takes_16 rfl (lv_at hl 0 rfl) ?_
        refine lv_bipush (v := 13) hx hb dX3_takes_17 (by decide) ?_
        refine lv_icmp_ne (tgt := 26) hx hb dX3_takes_19 (by decide) (fun h16 => ?_) (fun h16 => ?_)
        · replace hF := iq h16 hF
          refine lv_iload_n hx hb dX3_takes_26 rfl (lv_at hl 0 rfl) ?_
          refine lv_bipush (v := 9) hx hb dX3_takes_27 (by decide) ?_
          refine lv_bipush (v := 11) hx hb dX3_takes_29 (by decide) ?_
          obtain ⟨q17, e18, hF⟩ := bd hF
          refine callSI (As := [.int x0, .int 9, .int 11]) (rest := []) ⟨hx, hb, hml, hown, hts⟩ (c_X3_within l dC dI cI cZ a u x0 9 11 q17 e18) gX3_takes_X3_within rfl hd_X3_within ⟨Nat.le_of_ble_eq_true rfl, Nat.le_of_ble_eq_true rfl⟩ True.intro hK hP hD hS hA rfl hl.1 rfl (Nat.le_of_ble_eq_true rfl) dX3_takes_31 (fun H locs hP hD hS => ?_)
          refine lv_if_eq (tgt := 41) hx hb dX3_takes_34 (by decide) (fun h19 => ?_) (fun h19 => ?_)
          · replace hF := ip h19 hF
            refine lv_iload_n hx hb dX3_takes_41 rfl (lv_at hl 0 rfl) ?_
            refine lv_iconst (v := 1) hx hb dX3_takes_42 (by decide) ?_
            refine lv_bipush (v := 6) hx hb dX3_takes_43 (by decide) ?_
            obtain ⟨q20, e21, hF⟩ := bd hF
            refine callSI (As := [.int x0, .int 1, .int 6]) (rest := []) ⟨hx, hb, hml, hown, hts⟩ (c_X3_within l dC dI cI cZ a q17.2 x0 1 6 q20 e21) gX3_takes_X3_within rfl hd_X3_within ⟨Nat.le_of_ble_eq_true rfl, Nat.le_of_ble_eq_true rfl⟩ True.intro hK hP hD hS hA rfl hl.1 rfl (Nat.le_of_ble_eq_true rfl) dX3_takes_45 (fun H locs hP hD hS => ?_)
            refine lv_if_ne (tgt := 57) hx hb dX3_takes_48 (by decide) (fun h22 => ?_) (fun h22 => ?_)
            · replace hF := iq h22 hF
              refine lv_iconst (v := 1) hx hb dX3_takes_57 (by decide) ?_
              refine lv_goto (tgt := 62) hx hb dX3_takes_58 (by decide) ?_
              exact hQ _ _ _ _ _ _ (Option.some.inj hF) (vp_nar_int _) hP hD hS dX3_takes_62
            · replace hF := ip h22 hF
              refine lv_iload_n hx hb dX3_takes_51 rfl (lv_at hl 0 rfl) ?_
              refine lv_bipush (v := 12) hx hb dX3_takes_52 (by decide) ?_
              refine lv_icmp_ne (tgt := 61) hx hb dX3_takes_54 (by decide) (fun h23 => ?_) (fun h23 => ?_)
              · replace hF := iq h23 hF
                refine lv_iconst (v := 0) hx hb dX3_takes_61 (by decide) ?_
                exact hQ _ _ _ _ _ _ (Option.some.inj hF) (vp_nar_int _) hP hD hS dX3_takes_62
              · replace hF := ip h23 hF
                refine lv_iconst (v := 1) hx hb dX3_takes_57 (by decide) ?_
                refine lv_goto (tgt := 62) hx hb dX3_takes_58 (by decide) ?_
                exact hQ _ _ _ _ _ _ (Option.some.inj hF) (vp_nar_int _) hP hD hS dX3_takes_62
          · replace hF := iq h19 hF
            refine lv_iconst (v := 2) hx hb dX3_takes_37 (by decide) ?_
            refine lv_goto (tgt := 62) hx hb dX3_takes_38 (by decide) ?_
            exact hQ _ _ _ _ _ _ (Option.some.inj hF) (vp_nar_int _) hP hD hS dX3_takes_62
        · replace hF := ip h16 hF
          refine lv_iconst (v := 3) hx hb dX3_takes_22 (by decide) ?_
          refine lv_goto (tgt := 62) hx hb dX3_takes_23 (by decide) ?_
          exact hQ _ _ _ _ _ _ (Option.some.inj hF) (vp_nar_int _) hP hD hS dX3_takes_62
theorem hd_X3_takes : yX3_takes.cls ≠ "java/lang/invoke/MethodHandle" ∧ yX3_takes.cls ≠ "java/lang/invoke/VarHandle" ∧ (parseMethodDescriptor yX3_takes.desc).map (fun d => d.parameters.length) = some 2 := by decide +kernel

def F_X3_isRight (u : St) (x0 x1 x2 : Int32) : Option (Int32 × St) := ((F_X3_takes u x0 x1).bind fun q1 => (if q1.1 = 0 then (some (1, q1.2)) else (if 3 ≤ q1.1 then (if q1.1 = 3 then ((F_X3_within q1.2 x2 0 39).bind fun q8 => (if ¬ (q8.1 = 0 ∨ q8.1 = 1) then none else some (q8.1, q8.2))) else ((F_X3_within q1.2 x2 0 3).bind fun q6 => (if ¬ (q6.1 = 0 ∨ q6.1 = 1) then none else some (q6.1, q6.2)))) else ((F_X3_isOperand q1.2 x2).bind fun q10 => (if ¬ (q10.1 = 0 ∨ q10.1 = 1) then none else some (q10.1, q10.2))))))
set_option maxRecDepth 100000 in
set_option maxHeartbeats 4000000 in
theorem c_X3_isRight (l : Launch) (dC : Nat → ClassId) (dI : Nat → Nat → Nat) (cI cZ : ClassId) (a : Nat → Nat) (u : St) (x0 x1 x2 : Int32) (o : Int32 × St) (hF : F_X3_isRight u x0 x1 x2 = some o) : MI l yX3_isRight wsX3_isRight 2 43 none dC dI cI cZ (wD a cI cZ) [.int x0, .int x1, .int x2] u o := by
  refine miOf (cc := cX3_isRight) (maxL := 4) (ret := .boolean) (by decide) rfl (Nat.le_of_ble_eq_true rfl) ?_
  intro p e s m args below meth c A Q H locs ls hx hb hml hts hown hK hA hz hQ hP hD hS hl
  replace hown : s.vm.findClass RX3 = some m.cls := hown
  replace hl : lv_has ls 4 [(0, .int x0), (1, .int x1), (2, .int x2)] := hl
  unfold F_X3_isRight at hF
  refine lv_iload_n hx hb dX3_isRight_0 rfl (lv_at hl 0 rfl) ?_
  refine lv_iload_n hx hb dX3_isRight_1 rfl (lv_at hl 1 rfl) ?_
  obtain ⟨q1, e2, hF⟩ := bd hF
  refine callSI (As := [.int x0, .int x1]) (rest := []) ⟨hx, hb, hml, hown, hts⟩ (c_X3_takes l dC dI cI cZ a u x0 x1 q1 e2) gX3_isRight_X3_takes rfl hd_X3_takes ⟨Nat.le_of_ble_eq_true rfl, Nat.le_of_ble_eq_true rfl⟩ True.intro hK hP hD hS hA rfl hl.1 rfl (Nat.le_of_ble_eq_true rfl) dX3_isRight_2 (fun H locs hP hD hS => ?_)
  refine lv_istore_n (lv' := [(3, .int q1.1), (0, .int x0), (1, .int x1), (2, .int x2)]) hx hb dX3_isRight_5 rfl hl (by decide) rfl (fun ls hl => ?_)
  refine lv_iload_n hx hb dX3_isRight_6 rfl (lv_at hl 0 rfl) ?_
  refine lv_if_ne (tgt := 12) hx hb dX3_isRight_7 (by decide) (fun h3 => ?_) (fun h3 => ?_)
  · replace hF := iq h3 hF
    refine lv_iload_n hx hb dX3_isRight_12 rfl (lv_at hl 0 rfl) ?_
    refine lv_iconst (v := 3) hx hb dX3_isRight_13 (by decide) ?_
    refine lv_icmp_ge (tgt := 24) hx hb dX3_isRight_14 (by decide) (fun h4 => ?_) (fun h4 => ?_)
    · replace hF := ip h4 hF
      refine lv_iload_n hx hb dX3_isRight_24 rfl (lv_at hl 0 rfl) ?_
      refine lv_iconst (v := 3) hx hb dX3_isRight_25 (by decide) ?_
      refine lv_icmp_ne (tgt := 39) hx hb dX3_isRight_26 (by decide) (fun h5 => ?_) (fun h5 => ?_)
      · replace hF := iq h5 hF
        refine lv_iload_n hx hb dX3_isRight_39 rfl (lv_at hl 3 rfl) ?_
        refine lv_iconst (v := 0) hx hb dX3_isRight_40 (by decide) ?_
        refine lv_iconst (v := 3) hx hb dX3_isRight_41 (by decide) ?_
        obtain ⟨q6, e7, hF⟩ := bd hF
        refine callSI (As := [.int x2, .int 0, .int 3]) (rest := []) ⟨hx, hb, hml, hown, hts⟩ (c_X3_within l dC dI cI cZ a q1.2 x2 0 3 q6 e7) gX3_isRight_X3_within rfl hd_X3_within ⟨Nat.le_of_ble_eq_true rfl, Nat.le_of_ble_eq_true rfl⟩ True.intro hK hP hD hS hA rfl hl.1 rfl (Nat.le_of_ble_eq_true rfl) dX3_isRight_42 (fun H locs hP hD hS => ?_)
        obtain ⟨hn9, hF⟩ := ck hF
        exact hQ _ _ _ _ _ _ (Option.some.inj hF) (nb01 hn9) hP hD hS dX3_isRight_45
      · replace hF := ip h5 hF
        refine lv_iload_n hx hb dX3_isRight_29 rfl (lv_at hl 3 rfl) ?_
        refine lv_iconst (v := 0) hx hb dX3_isRight_30 (by decide) ?_
        refine lv_bipush (v := 39) hx hb dX3_isRight_31 (by decide) ?_
        obtain ⟨q8, e9, hF⟩ := bd hF
        refine callSI (As := [.int x2, .int 0, .int 39]) (rest := []) ⟨hx, hb, hml, hown, hts⟩ (c_X3_within l dC dI cI cZ a q1.2 x2 0 39 q8 e9) gX3_isRight_X3_within rfl hd_X3_within ⟨Nat.le_of_ble_eq_true rfl, Nat.le_of_ble_eq_true rfl⟩ True.intro hK hP hD hS hA rfl hl.1 rfl (Nat.le_of_ble_eq_true rfl) dX3_isRight_33 (fun H locs hP hD hS => ?_)
        refine lv_goto (tgt := 45) hx hb dX3_isRight_36 (by decide) ?_
        obtain ⟨hn9, hF⟩ := ck hF
        exact hQ _ _ _ _ _ _ (Option.some.inj hF) (nb01 hn9) hP hD hS dX3_isRight_45
    · replace hF := iq h4 hF
      refine lv_iload_n hx hb dX3_isRight_17 rfl (lv_at hl 3 rfl) ?_
      obtain ⟨q10, e11, hF⟩ := bd hF
      refine callSI (As := [.int x2]) (rest := []) ⟨hx, hb, hml, hown, hts⟩ (c_X3_isOperand l dC dI cI cZ a q1.2 x2 q10 e11) gX3_isRight_X3_isOperand rfl hd_X3_isOperand ⟨Nat.le_of_ble_eq_true rfl, Nat.le_of_ble_eq_true rfl⟩ True.intro hK hP hD hS hA rfl hl.1 rfl (Nat.le_of_ble_eq_true rfl) dX3_isRight_18 (fun H locs hP hD hS => ?_)
      refine lv_goto (tgt := 45) hx hb dX3_isRight_21 (by decide) ?_
      obtain ⟨hn9, hF⟩ := ck hF
      exact hQ _ _ _ _ _ _ (Option.some.inj hF) (nb01 hn9) hP hD hS dX3_isRight_45
  · replace hF := ip h3 hF
    refine lv_iconst (v := 1) hx hb dX3_isRight_10 (by decide) ?_
    exact hQ _ _ _ _ _ _ (Option.some.inj hF) rfl hP hD hS dX3_isRight_11
theorem hd_X3_isRight : yX3_isRight.cls ≠ "java/lang/invoke/MethodHandle" ∧ yX3_isRight.cls ≠ "java/lang/invoke/VarHandle" ∧ (parseMethodDescriptor yX3_isRight.desc).map (fun d => d.parameters.length) = some 3 := by decide +kernel

def F_X3_add_60 (u : St) (x1 x2 x3 x4 : Int32) : Option (Int32 × St) := (if ((4 * (u 0 3)) < 0 ∨ 160 ≤ (4 * (u 0 3)).toNatClampNeg) then none else (sb (su u 3 (4 * (u 0 3)).toNatClampNeg x1) fun u2 => (if (((4 * (u2 0 3)) + 1) < 0 ∨ 160 ≤ ((4 * (u2 0 3)) + 1).toNatClampNeg) then none else (sb (su u2 3 ((4 * (u2 0 3)) + 1).toNatClampNeg x2) fun u4 => (if (((4 * (u4 0 3)) + 2) < 0 ∨ 160 ≤ ((4 * (u4 0 3)) + 2).toNatClampNeg) then none else (sb (su u4 3 ((4 * (u4 0 3)) + 2).toNatClampNeg x3) fun u6 => (if (((4 * (u6 0 3)) + 3) < 0 ∨ 160 ≤ ((4 * (u6 0 3)) + 3).toNatClampNeg) then none else (sb (su u6 3 ((4 * (u6 0 3)) + 3).toNatClampNeg x4) fun u8 => (sb (su u8 0 3 ((u8 0 3) + 1)) fun u9 => (some (((u9 0 3) - 1), u9)))))))))))
def F_X3_add_48 (u : St) (x1 x2 x3 x4 : Int32) : Option (Int32 × St) := (if (u 0 3) = 40 then (some ((-3), u)) else F_X3_add_60 u x1 x2 x3 x4)
def F_X3_add (u : St) (x1 x2 x3 x4 : Int32) : Option (Int32 × St) := (sb (su u 0 7 0) fun u1 => ((F_X3_within u1 x1 0 14).bind fun q2 => (if q2.1 = 0 then (some ((-1), q2.2)) else ((F_X3_isRight q2.2 x1 0 x2).bind fun q5 => (if q5.1 = 0 then (some ((-2), q5.2)) else ((F_X3_isRight q5.2 x1 1 x3).bind fun q8 => (if q8.1 = 0 then (some ((-2), q8.2)) else ((F_X3_isRight q8.2 x1 2 x4).bind fun q11 => (if q11.1 = 0 then (some ((-2), q11.2)) else F_X3_add_48 q11.2 x1 x2 x3 x4)))))))))
set_option maxRecDepth 100000 in
set_option maxHeartbeats 4000000 in
theorem c_X3_add (l : Launch) (dC : Nat → ClassId) (dI : Nat → Nat → Nat) (cI cZ : ClassId) (a : Nat → Nat) (u : St) (x1 x2 x3 x4 : Int32) (o : Int32 × St) (hF : F_X3_add u x1 x2 x3 x4 = some o) : MI l yX3_add wsX3_add 3 66 none dC dI cI cZ (wD a cI cZ) [.ref (a 0), .int x1, .int x2, .int x3, .int x4] u o := by
  refine miOf (cc := cX3_add) (maxL := 5) (ret := .int) (by decide) rfl (Nat.le_of_ble_eq_true rfl) ?_
  intro p e s m args below meth c A Q H locs ls hx hb hml hts hown hK hA hz hQ hP hD hS hl
  replace hown : s.vm.findClass RX3 = some m.cls := hown
  replace hl : lv_has ls 5 [(0, .ref (a 0)), (1, .int x1), (2, .int x2), (3, .int x3), (4, .int x4)] := hl
  have hin : ∀ w ∈ u_ws RX3 TX3 17, w ∈ wsX3_add := by decide +kernel
  have fl16 := hts (.fieldLink RX3 16 "CountedHeapModel" "code" "[I") (by decide +kernel)
  have fl41 := hts (.fieldLink RX3 41 "CountedHeapModel" "thrown" "I") (by decide +kernel)
  have fl60 := hts (.fieldLink RX3 60 "CountedHeapModel" "length" "I") (by decide +kernel)
  have b60 : ∀  (x1 x2 x3 x4 : Int32) (u : St), F_X3_add_60 u x1 x2 x3 x4 = some o → GW p l e (rmK 3 66) s m args below meth c Q dC dI (wD a cI cZ) A 5 60 [(0, .ref (a 0)), (1, .int x1), (2, .int x2), (3, .int x3), (4, .int x4)] [] u := by
      intro  x1 x2 x3 x4 u hF H locs ls hP hD hS hl
      unfold F_X3_add_60 at hF
      refine lv_aload_n hx hb dX3_add_60 rfl (lv_at hl 0 rfl) ?_
      refine va_get (D := (dC, dI)) (ci := 3) (v := .ref (a 3)) (C := RX3) (T := TX3) (N := 17) hx hb hts hin hown hK hP 0 rfl rfl 2 (by decide) fl16 (fun _ h9 => h9) rfl dX3_add_61 ?_
      refine lv_iconst (v := 4) hx hb dX3_add_64 (by decide) ?_
      refine lv_aload_n hx hb dX3_add_65 rfl (lv_at hl 0 rfl) ?_
      refine va_get (D := (dC, dI)) (ci := 3) (v := .int (u 0 3)) (C := RX3) (T := TX3) (N := 17) hx hb hts hin hown hK hP 0 rfl rfl 3 (by decide) fl60 (fun _ h9 => h9) rfl dX3_add_66 ?_
      refine lv_imul hx hb dX3_add_69 ?_
      refine lv_iload_n hx hb dX3_add_70 rfl (lv_at hl 1 rfl) ?_
      obtain ⟨hi1, hF⟩ := ck hF
      refine va_iast hx hb hK hP hD hS 3 0 rfl rfl hi1 dX3_add_71 (fun H locs hP hD hS => ?_)
      replace hP := wD_p3 hP
      replace hD := wD_d3 hD
      replace hF := sbE hF
      generalize (su u 3 (4 * (u 0 3)).toNatClampNeg x1) = u2 at hF hP hD
      refine lv_aload_n hx hb dX3_add_72 rfl (lv_at hl 0 rfl) ?_
      refine va_get (D := (dC, dI)) (ci := 3) (v := .ref (a 3)) (C := RX3) (T := TX3) (N := 17) hx hb hts hin hown hK hP 0 rfl rfl 2 (by decide) fl16 (fun _ h9 => h9) rfl dX3_add_73 ?_
      refine lv_iconst (v := 4) hx hb dX3_add_76 (by decide) ?_
      refine lv_aload_n hx hb dX3_add_77 rfl (lv_at hl 0 rfl) ?_
      refine va_get (D := (dC, dI)) (ci := 3) (v := .int (u2 0 3)) (C := RX3) (T := TX3) (N := 17) hx hb hts hin hown hK hP 0 rfl rfl 3 (by decide) fl60 (fun _ h9 => h9) rfl dX3_add_78 ?_
      refine lv_imul hx hb dX3_add_81 ?_
      refine lv_iconst (v := 1) hx hb dX3_add_82 (by decide) ?_
      refine lv_iadd hx hb dX3_add_83 ?_
      refine lv_iload_n hx hb dX3_add_84 rfl (lv_at hl 2 rfl) ?_
      obtain ⟨hi3, hF⟩ := ck hF
      refine va_iast hx hb hK hP hD hS 3 0 rfl rfl hi3 dX3_add_85 (fun H locs hP hD hS => ?_)
      replace hP := wD_p3 hP
      replace hD := wD_d3 hD
      replace hF := sbE hF
      generalize (su u2 3 ((4 * (u2 0 3)) + 1).toNatClampNeg x2) = u4 at hF hP hD
      refine lv_aload_n hx hb dX3_add_86 rfl (lv_at hl 0 rfl) ?_
      refine va_get (D := (dC, dI)) (ci := 3) (v := .ref (a 3)) (C := RX3) (T := TX3) (N := 17) hx hb hts hin hown hK hP 0 rfl rfl 2 (by decide) fl16 (fun _ h9 => h9) rfl dX3_add_87 ?_
      refine lv_iconst (v := 4) hx hb dX3_add_90 (by decide) ?_
      refine lv_aload_n hx hb dX3_add_91 rfl (lv_at hl 0 rfl) ?_
      refine va_get (D := (dC, dI)) (ci := 3) (v := .int (u4 0 3)) (C := RX3) (T := TX3) (N := 17) hx hb hts hin hown hK hP 0 rfl rfl 3 (by decide) fl60 (fun _ h9 => h9) rfl dX3_add_92 ?_
      refine lv_imul hx hb dX3_add_95 ?_
      refine lv_iconst (v := 2) hx hb dX3_add_96 (by decide) ?_
      refine lv_iadd hx hb dX3_add_97 ?_
      refine lv_iload_n hx hb dX3_add_98 rfl (lv_at hl 3 rfl) ?_
      obtain ⟨hi5, hF⟩ := ck hF
      refine va_iast hx hb hK hP hD hS 3 0 rfl rfl hi5 dX3_add_99 (fun H locs hP hD hS => ?_)
      replace hP := wD_p3 hP
      replace hD := wD_d3 hD
      replace hF := sbE hF
      generalize (su u4 3 ((4 * (u4 0 3)) + 2).toNatClampNeg x3) = u6 at hF hP hD
      refine lv_aload_n hx hb dX3_add_100 rfl (lv_at hl 0 rfl) ?_
      refine va_get (D := (dC, dI)) (ci := 3) (v := .ref (a 3)) (C := RX3) (T := TX3) (N := 17) hx hb hts hin hown hK hP 0 rfl rfl 2 (by decide) fl16 (fun _ h9 => h9) rfl dX3_add_101 ?_
      refine lv_iconst (v := 4) hx hb dX3_add_104 (by decide) ?_
      refine lv_aload_n hx hb dX3_add_105 rfl (lv_at hl 0 rfl) ?_
      refine va_get (D := (dC, dI)) (ci := 3) (v := .int (u6 0 3)) (C := RX3) (T := TX3) (N := 17) hx hb hts hin hown hK hP 0 rfl rfl 3 (by decide) fl60 (fun _ h9 => h9) rfl dX3_add_106 ?_
      refine lv_imul hx hb dX3_add_109 ?_
      refine lv_iconst (v := 3) hx hb dX3_add_110 (by decide) ?_
      refine lv_iadd hx hb dX3_add_111 ?_
      refine lv_iload hx hb dX3_add_112 (lv_at hl 4 rfl) ?_
      obtain ⟨hi7, hF⟩ := ck hF
      refine va_iast hx hb hK hP hD hS 3 0 rfl rfl hi7 dX3_add_114 (fun H locs hP hD hS => ?_)
      replace hP := wD_p3 hP
      replace hD := wD_d3 hD
      replace hF := sbE hF
      generalize (su u6 3 ((4 * (u6 0 3)) + 3).toNatClampNeg x4) = u8 at hF hP hD
      refine lv_aload_n hx hb dX3_add_115 rfl (lv_at hl 0 rfl) ?_
      refine lv_dup hx hb dX3_add_116 rfl ?_
      refine va_get (D := (dC, dI)) (ci := 3) (v := .int (u8 0 3)) (C := RX3) (T := TX3) (N := 17) hx hb hts hin hown hK hP 0 rfl rfl 3 (by decide) fl60 (fun _ h9 => h9) rfl dX3_add_117 ?_
      refine lv_iconst (v := 1) hx hb dX3_add_120 (by decide) ?_
      refine lv_iadd hx hb dX3_add_121 ?_
      refine va_put (D := (dC, dI)) (ci := 3) (v := .int ((u8 0 3) + 1)) (ty := .int) (C := RX3) (T := TX3) (N := 17) hx hb hts hin tyX3 tyX3_ok nmX3 hown hK hP hD hS 0 rfl rfl 3 (by decide) fl60 (fun _ h9 => h9) rfl (tyX3_ok 3 (by decide)) rfl rfl (Nat.le_of_ble_eq_true rfl) dX3_add_122 (fun H locs hP hD hS => ?_)
      replace hP := wD_p0_3 hP
      replace hD := wD_d0_3 hD
      replace hF := sbE hF
      generalize (su u8 0 3 ((u8 0 3) + 1)) = u9 at hF hP hD
      refine lv_aload_n hx hb dX3_add_125 rfl (lv_at hl 0 rfl) ?_
      refine va_get (D := (dC, dI)) (ci := 3) (v := .int (u9 0 3)) (C := RX3) (T := TX3) (N := 17) hx hb hts hin hown hK hP 0 rfl rfl 3 (by decide) fl60 (fun _ h9 => h9) rfl dX3_add_126 ?_
      refine lv_iconst (v := 1) hx hb dX3_add_129 (by decide) ?_
      refine lv_isub hx hb dX3_add_130 ?_
      exact hQ _ _ _ _ _ _ (Option.some.inj hF) (vp_nar_int _) hP hD hS dX3_add_131
  have b48 : ∀  (x1 x2 x3 x4 : Int32) (u : St), F_X3_add_48 u x1 x2 x3 x4 = some o → GW p l e (rmK 3 66) s m args below meth c Q dC dI (wD a cI cZ) A 5 48 [(0, .ref (a 0)), (1, .int x1), (2, .int x2), (3, .int x3), (4, .int x4)] [] u := by
      intro  x1 x2 x3 x4 u hF H locs ls hP hD hS hl
      unfold F_X3_add_48 at hF
      refine lv_aload_n hx hb dX3_add_48 rfl (lv_at hl 0 rfl) ?_
      refine va_get (D := (dC, dI)) (ci := 3) (v := .int (u 0 3)) (C := RX3) (T := TX3) (N := 17) hx hb hts hin hown hK hP 0 rfl rfl 3 (by decide) fl60 (fun _ h9 => h9) rfl dX3_add_49 ?_
      refine lv_bipush (v := 40) hx hb dX3_add_52 (by decide) ?_
      refine lv_icmp_ne (tgt := 60) hx hb dX3_add_54 (by decide) (fun h1 => ?_) (fun h1 => ?_)
      · replace hF := iq h1 hF
        exact b60  x1 x2 x3 x4 u hF H locs ls hP hD hS (lv_sub hl [0, 1, 2, 3, 4] rfl)
      · replace hF := ip h1 hF
        refine lv_bipush (v := (-3)) hx hb dX3_add_57 (by decide) ?_
        exact hQ _ _ _ _ _ _ (Option.some.inj hF) (vp_nar_int _) hP hD hS dX3_add_59
  unfold F_X3_add at hF
  refine lv_aload_n hx hb dX3_add_0 rfl (lv_at hl 0 rfl) ?_
  refine lv_iconst (v := 0) hx hb dX3_add_1 (by decide) ?_
  refine va_put (D := (dC, dI)) (ci := 3) (v := .int 0) (ty := .int) (C := RX3) (T := TX3) (N := 17) hx hb hts hin tyX3 tyX3_ok nmX3 hown hK hP hD hS 0 rfl rfl 7 (by decide) fl41 (fun _ h9 => h9) rfl (tyX3_ok 7 (by decide)) rfl rfl (Nat.le_of_ble_eq_true rfl) dX3_add_2 (fun H locs hP hD hS => ?_)
  replace hP := wD_p0_7 hP
  replace hD := wD_d0_7 hD
  replace hF := sbE hF
  generalize (su u 0 7 0) = u1 at hF hP hD
  refine lv_iload_n hx hb dX3_add_5 rfl (lv_at hl 1 rfl) ?_
  refine lv_iconst (v := 0) hx hb dX3_add_6 (by decide) ?_
  refine lv_bipush (v := 14) hx hb dX3_add_7 (by decide) ?_
  obtain ⟨q2, e3, hF⟩ := bd hF
  refine callSI (As := [.int x1, .int 0, .int 14]) (rest := []) ⟨hx, hb, hml, hown, hts⟩ (c_X3_within l dC dI cI cZ a u1 x1 0 14 q2 e3) gX3_add_X3_within rfl hd_X3_within ⟨Nat.le_of_ble_eq_true rfl, Nat.le_of_ble_eq_true rfl⟩ True.intro hK hP hD hS hA rfl hl.1 rfl (Nat.le_of_ble_eq_true rfl) dX3_add_9 (fun H locs hP hD hS => ?_)
  refine lv_if_ne (tgt := 17) hx hb dX3_add_12 (by decide) (fun h4 => ?_) (fun h4 => ?_)
  · replace hF := iq h4 hF
    refine lv_iload_n hx hb dX3_add_17 rfl (lv_at hl 1 rfl) ?_
    refine lv_iconst (v := 0) hx hb dX3_add_18 (by decide) ?_
    refine lv_iload_n hx hb dX3_add_19 rfl (lv_at hl 2 rfl) ?_
    obtain ⟨q5, e6, hF⟩ := bd hF
    refine callSI (As := [.int x1, .int 0, .int x2]) (rest := []) ⟨hx, hb, hml, hown, hts⟩ (c_X3_isRight l dC dI cI cZ a q2.2 x1 0 x2 q5 e6) gX3_add_X3_isRight rfl hd_X3_isRight ⟨Nat.le_of_ble_eq_true rfl, Nat.le_of_ble_eq_true rfl⟩ True.intro hK hP hD hS hA rfl hl.1 rfl (Nat.le_of_ble_eq_true rfl) dX3_add_20 (fun H locs hP hD hS => ?_)
    refine lv_if_eq (tgt := 45) hx hb dX3_add_23 (by decide) (fun h7 => ?_) (fun h7 => ?_)
    · replace hF := ip h7 hF
      refine lv_bipush (v := (-2)) hx hb dX3_add_45 (by decide) ?_
      exact hQ _ _ _ _ _ _ (Option.some.inj hF) (vp_nar_int _) hP hD hS dX3_add_47
    · replace hF := iq h7 hF
      refine lv_iload_n hx hb dX3_add_26 rfl (lv_at hl 1 rfl) ?_
      refine lv_iconst (v := 1) hx hb dX3_add_27 (by decide) ?_
      refine lv_iload_n hx hb dX3_add_28 rfl (lv_at hl 3 rfl) ?_
      obtain ⟨q8, e9, hF⟩ := bd hF
      refine callSI (As := [.int x1, .int 1, .int x3]) (rest := []) ⟨hx, hb, hml, hown, hts⟩ (c_X3_isRight l dC dI cI cZ a q5.2 x1 1 x3 q8 e9) gX3_add_X3_isRight rfl hd_X3_isRight ⟨Nat.le_of_ble_eq_true rfl, Nat.le_of_ble_eq_true rfl⟩ True.intro hK hP hD hS hA rfl hl.1 rfl (Nat.le_of_ble_eq_true rfl) dX3_add_29 (fun H locs hP hD hS => ?_)
      refine lv_if_eq (tgt := 45) hx hb dX3_add_32 (by decide) (fun h10 => ?_) (fun h10 => ?_)
      · replace hF := ip h10 hF
        refine lv_bipush (v := (-2)) hx hb dX3_add_45 (by decide) ?_
        exact hQ _ _ _ _ _ _ (Option.some.inj hF) (vp_nar_int _) hP hD hS dX3_add_47
      · replace hF := iq h10 hF
        refine lv_iload_n hx hb dX3_add_35 rfl (lv_at hl 1 rfl) ?_
        refine lv_iconst (v := 2) hx hb dX3_add_36 (by decide) ?_
        refine lv_iload hx hb dX3_add_37 (lv_at hl 4 rfl) ?_
        obtain ⟨q11, e12, hF⟩ := bd hF
        refine callSI (As := [.int x1, .int 2, .int x4]) (rest := []) ⟨hx, hb, hml, hown, hts⟩ (c_X3_isRight l dC dI cI cZ a q8.2 x1 2 x4 q11 e12) gX3_add_X3_isRight rfl hd_X3_isRight ⟨Nat.le_of_ble_eq_true rfl, Nat.le_of_ble_eq_true rfl⟩ True.intro hK hP hD hS hA rfl hl.1 rfl (Nat.le_of_ble_eq_true rfl) dX3_add_39 (fun H locs hP hD hS => ?_)
        refine lv_if_ne (tgt := 48) hx hb dX3_add_42 (by decide) (fun h13 => ?_) (fun h13 => ?_)
        · replace hF := iq h13 hF
          exact b48  x1 x2 x3 x4 q11.2 hF H locs ls hP hD hS (lv_sub hl [0, 1, 2, 3, 4] rfl)
        · replace hF := ip h13 hF
          refine lv_bipush (v := (-2)) hx hb dX3_add_45 (by decide) ?_
          exact hQ _ _ _ _ _ _ (Option.some.inj hF) (vp_nar_int _) hP hD hS dX3_add_47
  · replace hF := ip h4 hF
    refine lv_iconst (v := (-1)) hx hb dX3_add_15 (by decide) ?_
    exact hQ _ _ _ _ _ _ (Option.some.inj hF) (vp_nar_int _) hP hD hS dX3_add_16
theorem hd_X3_add : yX3_add.cls = RX3 ∧ yX3_add.cls ≠ "java/lang/invoke/MethodHandle" ∧ yX3_add.cls ≠ "java/lang/invoke/VarHandle" ∧ (parseMethodDescriptor yX3_add.desc).map (fun d => d.parameters.length) = some 4 := by decide +kernel

def F_X3_clear (u : St) : Option (Int32 × St) := (sb (su u 0 7 0) fun u1 => (sb (su u1 0 3 0) fun u2 => (sb (su u2 0 4 0) fun u3 => (sb (su u3 0 5 0) fun u4 => (some ((u1 0 3), u4))))))
set_option maxRecDepth 100000 in
set_option maxHeartbeats 4000000 in
theorem c_X3_clear (l : Launch) (dC : Nat → ClassId) (dI : Nat → Nat → Nat) (cI cZ : ClassId) (a : Nat → Nat) (u : St) (o : Int32 × St) (hF : F_X3_clear u = some o) : MI l yX3_clear wsX3_clear 0 0 none dC dI cI cZ (wD a cI cZ) [.ref (a 0)] u o := by
  refine miOf (cc := cX3_clear) (maxL := 2) (ret := .int) (by decide) rfl (Nat.le_of_ble_eq_true rfl) ?_
  intro p e s m args below meth c A Q H locs ls hx hb hml hts hown hK hA hz hQ hP hD hS hl
  replace hown : s.vm.findClass RX3 = some m.cls := hown
  replace hl : lv_has ls 2 [(0, .ref (a 0))] := hl
  have hin : ∀ w ∈ u_ws RX3 TX3 17, w ∈ wsX3_clear := by decide +kernel
  have fl41 := hts (.fieldLink RX3 41 "CountedHeapModel" "thrown" "I") (by decide +kernel)
  have fl60 := hts (.fieldLink RX3 60 "CountedHeapModel" "length" "I") (by decide +kernel)
  have fl63 := hts (.fieldLink RX3 63 "CountedHeapModel" "next" "I") (by decide +kernel)
  have fl66 := hts (.fieldLink RX3 66 "CountedHeapModel" "depth" "I") (by decide +kernel)
  unfold F_X3_clear at hF
  refine lv_aload_n hx hb dX3_clear_0 rfl (lv_at hl 0 rfl) ?_
  refine lv_iconst (v := 0) hx hb dX3_clear_1 (by decide) ?_
  refine va_put (D := (dC, dI)) (ci := 3) (v := .int 0) (ty := .int) (C := RX3) (T := TX3) (N := 17) hx hb hts hin tyX3 tyX3_ok nmX3 hown hK hP hD hS 0 rfl rfl 7 (by decide) fl41 (fun _ h9 => h9) rfl (tyX3_ok 7 (by decide)) rfl rfl (Nat.le_of_ble_eq_true rfl) dX3_clear_2 (fun H locs hP hD hS => ?_)
  replace hP := wD_p0_7 hP
  replace hD := wD_d0_7 hD
  replace hF := sbE hF
  generalize (su u 0 7 0) = u1 at hF hP hD
  refine lv_aload_n hx hb dX3_clear_5 rfl (lv_at hl 0 rfl) ?_
  refine va_get (D := (dC, dI)) (ci := 3) (v := .int (u1 0 3)) (C := RX3) (T := TX3) (N := 17) hx hb hts hin hown hK hP 0 rfl rfl 3 (by decide) fl60 (fun _ h9 => h9) rfl dX3_clear_6 ?_
  refine lv_istore_n (lv' := [(1, .int (u1 0 3)), (0, .ref (a 0))]) hx hb dX3_clear_9 rfl hl (by decide) rfl (fun ls hl => ?_)
  refine lv_aload_n hx hb dX3_clear_10 rfl (lv_at hl 1 rfl) ?_
  refine lv_iconst (v := 0) hx hb dX3_clear_11 (by decide) ?_
  refine va_put (D := (dC, dI)) (ci := 3) (v := .int 0) (ty := .int) (C := RX3) (T := TX3) (N := 17) hx hb hts hin tyX3 tyX3_ok nmX3 hown hK hP hD hS 0 rfl rfl 3 (by decide) fl60 (fun _ h9 => h9) rfl (tyX3_ok 3 (by decide)) rfl rfl (Nat.le_of_ble_eq_true rfl) dX3_clear_12 (fun H locs hP hD hS => ?_)
  replace hP := wD_p0_3 hP
  replace hD := wD_d0_3 hD
  replace hF := sbE hF
  generalize (su u1 0 3 0) = u2 at hF hP hD
  refine lv_aload_n hx hb dX3_clear_15 rfl (lv_at hl 1 rfl) ?_
  refine lv_iconst (v := 0) hx hb dX3_clear_16 (by decide) ?_
  refine va_put (D := (dC, dI)) (ci := 3) (v := .int 0) (ty := .int) (C := RX3) (T := TX3) (N := 17) hx hb hts hin tyX3 tyX3_ok nmX3 hown hK hP hD hS 0 rfl rfl 4 (by decide) fl63 (fun _ h9 => h9) rfl (tyX3_ok 4 (by decide)) rfl rfl (Nat.le_of_ble_eq_true rfl) dX3_clear_17 (fun H locs hP hD hS => ?_)
  replace hP := wD_p0_4 hP
  replace hD := wD_d0_4 hD
  replace hF := sbE hF
  generalize (su u2 0 4 0) = u3 at hF hP hD
  refine lv_aload_n hx hb dX3_clear_20 rfl (lv_at hl 1 rfl) ?_
  refine lv_iconst (v := 0) hx hb dX3_clear_21 (by decide) ?_
  refine va_put (D := (dC, dI)) (ci := 3) (v := .int 0) (ty := .int) (C := RX3) (T := TX3) (N := 17) hx hb hts hin tyX3 tyX3_ok nmX3 hown hK hP hD hS 0 rfl rfl 5 (by decide) fl66 (fun _ h9 => h9) rfl (tyX3_ok 5 (by decide)) rfl rfl (Nat.le_of_ble_eq_true rfl) dX3_clear_22 (fun H locs hP hD hS => ?_)
  replace hP := wD_p0_5 hP
  replace hD := wD_d0_5 hD
  replace hF := sbE hF
  generalize (su u3 0 5 0) = u4 at hF hP hD
  refine lv_iload_n hx hb dX3_clear_25 rfl (lv_at hl 0 rfl) ?_
  exact hQ _ _ _ _ _ _ (Option.some.inj hF) (vp_nar_int _) hP hD hS dX3_clear_26
theorem hd_X3_clear : yX3_clear.cls = RX3 ∧ yX3_clear.cls ≠ "java/lang/invoke/MethodHandle" ∧ yX3_clear.cls ≠ "java/lang/invoke/VarHandle" ∧ (parseMethodDescriptor yX3_clear.desc).map (fun d => d.parameters.length) = some 0 := by decide +kernel

def F_X3_start (u : St) (x1 : Int32) : Option (Int32 × St) := (sb (su u 0 7 0) fun u1 => ((F_X3_within u1 x1 0 39).bind fun q2 => (if q2.1 = 0 then (some (0, q2.2)) else (sb (su q2.2 0 4 x1) fun u5 => (sb (su u5 0 5 0) fun u6 => (some (1, u6)))))))
set_option maxRecDepth 100000 in
set_option maxHeartbeats 4000000 in
theorem c_X3_start (l : Launch) (dC : Nat → ClassId) (dI : Nat → Nat → Nat) (cI cZ : ClassId) (a : Nat → Nat) (u : St) (x1 : Int32) (o : Int32 × St) (hF : F_X3_start u x1 = some o) : MI l yX3_start wsX3_start 1 22 none dC dI cI cZ (wD a cI cZ) [.ref (a 0), .int x1] u o := by
  refine miOf (cc := cX3_start) (maxL := 2) (ret := .boolean) (by decide) rfl (Nat.le_of_ble_eq_true rfl) ?_
  intro p e s m args below meth c A Q H locs ls hx hb hml hts hown hK hA hz hQ hP hD hS hl
  replace hown : s.vm.findClass RX3 = some m.cls := hown
  replace hl : lv_has ls 2 [(0, .ref (a 0)), (1, .int x1)] := hl
  have hin : ∀ w ∈ u_ws RX3 TX3 17, w ∈ wsX3_start := by decide +kernel
  have fl41 := hts (.fieldLink RX3 41 "CountedHeapModel" "thrown" "I") (by decide +kernel)
  have fl63 := hts (.fieldLink RX3 63 "CountedHeapModel" "next" "I") (by decide +kernel)
  have fl66 := hts (.fieldLink RX3 66 "CountedHeapModel" "depth" "I") (by decide +kernel)
  unfold F_X3_start at hF
  refine lv_aload_n hx hb dX3_start_0 rfl (lv_at hl 0 rfl) ?_
  refine lv_iconst (v := 0) hx hb dX3_start_1 (by decide) ?_
  refine va_put (D := (dC, dI)) (ci := 3) (v := .int 0) (ty := .int) (C := RX3) (T := TX3) (N := 17) hx hb hts hin tyX3 tyX3_ok nmX3 hown hK hP hD hS 0 rfl rfl 7 (by decide) fl41 (fun _ h9 => h9) rfl (tyX3_ok 7 (by decide)) rfl rfl (Nat.le_of_ble_eq_true rfl) dX3_start_2 (fun H locs hP hD hS => ?_)
  replace hP := wD_p0_7 hP
  replace hD := wD_d0_7 hD
  replace hF := sbE hF
  generalize (su u 0 7 0) = u1 at hF hP hD
  refine lv_iload_n hx hb dX3_start_5 rfl (lv_at hl 1 rfl) ?_
  refine lv_iconst (v := 0) hx hb dX3_start_6 (by decide) ?_
  refine lv_bipush (v := 39) hx hb dX3_start_7 (by decide) ?_
  obtain ⟨q2, e3, hF⟩ := bd hF
  refine callSI (As := [.int x1, .int 0, .int 39]) (rest := []) ⟨hx, hb, hml, hown, hts⟩ (c_X3_within l dC dI cI cZ a u1 x1 0 39 q2 e3) gX3_start_X3_within rfl hd_X3_within ⟨Nat.le_of_ble_eq_true rfl, Nat.le_of_ble_eq_true rfl⟩ True.intro hK hP hD hS hA rfl hl.1 rfl (Nat.le_of_ble_eq_true rfl) dX3_start_9 (fun H locs hP hD hS => ?_)
  refine lv_if_ne (tgt := 17) hx hb dX3_start_12 (by decide) (fun h4 => ?_) (fun h4 => ?_)
  · replace hF := iq h4 hF
    refine lv_aload_n hx hb dX3_start_17 rfl (lv_at hl 0 rfl) ?_
    refine lv_iload_n hx hb dX3_start_18 rfl (lv_at hl 1 rfl) ?_
    refine va_put (D := (dC, dI)) (ci := 3) (v := .int x1) (ty := .int) (C := RX3) (T := TX3) (N := 17) hx hb hts hin tyX3 tyX3_ok nmX3 hown hK hP hD hS 0 rfl rfl 4 (by decide) fl63 (fun _ h9 => h9) rfl (tyX3_ok 4 (by decide)) rfl rfl (Nat.le_of_ble_eq_true rfl) dX3_start_19 (fun H locs hP hD hS => ?_)
    replace hP := wD_p0_4 hP
    replace hD := wD_d0_4 hD
    replace hF := sbE hF
    generalize (su q2.2 0 4 x1) = u5 at hF hP hD
    refine lv_aload_n hx hb dX3_start_22 rfl (lv_at hl 0 rfl) ?_
    refine lv_iconst (v := 0) hx hb dX3_start_23 (by decide) ?_
    refine va_put (D := (dC, dI)) (ci := 3) (v := .int 0) (ty := .int) (C := RX3) (T := TX3) (N := 17) hx hb hts hin tyX3 tyX3_ok nmX3 hown hK hP hD hS 0 rfl rfl 5 (by decide) fl66 (fun _ h9 => h9) rfl (tyX3_ok 5 (by decide)) rfl rfl (Nat.le_of_ble_eq_true rfl) dX3_start_24 (fun H locs hP hD hS => ?_)
    replace hP := wD_p0_5 hP
    replace hD := wD_d0_5 hD
    replace hF := sbE hF
    generalize (su u5 0 5 0) = u6 at hF hP hD
    refine lv_iconst (v := 1) hx hb dX3_start_27 (by decide) ?_
    exact hQ _ _ _ _ _ _ (Option.some.inj hF) rfl hP hD hS dX3_start_28
  · replace hF := ip h4 hF
    refine lv_iconst (v := 0) hx hb dX3_start_15 (by decide) ?_
    exact hQ _ _ _ _ _ _ (Option.some.inj hF) rfl hP hD hS dX3_start_16
theorem hd_X3_start : yX3_start.cls = RX3 ∧ yX3_start.cls ≠ "java/lang/invoke/MethodHandle" ∧ yX3_start.cls ≠ "java/lang/invoke/VarHandle" ∧ (parseMethodDescriptor yX3_start.desc).map (fun d => d.parameters.length) = some 1 := by decide +kernel

def F_X3_isBlock (u : St) (x1 : Int32) : Option (Int32 × St) := ((F_X3_within u x1 1 24).bind fun q1 => (if q1.1 = 0 then (some (0, q1.2)) else (if (x1 < 0 ∨ 25 ≤ x1.toNatClampNeg) then none else (if (q1.2 7 x1.toNatClampNeg) < 0 then (some (0, q1.2)) else (some (1, q1.2))))))
set_option maxRecDepth 100000 in
set_option maxHeartbeats 4000000 in
theorem c_X3_isBlock (l : Launch) (dC : Nat → ClassId) (dI : Nat → Nat → Nat) (cI cZ : ClassId) (a : Nat → Nat) (u : St) (x1 : Int32) (o : Int32 × St) (hF : F_X3_isBlock u x1 = some o) : MI l yX3_isBlock wsX3_isBlock 1 22 none dC dI cI cZ (wD a cI cZ) [.ref (a 0), .int x1] u o := by
  refine miOf (cc := cX3_isBlock) (maxL := 2) (ret := .boolean) (by decide) rfl (Nat.le_of_ble_eq_true rfl) ?_
  intro p e s m args below meth c A Q H locs ls hx hb hml hts hown hK hA hz hQ hP hD hS hl
  replace hown : s.vm.findClass RX3 = some m.cls := hown
  replace hl : lv_has ls 2 [(0, .ref (a 0)), (1, .int x1)] := hl
  have hin : ∀ w ∈ u_ws RX3 TX3 17, w ∈ wsX3_isBlock := by decide +kernel
  have fl28 := hts (.fieldLink RX3 28 "CountedHeapModel" "kind" "[I") (by decide +kernel)
  unfold F_X3_isBlock at hF
  refine lv_iload_n hx hb dX3_isBlock_0 rfl (lv_at hl 1 rfl) ?_
  refine lv_iconst (v := 1) hx hb dX3_isBlock_1 (by decide) ?_
  refine lv_bipush (v := 24) hx hb dX3_isBlock_2 (by decide) ?_
  obtain ⟨q1, e2, hF⟩ := bd hF
  refine callSI (As := [.int x1, .int 1, .int 24]) (rest := []) ⟨hx, hb, hml, hown, hts⟩ (c_X3_within l dC dI cI cZ a u x1 1 24 q1 e2) gX3_isBlock_X3_within rfl hd_X3_within ⟨Nat.le_of_ble_eq_true rfl, Nat.le_of_ble_eq_true rfl⟩ True.intro hK hP hD hS hA rfl hl.1 rfl (Nat.le_of_ble_eq_true rfl) dX3_isBlock_4 (fun H locs hP hD hS => ?_)
  refine lv_if_eq (tgt := 23) hx hb dX3_isBlock_7 (by decide) (fun h3 => ?_) (fun h3 => ?_)
  · replace hF := ip h3 hF
    refine lv_iconst (v := 0) hx hb dX3_isBlock_23 (by decide) ?_
    exact hQ _ _ _ _ _ _ (Option.some.inj hF) rfl hP hD hS dX3_isBlock_24
  · replace hF := iq h3 hF
    refine lv_aload_n hx hb dX3_isBlock_10 rfl (lv_at hl 0 rfl) ?_
    refine va_get (D := (dC, dI)) (ci := 3) (v := .ref (a 7)) (C := RX3) (T := TX3) (N := 17) hx hb hts hin hown hK hP 0 rfl rfl 11 (by decide) fl28 (fun _ h9 => h9) rfl dX3_isBlock_11 ?_
    refine lv_iload_n hx hb dX3_isBlock_14 rfl (lv_at hl 1 rfl) ?_
    obtain ⟨hi4, hF⟩ := ck hF
    refine va_iald hx hb hK hP 7 0 rfl rfl hi4 dX3_isBlock_15 ?_
    refine lv_if_lt (tgt := 23) hx hb dX3_isBlock_16 (by decide) (fun h5 => ?_) (fun h5 => ?_)
    · replace hF := ip h5 hF
      refine lv_iconst (v := 0) hx hb dX3_isBlock_23 (by decide) ?_
      exact hQ _ _ _ _ _ _ (Option.some.inj hF) rfl hP hD hS dX3_isBlock_24
    · replace hF := iq h5 hF
      refine lv_iconst (v := 1) hx hb dX3_isBlock_19 (by decide) ?_
      refine lv_goto (tgt := 24) hx hb dX3_isBlock_20 (by decide) ?_
      exact hQ _ _ _ _ _ _ (Option.some.inj hF) rfl hP hD hS dX3_isBlock_24
theorem hd_X3_isBlock : yX3_isBlock.cls = RX3 ∧ yX3_isBlock.cls ≠ "java/lang/invoke/MethodHandle" ∧ yX3_isBlock.cls ≠ "java/lang/invoke/VarHandle" ∧ (parseMethodDescriptor yX3_isBlock.desc).map (fun d => d.parameters.length) = some 1 := by decide +kernel

def F_X3_isPointer (u : St) (x1 x2 : Int32) : Option (Int32 × St) := (if (x1 < 0 ∨ 25 ≤ x1.toNatClampNeg) then none else (if ((u 7 x1.toNatClampNeg) < 0 ∨ 4 ≤ (u 7 x1.toNatClampNeg).toNatClampNeg) then none else (if (((u 2 (u 7 x1.toNatClampNeg).toNatClampNeg) >>> (x2 &&& 31)) &&& 1) = 1 then (some (1, u)) else (some (0, u)))))
set_option maxRecDepth 100000 in
set_option maxHeartbeats 4000000 in
theorem c_X3_isPointer (l : Launch) (dC : Nat → ClassId) (dI : Nat → Nat → Nat) (cI cZ : ClassId) (a : Nat → Nat) (u : St) (x1 x2 : Int32) (o : Int32 × St) (hF : F_X3_isPointer u x1 x2 = some o) : MI l yX3_isPointer wsX3_isPointer 0 0 none dC dI cI cZ (wD a cI cZ) [.ref (a 0), .int x1, .int x2] u o := by
  refine miOf (cc := cX3_isPointer) (maxL := 3) (ret := .boolean) (by decide) rfl (Nat.le_of_ble_eq_true rfl) ?_
  intro p e s m args below meth c A Q H locs ls hx hb hml hts hown hK hA hz hQ hP hD hS hl
  replace hown : s.vm.findClass RX3 = some m.cls := hown
  replace hl : lv_has ls 3 [(0, .ref (a 0)), (1, .int x1), (2, .int x2)] := hl
  have hin : ∀ w ∈ u_ws RX3 TX3 17, w ∈ wsX3_isPointer := by decide +kernel
  have fl13 := hts (.fieldLink RX3 13 "CountedHeapModel" "map" "[I") (by decide +kernel)
  have fl28 := hts (.fieldLink RX3 28 "CountedHeapModel" "kind" "[I") (by decide +kernel)
  unfold F_X3_isPointer at hF
  refine lv_aload_n hx hb dX3_isPointer_0 rfl (lv_at hl 0 rfl) ?_
  refine va_get (D := (dC, dI)) (ci := 3) (v := .ref (a 2)) (C := RX3) (T := TX3) (N := 17) hx hb hts hin hown hK hP 0 rfl rfl 1 (by decide) fl13 (fun _ h9 => h9) rfl dX3_isPointer_1 ?_
  refine lv_aload_n hx hb dX3_isPointer_4 rfl (lv_at hl 0 rfl) ?_
  refine va_get (D := (dC, dI)) (ci := 3) (v := .ref (a 7)) (C := RX3) (T := TX3) (N := 17) hx hb hts hin hown hK hP 0 rfl rfl 11 (by decide) fl28 (fun _ h9 => h9) rfl dX3_isPointer_5 ?_
  refine lv_iload_n hx hb dX3_isPointer_8 rfl (lv_at hl 1 rfl) ?_
  obtain ⟨hi1, hF⟩ := ck hF
  refine va_iald hx hb hK hP 7 0 rfl rfl hi1 dX3_isPointer_9 ?_
  obtain ⟨hi2, hF⟩ := ck hF
  refine va_iald hx hb hK hP 2 0 rfl rfl hi2 dX3_isPointer_10 ?_
  refine lv_iload_n hx hb dX3_isPointer_11 rfl (lv_at hl 2 rfl) ?_
  refine lv_ishr hx hb dX3_isPointer_12 ?_
  refine lv_iconst (v := 1) hx hb dX3_isPointer_13 (by decide) ?_
  refine lv_iand hx hb dX3_isPointer_14 ?_
  refine lv_iconst (v := 1) hx hb dX3_isPointer_15 (by decide) ?_
  refine lv_icmp_ne (tgt := 23) hx hb dX3_isPointer_16 (by decide) (fun h3 => ?_) (fun h3 => ?_)
  · replace hF := iq h3 hF
    refine lv_iconst (v := 0) hx hb dX3_isPointer_23 (by decide) ?_
    exact hQ _ _ _ _ _ _ (Option.some.inj hF) rfl hP hD hS dX3_isPointer_24
  · replace hF := ip h3 hF
    refine lv_iconst (v := 1) hx hb dX3_isPointer_19 (by decide) ?_
    refine lv_goto (tgt := 24) hx hb dX3_isPointer_20 (by decide) ?_
    exact hQ _ _ _ _ _ _ (Option.some.inj hF) rfl hP hD hS dX3_isPointer_24
theorem hd_X3_isPointer : yX3_isPointer.cls = RX3 ∧ yX3_isPointer.cls ≠ "java/lang/invoke/MethodHandle" ∧ yX3_isPointer.cls ≠ "java/lang/invoke/VarHandle" ∧ (parseMethodDescriptor yX3_isPointer.desc).map (fun d => d.parameters.length) = some 2 := by decide +kernel

def F_X3_countAll_71 (k51 : St → Int32 → Option (Int32 × St)) (k71 : St → Int32 → Int32 → Option (Int32 × St)) (u : St) (x1 x2 : Int32) : Option (Int32 × St) := (if (x1 < 0 ∨ 25 ≤ x1.toNatClampNeg) then none else (if ((u 7 x1.toNatClampNeg) < 0 ∨ 4 ≤ (u 7 x1.toNatClampNeg).toNatClampNeg) then none else (if (u 1 (u 7 x1.toNatClampNeg).toNatClampNeg) ≤ x2 then k51 u ((x1 + 1)) else ((F_X3_isPointer u x1 x2).bind fun q4 => (if q4.1 = 0 then k71 q4.2 x1 ((x2 + 1)) else (if (((6 * x1) + x2) < 0 ∨ 150 ≤ ((6 * x1) + x2).toNatClampNeg) then none else (if ((q4.2 8 ((6 * x1) + x2).toNatClampNeg) < 0 ∨ 25 ≤ (q4.2 8 ((6 * x1) + x2).toNatClampNeg).toNatClampNeg) then none else (if ((q4.2 8 ((6 * x1) + x2).toNatClampNeg) < 0 ∨ 25 ≤ (q4.2 8 ((6 * x1) + x2).toNatClampNeg).toNatClampNeg) then none else k71 (su q4.2 9 (q4.2 8 ((6 * x1) + x2).toNatClampNeg).toNatClampNeg ((q4.2 9 (q4.2 8 ((6 * x1) + x2).toNatClampNeg).toNatClampNeg) + 1)) x1 ((x2 + 1))))))))))
def L_X3_countAll_71 (k51 : St → Int32 → Option (Int32 × St)) : Nat → St → Int32 → Int32 → Option (Int32 × St)
  | 0 => fun _ _ _ => none
  | n + 1 => fun u x1 x2 => F_X3_countAll_71 k51 (L_X3_countAll_71 k51 n) u x1 x2
def F_X3_countAll_51 (k51 : St → Int32 → Option (Int32 × St)) (u : St) (x1 : Int32) : Option (Int32 × St) := (if 25 ≤ x1 then (some (0, u)) else (if (x1 < 0 ∨ 25 ≤ x1.toNatClampNeg) then none else (if 0 ≤ (u 7 x1.toNatClampNeg) then L_X3_countAll_71 k51 fuel u x1 0 else k51 u ((x1 + 1)))))
def L_X3_countAll_51  : Nat → St → Int32 → Option (Int32 × St)
  | 0 => fun _ _ => none
  | n + 1 => fun u x1 => F_X3_countAll_51 (L_X3_countAll_51 n) u x1
def F_X3_countAll_23 (k23 : St → Int32 → Option (Int32 × St)) (u : St) (x1 : Int32) : Option (Int32 × St) := (if 4 ≤ x1 then L_X3_countAll_51 fuel u 1 else (if (x1 < 0 ∨ 4 ≤ x1.toNatClampNeg) then none else (if ((u 6 x1.toNatClampNeg) < 0 ∨ 25 ≤ (u 6 x1.toNatClampNeg).toNatClampNeg) then none else (if ((u 6 x1.toNatClampNeg) < 0 ∨ 25 ≤ (u 6 x1.toNatClampNeg).toNatClampNeg) then none else k23 (su u 9 (u 6 x1.toNatClampNeg).toNatClampNeg ((u 9 (u 6 x1.toNatClampNeg).toNatClampNeg) + 1)) ((x1 + 1))))))
def L_X3_countAll_23  : Nat → St → Int32 → Option (Int32 × St)
  | 0 => fun _ _ => none
  | n + 1 => fun u x1 => F_X3_countAll_23 (L_X3_countAll_23 n) u x1
def F_X3_countAll_2 (k2 : St → Int32 → Option (Int32 × St)) (u : St) (x1 : Int32) : Option (Int32 × St) := (if 25 ≤ x1 then L_X3_countAll_23 fuel u 0 else (if (x1 < 0 ∨ 25 ≤ x1.toNatClampNeg) then none else k2 (su u 9 x1.toNatClampNeg 0) ((x1 + 1))))
def L_X3_countAll_2  : Nat → St → Int32 → Option (Int32 × St)
  | 0 => fun _ _ => none
  | n + 1 => fun u x1 => F_X3_countAll_2 (L_X3_countAll_2 n) u x1
def F_X3_countAll (u : St) : Option (Int32 × St) := L_X3_countAll_2 fuel u 0
set_option maxRecDepth 100000 in
set_option maxHeartbeats 4000000 in
theorem c_X3_countAll (l : Launch) (dC : Nat → ClassId) (dI : Nat → Nat → Nat) (cI cZ : ClassId) (a : Nat → Nat) (u : St) (o : Int32 × St) (hF : F_X3_countAll u = some o) : MV l yX3_countAll wsX3_countAll 1 22 none dC dI cI cZ (wD a cI cZ) [.ref (a 0)] u o := by
  refine mvOf (cc := cX3_countAll) (maxL := 3) (by decide) rfl (Nat.le_of_ble_eq_true rfl) ?_
  intro p e s m args below meth c A Q H locs ls hx hb hml hts hown hK hA hz hQ hP hD hS hl
  replace hown : s.vm.findClass RX3 = some m.cls := hown
  replace hl : lv_has ls 3 [(0, .ref (a 0))] := hl
  have hin : ∀ w ∈ u_ws RX3 TX3 17, w ∈ wsX3_countAll := by decide +kernel
  have fl7 := hts (.fieldLink RX3 7 "CountedHeapModel" "size" "[I") (by decide +kernel)
  have fl25 := hts (.fieldLink RX3 25 "CountedHeapModel" "roots" "[I") (by decide +kernel)
  have fl28 := hts (.fieldLink RX3 28 "CountedHeapModel" "kind" "[I") (by decide +kernel)
  have fl31 := hts (.fieldLink RX3 31 "CountedHeapModel" "words" "[I") (by decide +kernel)
  have fl34 := hts (.fieldLink RX3 34 "CountedHeapModel" "pointers" "[I") (by decide +kernel)
  have b71 : ∀ (k51 : St → Int32 → Option (Int32 × St)) (hk51 : ∀ (x1 : Int32) (u : St), k51 u x1 = some o → GW p l e (rmK 1 22) s m args below meth c Q dC dI (wD a cI cZ) A 3 51 [(0, .ref (a 0)), (1, .int x1)] [] u) (k71 : St → Int32 → Int32 → Option (Int32 × St)) (hk71 : ∀ (x1 x2 : Int32) (u : St), k71 u x1 x2 = some o → GW p l e (rmK 1 22) s m args below meth c Q dC dI (wD a cI cZ) A 3 71 [(0, .ref (a 0)), (1, .int x1), (2, .int x2)] [] u) (x1 x2 : Int32) (u : St), F_X3_countAll_71 k51 k71 u x1 x2 = some o → GW p l e (rmK 1 22) s m args below meth c Q dC dI (wD a cI cZ) A 3 71 [(0, .ref (a 0)), (1, .int x1), (2, .int x2)] [] u := by
      intro k51 hk51 k71 hk71 x1 x2 u hF H locs ls hP hD hS hl
      unfold F_X3_countAll_71 at hF
      refine lv_iload_n hx hb dX3_countAll_71 rfl (lv_at hl 2 rfl) ?_
      refine lv_aload_n hx hb dX3_countAll_72 rfl (lv_at hl 0 rfl) ?_
      refine va_get (D := (dC, dI)) (ci := 3) (v := .ref (a 1)) (C := RX3) (T := TX3) (N := 17) hx hb hts hin hown hK hP 0 rfl rfl 0 (by decide) fl7 (fun _ h9 => h9) rfl dX3_countAll_73 ?_
      refine lv_aload_n hx hb dX3_countAll_76 rfl (lv_at hl 0 rfl) ?_
      refine va_get (D := (dC, dI)) (ci := 3) (v := .ref (a 7)) (C := RX3) (T := TX3) (N := 17) hx hb hts hin hown hK hP 0 rfl rfl 11 (by decide) fl28 (fun _ h9 => h9) rfl dX3_countAll_77 ?_
      refine lv_iload_n hx hb dX3_countAll_80 rfl (lv_at hl 1 rfl) ?_
      obtain ⟨hi1, hF⟩ := ck hF
      refine va_iald hx hb hK hP 7 0 rfl rfl hi1 dX3_countAll_81 ?_
      obtain ⟨hi2, hF⟩ := ck hF
      refine va_iald hx hb hK hP 1 0 rfl rfl hi2 dX3_countAll_82 ?_
      refine lv_icmp_ge (tgt := 121) hx hb dX3_countAll_83 (by decide) (fun h3 => ?_) (fun h3 => ?_)
      · replace hF := ip h3 hF
        refine lv_iinc (v := (x1 + 1)) (lv' := [(1, .int (x1 + 1)), (0, .ref (a 0)), (2, .int x2)]) hx hb dX3_countAll_121 hl (k := 1) rfl rfl (by decide) rfl (fun ls hl => ?_)
        refine lv_goto (tgt := 51) hx hb dX3_countAll_124 (by decide) ?_
        exact hk51 ((x1 + 1)) u hF H locs ls hP hD hS (lv_sub hl [1, 0] rfl)
      · replace hF := iq h3 hF
        refine lv_aload_n hx hb dX3_countAll_86 rfl (lv_at hl 0 rfl) ?_
        refine lv_iload_n hx hb dX3_countAll_87 rfl (lv_at hl 1 rfl) ?_
        refine lv_iload_n hx hb dX3_countAll_88 rfl (lv_at hl 2 rfl) ?_
        obtain ⟨q4, e5, hF⟩ := bd hF
        refine callVI (C := RX3) (ci := 3) (q0 := 0) (As := [.int x1, .int x2]) (rest := []) ⟨hx, hb, hml, hown, hts⟩ (c_X3_isPointer l dC dI cI cZ a u x1 x2 q4 e5) gX3_countAll_X3_isPointer rfl hd_X3_isPointer rfl rfl rfl ⟨Nat.le_of_ble_eq_true rfl, Nat.le_of_ble_eq_true rfl⟩ True.intro hK hP hD hS hA rfl hl.1 rfl (Nat.le_of_ble_eq_true rfl) dX3_countAll_89 (fun H locs hP hD hS => ?_)
        refine lv_if_eq (tgt := 115) hx hb dX3_countAll_92 (by decide) (fun h6 => ?_) (fun h6 => ?_)
        · replace hF := ip h6 hF
          refine lv_iinc (v := (x2 + 1)) (lv' := [(2, .int (x2 + 1)), (0, .ref (a 0)), (1, .int x1)]) hx hb dX3_countAll_115 hl (k := 2) rfl rfl (by decide) rfl (fun ls hl => ?_)
          refine lv_goto (tgt := 71) hx hb dX3_countAll_118 (by decide) ?_
          exact hk71 x1 ((x2 + 1)) q4.2 hF H locs ls hP hD hS (lv_sub hl [1, 2, 0] rfl)
        · replace hF := iq h6 hF
          refine lv_aload_n hx hb dX3_countAll_95 rfl (lv_at hl 0 rfl) ?_
          refine va_get (D := (dC, dI)) (ci := 3) (v := .ref (a 9)) (C := RX3) (T := TX3) (N := 17) hx hb hts hin hown hK hP 0 rfl rfl 13 (by decide) fl34 (fun _ h9 => h9) rfl dX3_countAll_96 ?_
          refine lv_aload_n hx hb dX3_countAll_99 rfl (lv_at hl 0 rfl) ?_
          refine va_get (D := (dC, dI)) (ci := 3) (v := .ref (a 8)) (C := RX3) (T := TX3) (N := 17) hx hb hts hin hown hK hP 0 rfl rfl 12 (by decide) fl31 (fun _ h9 => h9) rfl dX3_countAll_100 ?_
          refine lv_bipush (v := 6) hx hb dX3_countAll_103 (by decide) ?_
          refine lv_iload_n hx hb dX3_countAll_105 rfl (lv_at hl 1 rfl) ?_
          refine lv_imul hx hb dX3_countAll_106 ?_
          refine lv_iload_n hx hb dX3_countAll_107 rfl (lv_at hl 2 rfl) ?_
          refine lv_iadd hx hb dX3_countAll_108 ?_
          obtain ⟨hi7, hF⟩ := ck hF
          refine va_iald hx hb hK hP 8 0 rfl rfl hi7 dX3_countAll_109 ?_
          refine lv_dup2_11 hx hb dX3_countAll_110 rfl rfl ?_
          obtain ⟨hi8, hF⟩ := ck hF
          refine va_iald hx hb hK hP 9 0 rfl rfl hi8 dX3_countAll_111 ?_
          refine lv_iconst (v := 1) hx hb dX3_countAll_112 (by decide) ?_
          refine lv_iadd hx hb dX3_countAll_113 ?_
          obtain ⟨hi9, hF⟩ := ck hF
          refine va_iast hx hb hK hP hD hS 9 0 rfl rfl hi9 dX3_countAll_114 (fun H locs hP hD hS => ?_)
          replace hP := wD_p9 hP
          replace hD := wD_d9 hD
          refine lv_iinc (v := (x2 + 1)) (lv' := [(2, .int (x2 + 1)), (0, .ref (a 0)), (1, .int x1)]) hx hb dX3_countAll_115 hl (k := 2) rfl rfl (by decide) rfl (fun ls hl => ?_)
          refine lv_goto (tgt := 71) hx hb dX3_countAll_118 (by decide) ?_
          exact hk71 x1 ((x2 + 1)) (su q4.2 9 (q4.2 8 ((6 * x1) + x2).toNatClampNeg).toNatClampNeg ((q4.2 9 (q4.2 8 ((6 * x1) + x2).toNatClampNeg).toNatClampNeg) + 1)) hF H locs ls hP hD hS (lv_sub hl [1, 2, 0] rfl)
  have l71 : ∀ (k51 : St → Int32 → Option (Int32 × St)) (hk51 : ∀ (x1 : Int32) (u : St), k51 u x1 = some o → GW p l e (rmK 1 22) s m args below meth c Q dC dI (wD a cI cZ) A 3 51 [(0, .ref (a 0)), (1, .int x1)] [] u) (n : Nat) (x1 x2 : Int32) (u : St), L_X3_countAll_71 k51 n u x1 x2 = some o → GW p l e (rmK 1 22) s m args below meth c Q dC dI (wD a cI cZ) A 3 71 [(0, .ref (a 0)), (1, .int x1), (2, .int x2)] [] u := by
      intro k51 hk51 n
      induction n with
      | zero =>
        intro x1 x2 u hF
        have hF : (none : Option (Int32 × St)) = some o := hF
        cases hF
      | succ n ih =>
        intro x1 x2 u hF
        exact b71 k51 hk51 (L_X3_countAll_71 k51 n) ih x1 x2 u hF
  have b51 : ∀ (k51 : St → Int32 → Option (Int32 × St)) (hk51 : ∀ (x1 : Int32) (u : St), k51 u x1 = some o → GW p l e (rmK 1 22) s m args below meth c Q dC dI (wD a cI cZ) A 3 51 [(0, .ref (a 0)), (1, .int x1)] [] u) (x1 : Int32) (u : St), F_X3_countAll_51 k51 u x1 = some o → GW p l e (rmK 1 22) s m args below meth c Q dC dI (wD a cI cZ) A 3 51 [(0, .ref (a 0)), (1, .int x1)] [] u := by
      intro k51 hk51 x1 u hF H locs ls hP hD hS hl
      unfold F_X3_countAll_51 at hF
      refine lv_iload_n hx hb dX3_countAll_51 rfl (lv_at hl 1 rfl) ?_
      refine lv_bipush (v := 25) hx hb dX3_countAll_52 (by decide) ?_
      refine lv_icmp_ge (tgt := 127) hx hb dX3_countAll_54 (by decide) (fun h1 => ?_) (fun h1 => ?_)
      · replace hF := ip h1 hF
        exact hQ _ _ _ _ _ (Option.some.inj hF) hP hD hS dX3_countAll_127
      · replace hF := iq h1 hF
        refine lv_aload_n hx hb dX3_countAll_57 rfl (lv_at hl 0 rfl) ?_
        refine va_get (D := (dC, dI)) (ci := 3) (v := .ref (a 7)) (C := RX3) (T := TX3) (N := 17) hx hb hts hin hown hK hP 0 rfl rfl 11 (by decide) fl28 (fun _ h9 => h9) rfl dX3_countAll_58 ?_
        refine lv_iload_n hx hb dX3_countAll_61 rfl (lv_at hl 1 rfl) ?_
        obtain ⟨hi2, hF⟩ := ck hF
        refine va_iald hx hb hK hP 7 0 rfl rfl hi2 dX3_countAll_62 ?_
        refine lv_if_ge (tgt := 69) hx hb dX3_countAll_63 (by decide) (fun h3 => ?_) (fun h3 => ?_)
        · replace hF := ip h3 hF
          refine lv_iconst (v := 0) hx hb dX3_countAll_69 (by decide) ?_
          refine lv_istore_n (lv' := [(2, .int 0), (0, .ref (a 0)), (1, .int x1)]) hx hb dX3_countAll_70 rfl hl (by decide) rfl (fun ls hl => ?_)
          exact l71 k51 hk51 fuel x1 0 u hF H locs ls hP hD hS (lv_sub hl [1, 2, 0] rfl)
        · replace hF := iq h3 hF
          refine lv_goto (tgt := 121) hx hb dX3_countAll_66 (by decide) ?_
          refine lv_iinc (v := (x1 + 1)) (lv' := [(1, .int (x1 + 1)), (0, .ref (a 0))]) hx hb dX3_countAll_121 hl (k := 1) rfl rfl (by decide) rfl (fun ls hl => ?_)
          refine lv_goto (tgt := 51) hx hb dX3_countAll_124 (by decide) ?_
          exact hk51 ((x1 + 1)) u hF H locs ls hP hD hS (lv_sub hl [1, 0] rfl)
  have l51 : ∀  (n : Nat) (x1 : Int32) (u : St), L_X3_countAll_51  n u x1 = some o → GW p l e (rmK 1 22) s m args below meth c Q dC dI (wD a cI cZ) A 3 51 [(0, .ref (a 0)), (1, .int x1)] [] u := by
      intro  n
      induction n with
      | zero =>
        intro x1 u hF
        have hF : (none : Option (Int32 × St)) = some o := hF
        cases hF
      | succ n ih =>
        intro x1 u hF
        exact b51 (L_X3_countAll_51 n) ih x1 u hF
  have b23 : ∀ (k23 : St → Int32 → Option (Int32 × St)) (hk23 : ∀ (x1 : Int32) (u : St), k23 u x1 = some o → GW p l e (rmK 1 22) s m args below meth c Q dC dI (wD a cI cZ) A 3 23 [(0, .ref (a 0)), (1, .int x1)] [] u) (x1 : Int32) (u : St), F_X3_countAll_23 k23 u x1 = some o → GW p l e (rmK 1 22) s m args below meth c Q dC dI (wD a cI cZ) A 3 23 [(0, .ref (a 0)), (1, .int x1)] [] u := by
      intro k23 hk23 x1 u hF H locs ls hP hD hS hl
      unfold F_X3_countAll_23 at hF
      refine lv_iload_n hx hb dX3_countAll_23 rfl (lv_at hl 1 rfl) ?_
      refine lv_iconst (v := 4) hx hb dX3_countAll_24 (by decide) ?_
      refine lv_icmp_ge (tgt := 49) hx hb dX3_countAll_25 (by decide) (fun h1 => ?_) (fun h1 => ?_)
      · replace hF := ip h1 hF
        refine lv_iconst (v := 1) hx hb dX3_countAll_49 (by decide) ?_
        refine lv_istore_n (lv' := [(1, .int 1), (0, .ref (a 0))]) hx hb dX3_countAll_50 rfl hl (by decide) rfl (fun ls hl => ?_)
        exact l51  fuel 1 u hF H locs ls hP hD hS (lv_sub hl [1, 0] rfl)
      · replace hF := iq h1 hF
        refine lv_aload_n hx hb dX3_countAll_28 rfl (lv_at hl 0 rfl) ?_
        refine va_get (D := (dC, dI)) (ci := 3) (v := .ref (a 9)) (C := RX3) (T := TX3) (N := 17) hx hb hts hin hown hK hP 0 rfl rfl 13 (by decide) fl34 (fun _ h9 => h9) rfl dX3_countAll_29 ?_
        refine lv_aload_n hx hb dX3_countAll_32 rfl (lv_at hl 0 rfl) ?_
        refine va_get (D := (dC, dI)) (ci := 3) (v := .ref (a 6)) (C := RX3) (T := TX3) (N := 17) hx hb hts hin hown hK hP 0 rfl rfl 10 (by decide) fl25 (fun _ h9 => h9) rfl dX3_countAll_33 ?_
        refine lv_iload_n hx hb dX3_countAll_36 rfl (lv_at hl 1 rfl) ?_
        obtain ⟨hi2, hF⟩ := ck hF
        refine va_iald hx hb hK hP 6 0 rfl rfl hi2 dX3_countAll_37 ?_
        refine lv_dup2_11 hx hb dX3_countAll_38 rfl rfl ?_
        obtain ⟨hi3, hF⟩ := ck hF
        refine va_iald hx hb hK hP 9 0 rfl rfl hi3 dX3_countAll_39 ?_
        refine lv_iconst (v := 1) hx hb dX3_countAll_40 (by decide) ?_
        refine lv_iadd hx hb dX3_countAll_41 ?_
        obtain ⟨hi4, hF⟩ := ck hF
        refine va_iast hx hb hK hP hD hS 9 0 rfl rfl hi4 dX3_countAll_42 (fun H locs hP hD hS => ?_)
        replace hP := wD_p9 hP
        replace hD := wD_d9 hD
        refine lv_iinc (v := (x1 + 1)) (lv' := [(1, .int (x1 + 1)), (0, .ref (a 0))]) hx hb dX3_countAll_43 hl (k := 1) rfl rfl (by decide) rfl (fun ls hl => ?_)
        refine lv_goto (tgt := 23) hx hb dX3_countAll_46 (by decide) ?_
        exact hk23 ((x1 + 1)) (su u 9 (u 6 x1.toNatClampNeg).toNatClampNeg ((u 9 (u 6 x1.toNatClampNeg).toNatClampNeg) + 1)) hF H locs ls hP hD hS (lv_sub hl [1, 0] rfl)
  have l23 : ∀  (n : Nat) (x1 : Int32) (u : St), L_X3_countAll_23  n u x1 = some o → GW p l e (rmK 1 22) s m args below meth c Q dC dI (wD a cI cZ) A 3 23 [(0, .ref (a 0)), (1, .int x1)] [] u := by
      intro  n
      induction n with
      | zero =>
        intro x1 u hF
        have hF : (none : Option (Int32 × St)) = some o := hF
        cases hF
      | succ n ih =>
        intro x1 u hF
        exact b23 (L_X3_countAll_23 n) ih x1 u hF
  have b2 : ∀ (k2 : St → Int32 → Option (Int32 × St)) (hk2 : ∀ (x1 : Int32) (u : St), k2 u x1 = some o → GW p l e (rmK 1 22) s m args below meth c Q dC dI (wD a cI cZ) A 3 2 [(0, .ref (a 0)), (1, .int x1)] [] u) (x1 : Int32) (u : St), F_X3_countAll_2 k2 u x1 = some o → GW p l e (rmK 1 22) s m args below meth c Q dC dI (wD a cI cZ) A 3 2 [(0, .ref (a 0)), (1, .int x1)] [] u := by
      intro k2 hk2 x1 u hF H locs ls hP hD hS hl
      unfold F_X3_countAll_2 at hF
      refine lv_iload_n hx hb dX3_countAll_2 rfl (lv_at hl 1 rfl) ?_
      refine lv_bipush (v := 25) hx hb dX3_countAll_3 (by decide) ?_
      refine lv_icmp_ge (tgt := 21) hx hb dX3_countAll_5 (by decide) (fun h1 => ?_) (fun h1 => ?_)
      · replace hF := ip h1 hF
        refine lv_iconst (v := 0) hx hb dX3_countAll_21 (by decide) ?_
        refine lv_istore_n (lv' := [(1, .int 0), (0, .ref (a 0))]) hx hb dX3_countAll_22 rfl hl (by decide) rfl (fun ls hl => ?_)
        exact l23  fuel 0 u hF H locs ls hP hD hS (lv_sub hl [1, 0] rfl)
      · replace hF := iq h1 hF
        refine lv_aload_n hx hb dX3_countAll_8 rfl (lv_at hl 0 rfl) ?_
        refine va_get (D := (dC, dI)) (ci := 3) (v := .ref (a 9)) (C := RX3) (T := TX3) (N := 17) hx hb hts hin hown hK hP 0 rfl rfl 13 (by decide) fl34 (fun _ h9 => h9) rfl dX3_countAll_9 ?_
        refine lv_iload_n hx hb dX3_countAll_12 rfl (lv_at hl 1 rfl) ?_
        refine lv_iconst (v := 0) hx hb dX3_countAll_13 (by decide) ?_
        obtain ⟨hi2, hF⟩ := ck hF
        refine va_iast hx hb hK hP hD hS 9 0 rfl rfl hi2 dX3_countAll_14 (fun H locs hP hD hS => ?_)
        replace hP := wD_p9 hP
        replace hD := wD_d9 hD
        refine lv_iinc (v := (x1 + 1)) (lv' := [(1, .int (x1 + 1)), (0, .ref (a 0))]) hx hb dX3_countAll_15 hl (k := 1) rfl rfl (by decide) rfl (fun ls hl => ?_)
        refine lv_goto (tgt := 2) hx hb dX3_countAll_18 (by decide) ?_
        exact hk2 ((x1 + 1)) (su u 9 x1.toNatClampNeg 0) hF H locs ls hP hD hS (lv_sub hl [1, 0] rfl)
  have l2 : ∀  (n : Nat) (x1 : Int32) (u : St), L_X3_countAll_2  n u x1 = some o → GW p l e (rmK 1 22) s m args below meth c Q dC dI (wD a cI cZ) A 3 2 [(0, .ref (a 0)), (1, .int x1)] [] u := by
      intro  n
      induction n with
      | zero =>
        intro x1 u hF
        have hF : (none : Option (Int32 × St)) = some o := hF
        cases hF
      | succ n ih =>
        intro x1 u hF
        exact b2 (L_X3_countAll_2 n) ih x1 u hF
  unfold F_X3_countAll at hF
  refine lv_iconst (v := 0) hx hb dX3_countAll_0 (by decide) ?_
  refine lv_istore_n (lv' := [(1, .int 0), (0, .ref (a 0))]) hx hb dX3_countAll_1 rfl hl (by decide) rfl (fun ls hl => ?_)
  exact l2  fuel 0 u hF H locs ls hP hD hS (lv_sub hl [1, 0] rfl)
theorem hd_X3_countAll : yX3_countAll.cls = RX3 ∧ yX3_countAll.cls ≠ "java/lang/invoke/MethodHandle" ∧ yX3_countAll.cls ≠ "java/lang/invoke/VarHandle" ∧ (parseMethodDescriptor yX3_countAll.desc).map (fun d => d.parameters.length) = some 0 := by decide +kernel

def F_X3_giveBack_22 (k4 : St → Int32 → Int32 → Option (Int32 × St)) (k22 : St → Int32 → Int32 → Int32 → Option (Int32 × St)) (u : St) (x1 x2 x3 : Int32) : Option (Int32 × St) := (if 25 ≤ x3 then k4 u x1 ((x2 + 1)) else (if (x3 < 0 ∨ 25 ≤ x3.toNatClampNeg) then none else (if (u 7 x3.toNatClampNeg) < 0 then k22 u x1 x2 ((x3 + 1)) else (if (x3 < 0 ∨ 25 ≤ x3.toNatClampNeg) then none else (if (u 9 x3.toNatClampNeg) ≤ 0 then (if (x3 < 0 ∨ 25 ≤ x3.toNatClampNeg) then none else (sb (su u 7 x3.toNatClampNeg (-1)) fun u7 => (sb (su u7 0 6 ((u7 0 6) + 1)) fun u8 => k22 u8 1 x2 ((x3 + 1))))) else k22 u x1 x2 ((x3 + 1)))))))
def L_X3_giveBack_22 (k4 : St → Int32 → Int32 → Option (Int32 × St)) : Nat → St → Int32 → Int32 → Int32 → Option (Int32 × St)
  | 0 => fun _ _ _ _ => none
  | n + 1 => fun u x1 x2 x3 => F_X3_giveBack_22 k4 (L_X3_giveBack_22 k4 n) u x1 x2 x3
def F_X3_giveBack_4 (k4 : St → Int32 → Int32 → Option (Int32 × St)) (u : St) (x1 x2 : Int32) : Option (Int32 × St) := (if 26 ≤ x2 then (some (0, u)) else (if x1 = 0 then (some (0, u)) else ((F_X3_countAll u).bind fun q3 => L_X3_giveBack_22 k4 fuel q3.2 0 x2 1)))
def L_X3_giveBack_4  : Nat → St → Int32 → Int32 → Option (Int32 × St)
  | 0 => fun _ _ _ => none
  | n + 1 => fun u x1 x2 => F_X3_giveBack_4 (L_X3_giveBack_4 n) u x1 x2
def F_X3_giveBack (u : St) : Option (Int32 × St) := L_X3_giveBack_4 fuel u 1 0
set_option maxRecDepth 100000 in
set_option maxHeartbeats 4000000 in
theorem c_X3_giveBack (l : Launch) (dC : Nat → ClassId) (dI : Nat → Nat → Nat) (cI cZ : ClassId) (a : Nat → Nat) (u : St) (o : Int32 × St) (hF : F_X3_giveBack u = some o) : MV l yX3_giveBack wsX3_giveBack 2 44 none dC dI cI cZ (wD a cI cZ) [.ref (a 0)] u o := by
  refine mvOf (cc := cX3_giveBack) (maxL := 4) (by decide) rfl (Nat.le_of_ble_eq_true rfl) ?_
  intro p e s m args below meth c A Q H locs ls hx hb hml hts hown hK hA hz hQ hP hD hS hl
  replace hown : s.vm.findClass RX3 = some m.cls := hown
  replace hl : lv_has ls 4 [(0, .ref (a 0))] := hl
  have hin : ∀ w ∈ u_ws RX3 TX3 17, w ∈ wsX3_giveBack := by decide +kernel
  have fl28 := hts (.fieldLink RX3 28 "CountedHeapModel" "kind" "[I") (by decide +kernel)
  have fl34 := hts (.fieldLink RX3 34 "CountedHeapModel" "pointers" "[I") (by decide +kernel)
  have fl76 := hts (.fieldLink RX3 76 "CountedHeapModel" "given" "I") (by decide +kernel)
  have b22 : ∀ (k4 : St → Int32 → Int32 → Option (Int32 × St)) (hk4 : ∀ (x1 x2 : Int32) (u : St), k4 u x1 x2 = some o → GW p l e (rmK 2 44) s m args below meth c Q dC dI (wD a cI cZ) A 4 4 [(0, .ref (a 0)), (1, .int x1), (2, .int x2)] [] u) (k22 : St → Int32 → Int32 → Int32 → Option (Int32 × St)) (hk22 : ∀ (x1 x2 x3 : Int32) (u : St), k22 u x1 x2 x3 = some o → GW p l e (rmK 2 44) s m args below meth c Q dC dI (wD a cI cZ) A 4 22 [(0, .ref (a 0)), (1, .int x1), (2, .int x2), (3, .int x3)] [] u) (x1 x2 x3 : Int32) (u : St), F_X3_giveBack_22 k4 k22 u x1 x2 x3 = some o → GW p l e (rmK 2 44) s m args below meth c Q dC dI (wD a cI cZ) A 4 22 [(0, .ref (a 0)), (1, .int x1), (2, .int x2), (3, .int x3)] [] u := by
      intro k4 hk4 k22 hk22 x1 x2 x3 u hF H locs ls hP hD hS hl
      unfold F_X3_giveBack_22 at hF
      refine lv_iload_n hx hb dX3_giveBack_22 rfl (lv_at hl 3 rfl) ?_
      refine lv_bipush (v := 25) hx hb dX3_giveBack_23 (by decide) ?_
      refine lv_icmp_ge (tgt := 74) hx hb dX3_giveBack_25 (by decide) (fun h1 => ?_) (fun h1 => ?_)
      · replace hF := ip h1 hF
        refine lv_iinc (v := (x2 + 1)) (lv' := [(2, .int (x2 + 1)), (0, .ref (a 0)), (1, .int x1), (3, .int x3)]) hx hb dX3_giveBack_74 hl (k := 2) rfl rfl (by decide) rfl (fun ls hl => ?_)
        refine lv_goto (tgt := 4) hx hb dX3_giveBack_77 (by decide) ?_
        exact hk4 x1 ((x2 + 1)) u hF H locs ls hP hD hS (lv_sub hl [1, 2, 0] rfl)
      · replace hF := iq h1 hF
        refine lv_aload_n hx hb dX3_giveBack_28 rfl (lv_at hl 0 rfl) ?_
        refine va_get (D := (dC, dI)) (ci := 3) (v := .ref (a 7)) (C := RX3) (T := TX3) (N := 17) hx hb hts hin hown hK hP 0 rfl rfl 11 (by decide) fl28 (fun _ h9 => h9) rfl dX3_giveBack_29 ?_
        refine lv_iload_n hx hb dX3_giveBack_32 rfl (lv_at hl 3 rfl) ?_
        obtain ⟨hi2, hF⟩ := ck hF
        refine va_iald hx hb hK hP 7 0 rfl rfl hi2 dX3_giveBack_33 ?_
        refine lv_if_lt (tgt := 68) hx hb dX3_giveBack_34 (by decide) (fun h3 => ?_) (fun h3 => ?_)
        · replace hF := ip h3 hF
          refine lv_iinc (v := (x3 + 1)) (lv' := [(3, .int (x3 + 1)), (0, .ref (a 0)), (1, .int x1), (2, .int x2)]) hx hb dX3_giveBack_68 hl (k := 3) rfl rfl (by decide) rfl (fun ls hl => ?_)
          refine lv_goto (tgt := 22) hx hb dX3_giveBack_71 (by decide) ?_
          exact hk22 x1 x2 ((x3 + 1)) u hF H locs ls hP hD hS (lv_sub hl [1, 2, 3, 0] rfl)
        · replace hF := iq h3 hF
          refine lv_aload_n hx hb dX3_giveBack_37 rfl (lv_at hl 0 rfl) ?_
          refine va_get (D := (dC, dI)) (ci := 3) (v := .ref (a 9)) (C := RX3) (T := TX3) (N := 17) hx hb hts hin hown hK hP 0 rfl rfl 13 (by decide) fl34 (fun _ h9 => h9) rfl dX3_giveBack_38 ?_
          refine lv_iload_n hx hb dX3_giveBack_41 rfl (lv_at hl 3 rfl) ?_
          obtain ⟨hi4, hF⟩ := ck hF
          refine va_iald hx hb hK hP 9 0 rfl rfl hi4 dX3_giveBack_42 ?_
          refine lv_if_le (tgt := 49) hx hb dX3_giveBack_43 (by decide) (fun h5 => ?_) (fun h5 => ?_)
          · replace hF := ip h5 hF
            refine lv_aload_n hx hb dX3_giveBack_49 rfl (lv_at hl 0 rfl) ?_
            refine va_get (D := (dC, dI)) (ci := 3) (v := .ref (a 7)) (C := RX3) (T := TX3) (N := 17) hx hb hts hin hown hK hP 0 rfl rfl 11 (by decide) fl28 (fun _ h9 => h9) rfl dX3_giveBack_50 ?_
            refine lv_iload_n hx hb dX3_giveBack_53 rfl (lv_at hl 3 rfl) ?_
            refine lv_iconst (v := (-1)) hx hb dX3_giveBack_54 (by decide) ?_
            obtain ⟨hi6, hF⟩ := ck hF
            refine va_iast hx hb hK hP hD hS 7 0 rfl rfl hi6 dX3_giveBack_55 (fun H locs hP hD hS => ?_)
            replace hP := wD_p7 hP
            replace hD := wD_d7 hD
            replace hF := sbE hF
            generalize (su u 7 x3.toNatClampNeg (-1)) = u7 at hF hP hD
            refine lv_aload_n hx hb dX3_giveBack_56 rfl (lv_at hl 0 rfl) ?_
            refine lv_dup hx hb dX3_giveBack_57 rfl ?_
            refine va_get (D := (dC, dI)) (ci := 3) (v := .int (u7 0 6)) (C := RX3) (T := TX3) (N := 17) hx hb hts hin hown hK hP 0 rfl rfl 6 (by decide) fl76 (fun _ h9 => h9) rfl dX3_giveBack_58 ?_
            refine lv_iconst (v := 1) hx hb dX3_giveBack_61 (by decide) ?_
            refine lv_iadd hx hb dX3_giveBack_62 ?_
            refine va_put (D := (dC, dI)) (ci := 3) (v := .int ((u7 0 6) + 1)) (ty := .int) (C := RX3) (T := TX3) (N := 17) hx hb hts hin tyX3 tyX3_ok nmX3 hown hK hP hD hS 0 rfl rfl 6 (by decide) fl76 (fun _ h9 => h9) rfl (tyX3_ok 6 (by decide)) rfl rfl (Nat.le_of_ble_eq_true rfl) dX3_giveBack_63 (fun H locs hP hD hS => ?_)
            replace hP := wD_p0_6 hP
            replace hD := wD_d0_6 hD
            replace hF := sbE hF
            generalize (su u7 0 6 ((u7 0 6) + 1)) = u8 at hF hP hD
            refine lv_iconst (v := 1) hx hb dX3_giveBack_66 (by decide) ?_
            refine lv_istore_n (lv' := [(1, .int 1), (0, .ref (a 0)), (2, .int x2), (3, .int x3)]) hx hb dX3_giveBack_67 rfl hl (by decide) rfl (fun ls hl => ?_)
            refine lv_iinc (v := (x3 + 1)) (lv' := [(3, .int (x3 + 1)), (1, .int 1), (0, .ref (a 0)), (2, .int x2)]) hx hb dX3_giveBack_68 hl (k := 3) rfl rfl (by decide) rfl (fun ls hl => ?_)
            refine lv_goto (tgt := 22) hx hb dX3_giveBack_71 (by decide) ?_
            exact hk22 1 x2 ((x3 + 1)) u8 hF H locs ls hP hD hS (lv_sub hl [2, 1, 3, 0] rfl)
          · replace hF := iq h5 hF
            refine lv_goto (tgt := 68) hx hb dX3_giveBack_46 (by decide) ?_
            refine lv_iinc (v := (x3 + 1)) (lv' := [(3, .int (x3 + 1)), (0, .ref (a 0)), (1, .int x1), (2, .int x2)]) hx hb dX3_giveBack_68 hl (k := 3) rfl rfl (by decide) rfl (fun ls hl => ?_)
            refine lv_goto (tgt := 22) hx hb dX3_giveBack_71 (by decide) ?_
            exact hk22 x1 x2 ((x3 + 1)) u hF H locs ls hP hD hS (lv_sub hl [1, 2, 3, 0] rfl)
  have l22 : ∀ (k4 : St → Int32 → Int32 → Option (Int32 × St)) (hk4 : ∀ (x1 x2 : Int32) (u : St), k4 u x1 x2 = some o → GW p l e (rmK 2 44) s m args below meth c Q dC dI (wD a cI cZ) A 4 4 [(0, .ref (a 0)), (1, .int x1), (2, .int x2)] [] u) (n : Nat) (x1 x2 x3 : Int32) (u : St), L_X3_giveBack_22 k4 n u x1 x2 x3 = some o → GW p l e (rmK 2 44) s m args below meth c Q dC dI (wD a cI cZ) A 4 22 [(0, .ref (a 0)), (1, .int x1), (2, .int x2), (3, .int x3)] [] u := by
      intro k4 hk4 n
      induction n with
      | zero =>
        intro x1 x2 x3 u hF
        have hF : (none : Option (Int32 × St)) = some o := hF
        cases hF
      | succ n ih =>
        intro x1 x2 x3 u hF
        exact b22 k4 hk4 (L_X3_giveBack_22 k4 n) ih x1 x2 x3 u hF
  have b4 : ∀ (k4 : St → Int32 → Int32 → Option (Int32 × St)) (hk4 : ∀ (x1 x2 : Int32) (u : St), k4 u x1 x2 = some o → GW p l e (rmK 2 44) s m args below meth c Q dC dI (wD a cI cZ) A 4 4 [(0, .ref (a 0)), (1, .int x1), (2, .int x2)] [] u) (x1 x2 : Int32) (u : St), F_X3_giveBack_4 k4 u x1 x2 = some o → GW p l e (rmK 2 44) s m args below meth c Q dC dI (wD a cI cZ) A 4 4 [(0, .ref (a 0)), (1, .int x1), (2, .int x2)] [] u := by
      intro k4 hk4 x1 x2 u hF H locs ls hP hD hS hl
      unfold F_X3_giveBack_4 at hF
      refine lv_iload_n hx hb dX3_giveBack_4 rfl (lv_at hl 2 rfl) ?_
      refine lv_bipush (v := 26) hx hb dX3_giveBack_5 (by decide) ?_
      refine lv_icmp_ge (tgt := 80) hx hb dX3_giveBack_7 (by decide) (fun h1 => ?_) (fun h1 => ?_)
      · replace hF := ip h1 hF
        exact hQ _ _ _ _ _ (Option.some.inj hF) hP hD hS dX3_giveBack_80
      · replace hF := iq h1 hF
        refine lv_iload_n hx hb dX3_giveBack_10 rfl (lv_at hl 1 rfl) ?_
        refine lv_if_eq (tgt := 80) hx hb dX3_giveBack_11 (by decide) (fun h2 => ?_) (fun h2 => ?_)
        · replace hF := ip h2 hF
          exact hQ _ _ _ _ _ (Option.some.inj hF) hP hD hS dX3_giveBack_80
        · replace hF := iq h2 hF
          refine lv_iconst (v := 0) hx hb dX3_giveBack_14 (by decide) ?_
          refine lv_istore_n (lv' := [(1, .int 0), (0, .ref (a 0)), (2, .int x2)]) hx hb dX3_giveBack_15 rfl hl (by decide) rfl (fun ls hl => ?_)
          refine lv_aload_n hx hb dX3_giveBack_16 rfl (lv_at hl 1 rfl) ?_
          obtain ⟨q3, e4, hF⟩ := bd hF
          refine callVV (C := RX3) (ci := 3) (q0 := 0) (As := []) (rest := []) ⟨hx, hb, hml, hown, hts⟩ (c_X3_countAll l dC dI cI cZ a u q3 e4) gX3_giveBack_X3_countAll rfl hd_X3_countAll rfl rfl rfl ⟨Nat.le_of_ble_eq_true rfl, Nat.le_of_ble_eq_true rfl⟩ True.intro hK hP hD hS hA rfl hl.1 rfl (Nat.le_of_ble_eq_true rfl) dX3_giveBack_17 (fun H locs hP hD hS => ?_)
          refine lv_iconst (v := 1) hx hb dX3_giveBack_20 (by decide) ?_
          refine lv_istore_n (lv' := [(3, .int 1), (1, .int 0), (0, .ref (a 0)), (2, .int x2)]) hx hb dX3_giveBack_21 rfl hl (by decide) rfl (fun ls hl => ?_)
          exact l22 k4 hk4 fuel 0 x2 1 q3.2 hF H locs ls hP hD hS (lv_sub hl [2, 1, 3, 0] rfl)
  have l4 : ∀  (n : Nat) (x1 x2 : Int32) (u : St), L_X3_giveBack_4  n u x1 x2 = some o → GW p l e (rmK 2 44) s m args below meth c Q dC dI (wD a cI cZ) A 4 4 [(0, .ref (a 0)), (1, .int x1), (2, .int x2)] [] u := by
      intro  n
      induction n with
      | zero =>
        intro x1 x2 u hF
        have hF : (none : Option (Int32 × St)) = some o := hF
        cases hF
      | succ n ih =>
        intro x1 x2 u hF
        exact b4 (L_X3_giveBack_4 n) ih x1 x2 u hF
  unfold F_X3_giveBack at hF
  refine lv_iconst (v := 1) hx hb dX3_giveBack_0 (by decide) ?_
  refine lv_istore_n (lv' := [(1, .int 1), (0, .ref (a 0))]) hx hb dX3_giveBack_1 rfl hl (by decide) rfl (fun ls hl => ?_)
  refine lv_iconst (v := 0) hx hb dX3_giveBack_2 (by decide) ?_
  refine lv_istore_n (lv' := [(2, .int 0), (1, .int 1), (0, .ref (a 0))]) hx hb dX3_giveBack_3 rfl hl (by decide) rfl (fun ls hl => ?_)
  exact l4  fuel 1 0 u hF H locs ls hP hD hS (lv_sub hl [2, 1, 0] rfl)
theorem hd_X3_giveBack : yX3_giveBack.cls = RX3 ∧ yX3_giveBack.cls ≠ "java/lang/invoke/MethodHandle" ∧ yX3_giveBack.cls ≠ "java/lang/invoke/VarHandle" ∧ (parseMethodDescriptor yX3_giveBack.desc).map (fun d => d.parameters.length) = some 0 := by decide +kernel

def F_X3_reach_85 (k56 : St → Int32 → Int32 → Option (Int32 × St)) (k85 : St → Int32 → Int32 → Int32 → Option (Int32 × St)) (u : St) (x1 x2 x3 : Int32) : Option (Int32 × St) := (if (x2 < 0 ∨ 25 ≤ x2.toNatClampNeg) then none else (if ((u 7 x2.toNatClampNeg) < 0 ∨ 4 ≤ (u 7 x2.toNatClampNeg).toNatClampNeg) then none else (if (u 1 (u 7 x2.toNatClampNeg).toNatClampNeg) ≤ x3 then k56 u x1 ((x2 + 1)) else ((F_X3_isPointer u x2 x3).bind fun q4 => (if q4.1 = 0 then k85 q4.2 x1 x2 ((x3 + 1)) else (if (((6 * x2) + x3) < 0 ∨ 150 ≤ ((6 * x2) + x3).toNatClampNeg) then none else (if ((q4.2 8 ((6 * x2) + x3).toNatClampNeg) < 0 ∨ 25 ≤ (q4.2 8 ((6 * x2) + x3).toNatClampNeg).toNatClampNeg) then none else k85 (su q4.2 10 (q4.2 8 ((6 * x2) + x3).toNatClampNeg).toNatClampNeg 1) x1 x2 ((x3 + 1)))))))))
def L_X3_reach_85 (k56 : St → Int32 → Int32 → Option (Int32 × St)) : Nat → St → Int32 → Int32 → Int32 → Option (Int32 × St)
  | 0 => fun _ _ _ _ => none
  | n + 1 => fun u x1 x2 x3 => F_X3_reach_85 k56 (L_X3_reach_85 k56 n) u x1 x2 x3
def F_X3_reach_56 (k48 : St → Int32 → Option (Int32 × St)) (k56 : St → Int32 → Int32 → Option (Int32 × St)) (u : St) (x1 x2 : Int32) : Option (Int32 × St) := (if 25 ≤ x2 then k48 u ((x1 + 1)) else (if (x2 < 0 ∨ 25 ≤ x2.toNatClampNeg) then none else (if (u 10 x2.toNatClampNeg) = 0 then k56 u x1 ((x2 + 1)) else (if (x2 < 0 ∨ 25 ≤ x2.toNatClampNeg) then none else (if 0 ≤ (u 7 x2.toNatClampNeg) then L_X3_reach_85 k56 fuel u x1 x2 0 else k56 u x1 ((x2 + 1)))))))
def L_X3_reach_56 (k48 : St → Int32 → Option (Int32 × St)) : Nat → St → Int32 → Int32 → Option (Int32 × St)
  | 0 => fun _ _ _ => none
  | n + 1 => fun u x1 x2 => F_X3_reach_56 k48 (L_X3_reach_56 k48 n) u x1 x2
def F_X3_reach_48 (k48 : St → Int32 → Option (Int32 × St)) (u : St) (x1 : Int32) : Option (Int32 × St) := (if 25 ≤ x1 then (some (0, u)) else L_X3_reach_56 k48 fuel u x1 1)
def L_X3_reach_48  : Nat → St → Int32 → Option (Int32 × St)
  | 0 => fun _ _ => none
  | n + 1 => fun u x1 => F_X3_reach_48 (L_X3_reach_48 n) u x1
def F_X3_reach_23 (k23 : St → Int32 → Option (Int32 × St)) (u : St) (x1 : Int32) : Option (Int32 × St) := (if 4 ≤ x1 then L_X3_reach_48 fuel u 0 else (if (x1 < 0 ∨ 4 ≤ x1.toNatClampNeg) then none else (if ((u 6 x1.toNatClampNeg) < 0 ∨ 25 ≤ (u 6 x1.toNatClampNeg).toNatClampNeg) then none else k23 (su u 10 (u 6 x1.toNatClampNeg).toNatClampNeg 1) ((x1 + 1)))))
def L_X3_reach_23  : Nat → St → Int32 → Option (Int32 × St)
  | 0 => fun _ _ => none
  | n + 1 => fun u x1 => F_X3_reach_23 (L_X3_reach_23 n) u x1
def F_X3_reach_2 (k2 : St → Int32 → Option (Int32 × St)) (u : St) (x1 : Int32) : Option (Int32 × St) := (if 25 ≤ x1 then L_X3_reach_23 fuel u 0 else (if (x1 < 0 ∨ 25 ≤ x1.toNatClampNeg) then none else k2 (su u 10 x1.toNatClampNeg 0) ((x1 + 1))))
def L_X3_reach_2  : Nat → St → Int32 → Option (Int32 × St)
  | 0 => fun _ _ => none
  | n + 1 => fun u x1 => F_X3_reach_2 (L_X3_reach_2 n) u x1
def F_X3_reach (u : St) : Option (Int32 × St) := L_X3_reach_2 fuel u 0
set_option maxRecDepth 100000 in
set_option maxHeartbeats 4000000 in
theorem c_X3_reach (l : Launch) (dC : Nat → ClassId) (dI : Nat → Nat → Nat) (cI cZ : ClassId) (a : Nat → Nat) (u : St) (o : Int32 × St) (hF : F_X3_reach u = some o) : MV l yX3_reach wsX3_reach 1 22 none dC dI cI cZ (wD a cI cZ) [.ref (a 0)] u o := by
  refine mvOf (cc := cX3_reach) (maxL := 4) (by decide) rfl (Nat.le_of_ble_eq_true rfl) ?_
  intro p e s m args below meth c A Q H locs ls hx hb hml hts hown hK hA hz hQ hP hD hS hl
  replace hown : s.vm.findClass RX3 = some m.cls := hown
  replace hl : lv_has ls 4 [(0, .ref (a 0))] := hl
  have hin : ∀ w ∈ u_ws RX3 TX3 17, w ∈ wsX3_reach := by decide +kernel
  have fl7 := hts (.fieldLink RX3 7 "CountedHeapModel" "size" "[I") (by decide +kernel)
  have fl25 := hts (.fieldLink RX3 25 "CountedHeapModel" "roots" "[I") (by decide +kernel)
  have fl28 := hts (.fieldLink RX3 28 "CountedHeapModel" "kind" "[I") (by decide +kernel)
  have fl31 := hts (.fieldLink RX3 31 "CountedHeapModel" "words" "[I") (by decide +kernel)
  have fl37 := hts (.fieldLink RX3 37 "CountedHeapModel" "seen" "[Z") (by decide +kernel)
  have b85 : ∀ (k56 : St → Int32 → Int32 → Option (Int32 × St)) (hk56 : ∀ (x1 x2 : Int32) (u : St), k56 u x1 x2 = some o → GW p l e (rmK 1 22) s m args below meth c Q dC dI (wD a cI cZ) A 4 56 [(0, .ref (a 0)), (1, .int x1), (2, .int x2)] [] u) (k85 : St → Int32 → Int32 → Int32 → Option (Int32 × St)) (hk85 : ∀ (x1 x2 x3 : Int32) (u : St), k85 u x1 x2 x3 = some o → GW p l e (rmK 1 22) s m args below meth c Q dC dI (wD a cI cZ) A 4 85 [(0, .ref (a 0)), (1, .int x1), (2, .int x2), (3, .int x3)] [] u) (x1 x2 x3 : Int32) (u : St), F_X3_reach_85 k56 k85 u x1 x2 x3 = some o → GW p l e (rmK 1 22) s m args below meth c Q dC dI (wD a cI cZ) A 4 85 [(0, .ref (a 0)), (1, .int x1), (2, .int x2), (3, .int x3)] [] u := by
      intro k56 hk56 k85 hk85 x1 x2 x3 u hF H locs ls hP hD hS hl
      unfold F_X3_reach_85 at hF
      refine lv_iload_n hx hb dX3_reach_85 rfl (lv_at hl 3 rfl) ?_
      refine lv_aload_n hx hb dX3_reach_86 rfl (lv_at hl 0 rfl) ?_
      refine va_get (D := (dC, dI)) (ci := 3) (v := .ref (a 1)) (C := RX3) (T := TX3) (N := 17) hx hb hts hin hown hK hP 0 rfl rfl 0 (by decide) fl7 (fun _ h9 => h9) rfl dX3_reach_87 ?_
      refine lv_aload_n hx hb dX3_reach_90 rfl (lv_at hl 0 rfl) ?_
      refine va_get (D := (dC, dI)) (ci := 3) (v := .ref (a 7)) (C := RX3) (T := TX3) (N := 17) hx hb hts hin hown hK hP 0 rfl rfl 11 (by decide) fl28 (fun _ h9 => h9) rfl dX3_reach_91 ?_
      refine lv_iload_n hx hb dX3_reach_94 rfl (lv_at hl 2 rfl) ?_
      obtain ⟨hi1, hF⟩ := ck hF
      refine va_iald hx hb hK hP 7 0 rfl rfl hi1 dX3_reach_95 ?_
      obtain ⟨hi2, hF⟩ := ck hF
      refine va_iald hx hb hK hP 1 0 rfl rfl hi2 dX3_reach_96 ?_
      refine lv_icmp_ge (tgt := 132) hx hb dX3_reach_97 (by decide) (fun h3 => ?_) (fun h3 => ?_)
      · replace hF := ip h3 hF
        refine lv_iinc (v := (x2 + 1)) (lv' := [(2, .int (x2 + 1)), (0, .ref (a 0)), (1, .int x1), (3, .int x3)]) hx hb dX3_reach_132 hl (k := 2) rfl rfl (by decide) rfl (fun ls hl => ?_)
        refine lv_goto (tgt := 56) hx hb dX3_reach_135 (by decide) ?_
        exact hk56 x1 ((x2 + 1)) u hF H locs ls hP hD hS (lv_sub hl [1, 2, 0] rfl)
      · replace hF := iq h3 hF
        refine lv_aload_n hx hb dX3_reach_100 rfl (lv_at hl 0 rfl) ?_
        refine lv_iload_n hx hb dX3_reach_101 rfl (lv_at hl 2 rfl) ?_
        refine lv_iload_n hx hb dX3_reach_102 rfl (lv_at hl 3 rfl) ?_
        obtain ⟨q4, e5, hF⟩ := bd hF
        refine callVI (C := RX3) (ci := 3) (q0 := 0) (As := [.int x2, .int x3]) (rest := []) ⟨hx, hb, hml, hown, hts⟩ (c_X3_isPointer l dC dI cI cZ a u x2 x3 q4 e5) gX3_reach_X3_isPointer rfl hd_X3_isPointer rfl rfl rfl ⟨Nat.le_of_ble_eq_true rfl, Nat.le_of_ble_eq_true rfl⟩ True.intro hK hP hD hS hA rfl hl.1 rfl (Nat.le_of_ble_eq_true rfl) dX3_reach_103 (fun H locs hP hD hS => ?_)
        refine lv_if_eq (tgt := 126) hx hb dX3_reach_106 (by decide) (fun h6 => ?_) (fun h6 => ?_)
        · replace hF := ip h6 hF
          refine lv_iinc (v := (x3 + 1)) (lv' := [(3, .int (x3 + 1)), (0, .ref (a 0)), (1, .int x1), (2, .int x2)]) hx hb dX3_reach_126 hl (k := 3) rfl rfl (by decide) rfl (fun ls hl => ?_)
          refine lv_goto (tgt := 85) hx hb dX3_reach_129 (by decide) ?_
          exact hk85 x1 x2 ((x3 + 1)) q4.2 hF H locs ls hP hD hS (lv_sub hl [1, 2, 3, 0] rfl)
        · replace hF := iq h6 hF
          refine lv_aload_n hx hb dX3_reach_109 rfl (lv_at hl 0 rfl) ?_
          refine va_get (D := (dC, dI)) (ci := 3) (v := .ref (a 10)) (C := RX3) (T := TX3) (N := 17) hx hb hts hin hown hK hP 0 rfl rfl 14 (by decide) fl37 (fun _ h9 => h9) rfl dX3_reach_110 ?_
          refine lv_aload_n hx hb dX3_reach_113 rfl (lv_at hl 0 rfl) ?_
          refine va_get (D := (dC, dI)) (ci := 3) (v := .ref (a 8)) (C := RX3) (T := TX3) (N := 17) hx hb hts hin hown hK hP 0 rfl rfl 12 (by decide) fl31 (fun _ h9 => h9) rfl dX3_reach_114 ?_
          refine lv_bipush (v := 6) hx hb dX3_reach_117 (by decide) ?_
          refine lv_iload_n hx hb dX3_reach_119 rfl (lv_at hl 2 rfl) ?_
          refine lv_imul hx hb dX3_reach_120 ?_
          refine lv_iload_n hx hb dX3_reach_121 rfl (lv_at hl 3 rfl) ?_
          refine lv_iadd hx hb dX3_reach_122 ?_
          obtain ⟨hi7, hF⟩ := ck hF
          refine va_iald hx hb hK hP 8 0 rfl rfl hi7 dX3_reach_123 ?_
          refine lv_iconst (v := 1) hx hb dX3_reach_124 (by decide) ?_
          obtain ⟨hi8, hF⟩ := ck hF
          refine va_zast hx hb hK hP hD hS 10 1 rfl rfl hi8 dX3_reach_125 (fun H locs hP hD hS => ?_)
          rw [nz1] at hP hD
          replace hP := wD_p10 hP
          replace hD := wD_d10 hD
          refine lv_iinc (v := (x3 + 1)) (lv' := [(3, .int (x3 + 1)), (0, .ref (a 0)), (1, .int x1), (2, .int x2)]) hx hb dX3_reach_126 hl (k := 3) rfl rfl (by decide) rfl (fun ls hl => ?_)
          refine lv_goto (tgt := 85) hx hb dX3_reach_129 (by decide) ?_
          exact hk85 x1 x2 ((x3 + 1)) (su q4.2 10 (q4.2 8 ((6 * x2) + x3).toNatClampNeg).toNatClampNeg 1) hF H locs ls hP hD hS (lv_sub hl [1, 2, 3, 0] rfl)
  have l85 : ∀ (k56 : St → Int32 → Int32 → Option (Int32 × St)) (hk56 : ∀ (x1 x2 : Int32) (u : St), k56 u x1 x2 = some o → GW p l e (rmK 1 22) s m args below meth c Q dC dI (wD a cI cZ) A 4 56 [(0, .ref (a 0)), (1, .int x1), (2, .int x2)] [] u) (n : Nat) (x1 x2 x3 : Int32) (u : St), L_X3_reach_85 k56 n u x1 x2 x3 = some o → GW p l e (rmK 1 22) s m args below meth c Q dC dI (wD a cI cZ) A 4 85 [(0, .ref (a 0)), (1, .int x1), (2, .int x2), (3, .int x3)] [] u := by
      intro k56 hk56 n
      induction n with
      | zero =>
        intro x1 x2 x3 u hF
        have hF : (none : Option (Int32 × St)) = some o := hF
        cases hF
      | succ n ih =>
        intro x1 x2 x3 u hF
        exact b85 k56 hk56 (L_X3_reach_85 k56 n) ih x1 x2 x3 u hF
  have b56 : ∀ (k48 : St → Int32 → Option (Int32 × St)) (hk48 : ∀ (x1 : Int32) (u : St), k48 u x1 = some o → GW p l e (rmK 1 22) s m args below meth c Q dC dI (wD a cI cZ) A 4 48 [(0, .ref (a 0)), (1, .int x1)] [] u) (k56 : St → Int32 → Int32 → Option (Int32 × St)) (hk56 : ∀ (x1 x2 : Int32) (u : St), k56 u x1 x2 = some o → GW p l e (rmK 1 22) s m args below meth c Q dC dI (wD a cI cZ) A 4 56 [(0, .ref (a 0)), (1, .int x1), (2, .int x2)] [] u) (x1 x2 : Int32) (u : St), F_X3_reach_56 k48 k56 u x1 x2 = some o → GW p l e (rmK 1 22) s m args below meth c Q dC dI (wD a cI cZ) A 4 56 [(0, .ref (a 0)), (1, .int x1), (2, .int x2)] [] u := by
      intro k48 hk48 k56 hk56 x1 x2 u hF H locs ls hP hD hS hl
      unfold F_X3_reach_56 at hF
      refine lv_iload_n hx hb dX3_reach_56 rfl (lv_at hl 2 rfl) ?_
      refine lv_bipush (v := 25) hx hb dX3_reach_57 (by decide) ?_
      refine lv_icmp_ge (tgt := 138) hx hb dX3_reach_59 (by decide) (fun h1 => ?_) (fun h1 => ?_)
      · replace hF := ip h1 hF
        refine lv_iinc (v := (x1 + 1)) (lv' := [(1, .int (x1 + 1)), (0, .ref (a 0)), (2, .int x2)]) hx hb dX3_reach_138 hl (k := 1) rfl rfl (by decide) rfl (fun ls hl => ?_)
        refine lv_goto (tgt := 48) hx hb dX3_reach_141 (by decide) ?_
        exact hk48 ((x1 + 1)) u hF H locs ls hP hD hS (lv_sub hl [1, 0] rfl)
      · replace hF := iq h1 hF
        refine lv_aload_n hx hb dX3_reach_62 rfl (lv_at hl 0 rfl) ?_
        refine va_get (D := (dC, dI)) (ci := 3) (v := .ref (a 10)) (C := RX3) (T := TX3) (N := 17) hx hb hts hin hown hK hP 0 rfl rfl 14 (by decide) fl37 (fun _ h9 => h9) rfl dX3_reach_63 ?_
        refine lv_iload_n hx hb dX3_reach_66 rfl (lv_at hl 2 rfl) ?_
        obtain ⟨hi2, hF⟩ := ck hF
        refine va_zald hx hb hK hP 10 1 rfl rfl hi2 dX3_reach_67 ?_
        refine lv_if_eq (tgt := 132) hx hb dX3_reach_68 (by decide) (fun h3 => ?_) (fun h3 => ?_)
        · replace hF := ip h3 hF
          refine lv_iinc (v := (x2 + 1)) (lv' := [(2, .int (x2 + 1)), (0, .ref (a 0)), (1, .int x1)]) hx hb dX3_reach_132 hl (k := 2) rfl rfl (by decide) rfl (fun ls hl => ?_)
          refine lv_goto (tgt := 56) hx hb dX3_reach_135 (by decide) ?_
          exact hk56 x1 ((x2 + 1)) u hF H locs ls hP hD hS (lv_sub hl [1, 2, 0] rfl)
        · replace hF := iq h3 hF
          refine lv_aload_n hx hb dX3_reach_71 rfl (lv_at hl 0 rfl) ?_
          refine va_get (D := (dC, dI)) (ci := 3) (v := .ref (a 7)) (C := RX3) (T := TX3) (N := 17) hx hb hts hin hown hK hP 0 rfl rfl 11 (by decide) fl28 (fun _ h9 => h9) rfl dX3_reach_72 ?_
          refine lv_iload_n hx hb dX3_reach_75 rfl (lv_at hl 2 rfl) ?_
          obtain ⟨hi4, hF⟩ := ck hF
          refine va_iald hx hb hK hP 7 0 rfl rfl hi4 dX3_reach_76 ?_
          refine lv_if_ge (tgt := 83) hx hb dX3_reach_77 (by decide) (fun h5 => ?_) (fun h5 => ?_)
          · replace hF := ip h5 hF
            refine lv_iconst (v := 0) hx hb dX3_reach_83 (by decide) ?_
            refine lv_istore_n (lv' := [(3, .int 0), (0, .ref (a 0)), (1, .int x1), (2, .int x2)]) hx hb dX3_reach_84 rfl hl (by decide) rfl (fun ls hl => ?_)
            exact l85 k56 hk56 fuel x1 x2 0 u hF H locs ls hP hD hS (lv_sub hl [1, 2, 3, 0] rfl)
          · replace hF := iq h5 hF
            refine lv_goto (tgt := 132) hx hb dX3_reach_80 (by decide) ?_
            refine lv_iinc (v := (x2 + 1)) (lv' := [(2, .int (x2 + 1)), (0, .ref (a 0)), (1, .int x1)]) hx hb dX3_reach_132 hl (k := 2) rfl rfl (by decide) rfl (fun ls hl => ?_)
            refine lv_goto (tgt := 56) hx hb dX3_reach_135 (by decide) ?_
            exact hk56 x1 ((x2 + 1)) u hF H locs ls hP hD hS (lv_sub hl [1, 2, 0] rfl)
  have l56 : ∀ (k48 : St → Int32 → Option (Int32 × St)) (hk48 : ∀ (x1 : Int32) (u : St), k48 u x1 = some o → GW p l e (rmK 1 22) s m args below meth c Q dC dI (wD a cI cZ) A 4 48 [(0, .ref (a 0)), (1, .int x1)] [] u) (n : Nat) (x1 x2 : Int32) (u : St), L_X3_reach_56 k48 n u x1 x2 = some o → GW p l e (rmK 1 22) s m args below meth c Q dC dI (wD a cI cZ) A 4 56 [(0, .ref (a 0)), (1, .int x1), (2, .int x2)] [] u := by
      intro k48 hk48 n
      induction n with
      | zero =>
        intro x1 x2 u hF
        have hF : (none : Option (Int32 × St)) = some o := hF
        cases hF
      | succ n ih =>
        intro x1 x2 u hF
        exact b56 k48 hk48 (L_X3_reach_56 k48 n) ih x1 x2 u hF
  have b48 : ∀ (k48 : St → Int32 → Option (Int32 × St)) (hk48 : ∀ (x1 : Int32) (u : St), k48 u x1 = some o → GW p l e (rmK 1 22) s m args below meth c Q dC dI (wD a cI cZ) A 4 48 [(0, .ref (a 0)), (1, .int x1)] [] u) (x1 : Int32) (u : St), F_X3_reach_48 k48 u x1 = some o → GW p l e (rmK 1 22) s m args below meth c Q dC dI (wD a cI cZ) A 4 48 [(0, .ref (a 0)), (1, .int x1)] [] u := by
      intro k48 hk48 x1 u hF H locs ls hP hD hS hl
      unfold F_X3_reach_48 at hF
      refine lv_iload_n hx hb dX3_reach_48 rfl (lv_at hl 1 rfl) ?_
      refine lv_bipush (v := 25) hx hb dX3_reach_49 (by decide) ?_
      refine lv_icmp_ge (tgt := 144) hx hb dX3_reach_51 (by decide) (fun h1 => ?_) (fun h1 => ?_)
      · replace hF := ip h1 hF
        exact hQ _ _ _ _ _ (Option.some.inj hF) hP hD hS dX3_reach_144
      · replace hF := iq h1 hF
        refine lv_iconst (v := 1) hx hb dX3_reach_54 (by decide) ?_
        refine lv_istore_n (lv' := [(2, .int 1), (0, .ref (a 0)), (1, .int x1)]) hx hb dX3_reach_55 rfl hl (by decide) rfl (fun ls hl => ?_)
        exact l56 k48 hk48 fuel x1 1 u hF H locs ls hP hD hS (lv_sub hl [1, 2, 0] rfl)
  have l48 : ∀  (n : Nat) (x1 : Int32) (u : St), L_X3_reach_48  n u x1 = some o → GW p l e (rmK 1 22) s m args below meth c Q dC dI (wD a cI cZ) A 4 48 [(0, .ref (a 0)), (1, .int x1)] [] u := by
      intro  n
      induction n with
      | zero =>
        intro x1 u hF
        have hF : (none : Option (Int32 × St)) = some o := hF
        cases hF
      | succ n ih =>
        intro x1 u hF
        exact b48 (L_X3_reach_48 n) ih x1 u hF
  have b23 : ∀ (k23 : St → Int32 → Option (Int32 × St)) (hk23 : ∀ (x1 : Int32) (u : St), k23 u x1 = some o → GW p l e (rmK 1 22) s m args below meth c Q dC dI (wD a cI cZ) A 4 23 [(0, .ref (a 0)), (1, .int x1)] [] u) (x1 : Int32) (u : St), F_X3_reach_23 k23 u x1 = some o → GW p l e (rmK 1 22) s m args below meth c Q dC dI (wD a cI cZ) A 4 23 [(0, .ref (a 0)), (1, .int x1)] [] u := by
      intro k23 hk23 x1 u hF H locs ls hP hD hS hl
      unfold F_X3_reach_23 at hF
      refine lv_iload_n hx hb dX3_reach_23 rfl (lv_at hl 1 rfl) ?_
      refine lv_iconst (v := 4) hx hb dX3_reach_24 (by decide) ?_
      refine lv_icmp_ge (tgt := 46) hx hb dX3_reach_25 (by decide) (fun h1 => ?_) (fun h1 => ?_)
      · replace hF := ip h1 hF
        refine lv_iconst (v := 0) hx hb dX3_reach_46 (by decide) ?_
        refine lv_istore_n (lv' := [(1, .int 0), (0, .ref (a 0))]) hx hb dX3_reach_47 rfl hl (by decide) rfl (fun ls hl => ?_)
        exact l48  fuel 0 u hF H locs ls hP hD hS (lv_sub hl [1, 0] rfl)
      · replace hF := iq h1 hF
        refine lv_aload_n hx hb dX3_reach_28 rfl (lv_at hl 0 rfl) ?_
        refine va_get (D := (dC, dI)) (ci := 3) (v := .ref (a 10)) (C := RX3) (T := TX3) (N := 17) hx hb hts hin hown hK hP 0 rfl rfl 14 (by decide) fl37 (fun _ h9 => h9) rfl dX3_reach_29 ?_
        refine lv_aload_n hx hb dX3_reach_32 rfl (lv_at hl 0 rfl) ?_
        refine va_get (D := (dC, dI)) (ci := 3) (v := .ref (a 6)) (C := RX3) (T := TX3) (N := 17) hx hb hts hin hown hK hP 0 rfl rfl 10 (by decide) fl25 (fun _ h9 => h9) rfl dX3_reach_33 ?_
        refine lv_iload_n hx hb dX3_reach_36 rfl (lv_at hl 1 rfl) ?_
        obtain ⟨hi2, hF⟩ := ck hF
        refine va_iald hx hb hK hP 6 0 rfl rfl hi2 dX3_reach_37 ?_
        refine lv_iconst (v := 1) hx hb dX3_reach_38 (by decide) ?_
        obtain ⟨hi3, hF⟩ := ck hF
        refine va_zast hx hb hK hP hD hS 10 1 rfl rfl hi3 dX3_reach_39 (fun H locs hP hD hS => ?_)
        rw [nz1] at hP hD
        replace hP := wD_p10 hP
        replace hD := wD_d10 hD
        refine lv_iinc (v := (x1 + 1)) (lv' := [(1, .int (x1 + 1)), (0, .ref (a 0))]) hx hb dX3_reach_40 hl (k := 1) rfl rfl (by decide) rfl (fun ls hl => ?_)
        refine lv_goto (tgt := 23) hx hb dX3_reach_43 (by decide) ?_
        exact hk23 ((x1 + 1)) (su u 10 (u 6 x1.toNatClampNeg).toNatClampNeg 1) hF H locs ls hP hD hS (lv_sub hl [1, 0] rfl)
  have l23 : ∀  (n : Nat) (x1 : Int32) (u : St), L_X3_reach_23  n u x1 = some o → GW p l e (rmK 1 22) s m args below meth c Q dC dI (wD a cI cZ) A 4 23 [(0, .ref (a 0)), (1, .int x1)] [] u := by
      intro  n
      induction n with
      | zero =>
        intro x1 u hF
        have hF : (none : Option (Int32 × St)) = some o := hF
        cases hF
      | succ n ih =>
        intro x1 u hF
        exact b23 (L_X3_reach_23 n) ih x1 u hF
  have b2 : ∀ (k2 : St → Int32 → Option (Int32 × St)) (hk2 : ∀ (x1 : Int32) (u : St), k2 u x1 = some o → GW p l e (rmK 1 22) s m args below meth c Q dC dI (wD a cI cZ) A 4 2 [(0, .ref (a 0)), (1, .int x1)] [] u) (x1 : Int32) (u : St), F_X3_reach_2 k2 u x1 = some o → GW p l e (rmK 1 22) s m args below meth c Q dC dI (wD a cI cZ) A 4 2 [(0, .ref (a 0)), (1, .int x1)] [] u := by
      intro k2 hk2 x1 u hF H locs ls hP hD hS hl
      unfold F_X3_reach_2 at hF
      refine lv_iload_n hx hb dX3_reach_2 rfl (lv_at hl 1 rfl) ?_
      refine lv_bipush (v := 25) hx hb dX3_reach_3 (by decide) ?_
      refine lv_icmp_ge (tgt := 21) hx hb dX3_reach_5 (by decide) (fun h1 => ?_) (fun h1 => ?_)
      · replace hF := ip h1 hF
        refine lv_iconst (v := 0) hx hb dX3_reach_21 (by decide) ?_
        refine lv_istore_n (lv' := [(1, .int 0), (0, .ref (a 0))]) hx hb dX3_reach_22 rfl hl (by decide) rfl (fun ls hl => ?_)
        exact l23  fuel 0 u hF H locs ls hP hD hS (lv_sub hl [1, 0] rfl)
      · replace hF := iq h1 hF
        refine lv_aload_n hx hb dX3_reach_8 rfl (lv_at hl 0 rfl) ?_
        refine va_get (D := (dC, dI)) (ci := 3) (v := .ref (a 10)) (C := RX3) (T := TX3) (N := 17) hx hb hts hin hown hK hP 0 rfl rfl 14 (by decide) fl37 (fun _ h9 => h9) rfl dX3_reach_9 ?_
        refine lv_iload_n hx hb dX3_reach_12 rfl (lv_at hl 1 rfl) ?_
        refine lv_iconst (v := 0) hx hb dX3_reach_13 (by decide) ?_
        obtain ⟨hi2, hF⟩ := ck hF
        refine va_zast hx hb hK hP hD hS 10 1 rfl rfl hi2 dX3_reach_14 (fun H locs hP hD hS => ?_)
        rw [nz0] at hP hD
        replace hP := wD_p10 hP
        replace hD := wD_d10 hD
        refine lv_iinc (v := (x1 + 1)) (lv' := [(1, .int (x1 + 1)), (0, .ref (a 0))]) hx hb dX3_reach_15 hl (k := 1) rfl rfl (by decide) rfl (fun ls hl => ?_)
        refine lv_goto (tgt := 2) hx hb dX3_reach_18 (by decide) ?_
        exact hk2 ((x1 + 1)) (su u 10 x1.toNatClampNeg 0) hF H locs ls hP hD hS (lv_sub hl [1, 0] rfl)
  have l2 : ∀  (n : Nat) (x1 : Int32) (u : St), L_X3_reach_2  n u x1 = some o → GW p l e (rmK 1 22) s m args below meth c Q dC dI (wD a cI cZ) A 4 2 [(0, .ref (a 0)), (1, .int x1)] [] u := by
      intro  n
      induction n with
      | zero =>
        intro x1 u hF
        have hF : (none : Option (Int32 × St)) = some o := hF
        cases hF
      | succ n ih =>
        intro x1 u hF
        exact b2 (L_X3_reach_2 n) ih x1 u hF
  unfold F_X3_reach at hF
  refine lv_iconst (v := 0) hx hb dX3_reach_0 (by decide) ?_
  refine lv_istore_n (lv' := [(1, .int 0), (0, .ref (a 0))]) hx hb dX3_reach_1 rfl hl (by decide) rfl (fun ls hl => ?_)
  exact l2  fuel 0 u hF H locs ls hP hD hS (lv_sub hl [1, 0] rfl)
theorem hd_X3_reach : yX3_reach.cls = RX3 ∧ yX3_reach.cls ≠ "java/lang/invoke/MethodHandle" ∧ yX3_reach.cls ≠ "java/lang/invoke/VarHandle" ∧ (parseMethodDescriptor yX3_reach.desc).map (fun d => d.parameters.length) = some 0 := by decide +kernel

def F_X3_find_112 (u : St) (t0 t1 : Int32) : Option (Int32 × St) := (if t1 = t0 then (some (0, u)) else (some (3, u)))
def F_X3_find_101 (u : St) (x2 x3 : Int32) : Option (Int32 × St) := (if x2 = 2 then F_X3_find_112 u 1 x3 else F_X3_find_112 u 0 x3)
def F_X3_find_28 (u : St) (x2 t0 : Int32) : Option (Int32 × St) := F_X3_find_101 u x2 t0
def F_X3_find (u : St) (x1 x2 : Int32) : Option (Int32 × St) := (sb (su u 0 15 (-1)) fun u1 => (sb (su u1 0 16 x1) fun u2 => (if 16 ≤ x1 then (if (((x1 - 16) / 8) < 0 ∨ 4 ≤ ((x1 - 16) / 8).toNatClampNeg) then none else (sb (su u2 0 15 (u2 6 ((x1 - 16) / 8).toNatClampNeg)) fun u5 => (sb (su u5 0 16 (x1 - x1 / 8 * 8)) fun u6 => (if (u6 0 15) = 0 then (some (1, u6)) else (if ((u6 0 15) < 0 ∨ 25 ≤ (u6 0 15).toNatClampNeg) then none else (if ((u6 7 (u6 0 15).toNatClampNeg) < 0 ∨ 4 ≤ (u6 7 (u6 0 15).toNatClampNeg).toNatClampNeg) then none else (if (u6 0 16) < (u6 1 (u6 7 (u6 0 15).toNatClampNeg).toNatClampNeg) then ((F_X3_isPointer u6 ((u6 0 15)) ((u6 0 16))).bind fun q11 => F_X3_find_101 q11.2 x2 (q11.1)) else (some (2, u6))))))))) else (if x1 ≤ 3 then F_X3_find_28 u2 x2 0 else F_X3_find_28 u2 x2 1))))
set_option maxRecDepth 100000 in
set_option maxHeartbeats 4000000 in
theorem c_X3_find (l : Launch) (dC : Nat → ClassId) (dI : Nat → Nat → Nat) (cI cZ : ClassId) (a : Nat → Nat) (u : St) (x1 x2 : Int32) (o : Int32 × St) (hF : F_X3_find u x1 x2 = some o) : MI l yX3_find wsX3_find 1 22 none dC dI cI cZ (wD a cI cZ) [.ref (a 0), .int x1, .int x2] u o := by
  refine miOf (cc := cX3_find) (maxL := 4) (ret := .int) (by decide) rfl (Nat.le_of_ble_eq_true rfl) ?_
  intro p e s m args below meth c A Q H locs ls hx hb hml hts hown hK hA hz hQ hP hD hS hl
  replace hown : s.vm.findClass RX3 = some m.cls := hown
  replace hl : lv_has ls 4 [(0, .ref (a 0)), (1, .int x1), (2, .int x2)] := hl
  have hin : ∀ w ∈ u_ws RX3 TX3 17, w ∈ wsX3_find := by decide +kernel
  have fl7 := hts (.fieldLink RX3 7 "CountedHeapModel" "size" "[I") (by decide +kernel)
  have fl25 := hts (.fieldLink RX3 25 "CountedHeapModel" "roots" "[I") (by decide +kernel)
  have fl28 := hts (.fieldLink RX3 28 "CountedHeapModel" "kind" "[I") (by decide +kernel)
  have fl79 := hts (.fieldLink RX3 79 "CountedHeapModel" "block" "I") (by decide +kernel)
  have fl82 := hts (.fieldLink RX3 82 "CountedHeapModel" "word" "I") (by decide +kernel)
  have b112 : ∀  (t0 t1 : Int32) (u : St), F_X3_find_112 u t0 t1 = some o → GW p l e (rmK 1 22) s m args below meth c Q dC dI (wD a cI cZ) A 4 112 [] [.int t0, .int t1] u := by
      intro  t0 t1 u hF H locs ls hP hD hS hl
      unfold F_X3_find_112 at hF
      refine lv_icmp_ne (tgt := 119) hx hb dX3_find_112 (by decide) (fun h1 => ?_) (fun h1 => ?_)
      · replace hF := iq h1 hF
        refine lv_iconst (v := 3) hx hb dX3_find_119 (by decide) ?_
        exact hQ _ _ _ _ _ _ (Option.some.inj hF) (vp_nar_int _) hP hD hS dX3_find_120
      · replace hF := ip h1 hF
        refine lv_iconst (v := 0) hx hb dX3_find_115 (by decide) ?_
        refine lv_goto (tgt := 120) hx hb dX3_find_116 (by decide) ?_
        exact hQ _ _ _ _ _ _ (Option.some.inj hF) (vp_nar_int _) hP hD hS dX3_find_120
  have b101 : ∀  (x2 x3 : Int32) (u : St), F_X3_find_101 u x2 x3 = some o → GW p l e (rmK 1 22) s m args below meth c Q dC dI (wD a cI cZ) A 4 101 [(2, .int x2), (3, .int x3)] [] u := by
      intro  x2 x3 u hF H locs ls hP hD hS hl
      unfold F_X3_find_101 at hF
      refine lv_iload_n hx hb dX3_find_101 rfl (lv_at hl 1 rfl) ?_
      refine lv_iload_n hx hb dX3_find_102 rfl (lv_at hl 0 rfl) ?_
      refine lv_iconst (v := 2) hx hb dX3_find_103 (by decide) ?_
      refine lv_icmp_ne (tgt := 111) hx hb dX3_find_104 (by decide) (fun h1 => ?_) (fun h1 => ?_)
      · replace hF := iq h1 hF
        refine lv_iconst (v := 0) hx hb dX3_find_111 (by decide) ?_
        exact b112  0 x3 u hF H locs ls hP hD hS (lv_sub hl [] rfl)
      · replace hF := ip h1 hF
        refine lv_iconst (v := 1) hx hb dX3_find_107 (by decide) ?_
        refine lv_goto (tgt := 112) hx hb dX3_find_108 (by decide) ?_
        exact b112  1 x3 u hF H locs ls hP hD hS (lv_sub hl [] rfl)
  have b28 : ∀  (x2 t0 : Int32) (u : St), F_X3_find_28 u x2 t0 = some o → GW p l e (rmK 1 22) s m args below meth c Q dC dI (wD a cI cZ) A 4 28 [(2, .int x2)] [.int t0] u := by
      intro  x2 t0 u hF H locs ls hP hD hS hl
      unfold F_X3_find_28 at hF
      refine lv_istore_n (lv' := [(3, .int t0), (2, .int x2)]) hx hb dX3_find_28 rfl hl (by decide) rfl (fun ls hl => ?_)
      refine lv_goto (tgt := 101) hx hb dX3_find_29 (by decide) ?_
      exact b101  x2 t0 u hF H locs ls hP hD hS (lv_sub hl [1, 0] rfl)
  unfold F_X3_find at hF
  refine lv_iconst (v := 0) hx hb dX3_find_0 (by decide) ?_
  refine lv_istore_n (lv' := [(3, .int 0), (0, .ref (a 0)), (1, .int x1), (2, .int x2)]) hx hb dX3_find_1 rfl hl (by decide) rfl (fun ls hl => ?_)
  refine lv_aload_n hx hb dX3_find_2 rfl (lv_at hl 1 rfl) ?_
  refine lv_iconst (v := (-1)) hx hb dX3_find_3 (by decide) ?_
  refine va_put (D := (dC, dI)) (ci := 3) (v := .int (-1)) (ty := .int) (C := RX3) (T := TX3) (N := 17) hx hb hts hin tyX3 tyX3_ok nmX3 hown hK hP hD hS 0 rfl rfl 15 (by decide) fl79 (fun _ h9 => h9) rfl (tyX3_ok 15 (by decide)) rfl rfl (Nat.le_of_ble_eq_true rfl) dX3_find_4 (fun H locs hP hD hS => ?_)
  replace hP := wD_p0_15 hP
  replace hD := wD_d0_15 hD
  replace hF := sbE hF
  generalize (su u 0 15 (-1)) = u1 at hF hP hD
  refine lv_aload_n hx hb dX3_find_7 rfl (lv_at hl 1 rfl) ?_
  refine lv_iload_n hx hb dX3_find_8 rfl (lv_at hl 2 rfl) ?_
  refine va_put (D := (dC, dI)) (ci := 3) (v := .int x1) (ty := .int) (C := RX3) (T := TX3) (N := 17) hx hb hts hin tyX3 tyX3_ok nmX3 hown hK hP hD hS 0 rfl rfl 16 (by decide) fl82 (fun _ h9 => h9) rfl (tyX3_ok 16 (by decide)) rfl rfl (Nat.le_of_ble_eq_true rfl) dX3_find_9 (fun H locs hP hD hS => ?_)
  replace hP := wD_p0_16 hP
  replace hD := wD_d0_16 hD
  replace hF := sbE hF
  generalize (su u1 0 16 x1) = u2 at hF hP hD
  refine lv_iload_n hx hb dX3_find_12 rfl (lv_at hl 2 rfl) ?_
  refine lv_bipush (v := 16) hx hb dX3_find_13 (by decide) ?_
  refine lv_icmp_ge (tgt := 32) hx hb dX3_find_15 (by decide) (fun h3 => ?_) (fun h3 => ?_)
  · replace hF := ip h3 hF
    refine lv_aload_n hx hb dX3_find_32 rfl (lv_at hl 1 rfl) ?_
    refine lv_aload_n hx hb dX3_find_33 rfl (lv_at hl 1 rfl) ?_
    refine va_get (D := (dC, dI)) (ci := 3) (v := .ref (a 6)) (C := RX3) (T := TX3) (N := 17) hx hb hts hin hown hK hP 0 rfl rfl 10 (by decide) fl25 (fun _ h9 => h9) rfl dX3_find_34 ?_
    refine lv_iload_n hx hb dX3_find_37 rfl (lv_at hl 2 rfl) ?_
    refine lv_bipush (v := 16) hx hb dX3_find_38 (by decide) ?_
    refine lv_isub hx hb dX3_find_40 ?_
    refine lv_bipush (v := 8) hx hb dX3_find_41 (by decide) ?_
    refine lv_idiv hx hb dX3_find_43 (by decide) ?_
    obtain ⟨hi4, hF⟩ := ck hF
    refine va_iald hx hb hK hP 6 0 rfl rfl hi4 dX3_find_44 ?_
    refine va_put (D := (dC, dI)) (ci := 3) (v := .int (u2 6 ((x1 - 16) / 8).toNatClampNeg)) (ty := .int) (C := RX3) (T := TX3) (N := 17) hx hb hts hin tyX3 tyX3_ok nmX3 hown hK hP hD hS 0 rfl rfl 15 (by decide) fl79 (fun _ h9 => h9) rfl (tyX3_ok 15 (by decide)) rfl rfl (Nat.le_of_ble_eq_true rfl) dX3_find_45 (fun H locs hP hD hS => ?_)
    replace hP := wD_p0_15 hP
    replace hD := wD_d0_15 hD
    replace hF := sbE hF
    generalize (su u2 0 15 (u2 6 ((x1 - 16) / 8).toNatClampNeg)) = u5 at hF hP hD
    refine lv_aload_n hx hb dX3_find_48 rfl (lv_at hl 1 rfl) ?_
    refine lv_iload_n hx hb dX3_find_49 rfl (lv_at hl 2 rfl) ?_
    refine lv_bipush (v := 8) hx hb dX3_find_50 (by decide) ?_
    refine lv_irem hx hb dX3_find_52 (by decide) ?_
    refine va_put (D := (dC, dI)) (ci := 3) (v := .int (x1 - x1 / 8 * 8)) (ty := .int) (C := RX3) (T := TX3) (N := 17) hx hb hts hin tyX3 tyX3_ok nmX3 hown hK hP hD hS 0 rfl rfl 16 (by decide) fl82 (fun _ h9 => h9) rfl (tyX3_ok 16 (by decide)) rfl rfl (Nat.le_of_ble_eq_true rfl) dX3_find_53 (fun H locs hP hD hS => ?_)
    replace hP := wD_p0_16 hP
    replace hD := wD_d0_16 hD
    replace hF := sbE hF
    generalize (su u5 0 16 (x1 - x1 / 8 * 8)) = u6 at hF hP hD
    refine lv_aload_n hx hb dX3_find_56 rfl (lv_at hl 1 rfl) ?_
    refine va_get (D := (dC, dI)) (ci := 3) (v := .int (u6 0 15)) (C := RX3) (T := TX3) (N := 17) hx hb hts hin hown hK hP 0 rfl rfl 15 (by decide) fl79 (fun _ h9 => h9) rfl dX3_find_57 ?_
    refine lv_if_ne (tgt := 65) hx hb dX3_find_60 (by decide) (fun h7 => ?_) (fun h7 => ?_)
    · replace hF := iq h7 hF
      refine lv_aload_n hx hb dX3_find_65 rfl (lv_at hl 1 rfl) ?_
      refine va_get (D := (dC, dI)) (ci := 3) (v := .int (u6 0 16)) (C := RX3) (T := TX3) (N := 17) hx hb hts hin hown hK hP 0 rfl rfl 16 (by decide) fl82 (fun _ h9 => h9) rfl dX3_find_66 ?_
      refine lv_aload_n hx hb dX3_find_69 rfl (lv_at hl 1 rfl) ?_
      refine va_get (D := (dC, dI)) (ci := 3) (v := .ref (a 1)) (C := RX3) (T := TX3) (N := 17) hx hb hts hin hown hK hP 0 rfl rfl 0 (by decide) fl7 (fun _ h9 => h9) rfl dX3_find_70 ?_
      refine lv_aload_n hx hb dX3_find_73 rfl (lv_at hl 1 rfl) ?_
      refine va_get (D := (dC, dI)) (ci := 3) (v := .ref (a 7)) (C := RX3) (T := TX3) (N := 17) hx hb hts hin hown hK hP 0 rfl rfl 11 (by decide) fl28 (fun _ h9 => h9) rfl dX3_find_74 ?_
      refine lv_aload_n hx hb dX3_find_77 rfl (lv_at hl 1 rfl) ?_
      refine va_get (D := (dC, dI)) (ci := 3) (v := .int (u6 0 15)) (C := RX3) (T := TX3) (N := 17) hx hb hts hin hown hK hP 0 rfl rfl 15 (by decide) fl79 (fun _ h9 => h9) rfl dX3_find_78 ?_
      obtain ⟨hi8, hF⟩ := ck hF
      refine va_iald hx hb hK hP 7 0 rfl rfl hi8 dX3_find_81 ?_
      obtain ⟨hi9, hF⟩ := ck hF
      refine va_iald hx hb hK hP 1 0 rfl rfl hi9 dX3_find_82 ?_
      refine lv_icmp_lt (tgt := 88) hx hb dX3_find_83 (by decide) (fun h10 => ?_) (fun h10 => ?_)
      · replace hF := ip h10 hF
        refine lv_aload_n hx hb dX3_find_88 rfl (lv_at hl 1 rfl) ?_
        refine lv_aload_n hx hb dX3_find_89 rfl (lv_at hl 1 rfl) ?_
        refine va_get (D := (dC, dI)) (ci := 3) (v := .int (u6 0 15)) (C := RX3) (T := TX3) (N := 17) hx hb hts hin hown hK hP 0 rfl rfl 15 (by decide) fl79 (fun _ h9 => h9) rfl dX3_find_90 ?_
        refine lv_aload_n hx hb dX3_find_93 rfl (lv_at hl 1 rfl) ?_
        refine va_get (D := (dC, dI)) (ci := 3) (v := .int (u6 0 16)) (C := RX3) (T := TX3) (N := 17) hx hb hts hin hown hK hP 0 rfl rfl 16 (by decide) fl82 (fun _ h9 => h9) rfl dX3_find_94 ?_
        obtain ⟨q11, e12, hF⟩ := bd hF
        refine callVI (C := RX3) (ci := 3) (q0 := 0) (As := [.int (u6 0 15), .int (u6 0 16)]) (rest := []) ⟨hx, hb, hml, hown, hts⟩ (c_X3_isPointer l dC dI cI cZ a u6 ((u6 0 15)) ((u6 0 16)) q11 e12) gX3_find_X3_isPointer rfl hd_X3_isPointer rfl rfl rfl ⟨Nat.le_of_ble_eq_true rfl, Nat.le_of_ble_eq_true rfl⟩ True.intro hK hP hD hS hA rfl hl.1 rfl (Nat.le_of_ble_eq_true rfl) dX3_find_97 (fun H locs hP hD hS => ?_)
        refine lv_istore_n (lv' := [(3, .int q11.1), (0, .ref (a 0)), (1, .int x1), (2, .int x2)]) hx hb dX3_find_100 rfl hl (by decide) rfl (fun ls hl => ?_)
        exact b101  x2 (q11.1) q11.2 hF H locs ls hP hD hS (lv_sub hl [3, 0] rfl)
      · replace hF := iq h10 hF
        refine lv_iconst (v := 2) hx hb dX3_find_86 (by decide) ?_
        exact hQ _ _ _ _ _ _ (Option.some.inj hF) (vp_nar_int _) hP hD hS dX3_find_87
    · replace hF := ip h7 hF
      refine lv_iconst (v := 1) hx hb dX3_find_63 (by decide) ?_
      exact hQ _ _ _ _ _ _ (Option.some.inj hF) (vp_nar_int _) hP hD hS dX3_find_64
  · replace hF := iq h3 hF
    refine lv_iload_n hx hb dX3_find_18 rfl (lv_at hl 2 rfl) ?_
    refine lv_iconst (v := 3) hx hb dX3_find_19 (by decide) ?_
    refine lv_icmp_le (tgt := 27) hx hb dX3_find_20 (by decide) (fun h13 => ?_) (fun h13 => ?_)
    · replace hF := ip h13 hF
      refine lv_iconst (v := 0) hx hb dX3_find_27 (by decide) ?_
      exact b28  x2 0 u2 hF H locs ls hP hD hS (lv_sub hl [3] rfl)
    · replace hF := iq h13 hF
      refine lv_iconst (v := 1) hx hb dX3_find_23 (by decide) ?_
      refine lv_goto (tgt := 28) hx hb dX3_find_24 (by decide) ?_
      exact b28  x2 1 u2 hF H locs ls hP hD hS (lv_sub hl [3] rfl)
theorem hd_X3_find : yX3_find.cls = RX3 ∧ yX3_find.cls ≠ "java/lang/invoke/MethodHandle" ∧ yX3_find.cls ≠ "java/lang/invoke/VarHandle" ∧ (parseMethodDescriptor yX3_find.desc).map (fun d => d.parameters.length) = some 2 := by decide +kernel

def F_X3_read (u : St) (x1 : Int32) : Option (Int32 × St) := ((F_X3_find u x1 1).bind fun q1 => (if (q1.2 0 15) = (-1) then (if 4 ≤ x1 then (if ((x1 - 4) < 0 ∨ 4 ≤ (x1 - 4).toNatClampNeg) then none else (some ((q1.2 6 (x1 - 4).toNatClampNeg), q1.2))) else (if (x1 < 0 ∨ 4 ≤ x1.toNatClampNeg) then none else (some ((q1.2 5 x1.toNatClampNeg), q1.2)))) else (if (((6 * (q1.2 0 15)) + (q1.2 0 16)) < 0 ∨ 150 ≤ ((6 * (q1.2 0 15)) + (q1.2 0 16)).toNatClampNeg) then none else (some ((q1.2 8 ((6 * (q1.2 0 15)) + (q1.2 0 16)).toNatClampNeg), q1.2)))))
set_option maxRecDepth 100000 in
set_option maxHeartbeats 4000000 in
theorem c_X3_read (l : Launch) (dC : Nat → ClassId) (dI : Nat → Nat → Nat) (cI cZ : ClassId) (a : Nat → Nat) (u : St) (x1 : Int32) (o : Int32 × St) (hF : F_X3_read u x1 = some o) : MI l yX3_read wsX3_read 2 45 none dC dI cI cZ (wD a cI cZ) [.ref (a 0), .int x1] u o := by
  refine miOf (cc := cX3_read) (maxL := 3) (ret := .int) (by decide) rfl (Nat.le_of_ble_eq_true rfl) ?_
  intro p e s m args below meth c A Q H locs ls hx hb hml hts hown hK hA hz hQ hP hD hS hl
  replace hown : s.vm.findClass RX3 = some m.cls := hown
  replace hl : lv_has ls 3 [(0, .ref (a 0)), (1, .int x1)] := hl
  have hin : ∀ w ∈ u_ws RX3 TX3 17, w ∈ wsX3_read := by decide +kernel
  have fl22 := hts (.fieldLink RX3 22 "CountedHeapModel" "ints" "[I") (by decide +kernel)
  have fl25 := hts (.fieldLink RX3 25 "CountedHeapModel" "roots" "[I") (by decide +kernel)
  have fl31 := hts (.fieldLink RX3 31 "CountedHeapModel" "words" "[I") (by decide +kernel)
  have fl79 := hts (.fieldLink RX3 79 "CountedHeapModel" "block" "I") (by decide +kernel)
  have fl82 := hts (.fieldLink RX3 82 "CountedHeapModel" "word" "I") (by decide +kernel)
  unfold F_X3_read at hF
  refine lv_aload_n hx hb dX3_read_0 rfl (lv_at hl 0 rfl) ?_
  refine lv_iload_n hx hb dX3_read_1 rfl (lv_at hl 1 rfl) ?_
  refine lv_iconst (v := 1) hx hb dX3_read_2 (by decide) ?_
  obtain ⟨q1, e2, hF⟩ := bd hF
  refine callVI (C := RX3) (ci := 3) (q0 := 0) (As := [.int x1, .int 1]) (rest := []) ⟨hx, hb, hml, hown, hts⟩ (c_X3_find l dC dI cI cZ a u x1 1 q1 e2) gX3_read_X3_find rfl hd_X3_find rfl rfl rfl ⟨Nat.le_of_ble_eq_true rfl, Nat.le_of_ble_eq_true rfl⟩ True.intro hK hP hD hS hA rfl hl.1 rfl (Nat.le_of_ble_eq_true rfl) dX3_read_3 (fun H locs hP hD hS => ?_)
  refine lv_istore_n (lv' := [(2, .int q1.1), (0, .ref (a 0)), (1, .int x1)]) hx hb dX3_read_6 rfl hl (by decide) rfl (fun ls hl => ?_)
  refine lv_aload_n hx hb dX3_read_7 rfl (lv_at hl 1 rfl) ?_
  refine va_get (D := (dC, dI)) (ci := 3) (v := .int (q1.2 0 15)) (C := RX3) (T := TX3) (N := 17) hx hb hts hin hown hK hP 0 rfl rfl 15 (by decide) fl79 (fun _ h9 => h9) rfl dX3_read_8 ?_
  refine lv_iconst (v := (-1)) hx hb dX3_read_11 (by decide) ?_
  refine lv_icmp_ne (tgt := 38) hx hb dX3_read_12 (by decide) (fun h3 => ?_) (fun h3 => ?_)
  · replace hF := iq h3 hF
    refine lv_aload_n hx hb dX3_read_38 rfl (lv_at hl 1 rfl) ?_
    refine va_get (D := (dC, dI)) (ci := 3) (v := .ref (a 8)) (C := RX3) (T := TX3) (N := 17) hx hb hts hin hown hK hP 0 rfl rfl 12 (by decide) fl31 (fun _ h9 => h9) rfl dX3_read_39 ?_
    refine lv_bipush (v := 6) hx hb dX3_read_42 (by decide) ?_
    refine lv_aload_n hx hb dX3_read_44 rfl (lv_at hl 1 rfl) ?_
    refine va_get (D := (dC, dI)) (ci := 3) (v := .int (q1.2 0 15)) (C := RX3) (T := TX3) (N := 17) hx hb hts hin hown hK hP 0 rfl rfl 15 (by decide) fl79 (fun _ h9 => h9) rfl dX3_read_45 ?_
    refine lv_imul hx hb dX3_read_48 ?_
    refine lv_aload_n hx hb dX3_read_49 rfl (lv_at hl 1 rfl) ?_
    refine va_get (D := (dC, dI)) (ci := 3) (v := .int (q1.2 0 16)) (C := RX3) (T := TX3) (N := 17) hx hb hts hin hown hK hP 0 rfl rfl 16 (by decide) fl82 (fun _ h9 => h9) rfl dX3_read_50 ?_
    refine lv_iadd hx hb dX3_read_53 ?_
    obtain ⟨hi4, hF⟩ := ck hF
    refine va_iald hx hb hK hP 8 0 rfl rfl hi4 dX3_read_54 ?_
    exact hQ _ _ _ _ _ _ (Option.some.inj hF) (vp_nar_int _) hP hD hS dX3_read_55
  · replace hF := ip h3 hF
    refine lv_iload_n hx hb dX3_read_15 rfl (lv_at hl 2 rfl) ?_
    refine lv_iconst (v := 4) hx hb dX3_read_16 (by decide) ?_
    refine lv_icmp_ge (tgt := 29) hx hb dX3_read_17 (by decide) (fun h5 => ?_) (fun h5 => ?_)
    · replace hF := ip h5 hF
      refine lv_aload_n hx hb dX3_read_29 rfl (lv_at hl 1 rfl) ?_
      refine va_get (D := (dC, dI)) (ci := 3) (v := .ref (a 6)) (C := RX3) (T := TX3) (N := 17) hx hb hts hin hown hK hP 0 rfl rfl 10 (by decide) fl25 (fun _ h9 => h9) rfl dX3_read_30 ?_
      refine lv_iload_n hx hb dX3_read_33 rfl (lv_at hl 2 rfl) ?_
      refine lv_iconst (v := 4) hx hb dX3_read_34 (by decide) ?_
      refine lv_isub hx hb dX3_read_35 ?_
      obtain ⟨hi6, hF⟩ := ck hF
      refine va_iald hx hb hK hP 6 0 rfl rfl hi6 dX3_read_36 ?_
      exact hQ _ _ _ _ _ _ (Option.some.inj hF) (vp_nar_int _) hP hD hS dX3_read_37
    · replace hF := iq h5 hF
      refine lv_aload_n hx hb dX3_read_20 rfl (lv_at hl 1 rfl) ?_
      refine va_get (D := (dC, dI)) (ci := 3) (v := .ref (a 5)) (C := RX3) (T := TX3) (N := 17) hx hb hts hin hown hK hP 0 rfl rfl 9 (by decide) fl22 (fun _ h9 => h9) rfl dX3_read_21 ?_
      refine lv_iload_n hx hb dX3_read_24 rfl (lv_at hl 2 rfl) ?_
      obtain ⟨hi7, hF⟩ := ck hF
      refine va_iald hx hb hK hP 5 0 rfl rfl hi7 dX3_read_25 ?_
      refine lv_goto (tgt := 37) hx hb dX3_read_26 (by decide) ?_
      exact hQ _ _ _ _ _ _ (Option.some.inj hF) (vp_nar_int _) hP hD hS dX3_read_37
theorem hd_X3_read : yX3_read.cls = RX3 ∧ yX3_read.cls ≠ "java/lang/invoke/MethodHandle" ∧ yX3_read.cls ≠ "java/lang/invoke/VarHandle" ∧ (parseMethodDescriptor yX3_read.desc).map (fun d => d.parameters.length) = some 1 := by decide +kernel

def F_X3_write (u : St) (x1 x2 : Int32) : Option (Int32 × St) := ((F_X3_find u x1 1).bind fun q1 => (if (q1.2 0 15) = (-1) then (if 4 ≤ x1 then (if ((x1 - 4) < 0 ∨ 4 ≤ (x1 - 4).toNatClampNeg) then none else (some (0, (su q1.2 6 (x1 - 4).toNatClampNeg x2)))) else (if (x1 < 0 ∨ 4 ≤ x1.toNatClampNeg) then none else (some (0, (su q1.2 5 x1.toNatClampNeg x2))))) else (if (((6 * (q1.2 0 15)) + (q1.2 0 16)) < 0 ∨ 150 ≤ ((6 * (q1.2 0 15)) + (q1.2 0 16)).toNatClampNeg) then none else (some (0, (su q1.2 8 ((6 * (q1.2 0 15)) + (q1.2 0 16)).toNatClampNeg x2))))))
set_option maxRecDepth 100000 in
set_option maxHeartbeats 4000000 in
theorem c_X3_write (l : Launch) (dC : Nat → ClassId) (dI : Nat → Nat → Nat) (cI cZ : ClassId) (a : Nat → Nat) (u : St) (x1 x2 : Int32) (o : Int32 × St) (hF : F_X3_write u x1 x2 = some o) : MV l yX3_write wsX3_write 2 45 none dC dI cI cZ (wD a cI cZ) [.ref (a 0), .int x1, .int x2] u o := by
  refine mvOf (cc := cX3_write) (maxL := 4) (by decide) rfl (Nat.le_of_ble_eq_true rfl) ?_
  intro p e s m args below meth c A Q H locs ls hx hb hml hts hown hK hA hz hQ hP hD hS hl
  replace hown : s.vm.findClass RX3 = some m.cls := hown
  replace hl : lv_has ls 4 [(0, .ref (a 0)), (1, .int x1), (2, .int x2)] := hl
  have hin : ∀ w ∈ u_ws RX3 TX3 17, w ∈ wsX3_write := by decide +kernel
  have fl22 := hts (.fieldLink RX3 22 "CountedHeapModel" "ints" "[I") (by decide +kernel)
  have fl25 := hts (.fieldLink RX3 25 "CountedHeapModel" "roots" "[I") (by decide +kernel)
  have fl31 := hts (.fieldLink RX3 31 "CountedHeapModel" "words" "[I") (by decide +kernel)
  have fl79 := hts (.fieldLink RX3 79 "CountedHeapModel" "block" "I") (by decide +kernel)
  have fl82 := hts (.fieldLink RX3 82 "CountedHeapModel" "word" "I") (by decide +kernel)
  unfold F_X3_write at hF
  refine lv_aload_n hx hb dX3_write_0 rfl (lv_at hl 0 rfl) ?_
  refine lv_iload_n hx hb dX3_write_1 rfl (lv_at hl 1 rfl) ?_
  refine lv_iconst (v := 1) hx hb dX3_write_2 (by decide) ?_
  obtain ⟨q1, e2, hF⟩ := bd hF
  refine callVI (C := RX3) (ci := 3) (q0 := 0) (As := [.int x1, .int 1]) (rest := []) ⟨hx, hb, hml, hown, hts⟩ (c_X3_find l dC dI cI cZ a u x1 1 q1 e2) gX3_write_X3_find rfl hd_X3_find rfl rfl rfl ⟨Nat.le_of_ble_eq_true rfl, Nat.le_of_ble_eq_true rfl⟩ True.intro hK hP hD hS hA rfl hl.1 rfl (Nat.le_of_ble_eq_true rfl) dX3_write_3 (fun H locs hP hD hS => ?_)
  refine lv_istore_n (lv' := [(3, .int q1.1), (0, .ref (a 0)), (1, .int x1), (2, .int x2)]) hx hb dX3_write_6 rfl hl (by decide) rfl (fun ls hl => ?_)
  refine lv_aload_n hx hb dX3_write_7 rfl (lv_at hl 1 rfl) ?_
  refine va_get (D := (dC, dI)) (ci := 3) (v := .int (q1.2 0 15)) (C := RX3) (T := TX3) (N := 17) hx hb hts hin hown hK hP 0 rfl rfl 15 (by decide) fl79 (fun _ h9 => h9) rfl dX3_write_8 ?_
  refine lv_iconst (v := (-1)) hx hb dX3_write_11 (by decide) ?_
  refine lv_icmp_eq (tgt := 36) hx hb dX3_write_12 (by decide) (fun h3 => ?_) (fun h3 => ?_)
  · replace hF := ip h3 hF
    refine lv_iload_n hx hb dX3_write_36 rfl (lv_at hl 2 rfl) ?_
    refine lv_iconst (v := 4) hx hb dX3_write_37 (by decide) ?_
    refine lv_icmp_ge (tgt := 51) hx hb dX3_write_38 (by decide) (fun h4 => ?_) (fun h4 => ?_)
    · replace hF := ip h4 hF
      refine lv_aload_n hx hb dX3_write_51 rfl (lv_at hl 1 rfl) ?_
      refine va_get (D := (dC, dI)) (ci := 3) (v := .ref (a 6)) (C := RX3) (T := TX3) (N := 17) hx hb hts hin hown hK hP 0 rfl rfl 10 (by decide) fl25 (fun _ h9 => h9) rfl dX3_write_52 ?_
      refine lv_iload_n hx hb dX3_write_55 rfl (lv_at hl 2 rfl) ?_
      refine lv_iconst (v := 4) hx hb dX3_write_56 (by decide) ?_
      refine lv_isub hx hb dX3_write_57 ?_
      refine lv_iload_n hx hb dX3_write_58 rfl (lv_at hl 3 rfl) ?_
      obtain ⟨hi5, hF⟩ := ck hF
      refine va_iast hx hb hK hP hD hS 6 0 rfl rfl hi5 dX3_write_59 (fun H locs hP hD hS => ?_)
      replace hP := wD_p6 hP
      replace hD := wD_d6 hD
      exact hQ _ _ _ _ _ (Option.some.inj hF) hP hD hS dX3_write_60
    · replace hF := iq h4 hF
      refine lv_aload_n hx hb dX3_write_41 rfl (lv_at hl 1 rfl) ?_
      refine va_get (D := (dC, dI)) (ci := 3) (v := .ref (a 5)) (C := RX3) (T := TX3) (N := 17) hx hb hts hin hown hK hP 0 rfl rfl 9 (by decide) fl22 (fun _ h9 => h9) rfl dX3_write_42 ?_
      refine lv_iload_n hx hb dX3_write_45 rfl (lv_at hl 2 rfl) ?_
      refine lv_iload_n hx hb dX3_write_46 rfl (lv_at hl 3 rfl) ?_
      obtain ⟨hi6, hF⟩ := ck hF
      refine va_iast hx hb hK hP hD hS 5 0 rfl rfl hi6 dX3_write_47 (fun H locs hP hD hS => ?_)
      replace hP := wD_p5 hP
      replace hD := wD_d5 hD
      refine lv_goto (tgt := 60) hx hb dX3_write_48 (by decide) ?_
      exact hQ _ _ _ _ _ (Option.some.inj hF) hP hD hS dX3_write_60
  · replace hF := iq h3 hF
    refine lv_aload_n hx hb dX3_write_15 rfl (lv_at hl 1 rfl) ?_
    refine va_get (D := (dC, dI)) (ci := 3) (v := .ref (a 8)) (C := RX3) (T := TX3) (N := 17) hx hb hts hin hown hK hP 0 rfl rfl 12 (by decide) fl31 (fun _ h9 => h9) rfl dX3_write_16 ?_
    refine lv_bipush (v := 6) hx hb dX3_write_19 (by decide) ?_
    refine lv_aload_n hx hb dX3_write_21 rfl (lv_at hl 1 rfl) ?_
    refine va_get (D := (dC, dI)) (ci := 3) (v := .int (q1.2 0 15)) (C := RX3) (T := TX3) (N := 17) hx hb hts hin hown hK hP 0 rfl rfl 15 (by decide) fl79 (fun _ h9 => h9) rfl dX3_write_22 ?_
    refine lv_imul hx hb dX3_write_25 ?_
    refine lv_aload_n hx hb dX3_write_26 rfl (lv_at hl 1 rfl) ?_
    refine va_get (D := (dC, dI)) (ci := 3) (v := .int (q1.2 0 16)) (C := RX3) (T := TX3) (N := 17) hx hb hts hin hown hK hP 0 rfl rfl 16 (by decide) fl82 (fun _ h9 => h9) rfl dX3_write_27 ?_
    refine lv_iadd hx hb dX3_write_30 ?_
    refine lv_iload_n hx hb dX3_write_31 rfl (lv_at hl 3 rfl) ?_
    obtain ⟨hi7, hF⟩ := ck hF
    refine va_iast hx hb hK hP hD hS 8 0 rfl rfl hi7 dX3_write_32 (fun H locs hP hD hS => ?_)
    replace hP := wD_p8 hP
    replace hD := wD_d8 hD
    refine lv_goto (tgt := 60) hx hb dX3_write_33 (by decide) ?_
    exact hQ _ _ _ _ _ (Option.some.inj hF) hP hD hS dX3_write_60
theorem hd_X3_write : yX3_write.cls = RX3 ∧ yX3_write.cls ≠ "java/lang/invoke/MethodHandle" ∧ yX3_write.cls ≠ "java/lang/invoke/VarHandle" ∧ (parseMethodDescriptor yX3_write.desc).map (fun d => d.parameters.length) = some 2 := by decide +kernel

def F_X3_free_2 (k2 : St → Int32 → Option (Int32 × St)) (u : St) (x1 : Int32) : Option (Int32 × St) := (if 25 ≤ x1 then (some (0, u)) else (if (x1 < 0 ∨ 25 ≤ x1.toNatClampNeg) then none else (if 0 ≤ (u 7 x1.toNatClampNeg) then k2 u ((x1 + 1)) else (some (x1, u)))))
def L_X3_free_2  : Nat → St → Int32 → Option (Int32 × St)
  | 0 => fun _ _ => none
  | n + 1 => fun u x1 => F_X3_free_2 (L_X3_free_2 n) u x1
def F_X3_free (u : St) : Option (Int32 × St) := L_X3_free_2 fuel u 1
set_option maxRecDepth 100000 in
set_option maxHeartbeats 4000000 in
theorem c_X3_free (l : Launch) (dC : Nat → ClassId) (dI : Nat → Nat → Nat) (cI cZ : ClassId) (a : Nat → Nat) (u : St) (o : Int32 × St) (hF : F_X3_free u = some o) : MI l yX3_free wsX3_free 0 0 none dC dI cI cZ (wD a cI cZ) [.ref (a 0)] u o := by
  refine miOf (cc := cX3_free) (maxL := 2) (ret := .int) (by decide) rfl (Nat.le_of_ble_eq_true rfl) ?_
  intro p e s m args below meth c A Q H locs ls hx hb hml hts hown hK hA hz hQ hP hD hS hl
  replace hown : s.vm.findClass RX3 = some m.cls := hown
  replace hl : lv_has ls 2 [(0, .ref (a 0))] := hl
  have hin : ∀ w ∈ u_ws RX3 TX3 17, w ∈ wsX3_free := by decide +kernel
  have fl28 := hts (.fieldLink RX3 28 "CountedHeapModel" "kind" "[I") (by decide +kernel)
  have b2 : ∀ (k2 : St → Int32 → Option (Int32 × St)) (hk2 : ∀ (x1 : Int32) (u : St), k2 u x1 = some o → GW p l e (rmK 0 0) s m args below meth c Q dC dI (wD a cI cZ) A 2 2 [(0, .ref (a 0)), (1, .int x1)] [] u) (x1 : Int32) (u : St), F_X3_free_2 k2 u x1 = some o → GW p l e (rmK 0 0) s m args below meth c Q dC dI (wD a cI cZ) A 2 2 [(0, .ref (a 0)), (1, .int x1)] [] u := by
      intro k2 hk2 x1 u hF H locs ls hP hD hS hl
      unfold F_X3_free_2 at hF
      refine lv_iload_n hx hb dX3_free_2 rfl (lv_at hl 1 rfl) ?_
      refine lv_bipush (v := 25) hx hb dX3_free_3 (by decide) ?_
      refine lv_icmp_ge (tgt := 25) hx hb dX3_free_5 (by decide) (fun h1 => ?_) (fun h1 => ?_)
      · replace hF := ip h1 hF
        refine lv_iconst (v := 0) hx hb dX3_free_25 (by decide) ?_
        exact hQ _ _ _ _ _ _ (Option.some.inj hF) (vp_nar_int _) hP hD hS dX3_free_26
      · replace hF := iq h1 hF
        refine lv_aload_n hx hb dX3_free_8 rfl (lv_at hl 0 rfl) ?_
        refine va_get (D := (dC, dI)) (ci := 3) (v := .ref (a 7)) (C := RX3) (T := TX3) (N := 17) hx hb hts hin hown hK hP 0 rfl rfl 11 (by decide) fl28 (fun _ h9 => h9) rfl dX3_free_9 ?_
        refine lv_iload_n hx hb dX3_free_12 rfl (lv_at hl 1 rfl) ?_
        obtain ⟨hi2, hF⟩ := ck hF
        refine va_iald hx hb hK hP 7 0 rfl rfl hi2 dX3_free_13 ?_
        refine lv_if_ge (tgt := 19) hx hb dX3_free_14 (by decide) (fun h3 => ?_) (fun h3 => ?_)
        · replace hF := ip h3 hF
          refine lv_iinc (v := (x1 + 1)) (lv' := [(1, .int (x1 + 1)), (0, .ref (a 0))]) hx hb dX3_free_19 hl (k := 1) rfl rfl (by decide) rfl (fun ls hl => ?_)
          refine lv_goto (tgt := 2) hx hb dX3_free_22 (by decide) ?_
          exact hk2 ((x1 + 1)) u hF H locs ls hP hD hS (lv_sub hl [1, 0] rfl)
        · replace hF := iq h3 hF
          refine lv_iload_n hx hb dX3_free_17 rfl (lv_at hl 1 rfl) ?_
          exact hQ _ _ _ _ _ _ (Option.some.inj hF) (vp_nar_int _) hP hD hS dX3_free_18
  have l2 : ∀  (n : Nat) (x1 : Int32) (u : St), L_X3_free_2  n u x1 = some o → GW p l e (rmK 0 0) s m args below meth c Q dC dI (wD a cI cZ) A 2 2 [(0, .ref (a 0)), (1, .int x1)] [] u := by
      intro  n
      induction n with
      | zero =>
        intro x1 u hF
        have hF : (none : Option (Int32 × St)) = some o := hF
        cases hF
      | succ n ih =>
        intro x1 u hF
        exact b2 (L_X3_free_2 n) ih x1 u hF
  unfold F_X3_free at hF
  refine lv_iconst (v := 1) hx hb dX3_free_0 (by decide) ?_
  refine lv_istore_n (lv' := [(1, .int 1), (0, .ref (a 0))]) hx hb dX3_free_1 rfl hl (by decide) rfl (fun ls hl => ?_)
  exact l2  fuel 1 u hF H locs ls hP hD hS (lv_sub hl [1, 0] rfl)
theorem hd_X3_free : yX3_free.cls = RX3 ∧ yX3_free.cls ≠ "java/lang/invoke/MethodHandle" ∧ yX3_free.cls ≠ "java/lang/invoke/VarHandle" ∧ (parseMethodDescriptor yX3_free.desc).map (fun d => d.parameters.length) = some 0 := by decide +kernel

def F_X3_fault_103 (u : St) (x2 : Int32) : Option (Int32 × St) := (if x2 = 14 then (if (u 0 5) = 0 then (some (1, u)) else (some (0, u))) else (some (0, u)))
def F_X3_fault_86 (u : St) (x2 : Int32) : Option (Int32 × St) := (if x2 = 13 then (if (u 0 5) = 8 then (some (4, u)) else F_X3_fault_103 u x2) else F_X3_fault_103 u x2)
def F_X3_fault_57 (k11 : St → Int32 → Int32 → Int32 → Option (Int32 × St)) (u : St) (x1 x2 x3 t0 : Int32) : Option (Int32 × St) := (if t0 ≤ 0 then k11 u x1 x2 ((x3 + 1)) else (some (t0, u)))
def F_X3_fault_35 (k11 : St → Int32 → Int32 → Int32 → Option (Int32 × St)) (u : St) (x1 x2 x3 x4 : Int32) : Option (Int32 × St) := (if ((((4 * x1) + 1) + x3) < 0 ∨ 160 ≤ (((4 * x1) + 1) + x3).toNatClampNeg) then none else ((F_X3_find u ((u 3 (((4 * x1) + 1) + x3).toNatClampNeg)) x4).bind fun q2 => F_X3_fault_57 k11 q2.2 x1 x2 x3 (q2.1)))
def F_X3_fault_11 (k11 : St → Int32 → Int32 → Int32 → Option (Int32 × St)) (u : St) (x1 x2 x3 : Int32) : Option (Int32 × St) := (if 3 ≤ x3 then (if x2 = 9 then ((F_X3_free u).bind fun q3 => (if q3.1 = 0 then (some (4, q3.2)) else F_X3_fault_86 q3.2 x2)) else F_X3_fault_86 u x2) else ((F_X3_takes u x2 x3).bind fun q6 => (if q6.1 = 1 then F_X3_fault_35 k11 q6.2 x1 x2 x3 (q6.1) else (if q6.1 = 2 then F_X3_fault_35 k11 q6.2 x1 x2 x3 (q6.1) else F_X3_fault_57 k11 q6.2 x1 x2 x3 0))))
def L_X3_fault_11  : Nat → St → Int32 → Int32 → Int32 → Option (Int32 × St)
  | 0 => fun _ _ _ _ => none
  | n + 1 => fun u x1 x2 x3 => F_X3_fault_11 (L_X3_fault_11 n) u x1 x2 x3
def F_X3_fault (u : St) (x1 : Int32) : Option (Int32 × St) := (if ((4 * x1) < 0 ∨ 160 ≤ (4 * x1).toNatClampNeg) then none else L_X3_fault_11 fuel u x1 ((u 3 (4 * x1).toNatClampNeg)) 0)
set_option maxRecDepth 100000 in
set_option maxHeartbeats 4000000 in
theorem c_X3_fault (l : Launch) (dC : Nat → ClassId) (dI : Nat → Nat → Nat) (cI cZ : ClassId) (a : Nat → Nat) (u : St) (x1 : Int32) (o : Int32 × St) (hF : F_X3_fault u x1 = some o) : MI l yX3_fault wsX3_fault 2 45 none dC dI cI cZ (wD a cI cZ) [.ref (a 0), .int x1] u o := by
  refine miOf (cc := cX3_fault) (maxL := 6) (ret := .int) (by decide) rfl (Nat.le_of_ble_eq_true rfl) ?_
  intro p e s m args below meth c A Q H locs ls hx hb hml hts hown hK hA hz hQ hP hD hS hl
  replace hown : s.vm.findClass RX3 = some m.cls := hown
  replace hl : lv_has ls 6 [(0, .ref (a 0)), (1, .int x1)] := hl
  have hin : ∀ w ∈ u_ws RX3 TX3 17, w ∈ wsX3_fault := by decide +kernel
  have fl16 := hts (.fieldLink RX3 16 "CountedHeapModel" "code" "[I") (by decide +kernel)
  have fl66 := hts (.fieldLink RX3 66 "CountedHeapModel" "depth" "I") (by decide +kernel)
  have b103 : ∀  (x2 : Int32) (u : St), F_X3_fault_103 u x2 = some o → GW p l e (rmK 2 45) s m args below meth c Q dC dI (wD a cI cZ) A 6 103 [(0, .ref (a 0)), (2, .int x2)] [] u := by
      intro  x2 u hF H locs ls hP hD hS hl
      unfold F_X3_fault_103 at hF
      refine lv_iload_n hx hb dX3_fault_103 rfl (lv_at hl 1 rfl) ?_
      refine lv_bipush (v := 14) hx hb dX3_fault_104 (by decide) ?_
      refine lv_icmp_ne (tgt := 120) hx hb dX3_fault_106 (by decide) (fun h1 => ?_) (fun h1 => ?_)
      · replace hF := iq h1 hF
        refine lv_iconst (v := 0) hx hb dX3_fault_120 (by decide) ?_
        exact hQ _ _ _ _ _ _ (Option.some.inj hF) (vp_nar_int _) hP hD hS dX3_fault_121
      · replace hF := ip h1 hF
        refine lv_aload_n hx hb dX3_fault_109 rfl (lv_at hl 0 rfl) ?_
        refine va_get (D := (dC, dI)) (ci := 3) (v := .int (u 0 5)) (C := RX3) (T := TX3) (N := 17) hx hb hts hin hown hK hP 0 rfl rfl 5 (by decide) fl66 (fun _ h9 => h9) rfl dX3_fault_110 ?_
        refine lv_if_ne (tgt := 120) hx hb dX3_fault_113 (by decide) (fun h2 => ?_) (fun h2 => ?_)
        · replace hF := iq h2 hF
          refine lv_iconst (v := 0) hx hb dX3_fault_120 (by decide) ?_
          exact hQ _ _ _ _ _ _ (Option.some.inj hF) (vp_nar_int _) hP hD hS dX3_fault_121
        · replace hF := ip h2 hF
          refine lv_iconst (v := 1) hx hb dX3_fault_116 (by decide) ?_
          refine lv_goto (tgt := 121) hx hb dX3_fault_117 (by decide) ?_
          exact hQ _ _ _ _ _ _ (Option.some.inj hF) (vp_nar_int _) hP hD hS dX3_fault_121
  have b86 : ∀  (x2 : Int32) (u : St), F_X3_fault_86 u x2 = some o → GW p l e (rmK 2 45) s m args below meth c Q dC dI (wD a cI cZ) A 6 86 [(0, .ref (a 0)), (2, .int x2)] [] u := by
      intro  x2 u hF H locs ls hP hD hS hl
      unfold F_X3_fault_86 at hF
      refine lv_iload_n hx hb dX3_fault_86 rfl (lv_at hl 1 rfl) ?_
      refine lv_bipush (v := 13) hx hb dX3_fault_87 (by decide) ?_
      refine lv_icmp_ne (tgt := 103) hx hb dX3_fault_89 (by decide) (fun h1 => ?_) (fun h1 => ?_)
      · replace hF := iq h1 hF
        exact b103  x2 u hF H locs ls hP hD hS (lv_sub hl [0, 1] rfl)
      · replace hF := ip h1 hF
        refine lv_aload_n hx hb dX3_fault_92 rfl (lv_at hl 0 rfl) ?_
        refine va_get (D := (dC, dI)) (ci := 3) (v := .int (u 0 5)) (C := RX3) (T := TX3) (N := 17) hx hb hts hin hown hK hP 0 rfl rfl 5 (by decide) fl66 (fun _ h9 => h9) rfl dX3_fault_93 ?_
        refine lv_bipush (v := 8) hx hb dX3_fault_96 (by decide) ?_
        refine lv_icmp_ne (tgt := 103) hx hb dX3_fault_98 (by decide) (fun h2 => ?_) (fun h2 => ?_)
        · replace hF := iq h2 hF
          exact b103  x2 u hF H locs ls hP hD hS (lv_sub hl [0, 1] rfl)
        · replace hF := ip h2 hF
          refine lv_iconst (v := 4) hx hb dX3_fault_101 (by decide) ?_
          exact hQ _ _ _ _ _ _ (Option.some.inj hF) (vp_nar_int _) hP hD hS dX3_fault_102
  have b57 : ∀ (k11 : St → Int32 → Int32 → Int32 → Option (Int32 × St)) (hk11 : ∀ (x1 x2 x3 : Int32) (u : St), k11 u x1 x2 x3 = some o → GW p l e (rmK 2 45) s m args below meth c Q dC dI (wD a cI cZ) A 6 11 [(0, .ref (a 0)), (1, .int x1), (2, .int x2), (3, .int x3)] [] u) (x1 x2 x3 t0 : Int32) (u : St), F_X3_fault_57 k11 u x1 x2 x3 t0 = some o → GW p l e (rmK 2 45) s m args below meth c Q dC dI (wD a cI cZ) A 6 57 [(0, .ref (a 0)), (1, .int x1), (2, .int x2), (3, .int x3)] [.int t0] u := by
      intro k11 hk11 x1 x2 x3 t0 u hF H locs ls hP hD hS hl
      unfold F_X3_fault_57 at hF
      refine lv_istore (lv' := [(5, .int t0), (0, .ref (a 0)), (1, .int x1), (2, .int x2), (3, .int x3)]) hx hb dX3_fault_57 hl (by decide) rfl (fun ls hl => ?_)
      refine lv_iload hx hb dX3_fault_59 (lv_at hl 0 rfl) ?_
      refine lv_if_le (tgt := 67) hx hb dX3_fault_61 (by decide) (fun h1 => ?_) (fun h1 => ?_)
      · replace hF := ip h1 hF
        refine lv_iinc (v := (x3 + 1)) (lv' := [(3, .int (x3 + 1)), (5, .int t0), (0, .ref (a 0)), (1, .int x1), (2, .int x2)]) hx hb dX3_fault_67 hl (k := 4) rfl rfl (by decide) rfl (fun ls hl => ?_)
        refine lv_goto (tgt := 11) hx hb dX3_fault_70 (by decide) ?_
        exact hk11 x1 x2 ((x3 + 1)) u hF H locs ls hP hD hS (lv_sub hl [2, 3, 4, 0] rfl)
      · replace hF := iq h1 hF
        refine lv_iload hx hb dX3_fault_64 (lv_at hl 0 rfl) ?_
        exact hQ _ _ _ _ _ _ (Option.some.inj hF) (vp_nar_int _) hP hD hS dX3_fault_66
  have b35 : ∀ (k11 : St → Int32 → Int32 → Int32 → Option (Int32 × St)) (hk11 : ∀ (x1 x2 x3 : Int32) (u : St), k11 u x1 x2 x3 = some o → GW p l e (rmK 2 45) s m args below meth c Q dC dI (wD a cI cZ) A 6 11 [(0, .ref (a 0)), (1, .int x1), (2, .int x2), (3, .int x3)] [] u) (x1 x2 x3 x4 : Int32) (u : St), F_X3_fault_35 k11 u x1 x2 x3 x4 = some o → GW p l e (rmK 2 45) s m args below meth c Q dC dI (wD a cI cZ) A 6 35 [(0, .ref (a 0)), (1, .int x1), (2, .int x2), (3, .int x3), (4, .int x4)] [] u := by
      intro k11 hk11 x1 x2 x3 x4 u hF H locs ls hP hD hS hl
      unfold F_X3_fault_35 at hF
      refine lv_aload_n hx hb dX3_fault_35 rfl (lv_at hl 0 rfl) ?_
      refine lv_aload_n hx hb dX3_fault_36 rfl (lv_at hl 0 rfl) ?_
      refine va_get (D := (dC, dI)) (ci := 3) (v := .ref (a 3)) (C := RX3) (T := TX3) (N := 17) hx hb hts hin hown hK hP 0 rfl rfl 2 (by decide) fl16 (fun _ h9 => h9) rfl dX3_fault_37 ?_
      refine lv_iconst (v := 4) hx hb dX3_fault_40 (by decide) ?_
      refine lv_iload_n hx hb dX3_fault_41 rfl (lv_at hl 1 rfl) ?_
      refine lv_imul hx hb dX3_fault_42 ?_
      refine lv_iconst (v := 1) hx hb dX3_fault_43 (by decide) ?_
      refine lv_iadd hx hb dX3_fault_44 ?_
      refine lv_iload_n hx hb dX3_fault_45 rfl (lv_at hl 3 rfl) ?_
      refine lv_iadd hx hb dX3_fault_46 ?_
      obtain ⟨hi1, hF⟩ := ck hF
      refine va_iald hx hb hK hP 3 0 rfl rfl hi1 dX3_fault_47 ?_
      refine lv_iload hx hb dX3_fault_48 (lv_at hl 4 rfl) ?_
      obtain ⟨q2, e3, hF⟩ := bd hF
      refine callVI (C := RX3) (ci := 3) (q0 := 0) (As := [.int (u 3 (((4 * x1) + 1) + x3).toNatClampNeg), .int x4]) (rest := []) ⟨hx, hb, hml, hown, hts⟩ (c_X3_find l dC dI cI cZ a u ((u 3 (((4 * x1) + 1) + x3).toNatClampNeg)) x4 q2 e3) gX3_fault_X3_find rfl hd_X3_find rfl rfl rfl ⟨Nat.le_of_ble_eq_true rfl, Nat.le_of_ble_eq_true rfl⟩ True.intro hK hP hD hS hA rfl hl.1 rfl (Nat.le_of_ble_eq_true rfl) dX3_fault_50 (fun H locs hP hD hS => ?_)
      refine lv_goto (tgt := 57) hx hb dX3_fault_53 (by decide) ?_
      exact b57 k11 hk11 x1 x2 x3 (q2.1) q2.2 hF H locs ls hP hD hS (lv_sub hl [0, 1, 2, 3] rfl)
  have b11 : ∀ (k11 : St → Int32 → Int32 → Int32 → Option (Int32 × St)) (hk11 : ∀ (x1 x2 x3 : Int32) (u : St), k11 u x1 x2 x3 = some o → GW p l e (rmK 2 45) s m args below meth c Q dC dI (wD a cI cZ) A 6 11 [(0, .ref (a 0)), (1, .int x1), (2, .int x2), (3, .int x3)] [] u) (x1 x2 x3 : Int32) (u : St), F_X3_fault_11 k11 u x1 x2 x3 = some o → GW p l e (rmK 2 45) s m args below meth c Q dC dI (wD a cI cZ) A 6 11 [(0, .ref (a 0)), (1, .int x1), (2, .int x2), (3, .int x3)] [] u := by
      intro k11 hk11 x1 x2 x3 u hF H locs ls hP hD hS hl
      unfold F_X3_fault_11 at hF
      refine lv_iload_n hx hb dX3_fault_11 rfl (lv_at hl 3 rfl) ?_
      refine lv_iconst (v := 3) hx hb dX3_fault_12 (by decide) ?_
      refine lv_icmp_ge (tgt := 73) hx hb dX3_fault_13 (by decide) (fun h1 => ?_) (fun h1 => ?_)
      · replace hF := ip h1 hF
        refine lv_iload_n hx hb dX3_fault_73 rfl (lv_at hl 2 rfl) ?_
        refine lv_bipush (v := 9) hx hb dX3_fault_74 (by decide) ?_
        refine lv_icmp_ne (tgt := 86) hx hb dX3_fault_76 (by decide) (fun h2 => ?_) (fun h2 => ?_)
        · replace hF := iq h2 hF
          exact b86  x2 u hF H locs ls hP hD hS (lv_sub hl [0, 2] rfl)
        · replace hF := ip h2 hF
          refine lv_aload_n hx hb dX3_fault_79 rfl (lv_at hl 0 rfl) ?_
          obtain ⟨q3, e4, hF⟩ := bd hF
          refine callVI (C := RX3) (ci := 3) (q0 := 0) (As := []) (rest := []) ⟨hx, hb, hml, hown, hts⟩ (c_X3_free l dC dI cI cZ a u q3 e4) gX3_fault_X3_free rfl hd_X3_free rfl rfl rfl ⟨Nat.le_of_ble_eq_true rfl, Nat.le_of_ble_eq_true rfl⟩ True.intro hK hP hD hS hA rfl hl.1 rfl (Nat.le_of_ble_eq_true rfl) dX3_fault_80 (fun H locs hP hD hS => ?_)
          refine lv_if_eq (tgt := 101) hx hb dX3_fault_83 (by decide) (fun h5 => ?_) (fun h5 => ?_)
          · replace hF := ip h5 hF
            refine lv_iconst (v := 4) hx hb dX3_fault_101 (by decide) ?_
            exact hQ _ _ _ _ _ _ (Option.some.inj hF) (vp_nar_int _) hP hD hS dX3_fault_102
          · replace hF := iq h5 hF
            exact b86  x2 q3.2 hF H locs ls hP hD hS (lv_sub hl [0, 2] rfl)
      · replace hF := iq h1 hF
        refine lv_iload_n hx hb dX3_fault_16 rfl (lv_at hl 2 rfl) ?_
        refine lv_iload_n hx hb dX3_fault_17 rfl (lv_at hl 3 rfl) ?_
        obtain ⟨q6, e7, hF⟩ := bd hF
        refine callSI (As := [.int x2, .int x3]) (rest := []) ⟨hx, hb, hml, hown, hts⟩ (c_X3_takes l dC dI cI cZ a u x2 x3 q6 e7) gX3_fault_X3_takes rfl hd_X3_takes ⟨Nat.le_of_ble_eq_true rfl, Nat.le_of_ble_eq_true rfl⟩ True.intro hK hP hD hS hA rfl hl.1 rfl (Nat.le_of_ble_eq_true rfl) dX3_fault_18 (fun H locs hP hD hS => ?_)
        refine lv_istore (lv' := [(4, .int q6.1), (0, .ref (a 0)), (1, .int x1), (2, .int x2), (3, .int x3)]) hx hb dX3_fault_21 hl (by decide) rfl (fun ls hl => ?_)
        refine lv_iload hx hb dX3_fault_23 (lv_at hl 0 rfl) ?_
        refine lv_iconst (v := 1) hx hb dX3_fault_25 (by decide) ?_
        refine lv_icmp_eq (tgt := 35) hx hb dX3_fault_26 (by decide) (fun h8 => ?_) (fun h8 => ?_)
        · replace hF := ip h8 hF
          exact b35 k11 hk11 x1 x2 x3 (q6.1) q6.2 hF H locs ls hP hD hS (lv_sub hl [1, 2, 3, 4, 0] rfl)
        · replace hF := iq h8 hF
          refine lv_iload hx hb dX3_fault_29 (lv_at hl 0 rfl) ?_
          refine lv_iconst (v := 2) hx hb dX3_fault_31 (by decide) ?_
          refine lv_icmp_ne (tgt := 56) hx hb dX3_fault_32 (by decide) (fun h9 => ?_) (fun h9 => ?_)
          · replace hF := iq h9 hF
            refine lv_iconst (v := 0) hx hb dX3_fault_56 (by decide) ?_
            exact b57 k11 hk11 x1 x2 x3 0 q6.2 hF H locs ls hP hD hS (lv_sub hl [1, 2, 3, 4] rfl)
          · replace hF := ip h9 hF
            exact b35 k11 hk11 x1 x2 x3 (q6.1) q6.2 hF H locs ls hP hD hS (lv_sub hl [1, 2, 3, 4, 0] rfl)
  have l11 : ∀  (n : Nat) (x1 x2 x3 : Int32) (u : St), L_X3_fault_11  n u x1 x2 x3 = some o → GW p l e (rmK 2 45) s m args below meth c Q dC dI (wD a cI cZ) A 6 11 [(0, .ref (a 0)), (1, .int x1), (2, .int x2), (3, .int x3)] [] u := by
      intro  n
      induction n with
      | zero =>
        intro x1 x2 x3 u hF
        have hF : (none : Option (Int32 × St)) = some o := hF
        cases hF
      | succ n ih =>
        intro x1 x2 x3 u hF
        exact b11 (L_X3_fault_11 n) ih x1 x2 x3 u hF
  unfold F_X3_fault at hF
  refine lv_aload_n hx hb dX3_fault_0 rfl (lv_at hl 0 rfl) ?_
  refine va_get (D := (dC, dI)) (ci := 3) (v := .ref (a 3)) (C := RX3) (T := TX3) (N := 17) hx hb hts hin hown hK hP 0 rfl rfl 2 (by decide) fl16 (fun _ h9 => h9) rfl dX3_fault_1 ?_
  refine lv_iconst (v := 4) hx hb dX3_fault_4 (by decide) ?_
  refine lv_iload_n hx hb dX3_fault_5 rfl (lv_at hl 1 rfl) ?_
  refine lv_imul hx hb dX3_fault_6 ?_
  obtain ⟨hi1, hF⟩ := ck hF
  refine va_iald hx hb hK hP 3 0 rfl rfl hi1 dX3_fault_7 ?_
  refine lv_istore_n (lv' := [(2, .int (u 3 (4 * x1).toNatClampNeg)), (0, .ref (a 0)), (1, .int x1)]) hx hb dX3_fault_8 rfl hl (by decide) rfl (fun ls hl => ?_)
  refine lv_iconst (v := 0) hx hb dX3_fault_9 (by decide) ?_
  refine lv_istore_n (lv' := [(3, .int 0), (2, .int (u 3 (4 * x1).toNatClampNeg)), (0, .ref (a 0)), (1, .int x1)]) hx hb dX3_fault_10 rfl hl (by decide) rfl (fun ls hl => ?_)
  exact l11  fuel x1 ((u 3 (4 * x1).toNatClampNeg)) 0 u hF H locs ls hP hD hS (lv_sub hl [2, 3, 1, 0] rfl)
theorem hd_X3_fault : yX3_fault.cls = RX3 ∧ yX3_fault.cls ≠ "java/lang/invoke/MethodHandle" ∧ yX3_fault.cls ≠ "java/lang/invoke/VarHandle" ∧ (parseMethodDescriptor yX3_fault.desc).map (fun d => d.parameters.length) = some 1 := by decide +kernel

def F_X3_value (u : St) (x0 x1 x2 : Int32) : Option (Int32 × St) := (if x0 = 3 then (some ((x1 + x2), u)) else (if x0 = 4 then (some ((x1 - x2), u)) else (if x0 = 5 then (some ((x1 * x2), u)) else (if x0 = 6 then (if x2 ≤ x1 then (some (0, u)) else (some (1, u))) else (if x1 = x2 then (some (1, u)) else (some (0, u)))))))
set_option maxRecDepth 100000 in
set_option maxHeartbeats 4000000 in
theorem c_X3_value (l : Launch) (dC : Nat → ClassId) (dI : Nat → Nat → Nat) (cI cZ : ClassId) (a : Nat → Nat) (u : St) (x0 x1 x2 : Int32) (o : Int32 × St) (hF : F_X3_value u x0 x1 x2 = some o) : MI l yX3_value wsX3_value 0 0 none dC dI cI cZ (wD a cI cZ) [.int x0, .int x1, .int x2] u o := by
  refine miOf (cc := cX3_value) (maxL := 3) (ret := .int) (by decide) rfl (Nat.le_of_ble_eq_true rfl) ?_
  intro p e s m args below meth c A Q H locs ls hx hb hml hts hown hK hA hz hQ hP hD hS hl
  replace hown : s.vm.findClass RX3 = some m.cls := hown
  replace hl : lv_has ls 3 [(0, .int x0), (1, .int x1), (2, .int x2)] := hl
  unfold F_X3_value at hF
  refine lv_iload_n hx hb dX3_value_0 rfl (lv_at hl 0 rfl) ?_
  refine lv_iconst (v := 3) hx hb dX3_value_1 (by decide) ?_
  refine lv_icmp_ne (tgt := 11) hx hb dX3_value_2 (by decide) (fun h1 => ?_) (fun h1 => ?_)
  · replace hF := iq h1 hF
    refine lv_iload_n hx hb dX3_value_11 rfl (lv_at hl 0 rfl) ?_
    refine lv_iconst (v := 4) hx hb dX3_value_12 (by decide) ?_
    refine lv_icmp_ne (tgt := 22) hx hb dX3_value_13 (by decide) (fun h2 => ?_) (fun h2 => ?_)
    · replace hF := iq h2 hF
      refine lv_iload_n hx hb dX3_value_22 rfl (lv_at hl 0 rfl) ?_
      refine lv_iconst (v := 5) hx hb dX3_value_23 (by decide) ?_
      refine lv_icmp_ne (tgt := 33) hx hb dX3_value_24 (by decide) (fun h3 => ?_) (fun h3 => ?_)
      · replace hF := iq h3 hF
        refine lv_iload_n hx hb dX3_value_33 rfl (lv_at hl 0 rfl) ?_
        refine lv_bipush (v := 6) hx hb dX3_value_34 (by decide) ?_
        refine lv_icmp_ne (tgt := 52) hx hb dX3_value_36 (by decide) (fun h4 => ?_) (fun h4 => ?_)
        · replace hF := iq h4 hF
          refine lv_iload_n hx hb dX3_value_52 rfl (lv_at hl 1 rfl) ?_
          refine lv_iload_n hx hb dX3_value_53 rfl (lv_at hl 2 rfl) ?_
          refine lv_icmp_ne (tgt := 61) hx hb dX3_value_54 (by decide) (fun h5 => ?_) (fun h5 => ?_)
          · replace hF := iq h5 hF
            refine lv_iconst (v := 0) hx hb dX3_value_61 (by decide) ?_
            exact hQ _ _ _ _ _ _ (Option.some.inj hF) (vp_nar_int _) hP hD hS dX3_value_62
          · replace hF := ip h5 hF
            refine lv_iconst (v := 1) hx hb dX3_value_57 (by decide) ?_
            refine lv_goto (tgt := 62) hx hb dX3_value_58 (by decide) ?_
            exact hQ _ _ _ _ _ _ (Option.some.inj hF) (vp_nar_int _) hP hD hS dX3_value_62
        · replace hF := ip h4 hF
          refine lv_iload_n hx hb dX3_value_39 rfl (lv_at hl 1 rfl) ?_
          refine lv_iload_n hx hb dX3_value_40 rfl (lv_at hl 2 rfl) ?_
          refine lv_icmp_ge (tgt := 48) hx hb dX3_value_41 (by decide) (fun h6 => ?_) (fun h6 => ?_)
          · replace hF := ip h6 hF
            refine lv_iconst (v := 0) hx hb dX3_value_48 (by decide) ?_
            refine lv_goto (tgt := 62) hx hb dX3_value_49 (by decide) ?_
            exact hQ _ _ _ _ _ _ (Option.some.inj hF) (vp_nar_int _) hP hD hS dX3_value_62
          · replace hF := iq h6 hF
            refine lv_iconst (v := 1) hx hb dX3_value_44 (by decide) ?_
            refine lv_goto (tgt := 62) hx hb dX3_value_45 (by decide) ?_
            exact hQ _ _ _ _ _ _ (Option.some.inj hF) (vp_nar_int _) hP hD hS dX3_value_62
      · replace hF := ip h3 hF
        refine lv_iload_n hx hb dX3_value_27 rfl (lv_at hl 1 rfl) ?_
        refine lv_iload_n hx hb dX3_value_28 rfl (lv_at hl 2 rfl) ?_
        refine lv_imul hx hb dX3_value_29 ?_
        refine lv_goto (tgt := 62) hx hb dX3_value_30 (by decide) ?_
        exact hQ _ _ _ _ _ _ (Option.some.inj hF) (vp_nar_int _) hP hD hS dX3_value_62
    · replace hF := ip h2 hF
      refine lv_iload_n hx hb dX3_value_16 rfl (lv_at hl 1 rfl) ?_
      refine lv_iload_n hx hb dX3_value_17 rfl (lv_at hl 2 rfl) ?_
      refine lv_isub hx hb dX3_value_18 ?_
      refine lv_goto (tgt := 62) hx hb dX3_value_19 (by decide) ?_
      exact hQ _ _ _ _ _ _ (Option.some.inj hF) (vp_nar_int _) hP hD hS dX3_value_62
  · replace hF := ip h1 hF
    refine lv_iload_n hx hb dX3_value_5 rfl (lv_at hl 1 rfl) ?_
    refine lv_iload_n hx hb dX3_value_6 rfl (lv_at hl 2 rfl) ?_
    refine lv_iadd hx hb dX3_value_7 ?_
    refine lv_goto (tgt := 62) hx hb dX3_value_8 (by decide) ?_
    exact hQ _ _ _ _ _ _ (Option.some.inj hF) (vp_nar_int _) hP hD hS dX3_value_62
theorem hd_X3_value : yX3_value.cls ≠ "java/lang/invoke/MethodHandle" ∧ yX3_value.cls ≠ "java/lang/invoke/VarHandle" ∧ (parseMethodDescriptor yX3_value.desc).map (fun d => d.parameters.length) = some 3 := by decide +kernel
