def F_X2_isType (u : St) (x0 : Int32) : Option (Int32 × St) := (if x0 < 0 then (some (0, u)) else (if 4 ≤ x0 then (some (0, u)) else (some (1, u))))
set_option maxRecDepth 100000 in
set_option maxHeartbeats 4000000 in
theorem c_X2_isType (l : Launch) (dC : Nat → ClassId) (dI : Nat → Nat → Nat) (cI cZ : ClassId) (a : Nat → Nat) (u : St) (x0 : Int32) (o : Int32 × St) (hF : F_X2_isType u x0 = some o) : MI l yX2_isType wsX2_isType 0 0 none dC dI cI cZ (wC a cI cZ) [.int x0] u o := by
  refine miOf (cc := cX2_isType) (maxL := 1) (ret := .boolean) (by decide) rfl (Nat.le_of_ble_eq_true rfl) ?_
  intro p e s m args below meth c A Q H locs ls hx hb hml hts hown hK hA hz hQ hP hD hS hl
  replace hown : s.vm.findClass RX2 = some m.cls := hown
  replace hl : lv_has ls 1 [(0, .int x0)] := hl
  unfold F_X2_isType at hF
  refine lv_iload_n hx hb dX2_isType_0 rfl (lv_at hl 0 rfl) ?_
  refine lv_if_lt (tgt := 13) hx hb dX2_isType_1 (by decide) (fun h1 => ?_) (fun h1 => ?_)
  · replace hF := ip h1 hF
    refine lv_iconst (v := 0) hx hb dX2_isType_13 (by decide) ?_
    exact hQ _ _ _ _ _ _ (Option.some.inj hF) rfl hP hD hS dX2_isType_14
  · replace hF := iq h1 hF
    refine lv_iload_n hx hb dX2_isType_4 rfl (lv_at hl 0 rfl) ?_
    refine lv_iconst (v := 4) hx hb dX2_isType_5 (by decide) ?_
    refine lv_icmp_ge (tgt := 13) hx hb dX2_isType_6 (by decide) (fun h2 => ?_) (fun h2 => ?_)
    · replace hF := ip h2 hF
      refine lv_iconst (v := 0) hx hb dX2_isType_13 (by decide) ?_
      exact hQ _ _ _ _ _ _ (Option.some.inj hF) rfl hP hD hS dX2_isType_14
    · replace hF := iq h2 hF
      refine lv_iconst (v := 1) hx hb dX2_isType_9 (by decide) ?_
      refine lv_goto (tgt := 14) hx hb dX2_isType_10 (by decide) ?_
      exact hQ _ _ _ _ _ _ (Option.some.inj hF) rfl hP hD hS dX2_isType_14
theorem hd_X2_isType : yX2_isType.cls ≠ "java/lang/invoke/MethodHandle" ∧ yX2_isType.cls ≠ "java/lang/invoke/VarHandle" ∧ (parseMethodDescriptor yX2_isType.desc).map (fun d => d.parameters.length) = some 1 := by decide +kernel

def F_X2_type (u : St) (x1 x2 x3 : Int32) : Option (Int32 × St) := ((F_X2_isType u x1).bind fun q1 => (if q1.1 = 0 then (some (0, q1.2)) else (if x2 < 1 then (some (0, q1.2)) else (if x2 ≤ 6 then (if x3 < 0 then (some (0, q1.2)) else (if (x3 >>> (x2 &&& 31)) = 0 then ((F_X0_hasBlockOfType q1.2 x1).bind fun q8 => (if q8.1 = 0 then ((F_X0_changeType q8.2 x1 x2 x3).bind fun q11 => (some (1, q11.2))) else (some (0, q8.2)))) else (some (0, q1.2)))) else (some (0, q1.2))))))
set_option maxRecDepth 100000 in
set_option maxHeartbeats 4000000 in
theorem c_X2_type (l : Launch) (dC : Nat → ClassId) (dI : Nat → Nat → Nat) (cI cZ : ClassId) (a : Nat → Nat) (u : St) (x1 x2 x3 : Int32) (o : Int32 × St) (hF : F_X2_type u x1 x2 x3 = some o) : MI l yX2_type wsX2_type 1 23 none dC dI cI cZ (wC a cI cZ) [.ref (a 14), .int x1, .int x2, .int x3] u o := by
  refine miOf (cc := cX2_type) (maxL := 4) (ret := .boolean) (by decide) rfl (Nat.le_of_ble_eq_true rfl) ?_
  intro p e s m args below meth c A Q H locs ls hx hb hml hts hown hK hA hz hQ hP hD hS hl
  replace hown : s.vm.findClass RX2 = some m.cls := hown
  replace hl : lv_has ls 4 [(0, .ref (a 14)), (1, .int x1), (2, .int x2), (3, .int x3)] := hl
  have hin : ∀ w ∈ u_ws RX2 TX2 5, w ∈ wsX2_type := by decide +kernel
  have fl19 := hts (.fieldLink RX2 19 "CountedHeap" "memory" "LCountedHeap$Memory;") (by decide +kernel)
  unfold F_X2_type at hF
  refine lv_iload_n hx hb dX2_type_0 rfl (lv_at hl 1 rfl) ?_
  obtain ⟨q1, e2, hF⟩ := bd hF
  refine callSI (As := [.int x1]) (rest := []) ⟨hx, hb, hml, hown, hts⟩ (c_X2_isType l dC dI cI cZ a u x1 q1 e2) gX2_type_X2_isType rfl hd_X2_isType ⟨Nat.le_of_ble_eq_true rfl, Nat.le_of_ble_eq_true rfl⟩ True.intro hK hP hD hS hA rfl hl.1 rfl (Nat.le_of_ble_eq_true rfl) dX2_type_1 (fun H locs hP hD hS => ?_)
  refine lv_if_eq (tgt := 18) hx hb dX2_type_4 (by decide) (fun h3 => ?_) (fun h3 => ?_)
  · replace hF := ip h3 hF
    refine lv_iconst (v := 0) hx hb dX2_type_18 (by decide) ?_
    exact hQ _ _ _ _ _ _ (Option.some.inj hF) rfl hP hD hS dX2_type_19
  · replace hF := iq h3 hF
    refine lv_iload_n hx hb dX2_type_7 rfl (lv_at hl 2 rfl) ?_
    refine lv_iconst (v := 1) hx hb dX2_type_8 (by decide) ?_
    refine lv_icmp_lt (tgt := 18) hx hb dX2_type_9 (by decide) (fun h4 => ?_) (fun h4 => ?_)
    · replace hF := ip h4 hF
      refine lv_iconst (v := 0) hx hb dX2_type_18 (by decide) ?_
      exact hQ _ _ _ _ _ _ (Option.some.inj hF) rfl hP hD hS dX2_type_19
    · replace hF := iq h4 hF
      refine lv_iload_n hx hb dX2_type_12 rfl (lv_at hl 2 rfl) ?_
      refine lv_bipush (v := 6) hx hb dX2_type_13 (by decide) ?_
      refine lv_icmp_le (tgt := 20) hx hb dX2_type_15 (by decide) (fun h5 => ?_) (fun h5 => ?_)
      · replace hF := ip h5 hF
        refine lv_iload_n hx hb dX2_type_20 rfl (lv_at hl 3 rfl) ?_
        refine lv_if_lt (tgt := 41) hx hb dX2_type_21 (by decide) (fun h6 => ?_) (fun h6 => ?_)
        · replace hF := ip h6 hF
          refine lv_iconst (v := 0) hx hb dX2_type_41 (by decide) ?_
          exact hQ _ _ _ _ _ _ (Option.some.inj hF) rfl hP hD hS dX2_type_42
        · replace hF := iq h6 hF
          refine lv_iload_n hx hb dX2_type_24 rfl (lv_at hl 3 rfl) ?_
          refine lv_iload_n hx hb dX2_type_25 rfl (lv_at hl 2 rfl) ?_
          refine lv_ishr hx hb dX2_type_26 ?_
          refine lv_if_ne (tgt := 41) hx hb dX2_type_27 (by decide) (fun h7 => ?_) (fun h7 => ?_)
          · replace hF := iq h7 hF
            refine lv_iconst (v := 0) hx hb dX2_type_41 (by decide) ?_
            exact hQ _ _ _ _ _ _ (Option.some.inj hF) rfl hP hD hS dX2_type_42
          · replace hF := ip h7 hF
            refine lv_aload_n hx hb dX2_type_30 rfl (lv_at hl 0 rfl) ?_
            refine va_get (D := (dC, dI)) (ci := 2) (v := .ref (a 0)) (C := RX2) (T := TX2) (N := 5) hx hb hts hin hown hK hP 14 rfl rfl 1 (by decide) fl19 (fun _ h9 => h9) rfl dX2_type_31 ?_
            refine lv_iload_n hx hb dX2_type_34 rfl (lv_at hl 1 rfl) ?_
            obtain ⟨q8, e9, hF⟩ := bd hF
            refine callVI (C := RX0) (ci := 0) (q0 := 0) (As := [.int x1]) (rest := []) ⟨hx, hb, hml, hown, hts⟩ (c_X0_hasBlockOfType l dC dI cI cZ a q1.2 x1 q8 e9) gX2_type_X0_hasBlockOfType rfl hd_X0_hasBlockOfType rfl rfl rfl ⟨Nat.le_of_ble_eq_true rfl, Nat.le_of_ble_eq_true rfl⟩ True.intro hK hP hD hS hA rfl hl.1 rfl (Nat.le_of_ble_eq_true rfl) dX2_type_35 (fun H locs hP hD hS => ?_)
            refine lv_if_eq (tgt := 43) hx hb dX2_type_38 (by decide) (fun h10 => ?_) (fun h10 => ?_)
            · replace hF := ip h10 hF
              refine lv_aload_n hx hb dX2_type_43 rfl (lv_at hl 0 rfl) ?_
              refine va_get (D := (dC, dI)) (ci := 2) (v := .ref (a 0)) (C := RX2) (T := TX2) (N := 5) hx hb hts hin hown hK hP 14 rfl rfl 1 (by decide) fl19 (fun _ h9 => h9) rfl dX2_type_44 ?_
              refine lv_iload_n hx hb dX2_type_47 rfl (lv_at hl 1 rfl) ?_
              refine lv_iload_n hx hb dX2_type_48 rfl (lv_at hl 2 rfl) ?_
              refine lv_iload_n hx hb dX2_type_49 rfl (lv_at hl 3 rfl) ?_
              obtain ⟨q11, e12, hF⟩ := bd hF
              refine callVV (C := RX0) (ci := 0) (q0 := 0) (As := [.int x1, .int x2, .int x3]) (rest := []) ⟨hx, hb, hml, hown, hts⟩ (c_X0_changeType l dC dI cI cZ a q8.2 x1 x2 x3 q11 e12) gX2_type_X0_changeType rfl hd_X0_changeType rfl rfl rfl ⟨Nat.le_of_ble_eq_true rfl, Nat.le_of_ble_eq_true rfl⟩ True.intro hK hP hD hS hA rfl hl.1 rfl (Nat.le_of_ble_eq_true rfl) dX2_type_50 (fun H locs hP hD hS => ?_)
              refine lv_iconst (v := 1) hx hb dX2_type_53 (by decide) ?_
              exact hQ _ _ _ _ _ _ (Option.some.inj hF) rfl hP hD hS dX2_type_54
            · replace hF := iq h10 hF
              refine lv_iconst (v := 0) hx hb dX2_type_41 (by decide) ?_
              exact hQ _ _ _ _ _ _ (Option.some.inj hF) rfl hP hD hS dX2_type_42
      · replace hF := iq h5 hF
        refine lv_iconst (v := 0) hx hb dX2_type_18 (by decide) ?_
        exact hQ _ _ _ _ _ _ (Option.some.inj hF) rfl hP hD hS dX2_type_19
theorem hd_X2_type : yX2_type.cls = RX2 ∧ yX2_type.cls ≠ "java/lang/invoke/MethodHandle" ∧ yX2_type.cls ≠ "java/lang/invoke/VarHandle" ∧ (parseMethodDescriptor yX2_type.desc).map (fun d => d.parameters.length) = some 3 := by decide +kernel

def F_X2_isOperand_10 (u : St) (x0 : Int32) : Option (Int32 × St) := (if x0 < 16 then (some (0, u)) else (if 48 ≤ x0 then (some (0, u)) else (some (1, u))))
def F_X2_isOperand (u : St) (x0 : Int32) : Option (Int32 × St) := (if x0 < 0 then F_X2_isOperand_10 u x0 else (if x0 < 8 then (some (1, u)) else F_X2_isOperand_10 u x0))
set_option maxRecDepth 100000 in
set_option maxHeartbeats 4000000 in
theorem c_X2_isOperand (l : Launch) (dC : Nat → ClassId) (dI : Nat → Nat → Nat) (cI cZ : ClassId) (a : Nat → Nat) (u : St) (x0 : Int32) (o : Int32 × St) (hF : F_X2_isOperand u x0 = some o) : MI l yX2_isOperand wsX2_isOperand 0 0 none dC dI cI cZ (wC a cI cZ) [.int x0] u o := by
  refine miOf (cc := cX2_isOperand) (maxL := 1) (ret := .boolean) (by decide) rfl (Nat.le_of_ble_eq_true rfl) ?_
  intro p e s m args below meth c A Q H locs ls hx hb hml hts hown hK hA hz hQ hP hD hS hl
  replace hown : s.vm.findClass RX2 = some m.cls := hown
  replace hl : lv_has ls 1 [(0, .int x0)] := hl
  have b10 : ∀  (x0 : Int32) (u : St), F_X2_isOperand_10 u x0 = some o → GW p l e (rmK 0 0) s m args below meth c Q dC dI (wC a cI cZ) A 1 10 [(0, .int x0)] [] u := by
      intro  x0 u hF H locs ls hP hD hS hl
      unfold F_X2_isOperand_10 at hF
      refine lv_iload_n hx hb dX2_isOperand_10 rfl (lv_at hl 0 rfl) ?_
      refine lv_bipush (v := 16) hx hb dX2_isOperand_11 (by decide) ?_
      refine lv_icmp_lt (tgt := 26) hx hb dX2_isOperand_13 (by decide) (fun h1 => ?_) (fun h1 => ?_)
      · replace hF := ip h1 hF
        refine lv_iconst (v := 0) hx hb dX2_isOperand_26 (by decide) ?_
        exact hQ _ _ _ _ _ _ (Option.some.inj hF) rfl hP hD hS dX2_isOperand_27
      · replace hF := iq h1 hF
        refine lv_iload_n hx hb dX2_isOperand_16 rfl (lv_at hl 0 rfl) ?_
        refine lv_bipush (v := 48) hx hb dX2_isOperand_17 (by decide) ?_
        refine lv_icmp_ge (tgt := 26) hx hb dX2_isOperand_19 (by decide) (fun h2 => ?_) (fun h2 => ?_)
        · replace hF := ip h2 hF
          refine lv_iconst (v := 0) hx hb dX2_isOperand_26 (by decide) ?_
          exact hQ _ _ _ _ _ _ (Option.some.inj hF) rfl hP hD hS dX2_isOperand_27
        · replace hF := iq h2 hF
          refine lv_iconst (v := 1) hx hb dX2_isOperand_22 (by decide) ?_
          refine lv_goto (tgt := 27) hx hb dX2_isOperand_23 (by decide) ?_
          exact hQ _ _ _ _ _ _ (Option.some.inj hF) rfl hP hD hS dX2_isOperand_27
  unfold F_X2_isOperand at hF
  refine lv_iload_n hx hb dX2_isOperand_0 rfl (lv_at hl 0 rfl) ?_
  refine lv_if_lt (tgt := 10) hx hb dX2_isOperand_1 (by decide) (fun h1 => ?_) (fun h1 => ?_)
  · replace hF := ip h1 hF
    exact b10  x0 u hF H locs ls hP hD hS (lv_sub hl [0] rfl)
  · replace hF := iq h1 hF
    refine lv_iload_n hx hb dX2_isOperand_4 rfl (lv_at hl 0 rfl) ?_
    refine lv_bipush (v := 8) hx hb dX2_isOperand_5 (by decide) ?_
    refine lv_icmp_lt (tgt := 22) hx hb dX2_isOperand_7 (by decide) (fun h2 => ?_) (fun h2 => ?_)
    · replace hF := ip h2 hF
      refine lv_iconst (v := 1) hx hb dX2_isOperand_22 (by decide) ?_
      refine lv_goto (tgt := 27) hx hb dX2_isOperand_23 (by decide) ?_
      exact hQ _ _ _ _ _ _ (Option.some.inj hF) rfl hP hD hS dX2_isOperand_27
    · replace hF := iq h2 hF
      exact b10  x0 u hF H locs ls hP hD hS (lv_sub hl [0] rfl)
theorem hd_X2_isOperand : yX2_isOperand.cls ≠ "java/lang/invoke/MethodHandle" ∧ yX2_isOperand.cls ≠ "java/lang/invoke/VarHandle" ∧ (parseMethodDescriptor yX2_isOperand.desc).map (fun d => d.parameters.length) = some 1 := by decide +kernel

def F_X2_isPlace (u : St) (x0 : Int32) : Option (Int32 × St) := (if x0 < 0 then (some (0, u)) else (if 40 ≤ x0 then (some (0, u)) else (some (1, u))))
set_option maxRecDepth 100000 in
set_option maxHeartbeats 4000000 in
theorem c_X2_isPlace (l : Launch) (dC : Nat → ClassId) (dI : Nat → Nat → Nat) (cI cZ : ClassId) (a : Nat → Nat) (u : St) (x0 : Int32) (o : Int32 × St) (hF : F_X2_isPlace u x0 = some o) : MI l yX2_isPlace wsX2_isPlace 0 0 none dC dI cI cZ (wC a cI cZ) [.int x0] u o := by
  refine miOf (cc := cX2_isPlace) (maxL := 1) (ret := .boolean) (by decide) rfl (Nat.le_of_ble_eq_true rfl) ?_
  intro p e s m args below meth c A Q H locs ls hx hb hml hts hown hK hA hz hQ hP hD hS hl
  replace hown : s.vm.findClass RX2 = some m.cls := hown
  replace hl : lv_has ls 1 [(0, .int x0)] := hl
  unfold F_X2_isPlace at hF
  refine lv_iload_n hx hb dX2_isPlace_0 rfl (lv_at hl 0 rfl) ?_
  refine lv_if_lt (tgt := 14) hx hb dX2_isPlace_1 (by decide) (fun h1 => ?_) (fun h1 => ?_)
  · replace hF := ip h1 hF
    refine lv_iconst (v := 0) hx hb dX2_isPlace_14 (by decide) ?_
    exact hQ _ _ _ _ _ _ (Option.some.inj hF) rfl hP hD hS dX2_isPlace_15
  · replace hF := iq h1 hF
    refine lv_iload_n hx hb dX2_isPlace_4 rfl (lv_at hl 0 rfl) ?_
    refine lv_bipush (v := 40) hx hb dX2_isPlace_5 (by decide) ?_
    refine lv_icmp_ge (tgt := 14) hx hb dX2_isPlace_7 (by decide) (fun h2 => ?_) (fun h2 => ?_)
    · replace hF := ip h2 hF
      refine lv_iconst (v := 0) hx hb dX2_isPlace_14 (by decide) ?_
      exact hQ _ _ _ _ _ _ (Option.some.inj hF) rfl hP hD hS dX2_isPlace_15
    · replace hF := iq h2 hF
      refine lv_iconst (v := 1) hx hb dX2_isPlace_10 (by decide) ?_
      refine lv_goto (tgt := 15) hx hb dX2_isPlace_11 (by decide) ?_
      exact hQ _ _ _ _ _ _ (Option.some.inj hF) rfl hP hD hS dX2_isPlace_15
theorem hd_X2_isPlace : yX2_isPlace.cls ≠ "java/lang/invoke/MethodHandle" ∧ yX2_isPlace.cls ≠ "java/lang/invoke/VarHandle" ∧ (parseMethodDescriptor yX2_isPlace.desc).map (fun d => d.parameters.length) = some 1 := by decide +kernel

def F_X2_fits (u : St) (x0 x1 : Int32) : Option (Int32 × St) := (if x0 = 1 then ((F_X2_isOperand u x1).bind fun q2 => (if ¬ (q2.1 = 0 ∨ q2.1 = 1) then none else some (q2.1, q2.2))) else (if x0 = 2 then ((F_X2_isOperand u x1).bind fun q5 => (if ¬ (q5.1 = 0 ∨ q5.1 = 1) then none else some (q5.1, q5.2))) else (if x0 = 3 then ((F_X2_isPlace u x1).bind fun q8 => (if ¬ (q8.1 = 0 ∨ q8.1 = 1) then none else some (q8.1, q8.2))) else (if x0 = 4 then ((F_X2_isType u x1).bind fun q11 => (if ¬ (q11.1 = 0 ∨ q11.1 = 1) then none else some (q11.1, q11.2))) else (some (1, u))))))
set_option maxRecDepth 100000 in
set_option maxHeartbeats 4000000 in
theorem c_X2_fits (l : Launch) (dC : Nat → ClassId) (dI : Nat → Nat → Nat) (cI cZ : ClassId) (a : Nat → Nat) (u : St) (x0 x1 : Int32) (o : Int32 × St) (hF : F_X2_fits u x0 x1 = some o) : MI l yX2_fits wsX2_fits 1 20 none dC dI cI cZ (wC a cI cZ) [.int x0, .int x1] u o := by
  refine miOf (cc := cX2_fits) (maxL := 2) (ret := .boolean) (by decide) rfl (Nat.le_of_ble_eq_true rfl) ?_
  intro p e s m args below meth c A Q H locs ls hx hb hml hts hown hK hA hz hQ hP hD hS hl
  replace hown : s.vm.findClass RX2 = some m.cls := hown
  replace hl : lv_has ls 2 [(0, .int x0), (1, .int x1)] := hl
  unfold F_X2_fits at hF
  refine lv_iload_n hx hb dX2_fits_0 rfl (lv_at hl 0 rfl) ?_
  by_cases h1 : x0 = 1
  · replace hF := ip h1 hF
    refine lv_tableIn (tgt := 32) hx hb dX2_fits_1 (by rw [h1]; decide) (by rw [h1]; decide) (off := 31) (by rw [h1]; decide) (by decide) ?_
    refine lv_iload_n hx hb dX2_fits_32 rfl (lv_at hl 1 rfl) ?_
    obtain ⟨q2, e3, hF⟩ := bd hF
    refine callSI (As := [.int x1]) (rest := []) ⟨hx, hb, hml, hown, hts⟩ (c_X2_isOperand l dC dI cI cZ a u x1 q2 e3) gX2_fits_X2_isOperand rfl hd_X2_isOperand ⟨Nat.le_of_ble_eq_true rfl, Nat.le_of_ble_eq_true rfl⟩ True.intro hK hP hD hS hA rfl hl.1 rfl (Nat.le_of_ble_eq_true rfl) dX2_fits_33 (fun H locs hP hD hS => ?_)
    obtain ⟨hn9, hF⟩ := ck hF
    exact hQ _ _ _ _ _ _ (Option.some.inj hF) (nb01 hn9) hP hD hS dX2_fits_36
  replace hF := iq h1 hF
  by_cases h4 : x0 = 2
  · replace hF := ip h4 hF
    refine lv_tableIn (tgt := 32) hx hb dX2_fits_1 (by rw [h4]; decide) (by rw [h4]; decide) (off := 31) (by rw [h4]; decide) (by decide) ?_
    refine lv_iload_n hx hb dX2_fits_32 rfl (lv_at hl 1 rfl) ?_
    obtain ⟨q5, e6, hF⟩ := bd hF
    refine callSI (As := [.int x1]) (rest := []) ⟨hx, hb, hml, hown, hts⟩ (c_X2_isOperand l dC dI cI cZ a u x1 q5 e6) gX2_fits_X2_isOperand rfl hd_X2_isOperand ⟨Nat.le_of_ble_eq_true rfl, Nat.le_of_ble_eq_true rfl⟩ True.intro hK hP hD hS hA rfl hl.1 rfl (Nat.le_of_ble_eq_true rfl) dX2_fits_33 (fun H locs hP hD hS => ?_)
    obtain ⟨hn9, hF⟩ := ck hF
    exact hQ _ _ _ _ _ _ (Option.some.inj hF) (nb01 hn9) hP hD hS dX2_fits_36
  replace hF := iq h4 hF
  by_cases h7 : x0 = 3
  · replace hF := ip h7 hF
    refine lv_tableIn (tgt := 37) hx hb dX2_fits_1 (by rw [h7]; decide) (by rw [h7]; decide) (off := 36) (by rw [h7]; decide) (by decide) ?_
    refine lv_iload_n hx hb dX2_fits_37 rfl (lv_at hl 1 rfl) ?_
    obtain ⟨q8, e9, hF⟩ := bd hF
    refine callSI (As := [.int x1]) (rest := []) ⟨hx, hb, hml, hown, hts⟩ (c_X2_isPlace l dC dI cI cZ a u x1 q8 e9) gX2_fits_X2_isPlace rfl hd_X2_isPlace ⟨Nat.le_of_ble_eq_true rfl, Nat.le_of_ble_eq_true rfl⟩ True.intro hK hP hD hS hA rfl hl.1 rfl (Nat.le_of_ble_eq_true rfl) dX2_fits_38 (fun H locs hP hD hS => ?_)
    obtain ⟨hn9, hF⟩ := ck hF
    exact hQ _ _ _ _ _ _ (Option.some.inj hF) (nb01 hn9) hP hD hS dX2_fits_41
  replace hF := iq h7 hF
  by_cases h10 : x0 = 4
  · replace hF := ip h10 hF
    refine lv_tableIn (tgt := 42) hx hb dX2_fits_1 (by rw [h10]; decide) (by rw [h10]; decide) (off := 41) (by rw [h10]; decide) (by decide) ?_
    refine lv_iload_n hx hb dX2_fits_42 rfl (lv_at hl 1 rfl) ?_
    obtain ⟨q11, e12, hF⟩ := bd hF
    refine callSI (As := [.int x1]) (rest := []) ⟨hx, hb, hml, hown, hts⟩ (c_X2_isType l dC dI cI cZ a u x1 q11 e12) gX2_fits_X2_isType rfl hd_X2_isType ⟨Nat.le_of_ble_eq_true rfl, Nat.le_of_ble_eq_true rfl⟩ True.intro hK hP hD hS hA rfl hl.1 rfl (Nat.le_of_ble_eq_true rfl) dX2_fits_43 (fun H locs hP hD hS => ?_)
    obtain ⟨hn9, hF⟩ := ck hF
    exact hQ _ _ _ _ _ _ (Option.some.inj hF) (nb01 hn9) hP hD hS dX2_fits_46
  replace hF := iq h10 hF
  refine lv_tableOut (tgt := 47) hx hb dX2_fits_1 (sw_out (fun v9 g1 g2 g3 => by
      have g4 : v9 = 1 ∨ v9 = 2 ∨ v9 = 3 ∨ v9 = 4 := by omega
      rcases g4 with rfl | rfl | rfl | rfl
      · exact h1 (Int32.toInt_inj.mp (g3.trans (by decide)))
      · exact h4 (Int32.toInt_inj.mp (g3.trans (by decide)))
      · exact h7 (Int32.toInt_inj.mp (g3.trans (by decide)))
      · exact h10 (Int32.toInt_inj.mp (g3.trans (by decide))))) (by decide) ?_
  refine lv_iconst (v := 1) hx hb dX2_fits_47 (by decide) ?_
  exact hQ _ _ _ _ _ _ (Option.some.inj hF) rfl hP hD hS dX2_fits_48
theorem hd_X2_fits : yX2_fits.cls ≠ "java/lang/invoke/MethodHandle" ∧ yX2_fits.cls ≠ "java/lang/invoke/VarHandle" ∧ (parseMethodDescriptor yX2_fits.desc).map (fun d => d.parameters.length) = some 2 := by decide +kernel

def F_X2_add (u : St) (x1 x2 x3 x4 : Int32) : Option (Int32 × St) := (if x1 < 0 then (some ((-1), u)) else (if x1 < 15 then (if (x1 < 0 ∨ 15 ≤ x1.toNatClampNeg) then none else ((F_X2_fits u ((rlX x1.toNatClampNeg)) x2).bind fun q4 => (if q4.1 = 0 then (some ((-2), q4.2)) else (if (x1 < 0 ∨ 15 ≤ x1.toNatClampNeg) then none else ((F_X2_fits q4.2 ((rlY x1.toNatClampNeg)) x3).bind fun q8 => (if q8.1 = 0 then (some ((-2), q8.2)) else (if (x1 < 0 ∨ 15 ≤ x1.toNatClampNeg) then none else ((F_X2_fits q8.2 ((rlZ x1.toNatClampNeg)) x4).bind fun q12 => (if q12.1 = 0 then (some ((-2), q12.2)) else ((F_X1_isFull q12.2).bind fun q15 => (if q15.1 = 0 then ((F_X1_append q15.2 x1 x2 x3 x4).bind fun q18 => (some (q18.1, q18.2))) else (some ((-3), q15.2))))))))))))) else (some ((-1), u))))
set_option maxRecDepth 100000 in
set_option maxHeartbeats 4000000 in
theorem c_X2_add (l : Launch) (dC : Nat → ClassId) (dI : Nat → Nat → Nat) (cI cZ : ClassId) (a : Nat → Nat) (t : Nat → Nat) (u : St) (x1 x2 x3 x4 : Int32) (o : Int32 × St) (hF : F_X2_add u x1 x2 x3 x4 = some o) : MI l yX2_add wsX2_add 2 41 (some t) dC dI cI cZ (wC a cI cZ) [.ref (a 14), .int x1, .int x2, .int x3, .int x4] u o := by
  refine miOf (cc := cX2_add) (maxL := 5) (ret := .int) (by decide) rfl (Nat.le_of_ble_eq_true rfl) ?_
  intro p e s m args below meth c A Q H locs ls hx hb hml hts hown hK hA hz hQ hP hD hS hl
  replace hown : s.vm.findClass RX2 = some m.cls := hown
  replace hl : lv_has ls 5 [(0, .ref (a 14)), (1, .int x1), (2, .int x2), (3, .int x3), (4, .int x4)] := hl
  have hin : ∀ w ∈ u_ws RX2 TX2 5, w ∈ wsX2_add := by decide +kernel
  have fl12 := hts (.fieldLink RX2 12 "CountedHeap" "program" "LCountedHeap$Program;") (by decide +kernel)
  unfold F_X2_add at hF
  refine lv_iload_n hx hb dX2_add_0 rfl (lv_at hl 1 rfl) ?_
  refine lv_if_lt (tgt := 12) hx hb dX2_add_1 (by decide) (fun h1 => ?_) (fun h1 => ?_)
  · replace hF := ip h1 hF
    refine lv_iconst (v := (-1)) hx hb dX2_add_12 (by decide) ?_
    exact hQ _ _ _ _ _ _ (Option.some.inj hF) (vp_nar_int _) hP hD hS dX2_add_13
  · replace hF := iq h1 hF
    refine lv_iload_n hx hb dX2_add_4 rfl (lv_at hl 1 rfl) ?_
    refine va_gets hx hb hz.1.1 hS hown (hts (.fieldLink RX2 45 "CountedHeap" "ROLE_OF_X" "[I") (by decide +kernel)) (fun _ h9 => h9) dX2_add_5 ?_
    refine va_tlen hx hb hz.1.2 hS (v := 15) (by decide) dX2_add_8 ?_
    refine lv_icmp_lt (tgt := 14) hx hb dX2_add_9 (by decide) (fun h2 => ?_) (fun h2 => ?_)
    · replace hF := ip h2 hF
      refine va_gets hx hb hz.1.1 hS hown (hts (.fieldLink RX2 45 "CountedHeap" "ROLE_OF_X" "[I") (by decide +kernel)) (fun _ h9 => h9) dX2_add_14 ?_
      refine lv_iload_n hx hb dX2_add_17 rfl (lv_at hl 1 rfl) ?_
      obtain ⟨hi3, hF⟩ := ck hF
      refine va_ti hx hb hz.1.2 hS hi3 (v := .int (rlX x1.toNatClampNeg)) rfl dX2_add_18 ?_
      refine lv_iload_n hx hb dX2_add_19 rfl (lv_at hl 2 rfl) ?_
      obtain ⟨q4, e5, hF⟩ := bd hF
      refine callSI (As := [.int (rlX x1.toNatClampNeg), .int x2]) (rest := []) ⟨hx, hb, hml, hown, hts⟩ (c_X2_fits l dC dI cI cZ a u ((rlX x1.toNatClampNeg)) x2 q4 e5) gX2_add_X2_fits rfl hd_X2_fits ⟨Nat.le_of_ble_eq_true rfl, Nat.le_of_ble_eq_true rfl⟩ True.intro hK hP hD hS hA rfl hl.1 rfl (Nat.le_of_ble_eq_true rfl) dX2_add_20 (fun H locs hP hD hS => ?_)
      refine lv_if_eq (tgt := 51) hx hb dX2_add_23 (by decide) (fun h6 => ?_) (fun h6 => ?_)
      · replace hF := ip h6 hF
        refine lv_bipush (v := (-2)) hx hb dX2_add_51 (by decide) ?_
        exact hQ _ _ _ _ _ _ (Option.some.inj hF) (vp_nar_int _) hP hD hS dX2_add_53
      · replace hF := iq h6 hF
        refine va_gets hx hb hz.2.1.1 hS hown (hts (.fieldLink RX2 52 "CountedHeap" "ROLE_OF_Y" "[I") (by decide +kernel)) (fun _ h9 => h9) dX2_add_26 ?_
        refine lv_iload_n hx hb dX2_add_29 rfl (lv_at hl 1 rfl) ?_
        obtain ⟨hi7, hF⟩ := ck hF
        refine va_ti hx hb hz.2.1.2 hS hi7 (v := .int (rlY x1.toNatClampNeg)) rfl dX2_add_30 ?_
        refine lv_iload_n hx hb dX2_add_31 rfl (lv_at hl 3 rfl) ?_
        obtain ⟨q8, e9, hF⟩ := bd hF
        refine callSI (As := [.int (rlY x1.toNatClampNeg), .int x3]) (rest := []) ⟨hx, hb, hml, hown, hts⟩ (c_X2_fits l dC dI cI cZ a q4.2 ((rlY x1.toNatClampNeg)) x3 q8 e9) gX2_add_X2_fits rfl hd_X2_fits ⟨Nat.le_of_ble_eq_true rfl, Nat.le_of_ble_eq_true rfl⟩ True.intro hK hP hD hS hA rfl hl.1 rfl (Nat.le_of_ble_eq_true rfl) dX2_add_32 (fun H locs hP hD hS => ?_)
        refine lv_if_eq (tgt := 51) hx hb dX2_add_35 (by decide) (fun h10 => ?_) (fun h10 => ?_)
        · replace hF := ip h10 hF
          refine lv_bipush (v := (-2)) hx hb dX2_add_51 (by decide) ?_
          exact hQ _ _ _ _ _ _ (Option.some.inj hF) (vp_nar_int _) hP hD hS dX2_add_53
        · replace hF := iq h10 hF
          refine va_gets hx hb hz.2.2.1.1 hS hown (hts (.fieldLink RX2 55 "CountedHeap" "ROLE_OF_Z" "[I") (by decide +kernel)) (fun _ h9 => h9) dX2_add_38 ?_
          refine lv_iload_n hx hb dX2_add_41 rfl (lv_at hl 1 rfl) ?_
          obtain ⟨hi11, hF⟩ := ck hF
          refine va_ti hx hb hz.2.2.1.2 hS hi11 (v := .int (rlZ x1.toNatClampNeg)) rfl dX2_add_42 ?_
          refine lv_iload hx hb dX2_add_43 (lv_at hl 4 rfl) ?_
          obtain ⟨q12, e13, hF⟩ := bd hF
          refine callSI (As := [.int (rlZ x1.toNatClampNeg), .int x4]) (rest := []) ⟨hx, hb, hml, hown, hts⟩ (c_X2_fits l dC dI cI cZ a q8.2 ((rlZ x1.toNatClampNeg)) x4 q12 e13) gX2_add_X2_fits rfl hd_X2_fits ⟨Nat.le_of_ble_eq_true rfl, Nat.le_of_ble_eq_true rfl⟩ True.intro hK hP hD hS hA rfl hl.1 rfl (Nat.le_of_ble_eq_true rfl) dX2_add_45 (fun H locs hP hD hS => ?_)
          refine lv_if_ne (tgt := 54) hx hb dX2_add_48 (by decide) (fun h14 => ?_) (fun h14 => ?_)
          · replace hF := iq h14 hF
            refine lv_aload_n hx hb dX2_add_54 rfl (lv_at hl 0 rfl) ?_
            refine va_get (D := (dC, dI)) (ci := 2) (v := .ref (a 9)) (C := RX2) (T := TX2) (N := 5) hx hb hts hin hown hK hP 14 rfl rfl 0 (by decide) fl12 (fun _ h9 => h9) rfl dX2_add_55 ?_
            obtain ⟨q15, e16, hF⟩ := bd hF
            refine callVI (C := RX1) (ci := 1) (q0 := 9) (As := []) (rest := []) ⟨hx, hb, hml, hown, hts⟩ (c_X1_isFull l dC dI cI cZ a q12.2 q15 e16) gX2_add_X1_isFull rfl hd_X1_isFull rfl rfl rfl ⟨Nat.le_of_ble_eq_true rfl, Nat.le_of_ble_eq_true rfl⟩ True.intro hK hP hD hS hA rfl hl.1 rfl (Nat.le_of_ble_eq_true rfl) dX2_add_58 (fun H locs hP hD hS => ?_)
            refine lv_if_eq (tgt := 67) hx hb dX2_add_61 (by decide) (fun h17 => ?_) (fun h17 => ?_)
            · replace hF := ip h17 hF
              refine lv_aload_n hx hb dX2_add_67 rfl (lv_at hl 0 rfl) ?_
              refine va_get (D := (dC, dI)) (ci := 2) (v := .ref (a 9)) (C := RX2) (T := TX2) (N := 5) hx hb hts hin hown hK hP 14 rfl rfl 0 (by decide) fl12 (fun _ h9 => h9) rfl dX2_add_68 ?_
              refine lv_iload_n hx hb dX2_add_71 rfl (lv_at hl 1 rfl) ?_
              refine lv_iload_n hx hb dX2_add_72 rfl (lv_at hl 2 rfl) ?_
              refine lv_iload_n hx hb dX2_add_73 rfl (lv_at hl 3 rfl) ?_
              refine lv_iload hx hb dX2_add_74 (lv_at hl 4 rfl) ?_
              obtain ⟨q18, e19, hF⟩ := bd hF
              refine callVI (C := RX1) (ci := 1) (q0 := 9) (As := [.int x1, .int x2, .int x3, .int x4]) (rest := []) ⟨hx, hb, hml, hown, hts⟩ (c_X1_append l dC dI cI cZ a q15.2 x1 x2 x3 x4 q18 e19) gX2_add_X1_append rfl hd_X1_append rfl rfl rfl ⟨Nat.le_of_ble_eq_true rfl, Nat.le_of_ble_eq_true rfl⟩ True.intro hK hP hD hS hA rfl hl.1 rfl (Nat.le_of_ble_eq_true rfl) dX2_add_76 (fun H locs hP hD hS => ?_)
              exact hQ _ _ _ _ _ _ (Option.some.inj hF) (vp_nar_int _) hP hD hS dX2_add_79
            · replace hF := iq h17 hF
              refine lv_bipush (v := (-3)) hx hb dX2_add_64 (by decide) ?_
              exact hQ _ _ _ _ _ _ (Option.some.inj hF) (vp_nar_int _) hP hD hS dX2_add_66
          · replace hF := ip h14 hF
            refine lv_bipush (v := (-2)) hx hb dX2_add_51 (by decide) ?_
            exact hQ _ _ _ _ _ _ (Option.some.inj hF) (vp_nar_int _) hP hD hS dX2_add_53
    · replace hF := iq h2 hF
      refine lv_iconst (v := (-1)) hx hb dX2_add_12 (by decide) ?_
      exact hQ _ _ _ _ _ _ (Option.some.inj hF) (vp_nar_int _) hP hD hS dX2_add_13
theorem hd_X2_add : yX2_add.cls = RX2 ∧ yX2_add.cls ≠ "java/lang/invoke/MethodHandle" ∧ yX2_add.cls ≠ "java/lang/invoke/VarHandle" ∧ (parseMethodDescriptor yX2_add.desc).map (fun d => d.parameters.length) = some 4 := by decide +kernel

def F_X2_goTo (u : St) (x1 : Int32) : Option (Int32 × St) := (sb (su u 14 4 x1) fun u1 => (some (0, (su u1 14 3 0))))
set_option maxRecDepth 100000 in
set_option maxHeartbeats 4000000 in
theorem c_X2_goTo (l : Launch) (dC : Nat → ClassId) (dI : Nat → Nat → Nat) (cI cZ : ClassId) (a : Nat → Nat) (u : St) (x1 : Int32) (o : Int32 × St) (hF : F_X2_goTo u x1 = some o) : MV l yX2_goTo wsX2_goTo 0 0 none dC dI cI cZ (wC a cI cZ) [.ref (a 14), .int x1] u o := by
  refine mvOf (cc := cX2_goTo) (maxL := 2) (by decide) rfl (Nat.le_of_ble_eq_true rfl) ?_
  intro p e s m args below meth c A Q H locs ls hx hb hml hts hown hK hA hz hQ hP hD hS hl
  replace hown : s.vm.findClass RX2 = some m.cls := hown
  replace hl : lv_has ls 2 [(0, .ref (a 14)), (1, .int x1)] := hl
  have hin : ∀ w ∈ u_ws RX2 TX2 5, w ∈ wsX2_goTo := by decide +kernel
  have fl27 := hts (.fieldLink RX2 27 "CountedHeap" "openCalls" "I") (by decide +kernel)
  have fl31 := hts (.fieldLink RX2 31 "CountedHeap" "nextPlace" "I") (by decide +kernel)
  unfold F_X2_goTo at hF
  refine lv_aload_n hx hb dX2_goTo_0 rfl (lv_at hl 0 rfl) ?_
  refine lv_iload_n hx hb dX2_goTo_1 rfl (lv_at hl 1 rfl) ?_
  refine va_put (D := (dC, dI)) (ci := 2) (v := .int x1) (ty := .int) (C := RX2) (T := TX2) (N := 5) hx hb hts hin tyX2 tyX2_ok nmX2 hown hK hP hD hS 14 rfl rfl 4 (by decide) fl31 (fun _ h9 => h9) rfl (tyX2_ok 4 (by decide)) rfl rfl (Nat.le_of_ble_eq_true rfl) dX2_goTo_2 (fun H locs hP hD hS => ?_)
  replace hP := wC_p14_4 hP
  replace hD := wC_d14_4 hD
  replace hF := sbE hF
  generalize (su u 14 4 x1) = u1 at hF hP hD
  refine lv_aload_n hx hb dX2_goTo_5 rfl (lv_at hl 0 rfl) ?_
  refine lv_iconst (v := 0) hx hb dX2_goTo_6 (by decide) ?_
  refine va_put (D := (dC, dI)) (ci := 2) (v := .int 0) (ty := .int) (C := RX2) (T := TX2) (N := 5) hx hb hts hin tyX2 tyX2_ok nmX2 hown hK hP hD hS 14 rfl rfl 3 (by decide) fl27 (fun _ h9 => h9) rfl (tyX2_ok 3 (by decide)) rfl rfl (Nat.le_of_ble_eq_true rfl) dX2_goTo_7 (fun H locs hP hD hS => ?_)
  replace hP := wC_p14_3 hP
  replace hD := wC_d14_3 hD
  exact hQ _ _ _ _ _ (Option.some.inj hF) hP hD hS dX2_goTo_10
theorem hd_X2_goTo : yX2_goTo.cls = RX2 ∧ yX2_goTo.cls ≠ "java/lang/invoke/MethodHandle" ∧ yX2_goTo.cls ≠ "java/lang/invoke/VarHandle" ∧ (parseMethodDescriptor yX2_goTo.desc).map (fun d => d.parameters.length) = some 1 := by decide +kernel

def F_X2_clear (u : St) : Option (Int32 × St) := ((F_X2_goTo u 0).bind fun q1 => ((F_X1_removeAll q1.2).bind fun q3 => (some (q3.1, q3.2))))
set_option maxRecDepth 100000 in
set_option maxHeartbeats 4000000 in
theorem c_X2_clear (l : Launch) (dC : Nat → ClassId) (dI : Nat → Nat → Nat) (cI cZ : ClassId) (a : Nat → Nat) (u : St) (o : Int32 × St) (hF : F_X2_clear u = some o) : MI l yX2_clear wsX2_clear 1 21 none dC dI cI cZ (wC a cI cZ) [.ref (a 14)] u o := by
  refine miOf (cc := cX2_clear) (maxL := 1) (ret := .int) (by decide) rfl (Nat.le_of_ble_eq_true rfl) ?_
  intro p e s m args below meth c A Q H locs ls hx hb hml hts hown hK hA hz hQ hP hD hS hl
  replace hown : s.vm.findClass RX2 = some m.cls := hown
  replace hl : lv_has ls 1 [(0, .ref (a 14))] := hl
  have hin : ∀ w ∈ u_ws RX2 TX2 5, w ∈ wsX2_clear := by decide +kernel
  have fl12 := hts (.fieldLink RX2 12 "CountedHeap" "program" "LCountedHeap$Program;") (by decide +kernel)
  unfold F_X2_clear at hF
  refine lv_aload_n hx hb dX2_clear_0 rfl (lv_at hl 0 rfl) ?_
  refine lv_iconst (v := 0) hx hb dX2_clear_1 (by decide) ?_
  obtain ⟨q1, e2, hF⟩ := bd hF
  refine callVV (C := RX2) (ci := 2) (q0 := 14) (As := [.int 0]) (rest := []) ⟨hx, hb, hml, hown, hts⟩ (c_X2_goTo l dC dI cI cZ a u 0 q1 e2) gX2_clear_X2_goTo rfl hd_X2_goTo rfl rfl rfl ⟨Nat.le_of_ble_eq_true rfl, Nat.le_of_ble_eq_true rfl⟩ True.intro hK hP hD hS hA rfl hl.1 rfl (Nat.le_of_ble_eq_true rfl) dX2_clear_2 (fun H locs hP hD hS => ?_)
  refine lv_aload_n hx hb dX2_clear_5 rfl (lv_at hl 0 rfl) ?_
  refine va_get (D := (dC, dI)) (ci := 2) (v := .ref (a 9)) (C := RX2) (T := TX2) (N := 5) hx hb hts hin hown hK hP 14 rfl rfl 0 (by decide) fl12 (fun _ h9 => h9) rfl dX2_clear_6 ?_
  obtain ⟨q3, e4, hF⟩ := bd hF
  refine callVI (C := RX1) (ci := 1) (q0 := 9) (As := []) (rest := []) ⟨hx, hb, hml, hown, hts⟩ (c_X1_removeAll l dC dI cI cZ a q1.2 q3 e4) gX2_clear_X1_removeAll rfl hd_X1_removeAll rfl rfl rfl ⟨Nat.le_of_ble_eq_true rfl, Nat.le_of_ble_eq_true rfl⟩ True.intro hK hP hD hS hA rfl hl.1 rfl (Nat.le_of_ble_eq_true rfl) dX2_clear_9 (fun H locs hP hD hS => ?_)
  exact hQ _ _ _ _ _ _ (Option.some.inj hF) (vp_nar_int _) hP hD hS dX2_clear_12
theorem hd_X2_clear : yX2_clear.cls = RX2 ∧ yX2_clear.cls ≠ "java/lang/invoke/MethodHandle" ∧ yX2_clear.cls ≠ "java/lang/invoke/VarHandle" ∧ (parseMethodDescriptor yX2_clear.desc).map (fun d => d.parameters.length) = some 0 := by decide +kernel

def F_X2_start (u : St) (x1 : Int32) : Option (Int32 × St) := ((F_X2_isPlace u x1).bind fun q1 => (if q1.1 = 0 then (some (0, q1.2)) else ((F_X2_goTo q1.2 x1).bind fun q4 => (some (1, q4.2)))))
set_option maxRecDepth 100000 in
set_option maxHeartbeats 4000000 in
theorem c_X2_start (l : Launch) (dC : Nat → ClassId) (dI : Nat → Nat → Nat) (cI cZ : ClassId) (a : Nat → Nat) (u : St) (x1 : Int32) (o : Int32 × St) (hF : F_X2_start u x1 = some o) : MI l yX2_start wsX2_start 1 21 none dC dI cI cZ (wC a cI cZ) [.ref (a 14), .int x1] u o := by
  refine miOf (cc := cX2_start) (maxL := 2) (ret := .boolean) (by decide) rfl (Nat.le_of_ble_eq_true rfl) ?_
  intro p e s m args below meth c A Q H locs ls hx hb hml hts hown hK hA hz hQ hP hD hS hl
  replace hown : s.vm.findClass RX2 = some m.cls := hown
  replace hl : lv_has ls 2 [(0, .ref (a 14)), (1, .int x1)] := hl
  unfold F_X2_start at hF
  refine lv_iload_n hx hb dX2_start_0 rfl (lv_at hl 1 rfl) ?_
  obtain ⟨q1, e2, hF⟩ := bd hF
  refine callSI (As := [.int x1]) (rest := []) ⟨hx, hb, hml, hown, hts⟩ (c_X2_isPlace l dC dI cI cZ a u x1 q1 e2) gX2_start_X2_isPlace rfl hd_X2_isPlace ⟨Nat.le_of_ble_eq_true rfl, Nat.le_of_ble_eq_true rfl⟩ True.intro hK hP hD hS hA rfl hl.1 rfl (Nat.le_of_ble_eq_true rfl) dX2_start_1 (fun H locs hP hD hS => ?_)
  refine lv_if_ne (tgt := 9) hx hb dX2_start_4 (by decide) (fun h3 => ?_) (fun h3 => ?_)
  · replace hF := iq h3 hF
    refine lv_aload_n hx hb dX2_start_9 rfl (lv_at hl 0 rfl) ?_
    refine lv_iload_n hx hb dX2_start_10 rfl (lv_at hl 1 rfl) ?_
    obtain ⟨q4, e5, hF⟩ := bd hF
    refine callVV (C := RX2) (ci := 2) (q0 := 14) (As := [.int x1]) (rest := []) ⟨hx, hb, hml, hown, hts⟩ (c_X2_goTo l dC dI cI cZ a q1.2 x1 q4 e5) gX2_start_X2_goTo rfl hd_X2_goTo rfl rfl rfl ⟨Nat.le_of_ble_eq_true rfl, Nat.le_of_ble_eq_true rfl⟩ True.intro hK hP hD hS hA rfl hl.1 rfl (Nat.le_of_ble_eq_true rfl) dX2_start_11 (fun H locs hP hD hS => ?_)
    refine lv_iconst (v := 1) hx hb dX2_start_14 (by decide) ?_
    exact hQ _ _ _ _ _ _ (Option.some.inj hF) rfl hP hD hS dX2_start_15
  · replace hF := ip h3 hF
    refine lv_iconst (v := 0) hx hb dX2_start_7 (by decide) ?_
    exact hQ _ _ _ _ _ _ (Option.some.inj hF) rfl hP hD hS dX2_start_8
theorem hd_X2_start : yX2_start.cls = RX2 ∧ yX2_start.cls ≠ "java/lang/invoke/MethodHandle" ∧ yX2_start.cls ≠ "java/lang/invoke/VarHandle" ∧ (parseMethodDescriptor yX2_start.desc).map (fun d => d.parameters.length) = some 1 := by decide +kernel

def F_X2_checkWord (u : St) (x1 x2 : Int32) : Option (Nat × Int32 × St) := (if x1 = 0 then (some (1, 0, u)) else ((F_X0_hasWord u x1 x2).bind fun q2 => (if q2.1 = 0 then (some (2, 0, q2.2)) else (some (0, 0, q2.2)))))
theorem hd_X2_checkWord : yX2_checkWord.cls = RX2 ∧ yX2_checkWord.cls ≠ "java/lang/invoke/MethodHandle" ∧ yX2_checkWord.cls ≠ "java/lang/invoke/VarHandle" ∧ (parseMethodDescriptor yX2_checkWord.desc).map (fun d => d.parameters.length) = some 2 := by decide +kernel
set_option maxRecDepth 100000 in
set_option maxHeartbeats 4000000 in
theorem c_X2_checkWord_r (l : Launch) (dC : Nat → ClassId) (dI : Nat → Nat → Nat) (cI cZ : ClassId) (a : Nat → Nat) (u : St) (x1 x2 : Int32) (o : Int32 × St) (hF : F_X2_checkWord u x1 x2 = some (0, o)) : MV l yX2_checkWord wsX2_checkWord 6 82 none dC dI cI cZ (wC a cI cZ) [.ref (a 14), .int x1, .int x2] u o := by
  refine mvOf (cc := cX2_checkWord) (maxL := 3) (by decide) rfl (Nat.le_of_ble_eq_true rfl) ?_
  intro p e s m args below meth c A Q H locs ls hx hb hml hts hown hK hA hz hQ hP hD hS hl
  replace hown : s.vm.findClass RX2 = some m.cls := hown
  replace hl : lv_has ls 3 [(0, .ref (a 14)), (1, .int x1), (2, .int x2)] := hl
  have hin : ∀ w ∈ u_ws RX2 TX2 5, w ∈ wsX2_checkWord := by decide +kernel
  have fl19 := hts (.fieldLink RX2 19 "CountedHeap" "memory" "LCountedHeap$Memory;") (by decide +kernel)
  unfold F_X2_checkWord at hF
  refine lv_iload_n hx hb dX2_checkWord_0 rfl (lv_at hl 1 rfl) ?_
  refine lv_if_ne (tgt := 14) hx hb dX2_checkWord_1 (by decide) (fun h1 => ?_) (fun h1 => ?_)
  · replace hF := iq h1 hF
    refine lv_aload_n hx hb dX2_checkWord_14 rfl (lv_at hl 0 rfl) ?_
    refine va_get (D := (dC, dI)) (ci := 2) (v := .ref (a 0)) (C := RX2) (T := TX2) (N := 5) hx hb hts hin hown hK hP 14 rfl rfl 1 (by decide) fl19 (fun _ h9 => h9) rfl dX2_checkWord_15 ?_
    refine lv_iload_n hx hb dX2_checkWord_18 rfl (lv_at hl 1 rfl) ?_
    refine lv_iload_n hx hb dX2_checkWord_19 rfl (lv_at hl 2 rfl) ?_
    obtain ⟨q2, e3, hF⟩ := bd hF
    refine callVI (C := RX0) (ci := 0) (q0 := 0) (As := [.int x1, .int x2]) (rest := []) ⟨hx, hb, hml, hown, hts⟩ (c_X0_hasWord l dC dI cI cZ a u x1 x2 q2 e3) gX2_checkWord_X0_hasWord rfl hd_X0_hasWord rfl rfl rfl ⟨Nat.le_of_ble_eq_true rfl, Nat.le_of_ble_eq_true rfl⟩ True.intro hK hP hD hS hA rfl hl.1 rfl (Nat.le_of_ble_eq_true rfl) dX2_checkWord_20 (fun H locs hP hD hS => ?_)
    refine lv_if_ne (tgt := 36) hx hb dX2_checkWord_23 (by decide) (fun h4 => ?_) (fun h4 => ?_)
    · replace hF := iq h4 hF
      exact hQ _ _ _ _ _ (Prod.mk.inj (Option.some.inj hF)).2 hP hD hS dX2_checkWord_36
    · replace hF := ip h4 hF
      exact absurd (Prod.mk.inj (Option.some.inj hF)).1 (by decide)
  · replace hF := ip h1 hF
    exact absurd (Prod.mk.inj (Option.some.inj hF)).1 (by decide)
theorem wx_X2_checkWord_183 : ∀ w ∈ (vx_atS RX2 183 "java/lang/IllegalStateException" ["java/lang/RuntimeException", "java/lang/Exception"]).filter goodWord, w ∈ wsX2_checkWord := by decide +kernel
theorem wx_X2_checkWord_188 : ∀ w ∈ (vx_atS RX2 188 "java/lang/IndexOutOfBoundsException" ["java/lang/RuntimeException", "java/lang/Exception"]).filter goodWord, w ∈ wsX2_checkWord := by decide +kernel
set_option maxRecDepth 100000 in
set_option maxHeartbeats 4000000 in
theorem c_X2_checkWord_t (l : Launch) (hnt : l.stackTraces = false) (dC : Nat → ClassId) (dI : Nat → Nat → Nat) (cI cZ : ClassId) (a : Nat → Nat) (t : Nat → Nat) (u : St) (x1 x2 : Int32) (k : Nat) (o : Int32 × St) (hF : F_X2_checkWord u x1 x2 = some (k, o)) (hk : ¬ k = 0) : MX l yX2_checkWord wsX2_checkWord 6 82 (some t) dC dI cI cZ (wC a cI cZ) [.ref (a 14), .int x1, .int x2] u k o.2 := by
  refine mxOf (cc := cX2_checkWord) (maxL := 3) (ret := none) (by decide) rfl (Nat.le_of_ble_eq_true rfl) hnt (Nat.le_of_ble_eq_true rfl) (Nat.le_of_ble_eq_true rfl) ?_
  intro p e s m args below meth c A Q H locs ls hx hb hml hts hown hK hA hz hThr hOut hP hD hS hl
  replace hown : s.vm.findClass RX2 = some m.cls := hown
  replace hl : lv_has ls 3 [(0, .ref (a 14)), (1, .int x1), (2, .int x2)] := hl
  have hin : ∀ w ∈ u_ws RX2 TX2 5, w ∈ wsX2_checkWord := by decide +kernel
  have fl19 := hts (.fieldLink RX2 19 "CountedHeap" "memory" "LCountedHeap$Memory;") (by decide +kernel)
  unfold F_X2_checkWord at hF
  refine lv_iload_n hx hb dX2_checkWord_0 rfl (lv_at hl 1 rfl) ?_
  refine lv_if_ne (tgt := 14) hx hb dX2_checkWord_1 (by decide) (fun h1 => ?_) (fun h1 => ?_)
  · replace hF := iq h1 hF
    refine lv_aload_n hx hb dX2_checkWord_14 rfl (lv_at hl 0 rfl) ?_
    refine va_get (D := (dC, dI)) (ci := 2) (v := .ref (a 0)) (C := RX2) (T := TX2) (N := 5) hx hb hts hin hown hK hP 14 rfl rfl 1 (by decide) fl19 (fun _ h9 => h9) rfl dX2_checkWord_15 ?_
    refine lv_iload_n hx hb dX2_checkWord_18 rfl (lv_at hl 1 rfl) ?_
    refine lv_iload_n hx hb dX2_checkWord_19 rfl (lv_at hl 2 rfl) ?_
    obtain ⟨q2, e3, hF⟩ := bd hF
    refine callVI (C := RX0) (ci := 0) (q0 := 0) (As := [.int x1, .int x2]) (rest := []) ⟨hx, hb, hml, hown, hts⟩ (c_X0_hasWord l dC dI cI cZ a u x1 x2 q2 e3) gX2_checkWord_X0_hasWord rfl hd_X0_hasWord rfl rfl rfl ⟨Nat.le_of_ble_eq_true rfl, Nat.le_of_ble_eq_true rfl⟩ True.intro hK hP hD hS hA rfl hl.1 rfl (Nat.le_of_ble_eq_true rfl) dX2_checkWord_20 (fun H locs hP hD hS => ?_)
    refine lv_if_ne (tgt := 36) hx hb dX2_checkWord_23 (by decide) (fun h4 => ?_) (fun h4 => ?_)
    · replace hF := iq h4 hF
      exact absurd (Prod.mk.inj (Option.some.inj hF)).1.symm hk
    · replace hF := ip h4 hF
      obtain ⟨hk9, ho9⟩ := Prod.mk.inj (Option.some.inj hF)
      obtain ⟨sa, hsa⟩ := hz.2.2.2.2.1 (186, "the block has no such word") (List.mem_of_getElem? (i := 3) rfl)
      exact hThr H locs ls 26 184 186 188 sa "java/lang/IndexOutOfBoundsException" "the block has no such word" q2.2 (by rw [← hk9]; rfl) ho9 (by decide +kernel) (hts (.classLink RX2 184 "java/lang/IndexOutOfBoundsException") (by decide +kernel)) (hts (.initialized "java/lang/IndexOutOfBoundsException") (by decide +kernel)) hsa (vx_hat (B := dcls.map Cond.declares ++ [.castable "java/lang/IndexOutOfBoundsException" "java/lang/IndexOutOfBoundsException"]) (fun w h => hts w (wx_X2_checkWord_188 w h)) (by decide +kernel) (hzB hz 2 (by decide))) (by decide +kernel) dX2_checkWord_26 dX2_checkWord_29 dX2_checkWord_30 dX2_checkWord_32 dX2_checkWord_35 hP hD hS hl.1
  · replace hF := ip h1 hF
    obtain ⟨hk9, ho9⟩ := Prod.mk.inj (Option.some.inj hF)
    obtain ⟨sa, hsa⟩ := hz.2.2.2.2.1 (181, "the operand's pointer is nil") (List.mem_of_getElem? (i := 2) rfl)
    exact hThr H locs ls 4 179 181 183 sa "java/lang/IllegalStateException" "the operand's pointer is nil" u (by rw [← hk9]; rfl) ho9 (by decide +kernel) (hts (.classLink RX2 179 "java/lang/IllegalStateException") (by decide +kernel)) (hts (.initialized "java/lang/IllegalStateException") (by decide +kernel)) hsa (vx_hat (B := dcls.map Cond.declares ++ [.castable "java/lang/IllegalStateException" "java/lang/IllegalStateException"]) (fun w h => hts w (wx_X2_checkWord_183 w h)) (by decide +kernel) (hzB hz 1 (by decide))) (by decide +kernel) dX2_checkWord_4 dX2_checkWord_7 dX2_checkWord_8 dX2_checkWord_10 dX2_checkWord_13 hP hD hS hl.1

def F_X2_checkOperand_51 (u : St) (t0 t1 : Int32) : Option (Nat × Int32 × St) := (if t1 = t0 then (some (0, 0, u)) else (some (3, 0, u)))
def F_X2_checkOperand_33 (u : St) (x1 x2 : Int32) : Option (Nat × Int32 × St) := ((F_X0_holdsPointer u x2).bind fun q1 => (if x1 = 2 then F_X2_checkOperand_51 q1.2 1 (q1.1) else F_X2_checkOperand_51 q1.2 0 (q1.1)))
def F_X2_checkOperand_11 (u : St) (x1 x2 : Int32) : Option (Nat × Int32 × St) := (if x2 < 16 then F_X2_checkOperand_33 u x1 x2 else ((F_X0_blockOf u x2).bind fun q2 => ((F_X0_wordOf q2.2 x2).bind fun q4 => ((F_X2_checkWord q4.2 (q2.1) (q4.1)).bind fun q6 => (if q6.1 = 0 then F_X2_checkOperand_33 q6.2.2 x1 x2 else (some (q6.1, 0, q6.2.2)))))))
def F_X2_checkOperand (u : St) (x1 x2 : Int32) : Option (Nat × Int32 × St) := (if x1 = 1 then F_X2_checkOperand_11 u x1 x2 else (if x1 = 2 then F_X2_checkOperand_11 u x1 x2 else (some (0, 0, u))))
theorem hd_X2_checkOperand : yX2_checkOperand.cls = RX2 ∧ yX2_checkOperand.cls ≠ "java/lang/invoke/MethodHandle" ∧ yX2_checkOperand.cls ≠ "java/lang/invoke/VarHandle" ∧ (parseMethodDescriptor yX2_checkOperand.desc).map (fun d => d.parameters.length) = some 2 := by decide +kernel
set_option maxRecDepth 100000 in
set_option maxHeartbeats 4000000 in
theorem c_X2_checkOperand_r (l : Launch) (dC : Nat → ClassId) (dI : Nat → Nat → Nat) (cI cZ : ClassId) (a : Nat → Nat) (u : St) (x1 x2 : Int32) (o : Int32 × St) (hF : F_X2_checkOperand u x1 x2 = some (0, o)) : MV l yX2_checkOperand wsX2_checkOperand 7 104 none dC dI cI cZ (wC a cI cZ) [.ref (a 14), .int x1, .int x2] u o := by
  refine mvOf (cc := cX2_checkOperand) (maxL := 3) (by decide) rfl (Nat.le_of_ble_eq_true rfl) ?_
  intro p e s m args below meth c A Q H locs ls hx hb hml hts hown hK hA hz hQ hP hD hS hl
  replace hown : s.vm.findClass RX2 = some m.cls := hown
  replace hl : lv_has ls 3 [(0, .ref (a 14)), (1, .int x1), (2, .int x2)] := hl
  have hin : ∀ w ∈ u_ws RX2 TX2 5, w ∈ wsX2_checkOperand := by decide +kernel
  have fl19 := hts (.fieldLink RX2 19 "CountedHeap" "memory" "LCountedHeap$Memory;") (by decide +kernel)
  have b51 : ∀  (t0 t1 : Int32) (u : St), F_X2_checkOperand_51 u t0 t1 = some (0, o) → GW p l e (rmK 7 104) s m args below meth c Q dC dI (wC a cI cZ) A 3 51 [] [.int t0, .int t1] u := by
      intro  t0 t1 u hF H locs ls hP hD hS hl
      unfold F_X2_checkOperand_51 at hF
      refine lv_icmp_eq (tgt := 64) hx hb dX2_checkOperand_51 (by decide) (fun h1 => ?_) (fun h1 => ?_)
      · replace hF := ip h1 hF
        exact hQ _ _ _ _ _ (Prod.mk.inj (Option.some.inj hF)).2 hP hD hS dX2_checkOperand_64
      · replace hF := iq h1 hF
        exact absurd (Prod.mk.inj (Option.some.inj hF)).1 (by decide)
  have b33 : ∀  (x1 x2 : Int32) (u : St), F_X2_checkOperand_33 u x1 x2 = some (0, o) → GW p l e (rmK 7 104) s m args below meth c Q dC dI (wC a cI cZ) A 3 33 [(0, .ref (a 14)), (1, .int x1), (2, .int x2)] [] u := by
      intro  x1 x2 u hF H locs ls hP hD hS hl
      unfold F_X2_checkOperand_33 at hF
      refine lv_aload_n hx hb dX2_checkOperand_33 rfl (lv_at hl 0 rfl) ?_
      refine va_get (D := (dC, dI)) (ci := 2) (v := .ref (a 0)) (C := RX2) (T := TX2) (N := 5) hx hb hts hin hown hK hP 14 rfl rfl 1 (by decide) fl19 (fun _ h9 => h9) rfl dX2_checkOperand_34 ?_
      refine lv_iload_n hx hb dX2_checkOperand_37 rfl (lv_at hl 2 rfl) ?_
      obtain ⟨q1, e2, hF⟩ := bd hF
      refine callVI (C := RX0) (ci := 0) (q0 := 0) (As := [.int x2]) (rest := []) ⟨hx, hb, hml, hown, hts⟩ (c_X0_holdsPointer l dC dI cI cZ a u x2 q1 e2) gX2_checkOperand_X0_holdsPointer rfl hd_X0_holdsPointer rfl rfl rfl ⟨Nat.le_of_ble_eq_true rfl, Nat.le_of_ble_eq_true rfl⟩ True.intro hK hP hD hS hA rfl hl.1 rfl (Nat.le_of_ble_eq_true rfl) dX2_checkOperand_38 (fun H locs hP hD hS => ?_)
      refine lv_iload_n hx hb dX2_checkOperand_41 rfl (lv_at hl 1 rfl) ?_
      refine lv_iconst (v := 2) hx hb dX2_checkOperand_42 (by decide) ?_
      refine lv_icmp_ne (tgt := 50) hx hb dX2_checkOperand_43 (by decide) (fun h3 => ?_) (fun h3 => ?_)
      · replace hF := iq h3 hF
        refine lv_iconst (v := 0) hx hb dX2_checkOperand_50 (by decide) ?_
        exact b51  0 (q1.1) q1.2 hF H locs ls hP hD hS (lv_sub hl [] rfl)
      · replace hF := ip h3 hF
        refine lv_iconst (v := 1) hx hb dX2_checkOperand_46 (by decide) ?_
        refine lv_goto (tgt := 51) hx hb dX2_checkOperand_47 (by decide) ?_
        exact b51  1 (q1.1) q1.2 hF H locs ls hP hD hS (lv_sub hl [] rfl)
  have b11 : ∀  (x1 x2 : Int32) (u : St), F_X2_checkOperand_11 u x1 x2 = some (0, o) → GW p l e (rmK 7 104) s m args below meth c Q dC dI (wC a cI cZ) A 3 11 [(0, .ref (a 14)), (1, .int x1), (2, .int x2)] [] u := by
      intro  x1 x2 u hF H locs ls hP hD hS hl
      unfold F_X2_checkOperand_11 at hF
      refine lv_iload_n hx hb dX2_checkOperand_11 rfl (lv_at hl 2 rfl) ?_
      refine lv_bipush (v := 16) hx hb dX2_checkOperand_12 (by decide) ?_
      refine lv_icmp_lt (tgt := 33) hx hb dX2_checkOperand_14 (by decide) (fun h1 => ?_) (fun h1 => ?_)
      · replace hF := ip h1 hF
        exact b33  x1 x2 u hF H locs ls hP hD hS (lv_sub hl [0, 1, 2] rfl)
      · replace hF := iq h1 hF
        refine lv_aload_n hx hb dX2_checkOperand_17 rfl (lv_at hl 0 rfl) ?_
        refine lv_aload_n hx hb dX2_checkOperand_18 rfl (lv_at hl 0 rfl) ?_
        refine va_get (D := (dC, dI)) (ci := 2) (v := .ref (a 0)) (C := RX2) (T := TX2) (N := 5) hx hb hts hin hown hK hP 14 rfl rfl 1 (by decide) fl19 (fun _ h9 => h9) rfl dX2_checkOperand_19 ?_
        refine lv_iload_n hx hb dX2_checkOperand_22 rfl (lv_at hl 2 rfl) ?_
        obtain ⟨q2, e3, hF⟩ := bd hF
        refine callVI (C := RX0) (ci := 0) (q0 := 0) (As := [.int x2]) (rest := [.ref (a 14)]) ⟨hx, hb, hml, hown, hts⟩ (c_X0_blockOf l dC dI cI cZ a u x2 q2 e3) gX2_checkOperand_X0_blockOf rfl hd_X0_blockOf rfl rfl rfl ⟨Nat.le_of_ble_eq_true rfl, Nat.le_of_ble_eq_true rfl⟩ True.intro hK hP hD hS hA rfl hl.1 rfl (Nat.le_of_ble_eq_true rfl) dX2_checkOperand_23 (fun H locs hP hD hS => ?_)
        refine lv_iload_n hx hb dX2_checkOperand_26 rfl (lv_at hl 2 rfl) ?_
        obtain ⟨q4, e5, hF⟩ := bd hF
        refine callSI (As := [.int x2]) (rest := [.int q2.1, .ref (a 14)]) ⟨hx, hb, hml, hown, hts⟩ (c_X0_wordOf l dC dI cI cZ a q2.2 x2 q4 e5) gX2_checkOperand_X0_wordOf rfl hd_X0_wordOf ⟨Nat.le_of_ble_eq_true rfl, Nat.le_of_ble_eq_true rfl⟩ True.intro hK hP hD hS hA rfl hl.1 rfl (Nat.le_of_ble_eq_true rfl) dX2_checkOperand_27 (fun H locs hP hD hS => ?_)
        obtain ⟨q6, e7, hF⟩ := bd hF
        by_cases h8 : q6.1 = 0
        · replace hF := ip h8 hF
          refine callVV (C := RX2) (ci := 2) (q0 := 14) (As := [.int q2.1, .int q4.1]) (rest := []) ⟨hx, hb, hml, hown, hts⟩ (c_X2_checkWord_r l dC dI cI cZ a q4.2 (q2.1) (q4.1) q6.2 (e7.trans (congrArg some (Prod.ext h8 rfl)))) gX2_checkOperand_X2_checkWord rfl hd_X2_checkWord rfl rfl rfl ⟨Nat.le_of_ble_eq_true rfl, Nat.le_of_ble_eq_true rfl⟩ True.intro hK hP hD hS hA rfl hl.1 rfl (Nat.le_of_ble_eq_true rfl) dX2_checkOperand_30 (fun H locs hP hD hS => ?_)
          exact b33  x1 x2 q6.2.2 hF H locs ls hP hD hS (lv_sub hl [0, 1, 2] rfl)
        · replace hF := iq h8 hF
          exact absurd (Prod.mk.inj (Option.some.inj hF)).1 h8
  unfold F_X2_checkOperand at hF
  refine lv_iload_n hx hb dX2_checkOperand_0 rfl (lv_at hl 1 rfl) ?_
  refine lv_iconst (v := 1) hx hb dX2_checkOperand_1 (by decide) ?_
  refine lv_icmp_eq (tgt := 11) hx hb dX2_checkOperand_2 (by decide) (fun h1 => ?_) (fun h1 => ?_)
  · replace hF := ip h1 hF
    exact b11  x1 x2 u hF H locs ls hP hD hS (lv_sub hl [0, 1, 2] rfl)
  · replace hF := iq h1 hF
    refine lv_iload_n hx hb dX2_checkOperand_5 rfl (lv_at hl 1 rfl) ?_
    refine lv_iconst (v := 2) hx hb dX2_checkOperand_6 (by decide) ?_
    refine lv_icmp_eq (tgt := 11) hx hb dX2_checkOperand_7 (by decide) (fun h2 => ?_) (fun h2 => ?_)
    · replace hF := ip h2 hF
      exact b11  x1 x2 u hF H locs ls hP hD hS (lv_sub hl [0, 1, 2] rfl)
    · replace hF := iq h2 hF
      exact hQ _ _ _ _ _ (Prod.mk.inj (Option.some.inj hF)).2 hP hD hS dX2_checkOperand_10
theorem wx_X2_checkOperand_81 : ∀ w ∈ (vx_atS RX2 81 "java/lang/IllegalArgumentException" ["java/lang/RuntimeException", "java/lang/Exception"]).filter goodWord, w ∈ wsX2_checkOperand := by decide +kernel
set_option maxRecDepth 100000 in
set_option maxHeartbeats 4000000 in
theorem c_X2_checkOperand_t (l : Launch) (hnt : l.stackTraces = false) (dC : Nat → ClassId) (dI : Nat → Nat → Nat) (cI cZ : ClassId) (a : Nat → Nat) (t : Nat → Nat) (u : St) (x1 x2 : Int32) (k : Nat) (o : Int32 × St) (hF : F_X2_checkOperand u x1 x2 = some (k, o)) (hk : ¬ k = 0) : MX l yX2_checkOperand wsX2_checkOperand 7 104 (some t) dC dI cI cZ (wC a cI cZ) [.ref (a 14), .int x1, .int x2] u k o.2 := by
  refine mxOf (cc := cX2_checkOperand) (maxL := 3) (ret := none) (by decide) rfl (Nat.le_of_ble_eq_true rfl) hnt (Nat.le_of_ble_eq_true rfl) (Nat.le_of_ble_eq_true rfl) ?_
  intro p e s m args below meth c A Q H locs ls hx hb hml hts hown hK hA hz hThr hOut hP hD hS hl
  replace hown : s.vm.findClass RX2 = some m.cls := hown
  replace hl : lv_has ls 3 [(0, .ref (a 14)), (1, .int x1), (2, .int x2)] := hl
  have hin : ∀ w ∈ u_ws RX2 TX2 5, w ∈ wsX2_checkOperand := by decide +kernel
  have fl19 := hts (.fieldLink RX2 19 "CountedHeap" "memory" "LCountedHeap$Memory;") (by decide +kernel)
  have b51 : ∀  (t0 t1 : Int32) (u : St), F_X2_checkOperand_51 u t0 t1 = some (k, o) → GW p l e (rmX 7 104) s m args below meth c Q dC dI (wC a cI cZ) A 3 51 [] [.int t0, .int t1] u := by
      intro  t0 t1 u hF H locs ls hP hD hS hl
      unfold F_X2_checkOperand_51 at hF
      refine lv_icmp_eq (tgt := 64) hx hb dX2_checkOperand_51 (by decide) (fun h1 => ?_) (fun h1 => ?_)
      · replace hF := ip h1 hF
        exact absurd (Prod.mk.inj (Option.some.inj hF)).1.symm hk
      · replace hF := iq h1 hF
        obtain ⟨hk9, ho9⟩ := Prod.mk.inj (Option.some.inj hF)
        obtain ⟨sa, hsa⟩ := hz.2.2.2.2.1 (177, "the operand is of the other kind") (List.mem_of_getElem? (i := 1) rfl)
        exact hThr H locs ls 54 77 177 81 sa "java/lang/IllegalArgumentException" "the operand is of the other kind" u (by rw [← hk9]; rfl) ho9 (by decide +kernel) (hts (.classLink RX2 77 "java/lang/IllegalArgumentException") (by decide +kernel)) (hts (.initialized "java/lang/IllegalArgumentException") (by decide +kernel)) hsa (vx_hat (B := dcls.map Cond.declares ++ [.castable "java/lang/IllegalArgumentException" "java/lang/IllegalArgumentException"]) (fun w h => hts w (wx_X2_checkOperand_81 w h)) (by decide +kernel) (hzB hz 3 (by decide))) (by decide +kernel) dX2_checkOperand_54 dX2_checkOperand_57 dX2_checkOperand_58 dX2_checkOperand_60 dX2_checkOperand_63 hP hD hS hl.1
  have b33 : ∀  (x1 x2 : Int32) (u : St), F_X2_checkOperand_33 u x1 x2 = some (k, o) → GW p l e (rmX 7 104) s m args below meth c Q dC dI (wC a cI cZ) A 3 33 [(0, .ref (a 14)), (1, .int x1), (2, .int x2)] [] u := by
      intro  x1 x2 u hF H locs ls hP hD hS hl
      unfold F_X2_checkOperand_33 at hF
      refine lv_aload_n hx hb dX2_checkOperand_33 rfl (lv_at hl 0 rfl) ?_
      refine va_get (D := (dC, dI)) (ci := 2) (v := .ref (a 0)) (C := RX2) (T := TX2) (N := 5) hx hb hts hin hown hK hP 14 rfl rfl 1 (by decide) fl19 (fun _ h9 => h9) rfl dX2_checkOperand_34 ?_
      refine lv_iload_n hx hb dX2_checkOperand_37 rfl (lv_at hl 2 rfl) ?_
      obtain ⟨q1, e2, hF⟩ := bd hF
      refine callVI (C := RX0) (ci := 0) (q0 := 0) (As := [.int x2]) (rest := []) ⟨hx, hb, hml, hown, hts⟩ (c_X0_holdsPointer l dC dI cI cZ a u x2 q1 e2) gX2_checkOperand_X0_holdsPointer rfl hd_X0_holdsPointer rfl rfl rfl ⟨Nat.le_of_ble_eq_true rfl, Nat.le_of_ble_eq_true rfl⟩ True.intro hK hP hD hS hA rfl hl.1 rfl (Nat.le_of_ble_eq_true rfl) dX2_checkOperand_38 (fun H locs hP hD hS => ?_)
      refine lv_iload_n hx hb dX2_checkOperand_41 rfl (lv_at hl 1 rfl) ?_
      refine lv_iconst (v := 2) hx hb dX2_checkOperand_42 (by decide) ?_
      refine lv_icmp_ne (tgt := 50) hx hb dX2_checkOperand_43 (by decide) (fun h3 => ?_) (fun h3 => ?_)
      · replace hF := iq h3 hF
        refine lv_iconst (v := 0) hx hb dX2_checkOperand_50 (by decide) ?_
        exact b51  0 (q1.1) q1.2 hF H locs ls hP hD hS (lv_sub hl [] rfl)
      · replace hF := ip h3 hF
        refine lv_iconst (v := 1) hx hb dX2_checkOperand_46 (by decide) ?_
        refine lv_goto (tgt := 51) hx hb dX2_checkOperand_47 (by decide) ?_
        exact b51  1 (q1.1) q1.2 hF H locs ls hP hD hS (lv_sub hl [] rfl)
  have b11 : ∀  (x1 x2 : Int32) (u : St), F_X2_checkOperand_11 u x1 x2 = some (k, o) → GW p l e (rmX 7 104) s m args below meth c Q dC dI (wC a cI cZ) A 3 11 [(0, .ref (a 14)), (1, .int x1), (2, .int x2)] [] u := by
      intro  x1 x2 u hF H locs ls hP hD hS hl
      unfold F_X2_checkOperand_11 at hF
      refine lv_iload_n hx hb dX2_checkOperand_11 rfl (lv_at hl 2 rfl) ?_
      refine lv_bipush (v := 16) hx hb dX2_checkOperand_12 (by decide) ?_
      refine lv_icmp_lt (tgt := 33) hx hb dX2_checkOperand_14 (by decide) (fun h1 => ?_) (fun h1 => ?_)
      · replace hF := ip h1 hF
        exact b33  x1 x2 u hF H locs ls hP hD hS (lv_sub hl [0, 1, 2] rfl)
      · replace hF := iq h1 hF
        refine lv_aload_n hx hb dX2_checkOperand_17 rfl (lv_at hl 0 rfl) ?_
        refine lv_aload_n hx hb dX2_checkOperand_18 rfl (lv_at hl 0 rfl) ?_
        refine va_get (D := (dC, dI)) (ci := 2) (v := .ref (a 0)) (C := RX2) (T := TX2) (N := 5) hx hb hts hin hown hK hP 14 rfl rfl 1 (by decide) fl19 (fun _ h9 => h9) rfl dX2_checkOperand_19 ?_
        refine lv_iload_n hx hb dX2_checkOperand_22 rfl (lv_at hl 2 rfl) ?_
        obtain ⟨q2, e3, hF⟩ := bd hF
        refine callVI (C := RX0) (ci := 0) (q0 := 0) (As := [.int x2]) (rest := [.ref (a 14)]) ⟨hx, hb, hml, hown, hts⟩ (c_X0_blockOf l dC dI cI cZ a u x2 q2 e3) gX2_checkOperand_X0_blockOf rfl hd_X0_blockOf rfl rfl rfl ⟨Nat.le_of_ble_eq_true rfl, Nat.le_of_ble_eq_true rfl⟩ True.intro hK hP hD hS hA rfl hl.1 rfl (Nat.le_of_ble_eq_true rfl) dX2_checkOperand_23 (fun H locs hP hD hS => ?_)
        refine lv_iload_n hx hb dX2_checkOperand_26 rfl (lv_at hl 2 rfl) ?_
        obtain ⟨q4, e5, hF⟩ := bd hF
        refine callSI (As := [.int x2]) (rest := [.int q2.1, .ref (a 14)]) ⟨hx, hb, hml, hown, hts⟩ (c_X0_wordOf l dC dI cI cZ a q2.2 x2 q4 e5) gX2_checkOperand_X0_wordOf rfl hd_X0_wordOf ⟨Nat.le_of_ble_eq_true rfl, Nat.le_of_ble_eq_true rfl⟩ True.intro hK hP hD hS hA rfl hl.1 rfl (Nat.le_of_ble_eq_true rfl) dX2_checkOperand_27 (fun H locs hP hD hS => ?_)
        obtain ⟨q6, e7, hF⟩ := bd hF
        by_cases h8 : q6.1 = 0
        · replace hF := ip h8 hF
          refine callVV (C := RX2) (ci := 2) (q0 := 14) (As := [.int q2.1, .int q4.1]) (rest := []) ⟨hx, hb, hml, hown, hts⟩ (c_X2_checkWord_r l dC dI cI cZ a q4.2 (q2.1) (q4.1) q6.2 (e7.trans (congrArg some (Prod.ext h8 rfl)))) gX2_checkOperand_X2_checkWord rfl hd_X2_checkWord rfl rfl rfl ⟨Nat.le_of_ble_eq_true rfl, Nat.le_of_ble_eq_true rfl⟩ True.intro hK hP hD hS hA rfl hl.1 rfl (Nat.le_of_ble_eq_true rfl) dX2_checkOperand_30 (fun H locs hP hD hS => ?_)
          exact b33  x1 x2 q6.2.2 hF H locs ls hP hD hS (lv_sub hl [0, 1, 2] rfl)
        · replace hF := iq h8 hF
          obtain ⟨hk9, ho9⟩ := Prod.mk.inj (Option.some.inj hF)
          refine callVX (C := RX2) (ci := 2) (q0 := 14) (As := [.int q2.1, .int q4.1]) (rest := []) ⟨hx, hb, hml, hown, hts⟩ (c_X2_checkWord_t l hnt dC dI cI cZ a t q4.2 (q2.1) (q4.1) q6.1 q6.2 e7 h8) gX2_checkOperand_X2_checkWord rfl hd_X2_checkWord rfl rfl rfl ⟨Nat.le_of_ble_eq_true rfl, Nat.le_of_ble_eq_true rfl⟩ ⟨Nat.le_of_ble_eq_true rfl, Nat.le_of_ble_eq_true rfl⟩ hz hK hP hD hS hA rfl hl.1 rfl (Nat.le_of_ble_eq_true rfl) dX2_checkOperand_30 (fun H locs q9 ce hP hD hS h1 h2 h3 => ?_)
          exact hOut H locs ls [] 30 q9 ce q6.2.2 ho9 hP hD hS h1 h2 (by rw [← hk9]; exact h3)
  unfold F_X2_checkOperand at hF
  refine lv_iload_n hx hb dX2_checkOperand_0 rfl (lv_at hl 1 rfl) ?_
  refine lv_iconst (v := 1) hx hb dX2_checkOperand_1 (by decide) ?_
  refine lv_icmp_eq (tgt := 11) hx hb dX2_checkOperand_2 (by decide) (fun h1 => ?_) (fun h1 => ?_)
  · replace hF := ip h1 hF
    exact b11  x1 x2 u hF H locs ls hP hD hS (lv_sub hl [0, 1, 2] rfl)
  · replace hF := iq h1 hF
    refine lv_iload_n hx hb dX2_checkOperand_5 rfl (lv_at hl 1 rfl) ?_
    refine lv_iconst (v := 2) hx hb dX2_checkOperand_6 (by decide) ?_
    refine lv_icmp_eq (tgt := 11) hx hb dX2_checkOperand_7 (by decide) (fun h2 => ?_) (fun h2 => ?_)
    · replace hF := ip h2 hF
      exact b11  x1 x2 u hF H locs ls hP hD hS (lv_sub hl [0, 1, 2] rfl)
    · replace hF := iq h2 hF
      exact absurd (Prod.mk.inj (Option.some.inj hF)).1.symm hk

def F_X2_checkRoom_51 (u : St) (x1 : Int32) : Option (Nat × Int32 × St) := (if x1 = 14 then (if 0 < (u 14 3) then (some (0, 0, u)) else (some (1, 0, u))) else (some (0, 0, u)))
def F_X2_checkRoom_26 (u : St) (x1 : Int32) : Option (Nat × Int32 × St) := (if x1 = 13 then (if (u 14 3) < 8 then F_X2_checkRoom_51 u x1 else (some (4, 0, u))) else F_X2_checkRoom_51 u x1)
def F_X2_checkRoom (u : St) (x1 : Int32) : Option (Nat × Int32 × St) := (if x1 = 9 then ((F_X0_isFull u).bind fun q2 => (if q2.1 = 0 then F_X2_checkRoom_26 q2.2 x1 else (some (4, 0, q2.2)))) else F_X2_checkRoom_26 u x1)
theorem hd_X2_checkRoom : yX2_checkRoom.cls = RX2 ∧ yX2_checkRoom.cls ≠ "java/lang/invoke/MethodHandle" ∧ yX2_checkRoom.cls ≠ "java/lang/invoke/VarHandle" ∧ (parseMethodDescriptor yX2_checkRoom.desc).map (fun d => d.parameters.length) = some 1 := by decide +kernel
set_option maxRecDepth 100000 in
set_option maxHeartbeats 4000000 in
theorem c_X2_checkRoom_r (l : Launch) (dC : Nat → ClassId) (dI : Nat → Nat → Nat) (cI cZ : ClassId) (a : Nat → Nat) (u : St) (x1 : Int32) (o : Int32 × St) (hF : F_X2_checkRoom u x1 = some (0, o)) : MV l yX2_checkRoom wsX2_checkRoom 6 82 none dC dI cI cZ (wC a cI cZ) [.ref (a 14), .int x1] u o := by
  refine mvOf (cc := cX2_checkRoom) (maxL := 2) (by decide) rfl (Nat.le_of_ble_eq_true rfl) ?_
  intro p e s m args below meth c A Q H locs ls hx hb hml hts hown hK hA hz hQ hP hD hS hl
  replace hown : s.vm.findClass RX2 = some m.cls := hown
  replace hl : lv_has ls 2 [(0, .ref (a 14)), (1, .int x1)] := hl
  have hin : ∀ w ∈ u_ws RX2 TX2 5, w ∈ wsX2_checkRoom := by decide +kernel
  have fl19 := hts (.fieldLink RX2 19 "CountedHeap" "memory" "LCountedHeap$Memory;") (by decide +kernel)
  have fl27 := hts (.fieldLink RX2 27 "CountedHeap" "openCalls" "I") (by decide +kernel)
  have b51 : ∀  (x1 : Int32) (u : St), F_X2_checkRoom_51 u x1 = some (0, o) → GW p l e (rmK 6 82) s m args below meth c Q dC dI (wC a cI cZ) A 2 51 [(0, .ref (a 14)), (1, .int x1)] [] u := by
      intro  x1 u hF H locs ls hP hD hS hl
      unfold F_X2_checkRoom_51 at hF
      refine lv_iload_n hx hb dX2_checkRoom_51 rfl (lv_at hl 1 rfl) ?_
      refine lv_bipush (v := 14) hx hb dX2_checkRoom_52 (by decide) ?_
      refine lv_icmp_ne (tgt := 74) hx hb dX2_checkRoom_54 (by decide) (fun h1 => ?_) (fun h1 => ?_)
      · replace hF := iq h1 hF
        exact hQ _ _ _ _ _ (Prod.mk.inj (Option.some.inj hF)).2 hP hD hS dX2_checkRoom_74
      · replace hF := ip h1 hF
        refine lv_aload_n hx hb dX2_checkRoom_57 rfl (lv_at hl 0 rfl) ?_
        refine va_get (D := (dC, dI)) (ci := 2) (v := .int (u 14 3)) (C := RX2) (T := TX2) (N := 5) hx hb hts hin hown hK hP 14 rfl rfl 3 (by decide) fl27 (fun _ h9 => h9) rfl dX2_checkRoom_58 ?_
        refine lv_if_gt (tgt := 74) hx hb dX2_checkRoom_61 (by decide) (fun h2 => ?_) (fun h2 => ?_)
        · replace hF := ip h2 hF
          exact hQ _ _ _ _ _ (Prod.mk.inj (Option.some.inj hF)).2 hP hD hS dX2_checkRoom_74
        · replace hF := iq h2 hF
          exact absurd (Prod.mk.inj (Option.some.inj hF)).1 (by decide)
  have b26 : ∀  (x1 : Int32) (u : St), F_X2_checkRoom_26 u x1 = some (0, o) → GW p l e (rmK 6 82) s m args below meth c Q dC dI (wC a cI cZ) A 2 26 [(0, .ref (a 14)), (1, .int x1)] [] u := by
      intro  x1 u hF H locs ls hP hD hS hl
      unfold F_X2_checkRoom_26 at hF
      refine lv_iload_n hx hb dX2_checkRoom_26 rfl (lv_at hl 1 rfl) ?_
      refine lv_bipush (v := 13) hx hb dX2_checkRoom_27 (by decide) ?_
      refine lv_icmp_ne (tgt := 51) hx hb dX2_checkRoom_29 (by decide) (fun h1 => ?_) (fun h1 => ?_)
      · replace hF := iq h1 hF
        exact b51  x1 u hF H locs ls hP hD hS (lv_sub hl [0, 1] rfl)
      · replace hF := ip h1 hF
        refine lv_aload_n hx hb dX2_checkRoom_32 rfl (lv_at hl 0 rfl) ?_
        refine va_get (D := (dC, dI)) (ci := 2) (v := .int (u 14 3)) (C := RX2) (T := TX2) (N := 5) hx hb hts hin hown hK hP 14 rfl rfl 3 (by decide) fl27 (fun _ h9 => h9) rfl dX2_checkRoom_33 ?_
        refine lv_bipush (v := 8) hx hb dX2_checkRoom_36 (by decide) ?_
        refine lv_icmp_lt (tgt := 51) hx hb dX2_checkRoom_38 (by decide) (fun h2 => ?_) (fun h2 => ?_)
        · replace hF := ip h2 hF
          exact b51  x1 u hF H locs ls hP hD hS (lv_sub hl [0, 1] rfl)
        · replace hF := iq h2 hF
          exact absurd (Prod.mk.inj (Option.some.inj hF)).1 (by decide)
  unfold F_X2_checkRoom at hF
  refine lv_iload_n hx hb dX2_checkRoom_0 rfl (lv_at hl 1 rfl) ?_
  refine lv_bipush (v := 9) hx hb dX2_checkRoom_1 (by decide) ?_
  refine lv_icmp_ne (tgt := 26) hx hb dX2_checkRoom_3 (by decide) (fun h1 => ?_) (fun h1 => ?_)
  · replace hF := iq h1 hF
    exact b26  x1 u hF H locs ls hP hD hS (lv_sub hl [0, 1] rfl)
  · replace hF := ip h1 hF
    refine lv_aload_n hx hb dX2_checkRoom_6 rfl (lv_at hl 0 rfl) ?_
    refine va_get (D := (dC, dI)) (ci := 2) (v := .ref (a 0)) (C := RX2) (T := TX2) (N := 5) hx hb hts hin hown hK hP 14 rfl rfl 1 (by decide) fl19 (fun _ h9 => h9) rfl dX2_checkRoom_7 ?_
    obtain ⟨q2, e3, hF⟩ := bd hF
    refine callVI (C := RX0) (ci := 0) (q0 := 0) (As := []) (rest := []) ⟨hx, hb, hml, hown, hts⟩ (c_X0_isFull l dC dI cI cZ a u q2 e3) gX2_checkRoom_X0_isFull rfl hd_X0_isFull rfl rfl rfl ⟨Nat.le_of_ble_eq_true rfl, Nat.le_of_ble_eq_true rfl⟩ True.intro hK hP hD hS hA rfl hl.1 rfl (Nat.le_of_ble_eq_true rfl) dX2_checkRoom_10 (fun H locs hP hD hS => ?_)
    refine lv_if_eq (tgt := 26) hx hb dX2_checkRoom_13 (by decide) (fun h4 => ?_) (fun h4 => ?_)
    · replace hF := ip h4 hF
      exact b26  x1 q2.2 hF H locs ls hP hD hS (lv_sub hl [0, 1] rfl)
    · replace hF := iq h4 hF
      exact absurd (Prod.mk.inj (Option.some.inj hF)).1 (by decide)
theorem wx_X2_checkRoom_183 : ∀ w ∈ (vx_atS RX2 183 "java/lang/IllegalStateException" ["java/lang/RuntimeException", "java/lang/Exception"]).filter goodWord, w ∈ wsX2_checkRoom := by decide +kernel
theorem wx_X2_checkRoom_194 : ∀ w ∈ (vx_atS RX2 194 "java/lang/UnsupportedOperationException" ["java/lang/RuntimeException", "java/lang/Exception"]).filter goodWord, w ∈ wsX2_checkRoom := by decide +kernel
set_option maxRecDepth 100000 in
set_option maxHeartbeats 4000000 in
theorem c_X2_checkRoom_t (l : Launch) (hnt : l.stackTraces = false) (dC : Nat → ClassId) (dI : Nat → Nat → Nat) (cI cZ : ClassId) (a : Nat → Nat) (t : Nat → Nat) (u : St) (x1 : Int32) (k : Nat) (o : Int32 × St) (hF : F_X2_checkRoom u x1 = some (k, o)) (hk : ¬ k = 0) : MX l yX2_checkRoom wsX2_checkRoom 6 82 (some t) dC dI cI cZ (wC a cI cZ) [.ref (a 14), .int x1] u k o.2 := by
  refine mxOf (cc := cX2_checkRoom) (maxL := 2) (ret := none) (by decide) rfl (Nat.le_of_ble_eq_true rfl) hnt (Nat.le_of_ble_eq_true rfl) (Nat.le_of_ble_eq_true rfl) ?_
  intro p e s m args below meth c A Q H locs ls hx hb hml hts hown hK hA hz hThr hOut hP hD hS hl
  replace hown : s.vm.findClass RX2 = some m.cls := hown
  replace hl : lv_has ls 2 [(0, .ref (a 14)), (1, .int x1)] := hl
  have hin : ∀ w ∈ u_ws RX2 TX2 5, w ∈ wsX2_checkRoom := by decide +kernel
  have fl19 := hts (.fieldLink RX2 19 "CountedHeap" "memory" "LCountedHeap$Memory;") (by decide +kernel)
  have fl27 := hts (.fieldLink RX2 27 "CountedHeap" "openCalls" "I") (by decide +kernel)
  have b51 : ∀  (x1 : Int32) (u : St), F_X2_checkRoom_51 u x1 = some (k, o) → GW p l e (rmX 6 82) s m args below meth c Q dC dI (wC a cI cZ) A 2 51 [(0, .ref (a 14)), (1, .int x1)] [] u := by
      intro  x1 u hF H locs ls hP hD hS hl
      unfold F_X2_checkRoom_51 at hF
      refine lv_iload_n hx hb dX2_checkRoom_51 rfl (lv_at hl 1 rfl) ?_
      refine lv_bipush (v := 14) hx hb dX2_checkRoom_52 (by decide) ?_
      refine lv_icmp_ne (tgt := 74) hx hb dX2_checkRoom_54 (by decide) (fun h1 => ?_) (fun h1 => ?_)
      · replace hF := iq h1 hF
        exact absurd (Prod.mk.inj (Option.some.inj hF)).1.symm hk
      · replace hF := ip h1 hF
        refine lv_aload_n hx hb dX2_checkRoom_57 rfl (lv_at hl 0 rfl) ?_
        refine va_get (D := (dC, dI)) (ci := 2) (v := .int (u 14 3)) (C := RX2) (T := TX2) (N := 5) hx hb hts hin hown hK hP 14 rfl rfl 3 (by decide) fl27 (fun _ h9 => h9) rfl dX2_checkRoom_58 ?_
        refine lv_if_gt (tgt := 74) hx hb dX2_checkRoom_61 (by decide) (fun h2 => ?_) (fun h2 => ?_)
        · replace hF := ip h2 hF
          exact absurd (Prod.mk.inj (Option.some.inj hF)).1.symm hk
        · replace hF := iq h2 hF
          obtain ⟨hk9, ho9⟩ := Prod.mk.inj (Option.some.inj hF)
          obtain ⟨sa, hsa⟩ := hz.2.2.2.2.1 (197, "the stack is empty") (List.mem_of_getElem? (i := 6) rfl)
          exact hThr H locs ls 64 179 197 183 sa "java/lang/IllegalStateException" "the stack is empty" u (by rw [← hk9]; rfl) ho9 (by decide +kernel) (hts (.classLink RX2 179 "java/lang/IllegalStateException") (by decide +kernel)) (hts (.initialized "java/lang/IllegalStateException") (by decide +kernel)) hsa (vx_hat (B := dcls.map Cond.declares ++ [.castable "java/lang/IllegalStateException" "java/lang/IllegalStateException"]) (fun w h => hts w (wx_X2_checkRoom_183 w h)) (by decide +kernel) (hzB hz 1 (by decide))) (by decide +kernel) dX2_checkRoom_64 dX2_checkRoom_67 dX2_checkRoom_68 dX2_checkRoom_70 dX2_checkRoom_73 hP hD hS hl.1
  have b26 : ∀  (x1 : Int32) (u : St), F_X2_checkRoom_26 u x1 = some (k, o) → GW p l e (rmX 6 82) s m args below meth c Q dC dI (wC a cI cZ) A 2 26 [(0, .ref (a 14)), (1, .int x1)] [] u := by
      intro  x1 u hF H locs ls hP hD hS hl
      unfold F_X2_checkRoom_26 at hF
      refine lv_iload_n hx hb dX2_checkRoom_26 rfl (lv_at hl 1 rfl) ?_
      refine lv_bipush (v := 13) hx hb dX2_checkRoom_27 (by decide) ?_
      refine lv_icmp_ne (tgt := 51) hx hb dX2_checkRoom_29 (by decide) (fun h1 => ?_) (fun h1 => ?_)
      · replace hF := iq h1 hF
        exact b51  x1 u hF H locs ls hP hD hS (lv_sub hl [0, 1] rfl)
      · replace hF := ip h1 hF
        refine lv_aload_n hx hb dX2_checkRoom_32 rfl (lv_at hl 0 rfl) ?_
        refine va_get (D := (dC, dI)) (ci := 2) (v := .int (u 14 3)) (C := RX2) (T := TX2) (N := 5) hx hb hts hin hown hK hP 14 rfl rfl 3 (by decide) fl27 (fun _ h9 => h9) rfl dX2_checkRoom_33 ?_
        refine lv_bipush (v := 8) hx hb dX2_checkRoom_36 (by decide) ?_
        refine lv_icmp_lt (tgt := 51) hx hb dX2_checkRoom_38 (by decide) (fun h2 => ?_) (fun h2 => ?_)
        · replace hF := ip h2 hF
          exact b51  x1 u hF H locs ls hP hD hS (lv_sub hl [0, 1] rfl)
        · replace hF := iq h2 hF
          obtain ⟨hk9, ho9⟩ := Prod.mk.inj (Option.some.inj hF)
          obtain ⟨sa, hsa⟩ := hz.2.2.2.2.1 (195, "the stack is full") (List.mem_of_getElem? (i := 5) rfl)
          exact hThr H locs ls 41 190 195 194 sa "java/lang/UnsupportedOperationException" "the stack is full" u (by rw [← hk9]; rfl) ho9 (by decide +kernel) (hts (.classLink RX2 190 "java/lang/UnsupportedOperationException") (by decide +kernel)) (hts (.initialized "java/lang/UnsupportedOperationException") (by decide +kernel)) hsa (vx_hat (B := dcls.map Cond.declares ++ [.castable "java/lang/UnsupportedOperationException" "java/lang/UnsupportedOperationException"]) (fun w h => hts w (wx_X2_checkRoom_194 w h)) (by decide +kernel) (hzB hz 4 (by decide))) (by decide +kernel) dX2_checkRoom_41 dX2_checkRoom_44 dX2_checkRoom_45 dX2_checkRoom_47 dX2_checkRoom_50 hP hD hS hl.1
  unfold F_X2_checkRoom at hF
  refine lv_iload_n hx hb dX2_checkRoom_0 rfl (lv_at hl 1 rfl) ?_
  refine lv_bipush (v := 9) hx hb dX2_checkRoom_1 (by decide) ?_
  refine lv_icmp_ne (tgt := 26) hx hb dX2_checkRoom_3 (by decide) (fun h1 => ?_) (fun h1 => ?_)
  · replace hF := iq h1 hF
    exact b26  x1 u hF H locs ls hP hD hS (lv_sub hl [0, 1] rfl)
  · replace hF := ip h1 hF
    refine lv_aload_n hx hb dX2_checkRoom_6 rfl (lv_at hl 0 rfl) ?_
    refine va_get (D := (dC, dI)) (ci := 2) (v := .ref (a 0)) (C := RX2) (T := TX2) (N := 5) hx hb hts hin hown hK hP 14 rfl rfl 1 (by decide) fl19 (fun _ h9 => h9) rfl dX2_checkRoom_7 ?_
    obtain ⟨q2, e3, hF⟩ := bd hF
    refine callVI (C := RX0) (ci := 0) (q0 := 0) (As := []) (rest := []) ⟨hx, hb, hml, hown, hts⟩ (c_X0_isFull l dC dI cI cZ a u q2 e3) gX2_checkRoom_X0_isFull rfl hd_X0_isFull rfl rfl rfl ⟨Nat.le_of_ble_eq_true rfl, Nat.le_of_ble_eq_true rfl⟩ True.intro hK hP hD hS hA rfl hl.1 rfl (Nat.le_of_ble_eq_true rfl) dX2_checkRoom_10 (fun H locs hP hD hS => ?_)
    refine lv_if_eq (tgt := 26) hx hb dX2_checkRoom_13 (by decide) (fun h4 => ?_) (fun h4 => ?_)
    · replace hF := ip h4 hF
      exact b26  x1 q2.2 hF H locs ls hP hD hS (lv_sub hl [0, 1] rfl)
    · replace hF := iq h4 hF
      obtain ⟨hk9, ho9⟩ := Prod.mk.inj (Option.some.inj hF)
      obtain ⟨sa, hsa⟩ := hz.2.2.2.2.1 (192, "there are 24 blocks") (List.mem_of_getElem? (i := 4) rfl)
      exact hThr H locs ls 16 190 192 194 sa "java/lang/UnsupportedOperationException" "there are 24 blocks" q2.2 (by rw [← hk9]; rfl) ho9 (by decide +kernel) (hts (.classLink RX2 190 "java/lang/UnsupportedOperationException") (by decide +kernel)) (hts (.initialized "java/lang/UnsupportedOperationException") (by decide +kernel)) hsa (vx_hat (B := dcls.map Cond.declares ++ [.castable "java/lang/UnsupportedOperationException" "java/lang/UnsupportedOperationException"]) (fun w h => hts w (wx_X2_checkRoom_194 w h)) (by decide +kernel) (hzB hz 4 (by decide))) (by decide +kernel) dX2_checkRoom_16 dX2_checkRoom_19 dX2_checkRoom_20 dX2_checkRoom_22 dX2_checkRoom_25 hP hD hS hl.1

def F_X2_valueOf (u : St) (x1 : Int32) : Option (Int32 × St) := ((F_X0_cellOf u x1).bind fun q1 => ((F_X0_read q1.2 (q1.1)).bind fun q3 => (some (q3.1, q3.2))))
set_option maxRecDepth 100000 in
set_option maxHeartbeats 4000000 in
theorem c_X2_valueOf (l : Launch) (dC : Nat → ClassId) (dI : Nat → Nat → Nat) (cI cZ : ClassId) (a : Nat → Nat) (u : St) (x1 : Int32) (o : Int32 × St) (hF : F_X2_valueOf u x1 = some o) : MI l yX2_valueOf wsX2_valueOf 2 42 none dC dI cI cZ (wC a cI cZ) [.ref (a 14), .int x1] u o := by
  refine miOf (cc := cX2_valueOf) (maxL := 2) (ret := .int) (by decide) rfl (Nat.le_of_ble_eq_true rfl) ?_
  intro p e s m args below meth c A Q H locs ls hx hb hml hts hown hK hA hz hQ hP hD hS hl
  replace hown : s.vm.findClass RX2 = some m.cls := hown
  replace hl : lv_has ls 2 [(0, .ref (a 14)), (1, .int x1)] := hl
  have hin : ∀ w ∈ u_ws RX2 TX2 5, w ∈ wsX2_valueOf := by decide +kernel
  have fl19 := hts (.fieldLink RX2 19 "CountedHeap" "memory" "LCountedHeap$Memory;") (by decide +kernel)
  unfold F_X2_valueOf at hF
  refine lv_aload_n hx hb dX2_valueOf_0 rfl (lv_at hl 0 rfl) ?_
  refine va_get (D := (dC, dI)) (ci := 2) (v := .ref (a 0)) (C := RX2) (T := TX2) (N := 5) hx hb hts hin hown hK hP 14 rfl rfl 1 (by decide) fl19 (fun _ h9 => h9) rfl dX2_valueOf_1 ?_
  refine lv_aload_n hx hb dX2_valueOf_4 rfl (lv_at hl 0 rfl) ?_
  refine va_get (D := (dC, dI)) (ci := 2) (v := .ref (a 0)) (C := RX2) (T := TX2) (N := 5) hx hb hts hin hown hK hP 14 rfl rfl 1 (by decide) fl19 (fun _ h9 => h9) rfl dX2_valueOf_5 ?_
  refine lv_iload_n hx hb dX2_valueOf_8 rfl (lv_at hl 1 rfl) ?_
  obtain ⟨q1, e2, hF⟩ := bd hF
  refine callVI (C := RX0) (ci := 0) (q0 := 0) (As := [.int x1]) (rest := [.ref (a 0)]) ⟨hx, hb, hml, hown, hts⟩ (c_X0_cellOf l dC dI cI cZ a u x1 q1 e2) gX2_valueOf_X0_cellOf rfl hd_X0_cellOf rfl rfl rfl ⟨Nat.le_of_ble_eq_true rfl, Nat.le_of_ble_eq_true rfl⟩ True.intro hK hP hD hS hA rfl hl.1 rfl (Nat.le_of_ble_eq_true rfl) dX2_valueOf_9 (fun H locs hP hD hS => ?_)
  obtain ⟨q3, e4, hF⟩ := bd hF
  refine callVI (C := RX0) (ci := 0) (q0 := 0) (As := [.int q1.1]) (rest := []) ⟨hx, hb, hml, hown, hts⟩ (c_X0_read l dC dI cI cZ a q1.2 (q1.1) q3 e4) gX2_valueOf_X0_read rfl hd_X0_read rfl rfl rfl ⟨Nat.le_of_ble_eq_true rfl, Nat.le_of_ble_eq_true rfl⟩ True.intro hK hP hD hS hA rfl hl.1 rfl (Nat.le_of_ble_eq_true rfl) dX2_valueOf_12 (fun H locs hP hD hS => ?_)
  exact hQ _ _ _ _ _ _ (Option.some.inj hF) (vp_nar_int _) hP hD hS dX2_valueOf_15
theorem hd_X2_valueOf : yX2_valueOf.cls = RX2 ∧ yX2_valueOf.cls ≠ "java/lang/invoke/MethodHandle" ∧ yX2_valueOf.cls ≠ "java/lang/invoke/VarHandle" ∧ (parseMethodDescriptor yX2_valueOf.desc).map (fun d => d.parameters.length) = some 1 := by decide +kernel

def F_X2_intResult (u : St) (x1 x2 x3 : Int32) : Option (Int32 × St) := (if x1 = 1 then (some (x2, u)) else (if x1 = 2 then ((F_X2_valueOf u x2).bind fun q3 => (some (q3.1, q3.2))) else (if x1 = 3 then ((F_X2_valueOf u x2).bind fun q6 => ((F_X2_valueOf q6.2 x3).bind fun q8 => (some ((q6.1 + q8.1), q8.2)))) else (if x1 = 4 then ((F_X2_valueOf u x2).bind fun q11 => ((F_X2_valueOf q11.2 x3).bind fun q13 => (some ((q11.1 - q13.1), q13.2)))) else (if x1 = 5 then ((F_X2_valueOf u x2).bind fun q16 => ((F_X2_valueOf q16.2 x3).bind fun q18 => (some ((q16.1 * q18.1), q18.2)))) else (if x1 = 6 then ((F_X2_valueOf u x2).bind fun q21 => ((F_X2_valueOf q21.2 x3).bind fun q23 => (if q23.1 ≤ q21.1 then (some (0, q23.2)) else (some (1, q23.2))))) else (if x1 = 7 then (some (0, u)) else (if x1 = 8 then (some (0, u)) else (if x1 = 9 then (some (0, u)) else (if x1 = 10 then (some (0, u)) else (if x1 = 11 then (some (0, u)) else (if x1 = 12 then ((F_X2_valueOf u x2).bind fun q32 => ((F_X2_valueOf q32.2 x3).bind fun q34 => (if q32.1 = q34.1 then (some (1, q34.2)) else (some (0, q34.2))))) else (some (0, u))))))))))))))
set_option maxRecDepth 100000 in
set_option maxHeartbeats 4000000 in
theorem c_X2_intResult (l : Launch) (dC : Nat → ClassId) (dI : Nat → Nat → Nat) (cI cZ : ClassId) (a : Nat → Nat) (u : St) (x1 x2 x3 : Int32) (o : Int32 × St) (hF : F_X2_intResult u x1 x2 x3 = some o) : MI l yX2_intResult wsX2_intResult 3 63 none dC dI cI cZ (wC a cI cZ) [.ref (a 14), .int x1, .int x2, .int x3] u o := by
  refine miOf (cc := cX2_intResult) (maxL := 4) (ret := .int) (by decide) rfl (Nat.le_of_ble_eq_true rfl) ?_
  intro p e s m args below meth c A Q H locs ls hx hb hml hts hown hK hA hz hQ hP hD hS hl
  replace hown : s.vm.findClass RX2 = some m.cls := hown
  replace hl : lv_has ls 4 [(0, .ref (a 14)), (1, .int x1), (2, .int x2), (3, .int x3)] := hl
  unfold F_X2_intResult at hF
  refine lv_iload_n hx hb dX2_intResult_0 rfl (lv_at hl 1 rfl) ?_
  by_cases h1 : x1 = 1
  · replace hF := ip h1 hF
    refine lv_tableIn (tgt := 64) hx hb dX2_intResult_1 (by rw [h1]; decide) (by rw [h1]; decide) (off := 63) (by rw [h1]; decide) (by decide) ?_
    refine lv_iload_n hx hb dX2_intResult_64 rfl (lv_at hl 2 rfl) ?_
    exact hQ _ _ _ _ _ _ (Option.some.inj hF) (vp_nar_int _) hP hD hS dX2_intResult_65
  replace hF := iq h1 hF
  by_cases h2 : x1 = 2
  · replace hF := ip h2 hF
    refine lv_tableIn (tgt := 66) hx hb dX2_intResult_1 (by rw [h2]; decide) (by rw [h2]; decide) (off := 65) (by rw [h2]; decide) (by decide) ?_
    refine lv_aload_n hx hb dX2_intResult_66 rfl (lv_at hl 0 rfl) ?_
    refine lv_iload_n hx hb dX2_intResult_67 rfl (lv_at hl 2 rfl) ?_
    obtain ⟨q3, e4, hF⟩ := bd hF
    refine callVI (C := RX2) (ci := 2) (q0 := 14) (As := [.int x2]) (rest := []) ⟨hx, hb, hml, hown, hts⟩ (c_X2_valueOf l dC dI cI cZ a u x2 q3 e4) gX2_intResult_X2_valueOf rfl hd_X2_valueOf rfl rfl rfl ⟨Nat.le_of_ble_eq_true rfl, Nat.le_of_ble_eq_true rfl⟩ True.intro hK hP hD hS hA rfl hl.1 rfl (Nat.le_of_ble_eq_true rfl) dX2_intResult_68 (fun H locs hP hD hS => ?_)
    exact hQ _ _ _ _ _ _ (Option.some.inj hF) (vp_nar_int _) hP hD hS dX2_intResult_71
  replace hF := iq h2 hF
  by_cases h5 : x1 = 3
  · replace hF := ip h5 hF
    refine lv_tableIn (tgt := 72) hx hb dX2_intResult_1 (by rw [h5]; decide) (by rw [h5]; decide) (off := 71) (by rw [h5]; decide) (by decide) ?_
    refine lv_aload_n hx hb dX2_intResult_72 rfl (lv_at hl 0 rfl) ?_
    refine lv_iload_n hx hb dX2_intResult_73 rfl (lv_at hl 2 rfl) ?_
    obtain ⟨q6, e7, hF⟩ := bd hF
    refine callVI (C := RX2) (ci := 2) (q0 := 14) (As := [.int x2]) (rest := []) ⟨hx, hb, hml, hown, hts⟩ (c_X2_valueOf l dC dI cI cZ a u x2 q6 e7) gX2_intResult_X2_valueOf rfl hd_X2_valueOf rfl rfl rfl ⟨Nat.le_of_ble_eq_true rfl, Nat.le_of_ble_eq_true rfl⟩ True.intro hK hP hD hS hA rfl hl.1 rfl (Nat.le_of_ble_eq_true rfl) dX2_intResult_74 (fun H locs hP hD hS => ?_)
    refine lv_aload_n hx hb dX2_intResult_77 rfl (lv_at hl 0 rfl) ?_
    refine lv_iload_n hx hb dX2_intResult_78 rfl (lv_at hl 3 rfl) ?_
    obtain ⟨q8, e9, hF⟩ := bd hF
    refine callVI (C := RX2) (ci := 2) (q0 := 14) (As := [.int x3]) (rest := [.int q6.1]) ⟨hx, hb, hml, hown, hts⟩ (c_X2_valueOf l dC dI cI cZ a q6.2 x3 q8 e9) gX2_intResult_X2_valueOf rfl hd_X2_valueOf rfl rfl rfl ⟨Nat.le_of_ble_eq_true rfl, Nat.le_of_ble_eq_true rfl⟩ True.intro hK hP hD hS hA rfl hl.1 rfl (Nat.le_of_ble_eq_true rfl) dX2_intResult_79 (fun H locs hP hD hS => ?_)
    refine lv_iadd hx hb dX2_intResult_82 ?_
    exact hQ _ _ _ _ _ _ (Option.some.inj hF) (vp_nar_int _) hP hD hS dX2_intResult_83
  replace hF := iq h5 hF
  by_cases h10 : x1 = 4
  · replace hF := ip h10 hF
    refine lv_tableIn (tgt := 84) hx hb dX2_intResult_1 (by rw [h10]; decide) (by rw [h10]; decide) (off := 83) (by rw [h10]; decide) (by decide) ?_
    refine lv_aload_n hx hb dX2_intResult_84 rfl (lv_at hl 0 rfl) ?_
    refine lv_iload_n hx hb dX2_intResult_85 rfl (lv_at hl 2 rfl) ?_
    obtain ⟨q11, e12, hF⟩ := bd hF
    refine callVI (C := RX2) (ci := 2) (q0 := 14) (As := [.int x2]) (rest := []) ⟨hx, hb, hml, hown, hts⟩ (c_X2_valueOf l dC dI cI cZ a u x2 q11 e12) gX2_intResult_X2_valueOf rfl hd_X2_valueOf rfl rfl rfl ⟨Nat.le_of_ble_eq_true rfl, Nat.le_of_ble_eq_true rfl⟩ True.intro hK hP hD hS hA rfl hl.1 rfl (Nat.le_of_ble_eq_true rfl) dX2_intResult_86 (fun H locs hP hD hS => ?_)
    refine lv_aload_n hx hb dX2_intResult_89 rfl (lv_at hl 0 rfl) ?_
    refine lv_iload_n hx hb dX2_intResult_90 rfl (lv_at hl 3 rfl) ?_
    obtain ⟨q13, e14, hF⟩ := bd hF
    refine callVI (C := RX2) (ci := 2) (q0 := 14) (As := [.int x3]) (rest := [.int q11.1]) ⟨hx, hb, hml, hown, hts⟩ (c_X2_valueOf l dC dI cI cZ a q11.2 x3 q13 e14) gX2_intResult_X2_valueOf rfl hd_X2_valueOf rfl rfl rfl ⟨Nat.le_of_ble_eq_true rfl, Nat.le_of_ble_eq_true rfl⟩ True.intro hK hP hD hS hA rfl hl.1 rfl (Nat.le_of_ble_eq_true rfl) dX2_intResult_91 (fun H locs hP hD hS => ?_)
    refine lv_isub hx hb dX2_intResult_94 ?_
    exact hQ _ _ _ _ _ _ (Option.some.inj hF) (vp_nar_int _) hP hD hS dX2_intResult_95
  replace hF := iq h10 hF
  by_cases h15 : x1 = 5
  · replace hF := ip h15 hF
    refine lv_tableIn (tgt := 96) hx hb dX2_intResult_1 (by rw [h15]; decide) (by rw [h15]; decide) (off := 95) (by rw [h15]; decide) (by decide) ?_
    refine lv_aload_n hx hb dX2_intResult_96 rfl (lv_at hl 0 rfl) ?_
    refine lv_iload_n hx hb dX2_intResult_97 rfl (lv_at hl 2 rfl) ?_
    obtain ⟨q16, e17, hF⟩ := bd hF
    refine callVI (C := RX2) (ci := 2) (q0 := 14) (As := [.int x2]) (rest := []) ⟨hx, hb, hml, hown, hts⟩ (c_X2_valueOf l dC dI cI cZ a u x2 q16 e17) gX2_intResult_X2_valueOf rfl hd_X2_valueOf rfl rfl rfl ⟨Nat.le_of_ble_eq_true rfl, Nat.le_of_ble_eq_true rfl⟩ True.intro hK hP hD hS hA rfl hl.1 rfl (Nat.le_of_ble_eq_true rfl) dX2_intResult_98 (fun H locs hP hD hS => ?_)
    refine lv_aload_n hx hb dX2_intResult_101 rfl (lv_at hl 0 rfl) ?_
    refine lv_iload_n hx hb dX2_intResult_102 rfl (lv_at hl 3 rfl) ?_
    obtain ⟨q18, e19, hF⟩ := bd hF
    refine callVI (C := RX2) (ci := 2) (q0 := 14) (As := [.int x3]) (rest := [.int q16.1]) ⟨hx, hb, hml, hown, hts⟩ (c_X2_valueOf l dC dI cI cZ a q16.2 x3 q18 e19) gX2_intResult_X2_valueOf rfl hd_X2_valueOf rfl rfl rfl ⟨Nat.le_of_ble_eq_true rfl, Nat.le_of_ble_eq_true rfl⟩ True.intro hK hP hD hS hA rfl hl.1 rfl (Nat.le_of_ble_eq_true rfl) dX2_intResult_103 (fun H locs hP hD hS => ?_)
    refine lv_imul hx hb dX2_intResult_106 ?_
    exact hQ _ _ _ _ _ _ (Option.some.inj hF) (vp_nar_int _) hP hD hS dX2_intResult_107
  replace hF := iq h15 hF
  by_cases h20 : x1 = 6
  · replace hF := ip h20 hF
    refine lv_tableIn (tgt := 108) hx hb dX2_intResult_1 (by rw [h20]; decide) (by rw [h20]; decide) (off := 107) (by rw [h20]; decide) (by decide) ?_
    refine lv_aload_n hx hb dX2_intResult_108 rfl (lv_at hl 0 rfl) ?_
    refine lv_iload_n hx hb dX2_intResult_109 rfl (lv_at hl 2 rfl) ?_
    obtain ⟨q21, e22, hF⟩ := bd hF
    refine callVI (C := RX2) (ci := 2) (q0 := 14) (As := [.int x2]) (rest := []) ⟨hx, hb, hml, hown, hts⟩ (c_X2_valueOf l dC dI cI cZ a u x2 q21 e22) gX2_intResult_X2_valueOf rfl hd_X2_valueOf rfl rfl rfl ⟨Nat.le_of_ble_eq_true rfl, Nat.le_of_ble_eq_true rfl⟩ True.intro hK hP hD hS hA rfl hl.1 rfl (Nat.le_of_ble_eq_true rfl) dX2_intResult_110 (fun H locs hP hD hS => ?_)
    refine lv_aload_n hx hb dX2_intResult_113 rfl (lv_at hl 0 rfl) ?_
    refine lv_iload_n hx hb dX2_intResult_114 rfl (lv_at hl 3 rfl) ?_
    obtain ⟨q23, e24, hF⟩ := bd hF
    refine callVI (C := RX2) (ci := 2) (q0 := 14) (As := [.int x3]) (rest := [.int q21.1]) ⟨hx, hb, hml, hown, hts⟩ (c_X2_valueOf l dC dI cI cZ a q21.2 x3 q23 e24) gX2_intResult_X2_valueOf rfl hd_X2_valueOf rfl rfl rfl ⟨Nat.le_of_ble_eq_true rfl, Nat.le_of_ble_eq_true rfl⟩ True.intro hK hP hD hS hA rfl hl.1 rfl (Nat.le_of_ble_eq_true rfl) dX2_intResult_115 (fun H locs hP hD hS => ?_)
    refine lv_icmp_ge (tgt := 125) hx hb dX2_intResult_118 (by decide) (fun h25 => ?_) (fun h25 => ?_)
    · replace hF := ip h25 hF
      refine lv_iconst (v := 0) hx hb dX2_intResult_125 (by decide) ?_
      exact hQ _ _ _ _ _ _ (Option.some.inj hF) (vp_nar_int _) hP hD hS dX2_intResult_126
    · replace hF := iq h25 hF
      refine lv_iconst (v := 1) hx hb dX2_intResult_121 (by decide) ?_
      refine lv_goto (tgt := 126) hx hb dX2_intResult_122 (by decide) ?_
      exact hQ _ _ _ _ _ _ (Option.some.inj hF) (vp_nar_int _) hP hD hS dX2_intResult_126
  replace hF := iq h20 hF
  by_cases h26 : x1 = 7
  · replace hF := ip h26 hF
    refine lv_tableIn (tgt := 146) hx hb dX2_intResult_1 (by rw [h26]; decide) (by rw [h26]; decide) (off := 145) (by rw [h26]; decide) (by decide) ?_
    refine lv_iconst (v := 0) hx hb dX2_intResult_146 (by decide) ?_
    exact hQ _ _ _ _ _ _ (Option.some.inj hF) (vp_nar_int _) hP hD hS dX2_intResult_147
  replace hF := iq h26 hF
  by_cases h27 : x1 = 8
  · replace hF := ip h27 hF
    refine lv_tableIn (tgt := 146) hx hb dX2_intResult_1 (by rw [h27]; decide) (by rw [h27]; decide) (off := 145) (by rw [h27]; decide) (by decide) ?_
    refine lv_iconst (v := 0) hx hb dX2_intResult_146 (by decide) ?_
    exact hQ _ _ _ _ _ _ (Option.some.inj hF) (vp_nar_int _) hP hD hS dX2_intResult_147
  replace hF := iq h27 hF
  by_cases h28 : x1 = 9
  · replace hF := ip h28 hF
    refine lv_tableIn (tgt := 146) hx hb dX2_intResult_1 (by rw [h28]; decide) (by rw [h28]; decide) (off := 145) (by rw [h28]; decide) (by decide) ?_
    refine lv_iconst (v := 0) hx hb dX2_intResult_146 (by decide) ?_
    exact hQ _ _ _ _ _ _ (Option.some.inj hF) (vp_nar_int _) hP hD hS dX2_intResult_147
  replace hF := iq h28 hF
  by_cases h29 : x1 = 10
  · replace hF := ip h29 hF
    refine lv_tableIn (tgt := 146) hx hb dX2_intResult_1 (by rw [h29]; decide) (by rw [h29]; decide) (off := 145) (by rw [h29]; decide) (by decide) ?_
    refine lv_iconst (v := 0) hx hb dX2_intResult_146 (by decide) ?_
    exact hQ _ _ _ _ _ _ (Option.some.inj hF) (vp_nar_int _) hP hD hS dX2_intResult_147
  replace hF := iq h29 hF
  by_cases h30 : x1 = 11
  · replace hF := ip h30 hF
    refine lv_tableIn (tgt := 146) hx hb dX2_intResult_1 (by rw [h30]; decide) (by rw [h30]; decide) (off := 145) (by rw [h30]; decide) (by decide) ?_
    refine lv_iconst (v := 0) hx hb dX2_intResult_146 (by decide) ?_
    exact hQ _ _ _ _ _ _ (Option.some.inj hF) (vp_nar_int _) hP hD hS dX2_intResult_147
  replace hF := iq h30 hF
  by_cases h31 : x1 = 12
  · replace hF := ip h31 hF
    refine lv_tableIn (tgt := 127) hx hb dX2_intResult_1 (by rw [h31]; decide) (by rw [h31]; decide) (off := 126) (by rw [h31]; decide) (by decide) ?_
    refine lv_aload_n hx hb dX2_intResult_127 rfl (lv_at hl 0 rfl) ?_
    refine lv_iload_n hx hb dX2_intResult_128 rfl (lv_at hl 2 rfl) ?_
    obtain ⟨q32, e33, hF⟩ := bd hF
    refine callVI (C := RX2) (ci := 2) (q0 := 14) (As := [.int x2]) (rest := []) ⟨hx, hb, hml, hown, hts⟩ (c_X2_valueOf l dC dI cI cZ a u x2 q32 e33) gX2_intResult_X2_valueOf rfl hd_X2_valueOf rfl rfl rfl ⟨Nat.le_of_ble_eq_true rfl, Nat.le_of_ble_eq_true rfl⟩ True.intro hK hP hD hS hA rfl hl.1 rfl (Nat.le_of_ble_eq_true rfl) dX2_intResult_129 (fun H locs hP hD hS => ?_)
    refine lv_aload_n hx hb dX2_intResult_132 rfl (lv_at hl 0 rfl) ?_
    refine lv_iload_n hx hb dX2_intResult_133 rfl (lv_at hl 3 rfl) ?_
    obtain ⟨q34, e35, hF⟩ := bd hF
    refine callVI (C := RX2) (ci := 2) (q0 := 14) (As := [.int x3]) (rest := [.int q32.1]) ⟨hx, hb, hml, hown, hts⟩ (c_X2_valueOf l dC dI cI cZ a q32.2 x3 q34 e35) gX2_intResult_X2_valueOf rfl hd_X2_valueOf rfl rfl rfl ⟨Nat.le_of_ble_eq_true rfl, Nat.le_of_ble_eq_true rfl⟩ True.intro hK hP hD hS hA rfl hl.1 rfl (Nat.le_of_ble_eq_true rfl) dX2_intResult_134 (fun H locs hP hD hS => ?_)
    refine lv_icmp_ne (tgt := 144) hx hb dX2_intResult_137 (by decide) (fun h36 => ?_) (fun h36 => ?_)
    · replace hF := iq h36 hF
      refine lv_iconst (v := 0) hx hb dX2_intResult_144 (by decide) ?_
      exact hQ _ _ _ _ _ _ (Option.some.inj hF) (vp_nar_int _) hP hD hS dX2_intResult_145
    · replace hF := ip h36 hF
      refine lv_iconst (v := 1) hx hb dX2_intResult_140 (by decide) ?_
      refine lv_goto (tgt := 145) hx hb dX2_intResult_141 (by decide) ?_
      exact hQ _ _ _ _ _ _ (Option.some.inj hF) (vp_nar_int _) hP hD hS dX2_intResult_145
  replace hF := iq h31 hF
  refine lv_tableOut (tgt := 146) hx hb dX2_intResult_1 (sw_out (fun v9 g1 g2 g3 => by
      have g4 : v9 = 1 ∨ v9 = 2 ∨ v9 = 3 ∨ v9 = 4 ∨ v9 = 5 ∨ v9 = 6 ∨ v9 = 7 ∨ v9 = 8 ∨ v9 = 9 ∨ v9 = 10 ∨ v9 = 11 ∨ v9 = 12 := by omega
      rcases g4 with rfl | rfl | rfl | rfl | rfl | rfl | rfl | rfl | rfl | rfl | rfl | rfl
      · exact h1 (Int32.toInt_inj.mp (g3.trans (by decide)))
      · exact h2 (Int32.toInt_inj.mp (g3.trans (by decide)))
      · exact h5 (Int32.toInt_inj.mp (g3.trans (by decide)))
      · exact h10 (Int32.toInt_inj.mp (g3.trans (by decide)))
      · exact h15 (Int32.toInt_inj.mp (g3.trans (by decide)))
      · exact h20 (Int32.toInt_inj.mp (g3.trans (by decide)))
      · exact h26 (Int32.toInt_inj.mp (g3.trans (by decide)))
      · exact h27 (Int32.toInt_inj.mp (g3.trans (by decide)))
      · exact h28 (Int32.toInt_inj.mp (g3.trans (by decide)))
      · exact h29 (Int32.toInt_inj.mp (g3.trans (by decide)))
      · exact h30 (Int32.toInt_inj.mp (g3.trans (by decide)))
      · exact h31 (Int32.toInt_inj.mp (g3.trans (by decide))))) (by decide) ?_
  refine lv_iconst (v := 0) hx hb dX2_intResult_146 (by decide) ?_
  exact hQ _ _ _ _ _ _ (Option.some.inj hF) (vp_nar_int _) hP hD hS dX2_intResult_147
theorem hd_X2_intResult : yX2_intResult.cls = RX2 ∧ yX2_intResult.cls ≠ "java/lang/invoke/MethodHandle" ∧ yX2_intResult.cls ≠ "java/lang/invoke/VarHandle" ∧ (parseMethodDescriptor yX2_intResult.desc).map (fun d => d.parameters.length) = some 3 := by decide +kernel

def F_X2_pointerResult (u : St) (x1 x2 : Int32) : Option (Int32 × St) := (if x1 = 9 then ((F_X0_makeBlock u x2).bind fun q2 => (some (q2.1, q2.2))) else (if x1 = 10 then ((F_X2_valueOf u x2).bind fun q5 => (some (q5.1, q5.2))) else (if x1 = 11 then (some (0, u)) else (some (0, u)))))
set_option maxRecDepth 100000 in
set_option maxHeartbeats 4000000 in
theorem c_X2_pointerResult (l : Launch) (dC : Nat → ClassId) (dI : Nat → Nat → Nat) (cI cZ : ClassId) (a : Nat → Nat) (u : St) (x1 x2 : Int32) (o : Int32 × St) (hF : F_X2_pointerResult u x1 x2 = some o) : MI l yX2_pointerResult wsX2_pointerResult 3 65 none dC dI cI cZ (wC a cI cZ) [.ref (a 14), .int x1, .int x2] u o := by
  refine miOf (cc := cX2_pointerResult) (maxL := 3) (ret := .int) (by decide) rfl (Nat.le_of_ble_eq_true rfl) ?_
  intro p e s m args below meth c A Q H locs ls hx hb hml hts hown hK hA hz hQ hP hD hS hl
  replace hown : s.vm.findClass RX2 = some m.cls := hown
  replace hl : lv_has ls 3 [(0, .ref (a 14)), (1, .int x1), (2, .int x2)] := hl
  have hin : ∀ w ∈ u_ws RX2 TX2 5, w ∈ wsX2_pointerResult := by decide +kernel
  have fl19 := hts (.fieldLink RX2 19 "CountedHeap" "memory" "LCountedHeap$Memory;") (by decide +kernel)
  unfold F_X2_pointerResult at hF
  refine lv_iload_n hx hb dX2_pointerResult_0 rfl (lv_at hl 1 rfl) ?_
  by_cases h1 : x1 = 9
  · replace hF := ip h1 hF
    refine lv_tableIn (tgt := 28) hx hb dX2_pointerResult_1 (by rw [h1]; decide) (by rw [h1]; decide) (off := 27) (by rw [h1]; decide) (by decide) ?_
    refine lv_aload_n hx hb dX2_pointerResult_28 rfl (lv_at hl 0 rfl) ?_
    refine va_get (D := (dC, dI)) (ci := 2) (v := .ref (a 0)) (C := RX2) (T := TX2) (N := 5) hx hb hts hin hown hK hP 14 rfl rfl 1 (by decide) fl19 (fun _ h9 => h9) rfl dX2_pointerResult_29 ?_
    refine lv_iload_n hx hb dX2_pointerResult_32 rfl (lv_at hl 2 rfl) ?_
    obtain ⟨q2, e3, hF⟩ := bd hF
    refine callVI (C := RX0) (ci := 0) (q0 := 0) (As := [.int x2]) (rest := []) ⟨hx, hb, hml, hown, hts⟩ (c_X0_makeBlock l dC dI cI cZ a u x2 q2 e3) gX2_pointerResult_X0_makeBlock rfl hd_X0_makeBlock rfl rfl rfl ⟨Nat.le_of_ble_eq_true rfl, Nat.le_of_ble_eq_true rfl⟩ True.intro hK hP hD hS hA rfl hl.1 rfl (Nat.le_of_ble_eq_true rfl) dX2_pointerResult_33 (fun H locs hP hD hS => ?_)
    exact hQ _ _ _ _ _ _ (Option.some.inj hF) (vp_nar_int _) hP hD hS dX2_pointerResult_36
  replace hF := iq h1 hF
  by_cases h4 : x1 = 10
  · replace hF := ip h4 hF
    refine lv_tableIn (tgt := 37) hx hb dX2_pointerResult_1 (by rw [h4]; decide) (by rw [h4]; decide) (off := 36) (by rw [h4]; decide) (by decide) ?_
    refine lv_aload_n hx hb dX2_pointerResult_37 rfl (lv_at hl 0 rfl) ?_
    refine lv_iload_n hx hb dX2_pointerResult_38 rfl (lv_at hl 2 rfl) ?_
    obtain ⟨q5, e6, hF⟩ := bd hF
    refine callVI (C := RX2) (ci := 2) (q0 := 14) (As := [.int x2]) (rest := []) ⟨hx, hb, hml, hown, hts⟩ (c_X2_valueOf l dC dI cI cZ a u x2 q5 e6) gX2_pointerResult_X2_valueOf rfl hd_X2_valueOf rfl rfl rfl ⟨Nat.le_of_ble_eq_true rfl, Nat.le_of_ble_eq_true rfl⟩ True.intro hK hP hD hS hA rfl hl.1 rfl (Nat.le_of_ble_eq_true rfl) dX2_pointerResult_39 (fun H locs hP hD hS => ?_)
    exact hQ _ _ _ _ _ _ (Option.some.inj hF) (vp_nar_int _) hP hD hS dX2_pointerResult_42
  replace hF := iq h4 hF
  by_cases h7 : x1 = 11
  · replace hF := ip h7 hF
    refine lv_tableIn (tgt := 43) hx hb dX2_pointerResult_1 (by rw [h7]; decide) (by rw [h7]; decide) (off := 42) (by rw [h7]; decide) (by decide) ?_
    refine lv_iconst (v := 0) hx hb dX2_pointerResult_43 (by decide) ?_
    exact hQ _ _ _ _ _ _ (Option.some.inj hF) (vp_nar_int _) hP hD hS dX2_pointerResult_44
  replace hF := iq h7 hF
  refine lv_tableOut (tgt := 43) hx hb dX2_pointerResult_1 (sw_out (fun v9 g1 g2 g3 => by
      have g4 : v9 = 9 ∨ v9 = 10 ∨ v9 = 11 := by omega
      rcases g4 with rfl | rfl | rfl
      · exact h1 (Int32.toInt_inj.mp (g3.trans (by decide)))
      · exact h4 (Int32.toInt_inj.mp (g3.trans (by decide)))
      · exact h7 (Int32.toInt_inj.mp (g3.trans (by decide))))) (by decide) ?_
  refine lv_iconst (v := 0) hx hb dX2_pointerResult_43 (by decide) ?_
  exact hQ _ _ _ _ _ _ (Option.some.inj hF) (vp_nar_int _) hP hD hS dX2_pointerResult_44
theorem hd_X2_pointerResult : yX2_pointerResult.cls = RX2 ∧ yX2_pointerResult.cls ≠ "java/lang/invoke/MethodHandle" ∧ yX2_pointerResult.cls ≠ "java/lang/invoke/VarHandle" ∧ (parseMethodDescriptor yX2_pointerResult.desc).map (fun d => d.parameters.length) = some 2 := by decide +kernel

def F_X2_placeAfter (u : St) (x1 x2 x3 x4 : Int32) : Option (Int32 × St) := (if x1 = 7 then (some (x3, u)) else (if x1 = 8 then ((F_X2_valueOf u x4).bind fun q3 => (if q3.1 = 0 then (some ((x2 + 1), q3.2)) else (some (x3, q3.2)))) else (if x1 = 9 then (some ((x2 + 1), u)) else (if x1 = 10 then (some ((x2 + 1), u)) else (if x1 = 11 then (some ((x2 + 1), u)) else (if x1 = 12 then (some ((x2 + 1), u)) else (if x1 = 13 then (if ((u 14 3) < 0 ∨ 8 ≤ (u 14 3).toNatClampNeg) then none else (sb (su u 15 (u 14 3).toNatClampNeg (x2 + 1)) fun u12 => (sb (su u12 14 3 ((u12 14 3) + 1)) fun u13 => (some (x3, u13))))) else (if x1 = 14 then (sb (su u 14 3 ((u 14 3) - 1)) fun u15 => (if ((u15 14 3) < 0 ∨ 8 ≤ (u15 14 3).toNatClampNeg) then none else (some ((u15 15 (u15 14 3).toNatClampNeg), u15)))) else (some ((x2 + 1), u))))))))))
set_option maxRecDepth 100000 in
set_option maxHeartbeats 4000000 in
theorem c_X2_placeAfter (l : Launch) (dC : Nat → ClassId) (dI : Nat → Nat → Nat) (cI cZ : ClassId) (a : Nat → Nat) (u : St) (x1 x2 x3 x4 : Int32) (o : Int32 × St) (hF : F_X2_placeAfter u x1 x2 x3 x4 = some o) : MI l yX2_placeAfter wsX2_placeAfter 3 63 none dC dI cI cZ (wC a cI cZ) [.ref (a 14), .int x1, .int x2, .int x3, .int x4] u o := by
  refine miOf (cc := cX2_placeAfter) (maxL := 5) (ret := .int) (by decide) rfl (Nat.le_of_ble_eq_true rfl) ?_
  intro p e s m args below meth c A Q H locs ls hx hb hml hts hown hK hA hz hQ hP hD hS hl
  replace hown : s.vm.findClass RX2 = some m.cls := hown
  replace hl : lv_has ls 5 [(0, .ref (a 14)), (1, .int x1), (2, .int x2), (3, .int x3), (4, .int x4)] := hl
  have hin : ∀ w ∈ u_ws RX2 TX2 5, w ∈ wsX2_placeAfter := by decide +kernel
  have fl23 := hts (.fieldLink RX2 23 "CountedHeap" "returnPlaces" "[I") (by decide +kernel)
  have fl27 := hts (.fieldLink RX2 27 "CountedHeap" "openCalls" "I") (by decide +kernel)
  unfold F_X2_placeAfter at hF
  refine lv_iload_n hx hb dX2_placeAfter_0 rfl (lv_at hl 1 rfl) ?_
  by_cases h1 : x1 = 7
  · replace hF := ip h1 hF
    refine lv_tableIn (tgt := 48) hx hb dX2_placeAfter_1 (by rw [h1]; decide) (by rw [h1]; decide) (off := 47) (by rw [h1]; decide) (by decide) ?_
    refine lv_iload_n hx hb dX2_placeAfter_48 rfl (lv_at hl 3 rfl) ?_
    exact hQ _ _ _ _ _ _ (Option.some.inj hF) (vp_nar_int _) hP hD hS dX2_placeAfter_49
  replace hF := iq h1 hF
  by_cases h2 : x1 = 8
  · replace hF := ip h2 hF
    refine lv_tableIn (tgt := 50) hx hb dX2_placeAfter_1 (by rw [h2]; decide) (by rw [h2]; decide) (off := 49) (by rw [h2]; decide) (by decide) ?_
    refine lv_aload_n hx hb dX2_placeAfter_50 rfl (lv_at hl 0 rfl) ?_
    refine lv_iload hx hb dX2_placeAfter_51 (lv_at hl 4 rfl) ?_
    obtain ⟨q3, e4, hF⟩ := bd hF
    refine callVI (C := RX2) (ci := 2) (q0 := 14) (As := [.int x4]) (rest := []) ⟨hx, hb, hml, hown, hts⟩ (c_X2_valueOf l dC dI cI cZ a u x4 q3 e4) gX2_placeAfter_X2_valueOf rfl hd_X2_valueOf rfl rfl rfl ⟨Nat.le_of_ble_eq_true rfl, Nat.le_of_ble_eq_true rfl⟩ True.intro hK hP hD hS hA rfl hl.1 rfl (Nat.le_of_ble_eq_true rfl) dX2_placeAfter_53 (fun H locs hP hD hS => ?_)
    refine lv_if_eq (tgt := 63) hx hb dX2_placeAfter_56 (by decide) (fun h5 => ?_) (fun h5 => ?_)
    · replace hF := ip h5 hF
      refine lv_iload_n hx hb dX2_placeAfter_63 rfl (lv_at hl 2 rfl) ?_
      refine lv_iconst (v := 1) hx hb dX2_placeAfter_64 (by decide) ?_
      refine lv_iadd hx hb dX2_placeAfter_65 ?_
      exact hQ _ _ _ _ _ _ (Option.some.inj hF) (vp_nar_int _) hP hD hS dX2_placeAfter_66
    · replace hF := iq h5 hF
      refine lv_iload_n hx hb dX2_placeAfter_59 rfl (lv_at hl 3 rfl) ?_
      refine lv_goto (tgt := 66) hx hb dX2_placeAfter_60 (by decide) ?_
      exact hQ _ _ _ _ _ _ (Option.some.inj hF) (vp_nar_int _) hP hD hS dX2_placeAfter_66
  replace hF := iq h2 hF
  by_cases h6 : x1 = 9
  · replace hF := ip h6 hF
    refine lv_tableIn (tgt := 111) hx hb dX2_placeAfter_1 (by rw [h6]; decide) (by rw [h6]; decide) (off := 110) (by rw [h6]; decide) (by decide) ?_
    refine lv_iload_n hx hb dX2_placeAfter_111 rfl (lv_at hl 2 rfl) ?_
    refine lv_iconst (v := 1) hx hb dX2_placeAfter_112 (by decide) ?_
    refine lv_iadd hx hb dX2_placeAfter_113 ?_
    exact hQ _ _ _ _ _ _ (Option.some.inj hF) (vp_nar_int _) hP hD hS dX2_placeAfter_114
  replace hF := iq h6 hF
  by_cases h7 : x1 = 10
  · replace hF := ip h7 hF
    refine lv_tableIn (tgt := 111) hx hb dX2_placeAfter_1 (by rw [h7]; decide) (by rw [h7]; decide) (off := 110) (by rw [h7]; decide) (by decide) ?_
    refine lv_iload_n hx hb dX2_placeAfter_111 rfl (lv_at hl 2 rfl) ?_
    refine lv_iconst (v := 1) hx hb dX2_placeAfter_112 (by decide) ?_
    refine lv_iadd hx hb dX2_placeAfter_113 ?_
    exact hQ _ _ _ _ _ _ (Option.some.inj hF) (vp_nar_int _) hP hD hS dX2_placeAfter_114
  replace hF := iq h7 hF
  by_cases h8 : x1 = 11
  · replace hF := ip h8 hF
    refine lv_tableIn (tgt := 111) hx hb dX2_placeAfter_1 (by rw [h8]; decide) (by rw [h8]; decide) (off := 110) (by rw [h8]; decide) (by decide) ?_
    refine lv_iload_n hx hb dX2_placeAfter_111 rfl (lv_at hl 2 rfl) ?_
    refine lv_iconst (v := 1) hx hb dX2_placeAfter_112 (by decide) ?_
    refine lv_iadd hx hb dX2_placeAfter_113 ?_
    exact hQ _ _ _ _ _ _ (Option.some.inj hF) (vp_nar_int _) hP hD hS dX2_placeAfter_114
  replace hF := iq h8 hF
  by_cases h9 : x1 = 12
  · replace hF := ip h9 hF
    refine lv_tableIn (tgt := 111) hx hb dX2_placeAfter_1 (by rw [h9]; decide) (by rw [h9]; decide) (off := 110) (by rw [h9]; decide) (by decide) ?_
    refine lv_iload_n hx hb dX2_placeAfter_111 rfl (lv_at hl 2 rfl) ?_
    refine lv_iconst (v := 1) hx hb dX2_placeAfter_112 (by decide) ?_
    refine lv_iadd hx hb dX2_placeAfter_113 ?_
    exact hQ _ _ _ _ _ _ (Option.some.inj hF) (vp_nar_int _) hP hD hS dX2_placeAfter_114
  replace hF := iq h9 hF
  by_cases h10 : x1 = 13
  · replace hF := ip h10 hF
    refine lv_tableIn (tgt := 67) hx hb dX2_placeAfter_1 (by rw [h10]; decide) (by rw [h10]; decide) (off := 66) (by rw [h10]; decide) (by decide) ?_
    refine lv_aload_n hx hb dX2_placeAfter_67 rfl (lv_at hl 0 rfl) ?_
    refine va_get (D := (dC, dI)) (ci := 2) (v := .ref (a 15)) (C := RX2) (T := TX2) (N := 5) hx hb hts hin hown hK hP 14 rfl rfl 2 (by decide) fl23 (fun _ h9 => h9) rfl dX2_placeAfter_68 ?_
    refine lv_aload_n hx hb dX2_placeAfter_71 rfl (lv_at hl 0 rfl) ?_
    refine va_get (D := (dC, dI)) (ci := 2) (v := .int (u 14 3)) (C := RX2) (T := TX2) (N := 5) hx hb hts hin hown hK hP 14 rfl rfl 3 (by decide) fl27 (fun _ h9 => h9) rfl dX2_placeAfter_72 ?_
    refine lv_iload_n hx hb dX2_placeAfter_75 rfl (lv_at hl 2 rfl) ?_
    refine lv_iconst (v := 1) hx hb dX2_placeAfter_76 (by decide) ?_
    refine lv_iadd hx hb dX2_placeAfter_77 ?_
    obtain ⟨hi11, hF⟩ := ck hF
    refine va_iast hx hb hK hP hD hS 15 0 rfl rfl hi11 dX2_placeAfter_78 (fun H locs hP hD hS => ?_)
    replace hP := wC_p15 hP
    replace hD := wC_d15 hD
    replace hF := sbE hF
    generalize (su u 15 (u 14 3).toNatClampNeg (x2 + 1)) = u12 at hF hP hD
    refine lv_aload_n hx hb dX2_placeAfter_79 rfl (lv_at hl 0 rfl) ?_
    refine lv_dup hx hb dX2_placeAfter_80 rfl ?_
    refine va_get (D := (dC, dI)) (ci := 2) (v := .int (u12 14 3)) (C := RX2) (T := TX2) (N := 5) hx hb hts hin hown hK hP 14 rfl rfl 3 (by decide) fl27 (fun _ h9 => h9) rfl dX2_placeAfter_81 ?_
    refine lv_iconst (v := 1) hx hb dX2_placeAfter_84 (by decide) ?_
    refine lv_iadd hx hb dX2_placeAfter_85 ?_
    refine va_put (D := (dC, dI)) (ci := 2) (v := .int ((u12 14 3) + 1)) (ty := .int) (C := RX2) (T := TX2) (N := 5) hx hb hts hin tyX2 tyX2_ok nmX2 hown hK hP hD hS 14 rfl rfl 3 (by decide) fl27 (fun _ h9 => h9) rfl (tyX2_ok 3 (by decide)) rfl rfl (Nat.le_of_ble_eq_true rfl) dX2_placeAfter_86 (fun H locs hP hD hS => ?_)
    replace hP := wC_p14_3 hP
    replace hD := wC_d14_3 hD
    replace hF := sbE hF
    generalize (su u12 14 3 ((u12 14 3) + 1)) = u13 at hF hP hD
    refine lv_iload_n hx hb dX2_placeAfter_89 rfl (lv_at hl 3 rfl) ?_
    exact hQ _ _ _ _ _ _ (Option.some.inj hF) (vp_nar_int _) hP hD hS dX2_placeAfter_90
  replace hF := iq h10 hF
  by_cases h14 : x1 = 14
  · replace hF := ip h14 hF
    refine lv_tableIn (tgt := 91) hx hb dX2_placeAfter_1 (by rw [h14]; decide) (by rw [h14]; decide) (off := 90) (by rw [h14]; decide) (by decide) ?_
    refine lv_aload_n hx hb dX2_placeAfter_91 rfl (lv_at hl 0 rfl) ?_
    refine lv_dup hx hb dX2_placeAfter_92 rfl ?_
    refine va_get (D := (dC, dI)) (ci := 2) (v := .int (u 14 3)) (C := RX2) (T := TX2) (N := 5) hx hb hts hin hown hK hP 14 rfl rfl 3 (by decide) fl27 (fun _ h9 => h9) rfl dX2_placeAfter_93 ?_
    refine lv_iconst (v := 1) hx hb dX2_placeAfter_96 (by decide) ?_
    refine lv_isub hx hb dX2_placeAfter_97 ?_
    refine va_put (D := (dC, dI)) (ci := 2) (v := .int ((u 14 3) - 1)) (ty := .int) (C := RX2) (T := TX2) (N := 5) hx hb hts hin tyX2 tyX2_ok nmX2 hown hK hP hD hS 14 rfl rfl 3 (by decide) fl27 (fun _ h9 => h9) rfl (tyX2_ok 3 (by decide)) rfl rfl (Nat.le_of_ble_eq_true rfl) dX2_placeAfter_98 (fun H locs hP hD hS => ?_)
    replace hP := wC_p14_3 hP
    replace hD := wC_d14_3 hD
    replace hF := sbE hF
    generalize (su u 14 3 ((u 14 3) - 1)) = u15 at hF hP hD
    refine lv_aload_n hx hb dX2_placeAfter_101 rfl (lv_at hl 0 rfl) ?_
    refine va_get (D := (dC, dI)) (ci := 2) (v := .ref (a 15)) (C := RX2) (T := TX2) (N := 5) hx hb hts hin hown hK hP 14 rfl rfl 2 (by decide) fl23 (fun _ h9 => h9) rfl dX2_placeAfter_102 ?_
    refine lv_aload_n hx hb dX2_placeAfter_105 rfl (lv_at hl 0 rfl) ?_
    refine va_get (D := (dC, dI)) (ci := 2) (v := .int (u15 14 3)) (C := RX2) (T := TX2) (N := 5) hx hb hts hin hown hK hP 14 rfl rfl 3 (by decide) fl27 (fun _ h9 => h9) rfl dX2_placeAfter_106 ?_
    obtain ⟨hi16, hF⟩ := ck hF
    refine va_iald hx hb hK hP 15 0 rfl rfl hi16 dX2_placeAfter_109 ?_
    exact hQ _ _ _ _ _ _ (Option.some.inj hF) (vp_nar_int _) hP hD hS dX2_placeAfter_110
  replace hF := iq h14 hF
  refine lv_tableOut (tgt := 111) hx hb dX2_placeAfter_1 (sw_out (fun v9 g1 g2 g3 => by
      have g4 : v9 = 7 ∨ v9 = 8 ∨ v9 = 9 ∨ v9 = 10 ∨ v9 = 11 ∨ v9 = 12 ∨ v9 = 13 ∨ v9 = 14 := by omega
      rcases g4 with rfl | rfl | rfl | rfl | rfl | rfl | rfl | rfl
      · exact h1 (Int32.toInt_inj.mp (g3.trans (by decide)))
      · exact h2 (Int32.toInt_inj.mp (g3.trans (by decide)))
      · exact h6 (Int32.toInt_inj.mp (g3.trans (by decide)))
      · exact h7 (Int32.toInt_inj.mp (g3.trans (by decide)))
      · exact h8 (Int32.toInt_inj.mp (g3.trans (by decide)))
      · exact h9 (Int32.toInt_inj.mp (g3.trans (by decide)))
      · exact h10 (Int32.toInt_inj.mp (g3.trans (by decide)))
      · exact h14 (Int32.toInt_inj.mp (g3.trans (by decide))))) (by decide) ?_
  refine lv_iload_n hx hb dX2_placeAfter_111 rfl (lv_at hl 2 rfl) ?_
  refine lv_iconst (v := 1) hx hb dX2_placeAfter_112 (by decide) ?_
  refine lv_iadd hx hb dX2_placeAfter_113 ?_
  exact hQ _ _ _ _ _ _ (Option.some.inj hF) (vp_nar_int _) hP hD hS dX2_placeAfter_114
theorem hd_X2_placeAfter : yX2_placeAfter.cls = RX2 ∧ yX2_placeAfter.cls ≠ "java/lang/invoke/MethodHandle" ∧ yX2_placeAfter.cls ≠ "java/lang/invoke/VarHandle" ∧ (parseMethodDescriptor yX2_placeAfter.desc).map (fun d => d.parameters.length) = some 4 := by decide +kernel

def F_X2_next (u : St) : Option (Int32 × St) := (some ((u 14 4), u))
set_option maxRecDepth 100000 in
set_option maxHeartbeats 4000000 in
theorem c_X2_next (l : Launch) (dC : Nat → ClassId) (dI : Nat → Nat → Nat) (cI cZ : ClassId) (a : Nat → Nat) (u : St) (o : Int32 × St) (hF : F_X2_next u = some o) : MI l yX2_next wsX2_next 0 0 none dC dI cI cZ (wC a cI cZ) [.ref (a 14)] u o := by
  refine miOf (cc := cX2_next) (maxL := 1) (ret := .int) (by decide) rfl (Nat.le_of_ble_eq_true rfl) ?_
  intro p e s m args below meth c A Q H locs ls hx hb hml hts hown hK hA hz hQ hP hD hS hl
  replace hown : s.vm.findClass RX2 = some m.cls := hown
  replace hl : lv_has ls 1 [(0, .ref (a 14))] := hl
  have hin : ∀ w ∈ u_ws RX2 TX2 5, w ∈ wsX2_next := by decide +kernel
  have fl31 := hts (.fieldLink RX2 31 "CountedHeap" "nextPlace" "I") (by decide +kernel)
  unfold F_X2_next at hF
  refine lv_aload_n hx hb dX2_next_0 rfl (lv_at hl 0 rfl) ?_
  refine va_get (D := (dC, dI)) (ci := 2) (v := .int (u 14 4)) (C := RX2) (T := TX2) (N := 5) hx hb hts hin hown hK hP 14 rfl rfl 4 (by decide) fl31 (fun _ h9 => h9) rfl dX2_next_1 ?_
  exact hQ _ _ _ _ _ _ (Option.some.inj hF) (vp_nar_int _) hP hD hS dX2_next_4
theorem hd_X2_next : yX2_next.cls = RX2 ∧ yX2_next.cls ≠ "java/lang/invoke/MethodHandle" ∧ yX2_next.cls ≠ "java/lang/invoke/VarHandle" ∧ (parseMethodDescriptor yX2_next.desc).map (fun d => d.parameters.length) = some 0 := by decide +kernel

def F_X2_open (u : St) : Option (Int32 × St) := (some ((u 14 3), u))
set_option maxRecDepth 100000 in
set_option maxHeartbeats 4000000 in
theorem c_X2_open (l : Launch) (dC : Nat → ClassId) (dI : Nat → Nat → Nat) (cI cZ : ClassId) (a : Nat → Nat) (u : St) (o : Int32 × St) (hF : F_X2_open u = some o) : MI l yX2_open wsX2_open 0 0 none dC dI cI cZ (wC a cI cZ) [.ref (a 14)] u o := by
  refine miOf (cc := cX2_open) (maxL := 1) (ret := .int) (by decide) rfl (Nat.le_of_ble_eq_true rfl) ?_
  intro p e s m args below meth c A Q H locs ls hx hb hml hts hown hK hA hz hQ hP hD hS hl
  replace hown : s.vm.findClass RX2 = some m.cls := hown
  replace hl : lv_has ls 1 [(0, .ref (a 14))] := hl
  have hin : ∀ w ∈ u_ws RX2 TX2 5, w ∈ wsX2_open := by decide +kernel
  have fl27 := hts (.fieldLink RX2 27 "CountedHeap" "openCalls" "I") (by decide +kernel)
  unfold F_X2_open at hF
  refine lv_aload_n hx hb dX2_open_0 rfl (lv_at hl 0 rfl) ?_
  refine va_get (D := (dC, dI)) (ci := 2) (v := .int (u 14 3)) (C := RX2) (T := TX2) (N := 5) hx hb hts hin hown hK hP 14 rfl rfl 3 (by decide) fl27 (fun _ h9 => h9) rfl dX2_open_1 ?_
  exact hQ _ _ _ _ _ _ (Option.some.inj hF) (vp_nar_int _) hP hD hS dX2_open_4
theorem hd_X2_open : yX2_open.cls = RX2 ∧ yX2_open.cls ≠ "java/lang/invoke/MethodHandle" ∧ yX2_open.cls ≠ "java/lang/invoke/VarHandle" ∧ (parseMethodDescriptor yX2_open.desc).map (fun d => d.parameters.length) = some 0 := by decide +kernel

def F_X2_isFrameInt (u : St) (x0 : Int32) : Option (Int32 × St) := (if x0 < 0 then (some (0, u)) else (if 4 ≤ x0 then (some (0, u)) else (some (1, u))))
set_option maxRecDepth 100000 in
set_option maxHeartbeats 4000000 in
theorem c_X2_isFrameInt (l : Launch) (dC : Nat → ClassId) (dI : Nat → Nat → Nat) (cI cZ : ClassId) (a : Nat → Nat) (u : St) (x0 : Int32) (o : Int32 × St) (hF : F_X2_isFrameInt u x0 = some o) : MI l yX2_isFrameInt wsX2_isFrameInt 0 0 none dC dI cI cZ (wC a cI cZ) [.int x0] u o := by
  refine miOf (cc := cX2_isFrameInt) (maxL := 1) (ret := .boolean) (by decide) rfl (Nat.le_of_ble_eq_true rfl) ?_
  intro p e s m args below meth c A Q H locs ls hx hb hml hts hown hK hA hz hQ hP hD hS hl
  replace hown : s.vm.findClass RX2 = some m.cls := hown
  replace hl : lv_has ls 1 [(0, .int x0)] := hl
  unfold F_X2_isFrameInt at hF
  refine lv_iload_n hx hb dX2_isFrameInt_0 rfl (lv_at hl 0 rfl) ?_
  refine lv_if_lt (tgt := 13) hx hb dX2_isFrameInt_1 (by decide) (fun h1 => ?_) (fun h1 => ?_)
  · replace hF := ip h1 hF
    refine lv_iconst (v := 0) hx hb dX2_isFrameInt_13 (by decide) ?_
    exact hQ _ _ _ _ _ _ (Option.some.inj hF) rfl hP hD hS dX2_isFrameInt_14
  · replace hF := iq h1 hF
    refine lv_iload_n hx hb dX2_isFrameInt_4 rfl (lv_at hl 0 rfl) ?_
    refine lv_iconst (v := 4) hx hb dX2_isFrameInt_5 (by decide) ?_
    refine lv_icmp_ge (tgt := 13) hx hb dX2_isFrameInt_6 (by decide) (fun h2 => ?_) (fun h2 => ?_)
    · replace hF := ip h2 hF
      refine lv_iconst (v := 0) hx hb dX2_isFrameInt_13 (by decide) ?_
      exact hQ _ _ _ _ _ _ (Option.some.inj hF) rfl hP hD hS dX2_isFrameInt_14
    · replace hF := iq h2 hF
      refine lv_iconst (v := 1) hx hb dX2_isFrameInt_9 (by decide) ?_
      refine lv_goto (tgt := 14) hx hb dX2_isFrameInt_10 (by decide) ?_
      exact hQ _ _ _ _ _ _ (Option.some.inj hF) rfl hP hD hS dX2_isFrameInt_14
theorem hd_X2_isFrameInt : yX2_isFrameInt.cls ≠ "java/lang/invoke/MethodHandle" ∧ yX2_isFrameInt.cls ≠ "java/lang/invoke/VarHandle" ∧ (parseMethodDescriptor yX2_isFrameInt.desc).map (fun d => d.parameters.length) = some 1 := by decide +kernel

def F_X2_frame (u : St) (x1 : Int32) : Option (Int32 × St) := ((F_X2_isFrameInt u x1).bind fun q1 => (if q1.1 = 0 then (some (0, q1.2)) else ((F_X0_read q1.2 x1).bind fun q4 => (some (q4.1, q4.2)))))
set_option maxRecDepth 100000 in
set_option maxHeartbeats 4000000 in
theorem c_X2_frame (l : Launch) (dC : Nat → ClassId) (dI : Nat → Nat → Nat) (cI cZ : ClassId) (a : Nat → Nat) (u : St) (x1 : Int32) (o : Int32 × St) (hF : F_X2_frame u x1 = some o) : MI l yX2_frame wsX2_frame 1 21 none dC dI cI cZ (wC a cI cZ) [.ref (a 14), .int x1] u o := by
  refine miOf (cc := cX2_frame) (maxL := 2) (ret := .int) (by decide) rfl (Nat.le_of_ble_eq_true rfl) ?_
  intro p e s m args below meth c A Q H locs ls hx hb hml hts hown hK hA hz hQ hP hD hS hl
  replace hown : s.vm.findClass RX2 = some m.cls := hown
  replace hl : lv_has ls 2 [(0, .ref (a 14)), (1, .int x1)] := hl
  have hin : ∀ w ∈ u_ws RX2 TX2 5, w ∈ wsX2_frame := by decide +kernel
  have fl19 := hts (.fieldLink RX2 19 "CountedHeap" "memory" "LCountedHeap$Memory;") (by decide +kernel)
  unfold F_X2_frame at hF
  refine lv_iload_n hx hb dX2_frame_0 rfl (lv_at hl 1 rfl) ?_
  obtain ⟨q1, e2, hF⟩ := bd hF
  refine callSI (As := [.int x1]) (rest := []) ⟨hx, hb, hml, hown, hts⟩ (c_X2_isFrameInt l dC dI cI cZ a u x1 q1 e2) gX2_frame_X2_isFrameInt rfl hd_X2_isFrameInt ⟨Nat.le_of_ble_eq_true rfl, Nat.le_of_ble_eq_true rfl⟩ True.intro hK hP hD hS hA rfl hl.1 rfl (Nat.le_of_ble_eq_true rfl) dX2_frame_1 (fun H locs hP hD hS => ?_)
  refine lv_if_eq (tgt := 18) hx hb dX2_frame_4 (by decide) (fun h3 => ?_) (fun h3 => ?_)
  · replace hF := ip h3 hF
    refine lv_iconst (v := 0) hx hb dX2_frame_18 (by decide) ?_
    exact hQ _ _ _ _ _ _ (Option.some.inj hF) (vp_nar_int _) hP hD hS dX2_frame_19
  · replace hF := iq h3 hF
    refine lv_aload_n hx hb dX2_frame_7 rfl (lv_at hl 0 rfl) ?_
    refine va_get (D := (dC, dI)) (ci := 2) (v := .ref (a 0)) (C := RX2) (T := TX2) (N := 5) hx hb hts hin hown hK hP 14 rfl rfl 1 (by decide) fl19 (fun _ h9 => h9) rfl dX2_frame_8 ?_
    refine lv_iload_n hx hb dX2_frame_11 rfl (lv_at hl 1 rfl) ?_
    obtain ⟨q4, e5, hF⟩ := bd hF
    refine callVI (C := RX0) (ci := 0) (q0 := 0) (As := [.int x1]) (rest := []) ⟨hx, hb, hml, hown, hts⟩ (c_X0_read l dC dI cI cZ a q1.2 x1 q4 e5) gX2_frame_X0_read rfl hd_X0_read rfl rfl rfl ⟨Nat.le_of_ble_eq_true rfl, Nat.le_of_ble_eq_true rfl⟩ True.intro hK hP hD hS hA rfl hl.1 rfl (Nat.le_of_ble_eq_true rfl) dX2_frame_12 (fun H locs hP hD hS => ?_)
    refine lv_goto (tgt := 19) hx hb dX2_frame_15 (by decide) ?_
    exact hQ _ _ _ _ _ _ (Option.some.inj hF) (vp_nar_int _) hP hD hS dX2_frame_19
theorem hd_X2_frame : yX2_frame.cls = RX2 ∧ yX2_frame.cls ≠ "java/lang/invoke/MethodHandle" ∧ yX2_frame.cls ≠ "java/lang/invoke/VarHandle" ∧ (parseMethodDescriptor yX2_frame.desc).map (fun d => d.parameters.length) = some 1 := by decide +kernel

def F_X2_set (u : St) (x1 x2 : Int32) : Option (Int32 × St) := ((F_X2_isFrameInt u x1).bind fun q1 => (if q1.1 = 0 then (some (0, q1.2)) else ((F_X0_writeInt q1.2 x1 x2).bind fun q4 => (some (1, q4.2)))))
set_option maxRecDepth 100000 in
set_option maxHeartbeats 4000000 in
theorem c_X2_set (l : Launch) (dC : Nat → ClassId) (dI : Nat → Nat → Nat) (cI cZ : ClassId) (a : Nat → Nat) (u : St) (x1 x2 : Int32) (o : Int32 × St) (hF : F_X2_set u x1 x2 = some o) : MI l yX2_set wsX2_set 1 22 none dC dI cI cZ (wC a cI cZ) [.ref (a 14), .int x1, .int x2] u o := by
  refine miOf (cc := cX2_set) (maxL := 3) (ret := .boolean) (by decide) rfl (Nat.le_of_ble_eq_true rfl) ?_
  intro p e s m args below meth c A Q H locs ls hx hb hml hts hown hK hA hz hQ hP hD hS hl
  replace hown : s.vm.findClass RX2 = some m.cls := hown
  replace hl : lv_has ls 3 [(0, .ref (a 14)), (1, .int x1), (2, .int x2)] := hl
  have hin : ∀ w ∈ u_ws RX2 TX2 5, w ∈ wsX2_set := by decide +kernel
  have fl19 := hts (.fieldLink RX2 19 "CountedHeap" "memory" "LCountedHeap$Memory;") (by decide +kernel)
  unfold F_X2_set at hF
  refine lv_iload_n hx hb dX2_set_0 rfl (lv_at hl 1 rfl) ?_
  obtain ⟨q1, e2, hF⟩ := bd hF
  refine callSI (As := [.int x1]) (rest := []) ⟨hx, hb, hml, hown, hts⟩ (c_X2_isFrameInt l dC dI cI cZ a u x1 q1 e2) gX2_set_X2_isFrameInt rfl hd_X2_isFrameInt ⟨Nat.le_of_ble_eq_true rfl, Nat.le_of_ble_eq_true rfl⟩ True.intro hK hP hD hS hA rfl hl.1 rfl (Nat.le_of_ble_eq_true rfl) dX2_set_1 (fun H locs hP hD hS => ?_)
  refine lv_if_ne (tgt := 9) hx hb dX2_set_4 (by decide) (fun h3 => ?_) (fun h3 => ?_)
  · replace hF := iq h3 hF
    refine lv_aload_n hx hb dX2_set_9 rfl (lv_at hl 0 rfl) ?_
    refine va_get (D := (dC, dI)) (ci := 2) (v := .ref (a 0)) (C := RX2) (T := TX2) (N := 5) hx hb hts hin hown hK hP 14 rfl rfl 1 (by decide) fl19 (fun _ h9 => h9) rfl dX2_set_10 ?_
    refine lv_iload_n hx hb dX2_set_13 rfl (lv_at hl 1 rfl) ?_
    refine lv_iload_n hx hb dX2_set_14 rfl (lv_at hl 2 rfl) ?_
    obtain ⟨q4, e5, hF⟩ := bd hF
    refine callVV (C := RX0) (ci := 0) (q0 := 0) (As := [.int x1, .int x2]) (rest := []) ⟨hx, hb, hml, hown, hts⟩ (c_X0_writeInt l dC dI cI cZ a q1.2 x1 x2 q4 e5) gX2_set_X0_writeInt rfl hd_X0_writeInt rfl rfl rfl ⟨Nat.le_of_ble_eq_true rfl, Nat.le_of_ble_eq_true rfl⟩ True.intro hK hP hD hS hA rfl hl.1 rfl (Nat.le_of_ble_eq_true rfl) dX2_set_15 (fun H locs hP hD hS => ?_)
    refine lv_iconst (v := 1) hx hb dX2_set_18 (by decide) ?_
    exact hQ _ _ _ _ _ _ (Option.some.inj hF) rfl hP hD hS dX2_set_19
  · replace hF := ip h3 hF
    refine lv_iconst (v := 0) hx hb dX2_set_7 (by decide) ?_
    exact hQ _ _ _ _ _ _ (Option.some.inj hF) rfl hP hD hS dX2_set_8
theorem hd_X2_set : yX2_set.cls = RX2 ∧ yX2_set.cls ≠ "java/lang/invoke/MethodHandle" ∧ yX2_set.cls ≠ "java/lang/invoke/VarHandle" ∧ (parseMethodDescriptor yX2_set.desc).map (fun d => d.parameters.length) = some 2 := by decide +kernel

def F_X2_root (u : St) (x1 : Int32) : Option (Int32 × St) := (if x1 < 0 then (some ((-1), u)) else (if 4 ≤ x1 then (some ((-1), u)) else ((F_X0_read u ((4 + x1))).bind fun q3 => (some (q3.1, q3.2)))))
set_option maxRecDepth 100000 in
set_option maxHeartbeats 4000000 in
theorem c_X2_root (l : Launch) (dC : Nat → ClassId) (dI : Nat → Nat → Nat) (cI cZ : ClassId) (a : Nat → Nat) (u : St) (x1 : Int32) (o : Int32 × St) (hF : F_X2_root u x1 = some o) : MI l yX2_root wsX2_root 1 21 none dC dI cI cZ (wC a cI cZ) [.ref (a 14), .int x1] u o := by
  refine miOf (cc := cX2_root) (maxL := 2) (ret := .int) (by decide) rfl (Nat.le_of_ble_eq_true rfl) ?_
  intro p e s m args below meth c A Q H locs ls hx hb hml hts hown hK hA hz hQ hP hD hS hl
  replace hown : s.vm.findClass RX2 = some m.cls := hown
  replace hl : lv_has ls 2 [(0, .ref (a 14)), (1, .int x1)] := hl
  have hin : ∀ w ∈ u_ws RX2 TX2 5, w ∈ wsX2_root := by decide +kernel
  have fl19 := hts (.fieldLink RX2 19 "CountedHeap" "memory" "LCountedHeap$Memory;") (by decide +kernel)
  unfold F_X2_root at hF
  refine lv_iload_n hx hb dX2_root_0 rfl (lv_at hl 1 rfl) ?_
  refine lv_if_lt (tgt := 22) hx hb dX2_root_1 (by decide) (fun h1 => ?_) (fun h1 => ?_)
  · replace hF := ip h1 hF
    refine lv_iconst (v := (-1)) hx hb dX2_root_22 (by decide) ?_
    exact hQ _ _ _ _ _ _ (Option.some.inj hF) (vp_nar_int _) hP hD hS dX2_root_23
  · replace hF := iq h1 hF
    refine lv_iload_n hx hb dX2_root_4 rfl (lv_at hl 1 rfl) ?_
    refine lv_iconst (v := 4) hx hb dX2_root_5 (by decide) ?_
    refine lv_icmp_ge (tgt := 22) hx hb dX2_root_6 (by decide) (fun h2 => ?_) (fun h2 => ?_)
    · replace hF := ip h2 hF
      refine lv_iconst (v := (-1)) hx hb dX2_root_22 (by decide) ?_
      exact hQ _ _ _ _ _ _ (Option.some.inj hF) (vp_nar_int _) hP hD hS dX2_root_23
    · replace hF := iq h2 hF
      refine lv_aload_n hx hb dX2_root_9 rfl (lv_at hl 0 rfl) ?_
      refine va_get (D := (dC, dI)) (ci := 2) (v := .ref (a 0)) (C := RX2) (T := TX2) (N := 5) hx hb hts hin hown hK hP 14 rfl rfl 1 (by decide) fl19 (fun _ h9 => h9) rfl dX2_root_10 ?_
      refine lv_iconst (v := 4) hx hb dX2_root_13 (by decide) ?_
      refine lv_iload_n hx hb dX2_root_14 rfl (lv_at hl 1 rfl) ?_
      refine lv_iadd hx hb dX2_root_15 ?_
      obtain ⟨q3, e4, hF⟩ := bd hF
      refine callVI (C := RX0) (ci := 0) (q0 := 0) (As := [.int (4 + x1)]) (rest := []) ⟨hx, hb, hml, hown, hts⟩ (c_X0_read l dC dI cI cZ a u ((4 + x1)) q3 e4) gX2_root_X0_read rfl hd_X0_read rfl rfl rfl ⟨Nat.le_of_ble_eq_true rfl, Nat.le_of_ble_eq_true rfl⟩ True.intro hK hP hD hS hA rfl hl.1 rfl (Nat.le_of_ble_eq_true rfl) dX2_root_16 (fun H locs hP hD hS => ?_)
      refine lv_goto (tgt := 23) hx hb dX2_root_19 (by decide) ?_
      exact hQ _ _ _ _ _ _ (Option.some.inj hF) (vp_nar_int _) hP hD hS dX2_root_23
theorem hd_X2_root : yX2_root.cls = RX2 ∧ yX2_root.cls ≠ "java/lang/invoke/MethodHandle" ∧ yX2_root.cls ≠ "java/lang/invoke/VarHandle" ∧ (parseMethodDescriptor yX2_root.desc).map (fun d => d.parameters.length) = some 1 := by decide +kernel

def F_X2_blocks (u : St) : Option (Int32 × St) := ((F_X0_blockTotal u).bind fun q1 => (some (q1.1, q1.2)))
set_option maxRecDepth 100000 in
set_option maxHeartbeats 4000000 in
theorem c_X2_blocks (l : Launch) (dC : Nat → ClassId) (dI : Nat → Nat → Nat) (cI cZ : ClassId) (a : Nat → Nat) (u : St) (o : Int32 × St) (hF : F_X2_blocks u = some o) : MI l yX2_blocks wsX2_blocks 1 20 none dC dI cI cZ (wC a cI cZ) [.ref (a 14)] u o := by
  refine miOf (cc := cX2_blocks) (maxL := 1) (ret := .int) (by decide) rfl (Nat.le_of_ble_eq_true rfl) ?_
  intro p e s m args below meth c A Q H locs ls hx hb hml hts hown hK hA hz hQ hP hD hS hl
  replace hown : s.vm.findClass RX2 = some m.cls := hown
  replace hl : lv_has ls 1 [(0, .ref (a 14))] := hl
  have hin : ∀ w ∈ u_ws RX2 TX2 5, w ∈ wsX2_blocks := by decide +kernel
  have fl19 := hts (.fieldLink RX2 19 "CountedHeap" "memory" "LCountedHeap$Memory;") (by decide +kernel)
  unfold F_X2_blocks at hF
  refine lv_aload_n hx hb dX2_blocks_0 rfl (lv_at hl 0 rfl) ?_
  refine va_get (D := (dC, dI)) (ci := 2) (v := .ref (a 0)) (C := RX2) (T := TX2) (N := 5) hx hb hts hin hown hK hP 14 rfl rfl 1 (by decide) fl19 (fun _ h9 => h9) rfl dX2_blocks_1 ?_
  obtain ⟨q1, e2, hF⟩ := bd hF
  refine callVI (C := RX0) (ci := 0) (q0 := 0) (As := []) (rest := []) ⟨hx, hb, hml, hown, hts⟩ (c_X0_blockTotal l dC dI cI cZ a u q1 e2) gX2_blocks_X0_blockTotal rfl hd_X0_blockTotal rfl rfl rfl ⟨Nat.le_of_ble_eq_true rfl, Nat.le_of_ble_eq_true rfl⟩ True.intro hK hP hD hS hA rfl hl.1 rfl (Nat.le_of_ble_eq_true rfl) dX2_blocks_4 (fun H locs hP hD hS => ?_)
  exact hQ _ _ _ _ _ _ (Option.some.inj hF) (vp_nar_int _) hP hD hS dX2_blocks_7
theorem hd_X2_blocks : yX2_blocks.cls = RX2 ∧ yX2_blocks.cls ≠ "java/lang/invoke/MethodHandle" ∧ yX2_blocks.cls ≠ "java/lang/invoke/VarHandle" ∧ (parseMethodDescriptor yX2_blocks.desc).map (fun d => d.parameters.length) = some 0 := by decide +kernel

def F_X2_count (u : St) (x1 : Int32) : Option (Int32 × St) := ((F_X0_countOf u x1).bind fun q1 => (some (q1.1, q1.2)))
set_option maxRecDepth 100000 in
set_option maxHeartbeats 4000000 in
theorem c_X2_count (l : Launch) (dC : Nat → ClassId) (dI : Nat → Nat → Nat) (cI cZ : ClassId) (a : Nat → Nat) (u : St) (x1 : Int32) (o : Int32 × St) (hF : F_X2_count u x1 = some o) : MI l yX2_count wsX2_count 2 42 none dC dI cI cZ (wC a cI cZ) [.ref (a 14), .int x1] u o := by
  refine miOf (cc := cX2_count) (maxL := 2) (ret := .int) (by decide) rfl (Nat.le_of_ble_eq_true rfl) ?_
  intro p e s m args below meth c A Q H locs ls hx hb hml hts hown hK hA hz hQ hP hD hS hl
  replace hown : s.vm.findClass RX2 = some m.cls := hown
  replace hl : lv_has ls 2 [(0, .ref (a 14)), (1, .int x1)] := hl
  have hin : ∀ w ∈ u_ws RX2 TX2 5, w ∈ wsX2_count := by decide +kernel
  have fl19 := hts (.fieldLink RX2 19 "CountedHeap" "memory" "LCountedHeap$Memory;") (by decide +kernel)
  unfold F_X2_count at hF
  refine lv_aload_n hx hb dX2_count_0 rfl (lv_at hl 0 rfl) ?_
  refine va_get (D := (dC, dI)) (ci := 2) (v := .ref (a 0)) (C := RX2) (T := TX2) (N := 5) hx hb hts hin hown hK hP 14 rfl rfl 1 (by decide) fl19 (fun _ h9 => h9) rfl dX2_count_1 ?_
  refine lv_iload_n hx hb dX2_count_4 rfl (lv_at hl 1 rfl) ?_
  obtain ⟨q1, e2, hF⟩ := bd hF
  refine callVI (C := RX0) (ci := 0) (q0 := 0) (As := [.int x1]) (rest := []) ⟨hx, hb, hml, hown, hts⟩ (c_X0_countOf l dC dI cI cZ a u x1 q1 e2) gX2_count_X0_countOf rfl hd_X0_countOf rfl rfl rfl ⟨Nat.le_of_ble_eq_true rfl, Nat.le_of_ble_eq_true rfl⟩ True.intro hK hP hD hS hA rfl hl.1 rfl (Nat.le_of_ble_eq_true rfl) dX2_count_5 (fun H locs hP hD hS => ?_)
  exact hQ _ _ _ _ _ _ (Option.some.inj hF) (vp_nar_int _) hP hD hS dX2_count_8
theorem hd_X2_count : yX2_count.cls = RX2 ∧ yX2_count.cls ≠ "java/lang/invoke/MethodHandle" ∧ yX2_count.cls ≠ "java/lang/invoke/VarHandle" ∧ (parseMethodDescriptor yX2_count.desc).map (fun d => d.parameters.length) = some 1 := by decide +kernel

def F_X2_typeOf (u : St) (x1 : Int32) : Option (Int32 × St) := ((F_X0_blockType u x1).bind fun q1 => (some (q1.1, q1.2)))
set_option maxRecDepth 100000 in
set_option maxHeartbeats 4000000 in
theorem c_X2_typeOf (l : Launch) (dC : Nat → ClassId) (dI : Nat → Nat → Nat) (cI cZ : ClassId) (a : Nat → Nat) (u : St) (x1 : Int32) (o : Int32 × St) (hF : F_X2_typeOf u x1 = some o) : MI l yX2_typeOf wsX2_typeOf 2 42 none dC dI cI cZ (wC a cI cZ) [.ref (a 14), .int x1] u o := by
  refine miOf (cc := cX2_typeOf) (maxL := 2) (ret := .int) (by decide) rfl (Nat.le_of_ble_eq_true rfl) ?_
  intro p e s m args below meth c A Q H locs ls hx hb hml hts hown hK hA hz hQ hP hD hS hl
  replace hown : s.vm.findClass RX2 = some m.cls := hown
  replace hl : lv_has ls 2 [(0, .ref (a 14)), (1, .int x1)] := hl
  have hin : ∀ w ∈ u_ws RX2 TX2 5, w ∈ wsX2_typeOf := by decide +kernel
  have fl19 := hts (.fieldLink RX2 19 "CountedHeap" "memory" "LCountedHeap$Memory;") (by decide +kernel)
  unfold F_X2_typeOf at hF
  refine lv_aload_n hx hb dX2_typeOf_0 rfl (lv_at hl 0 rfl) ?_
  refine va_get (D := (dC, dI)) (ci := 2) (v := .ref (a 0)) (C := RX2) (T := TX2) (N := 5) hx hb hts hin hown hK hP 14 rfl rfl 1 (by decide) fl19 (fun _ h9 => h9) rfl dX2_typeOf_1 ?_
  refine lv_iload_n hx hb dX2_typeOf_4 rfl (lv_at hl 1 rfl) ?_
  obtain ⟨q1, e2, hF⟩ := bd hF
  refine callVI (C := RX0) (ci := 0) (q0 := 0) (As := [.int x1]) (rest := []) ⟨hx, hb, hml, hown, hts⟩ (c_X0_blockType l dC dI cI cZ a u x1 q1 e2) gX2_typeOf_X0_blockType rfl hd_X0_blockType rfl rfl rfl ⟨Nat.le_of_ble_eq_true rfl, Nat.le_of_ble_eq_true rfl⟩ True.intro hK hP hD hS hA rfl hl.1 rfl (Nat.le_of_ble_eq_true rfl) dX2_typeOf_5 (fun H locs hP hD hS => ?_)
  exact hQ _ _ _ _ _ _ (Option.some.inj hF) (vp_nar_int _) hP hD hS dX2_typeOf_8
theorem hd_X2_typeOf : yX2_typeOf.cls = RX2 ∧ yX2_typeOf.cls ≠ "java/lang/invoke/MethodHandle" ∧ yX2_typeOf.cls ≠ "java/lang/invoke/VarHandle" ∧ (parseMethodDescriptor yX2_typeOf.desc).map (fun d => d.parameters.length) = some 1 := by decide +kernel

def F_X2_word (u : St) (x1 x2 : Int32) : Option (Int64 × St) := ((F_X0_hasWord u x1 x2).bind fun q1 => (if q1.1 = 0 then (some (4294967296, q1.2)) else ((F_X0_cellOfWord q1.2 x1 x2).bind fun q4 => ((F_X0_read q4.2 (q4.1)).bind fun q6 => (some (q6.1.toInt64, q6.2))))))
set_option maxRecDepth 100000 in
set_option maxHeartbeats 4000000 in
theorem c_X2_word (l : Launch) (dC : Nat → ClassId) (dI : Nat → Nat → Nat) (cI cZ : ClassId) (a : Nat → Nat) (u : St) (x1 x2 : Int32) (o : Int64 × St) (hF : F_X2_word u x1 x2 = some o) : ML l yX2_word wsX2_word 2 43 none dC dI cI cZ (wC a cI cZ) [.ref (a 14), .int x1, .int x2] u o := by
  refine mlOf (cc := cX2_word) (maxL := 3) (by decide) rfl (Nat.le_of_ble_eq_true rfl) ?_
  intro p e s m args below meth c A Q H locs ls hx hb hml hts hown hK hA hz hQ hP hD hS hl
  replace hown : s.vm.findClass RX2 = some m.cls := hown
  replace hl : lv_has ls 3 [(0, .ref (a 14)), (1, .int x1), (2, .int x2)] := hl
  have hin : ∀ w ∈ u_ws RX2 TX2 5, w ∈ wsX2_word := by decide +kernel
  have fl19 := hts (.fieldLink RX2 19 "CountedHeap" "memory" "LCountedHeap$Memory;") (by decide +kernel)
  unfold F_X2_word at hF
  refine lv_aload_n hx hb dX2_word_0 rfl (lv_at hl 0 rfl) ?_
  refine va_get (D := (dC, dI)) (ci := 2) (v := .ref (a 0)) (C := RX2) (T := TX2) (N := 5) hx hb hts hin hown hK hP 14 rfl rfl 1 (by decide) fl19 (fun _ h9 => h9) rfl dX2_word_1 ?_
  refine lv_iload_n hx hb dX2_word_4 rfl (lv_at hl 1 rfl) ?_
  refine lv_iload_n hx hb dX2_word_5 rfl (lv_at hl 2 rfl) ?_
  obtain ⟨q1, e2, hF⟩ := bd hF
  refine callVI (C := RX0) (ci := 0) (q0 := 0) (As := [.int x1, .int x2]) (rest := []) ⟨hx, hb, hml, hown, hts⟩ (c_X0_hasWord l dC dI cI cZ a u x1 x2 q1 e2) gX2_word_X0_hasWord rfl hd_X0_hasWord rfl rfl rfl ⟨Nat.le_of_ble_eq_true rfl, Nat.le_of_ble_eq_true rfl⟩ True.intro hK hP hD hS hA rfl hl.1 rfl (Nat.le_of_ble_eq_true rfl) dX2_word_6 (fun H locs hP hD hS => ?_)
  refine lv_if_eq (tgt := 28) hx hb dX2_word_9 (by decide) (fun h3 => ?_) (fun h3 => ?_)
  · replace hF := ip h3 hF
    refine lv_ldc2 (v := 4294967296) hx hb hown (hts (.constantLong RX2 120 4294967296) (by decide +kernel)) dX2_word_28 ?_
    exact hQ _ _ _ _ _ _ (Option.some.inj hF) hP hD hS dX2_word_31
  · replace hF := iq h3 hF
    refine lv_aload_n hx hb dX2_word_12 rfl (lv_at hl 0 rfl) ?_
    refine va_get (D := (dC, dI)) (ci := 2) (v := .ref (a 0)) (C := RX2) (T := TX2) (N := 5) hx hb hts hin hown hK hP 14 rfl rfl 1 (by decide) fl19 (fun _ h9 => h9) rfl dX2_word_13 ?_
    refine lv_iload_n hx hb dX2_word_16 rfl (lv_at hl 1 rfl) ?_
    refine lv_iload_n hx hb dX2_word_17 rfl (lv_at hl 2 rfl) ?_
    obtain ⟨q4, e5, hF⟩ := bd hF
    refine callSI (As := [.int x1, .int x2]) (rest := [.ref (a 0)]) ⟨hx, hb, hml, hown, hts⟩ (c_X0_cellOfWord l dC dI cI cZ a q1.2 x1 x2 q4 e5) gX2_word_X0_cellOfWord rfl hd_X0_cellOfWord ⟨Nat.le_of_ble_eq_true rfl, Nat.le_of_ble_eq_true rfl⟩ True.intro hK hP hD hS hA rfl hl.1 rfl (Nat.le_of_ble_eq_true rfl) dX2_word_18 (fun H locs hP hD hS => ?_)
    obtain ⟨q6, e7, hF⟩ := bd hF
    refine callVI (C := RX0) (ci := 0) (q0 := 0) (As := [.int q4.1]) (rest := []) ⟨hx, hb, hml, hown, hts⟩ (c_X0_read l dC dI cI cZ a q4.2 (q4.1) q6 e7) gX2_word_X0_read rfl hd_X0_read rfl rfl rfl ⟨Nat.le_of_ble_eq_true rfl, Nat.le_of_ble_eq_true rfl⟩ True.intro hK hP hD hS hA rfl hl.1 rfl (Nat.le_of_ble_eq_true rfl) dX2_word_21 (fun H locs hP hD hS => ?_)
    refine lv_i2l (v := q6.1.toInt64) hx hb dX2_word_24 rfl ?_
    refine lv_goto (tgt := 31) hx hb dX2_word_25 (by decide) ?_
    exact hQ _ _ _ _ _ _ (Option.some.inj hF) hP hD hS dX2_word_31
theorem hd_X2_word : yX2_word.cls = RX2 ∧ yX2_word.cls ≠ "java/lang/invoke/MethodHandle" ∧ yX2_word.cls ≠ "java/lang/invoke/VarHandle" ∧ (parseMethodDescriptor yX2_word.desc).map (fun d => d.parameters.length) = some 2 := by decide +kernel

def F_X2_given (u : St) : Option (Int32 × St) := ((F_X0_givenTotal u).bind fun q1 => (some (q1.1, q1.2)))
set_option maxRecDepth 100000 in
set_option maxHeartbeats 4000000 in
theorem c_X2_given (l : Launch) (dC : Nat → ClassId) (dI : Nat → Nat → Nat) (cI cZ : ClassId) (a : Nat → Nat) (u : St) (o : Int32 × St) (hF : F_X2_given u = some o) : MI l yX2_given wsX2_given 1 20 none dC dI cI cZ (wC a cI cZ) [.ref (a 14)] u o := by
  refine miOf (cc := cX2_given) (maxL := 1) (ret := .int) (by decide) rfl (Nat.le_of_ble_eq_true rfl) ?_
  intro p e s m args below meth c A Q H locs ls hx hb hml hts hown hK hA hz hQ hP hD hS hl
  replace hown : s.vm.findClass RX2 = some m.cls := hown
  replace hl : lv_has ls 1 [(0, .ref (a 14))] := hl
  have hin : ∀ w ∈ u_ws RX2 TX2 5, w ∈ wsX2_given := by decide +kernel
  have fl19 := hts (.fieldLink RX2 19 "CountedHeap" "memory" "LCountedHeap$Memory;") (by decide +kernel)
  unfold F_X2_given at hF
  refine lv_aload_n hx hb dX2_given_0 rfl (lv_at hl 0 rfl) ?_
  refine va_get (D := (dC, dI)) (ci := 2) (v := .ref (a 0)) (C := RX2) (T := TX2) (N := 5) hx hb hts hin hown hK hP 14 rfl rfl 1 (by decide) fl19 (fun _ h9 => h9) rfl dX2_given_1 ?_
  obtain ⟨q1, e2, hF⟩ := bd hF
  refine callVI (C := RX0) (ci := 0) (q0 := 0) (As := []) (rest := []) ⟨hx, hb, hml, hown, hts⟩ (c_X0_givenTotal l dC dI cI cZ a u q1 e2) gX2_given_X0_givenTotal rfl hd_X0_givenTotal rfl rfl rfl ⟨Nat.le_of_ble_eq_true rfl, Nat.le_of_ble_eq_true rfl⟩ True.intro hK hP hD hS hA rfl hl.1 rfl (Nat.le_of_ble_eq_true rfl) dX2_given_4 (fun H locs hP hD hS => ?_)
  exact hQ _ _ _ _ _ _ (Option.some.inj hF) (vp_nar_int _) hP hD hS dX2_given_7
theorem hd_X2_given : yX2_given.cls = RX2 ∧ yX2_given.cls ≠ "java/lang/invoke/MethodHandle" ∧ yX2_given.cls ≠ "java/lang/invoke/VarHandle" ∧ (parseMethodDescriptor yX2_given.desc).map (fun d => d.parameters.length) = some 0 := by decide +kernel

def F_X2_lost (u : St) : Option (Int32 × St) := ((F_X0_findLost u).bind fun q1 => (some (q1.1, q1.2)))
set_option maxRecDepth 100000 in
set_option maxHeartbeats 4000000 in
theorem c_X2_lost (l : Launch) (dC : Nat → ClassId) (dI : Nat → Nat → Nat) (cI cZ : ClassId) (a : Nat → Nat) (u : St) (o : Int32 × St) (hF : F_X2_lost u = some o) : MI l yX2_lost wsX2_lost 5 108 none dC dI cI cZ (wC a cI cZ) [.ref (a 14)] u o := by
  refine miOf (cc := cX2_lost) (maxL := 1) (ret := .int) (by decide) rfl (Nat.le_of_ble_eq_true rfl) ?_
  intro p e s m args below meth c A Q H locs ls hx hb hml hts hown hK hA hz hQ hP hD hS hl
  replace hown : s.vm.findClass RX2 = some m.cls := hown
  replace hl : lv_has ls 1 [(0, .ref (a 14))] := hl
  have hin : ∀ w ∈ u_ws RX2 TX2 5, w ∈ wsX2_lost := by decide +kernel
  have fl19 := hts (.fieldLink RX2 19 "CountedHeap" "memory" "LCountedHeap$Memory;") (by decide +kernel)
  unfold F_X2_lost at hF
  refine lv_aload_n hx hb dX2_lost_0 rfl (lv_at hl 0 rfl) ?_
  refine va_get (D := (dC, dI)) (ci := 2) (v := .ref (a 0)) (C := RX2) (T := TX2) (N := 5) hx hb hts hin hown hK hP 14 rfl rfl 1 (by decide) fl19 (fun _ h9 => h9) rfl dX2_lost_1 ?_
  obtain ⟨q1, e2, hF⟩ := bd hF
  refine callVI (C := RX0) (ci := 0) (q0 := 0) (As := []) (rest := []) ⟨hx, hb, hml, hown, hts⟩ (c_X0_findLost l dC dI cI cZ a u q1 e2) gX2_lost_X0_findLost rfl hd_X0_findLost rfl rfl rfl ⟨Nat.le_of_ble_eq_true rfl, Nat.le_of_ble_eq_true rfl⟩ True.intro hK hP hD hS hA rfl hl.1 rfl (Nat.le_of_ble_eq_true rfl) dX2_lost_4 (fun H locs hP hD hS => ?_)
  exact hQ _ _ _ _ _ _ (Option.some.inj hF) (vp_nar_int _) hP hD hS dX2_lost_7
theorem hd_X2_lost : yX2_lost.cls = RX2 ∧ yX2_lost.cls ≠ "java/lang/invoke/MethodHandle" ∧ yX2_lost.cls ≠ "java/lang/invoke/VarHandle" ∧ (parseMethodDescriptor yX2_lost.desc).map (fun d => d.parameters.length) = some 0 := by decide +kernel

def F_X2_collect (u : St) : Option (Int32 × St) := ((F_X0_giveBackLost u).bind fun q1 => (some (q1.1, q1.2)))
set_option maxRecDepth 100000 in
set_option maxHeartbeats 4000000 in
theorem c_X2_collect (l : Launch) (dC : Nat → ClassId) (dI : Nat → Nat → Nat) (cI cZ : ClassId) (a : Nat → Nat) (u : St) (o : Int32 × St) (hF : F_X2_collect u = some o) : MI l yX2_collect wsX2_collect 6 130 none dC dI cI cZ (wC a cI cZ) [.ref (a 14)] u o := by
  refine miOf (cc := cX2_collect) (maxL := 1) (ret := .int) (by decide) rfl (Nat.le_of_ble_eq_true rfl) ?_
  intro p e s m args below meth c A Q H locs ls hx hb hml hts hown hK hA hz hQ hP hD hS hl
  replace hown : s.vm.findClass RX2 = some m.cls := hown
  replace hl : lv_has ls 1 [(0, .ref (a 14))] := hl
  have hin : ∀ w ∈ u_ws RX2 TX2 5, w ∈ wsX2_collect := by decide +kernel
  have fl19 := hts (.fieldLink RX2 19 "CountedHeap" "memory" "LCountedHeap$Memory;") (by decide +kernel)
  unfold F_X2_collect at hF
  refine lv_aload_n hx hb dX2_collect_0 rfl (lv_at hl 0 rfl) ?_
  refine va_get (D := (dC, dI)) (ci := 2) (v := .ref (a 0)) (C := RX2) (T := TX2) (N := 5) hx hb hts hin hown hK hP 14 rfl rfl 1 (by decide) fl19 (fun _ h9 => h9) rfl dX2_collect_1 ?_
  obtain ⟨q1, e2, hF⟩ := bd hF
  refine callVI (C := RX0) (ci := 0) (q0 := 0) (As := []) (rest := []) ⟨hx, hb, hml, hown, hts⟩ (c_X0_giveBackLost l dC dI cI cZ a u q1 e2) gX2_collect_X0_giveBackLost rfl hd_X0_giveBackLost rfl rfl rfl ⟨Nat.le_of_ble_eq_true rfl, Nat.le_of_ble_eq_true rfl⟩ True.intro hK hP hD hS hA rfl hl.1 rfl (Nat.le_of_ble_eq_true rfl) dX2_collect_4 (fun H locs hP hD hS => ?_)
  exact hQ _ _ _ _ _ _ (Option.some.inj hF) (vp_nar_int _) hP hD hS dX2_collect_7
theorem hd_X2_collect : yX2_collect.cls = RX2 ∧ yX2_collect.cls ≠ "java/lang/invoke/MethodHandle" ∧ yX2_collect.cls ≠ "java/lang/invoke/VarHandle" ∧ (parseMethodDescriptor yX2_collect.desc).map (fun d => d.parameters.length) = some 0 := by decide +kernel
