def F_X2_doInstruction_142 (u : St) (x1 x2 x3 x4 : Int32) : Option (Nat × Int32 × St) := ((F_X2_placeAfter u x2 x1 x3 x4).bind fun q1 => (some (0, 0, (su q1.2 14 4 q1.1))))
def F_X2_doInstruction (u : St) (x1 : Int32) : Option (Nat × Int32 × St) := ((F_X1_opAt u x1).bind fun q1 => ((F_X1_xAt q1.2 x1).bind fun q3 => ((F_X1_yAt q3.2 x1).bind fun q5 => ((F_X1_zAt q5.2 x1).bind fun q7 => (if (q1.1 < 0 ∨ 15 ≤ q1.1.toNatClampNeg) then none else ((F_X2_checkOperand q7.2 ((rlX q1.1.toNatClampNeg)) (q3.1)).bind fun q10 => (if q10.1 = 0 then (if (q1.1 < 0 ∨ 15 ≤ q1.1.toNatClampNeg) then none else ((F_X2_checkOperand q10.2.2 ((rlY q1.1.toNatClampNeg)) (q5.1)).bind fun q14 => (if q14.1 = 0 then (if (q1.1 < 0 ∨ 15 ≤ q1.1.toNatClampNeg) then none else ((F_X2_checkOperand q14.2.2 ((rlZ q1.1.toNatClampNeg)) (q7.1)).bind fun q18 => (if q18.1 = 0 then ((F_X2_checkRoom q18.2.2 (q1.1)).bind fun q21 => (if q21.1 = 0 then (if (q1.1 < 0 ∨ 15 ≤ q1.1.toNatClampNeg) then none else (if (rlX q1.1.toNatClampNeg) = 1 then ((F_X0_cellOf q21.2.2 (q3.1)).bind fun q34 => ((F_X2_intResult q34.2 (q1.1) (q5.1) (q7.1)).bind fun q36 => ((F_X0_writeInt q36.2 (q34.1) (q36.1)).bind fun q38 => F_X2_doInstruction_142 q38.2 x1 (q1.1) (q3.1) (q5.1)))) else (if (q1.1 < 0 ∨ 15 ≤ q1.1.toNatClampNeg) then none else (if (rlX q1.1.toNatClampNeg) = 2 then ((F_X0_cellOf q21.2.2 (q3.1)).bind fun q28 => ((F_X2_pointerResult q28.2 (q1.1) (q5.1)).bind fun q30 => ((F_X0_writePointer q30.2 (q28.1) (q30.1)).bind fun q32 => F_X2_doInstruction_142 q32.2 x1 (q1.1) (q3.1) (q5.1)))) else F_X2_doInstruction_142 q21.2.2 x1 (q1.1) (q3.1) (q5.1))))) else (some (q21.1, 0, q21.2.2)))) else (some (q18.1, 0, q18.2.2))))) else (some (q14.1, 0, q14.2.2))))) else (some (q10.1, 0, q10.2.2)))))))))
theorem hd_X2_doInstruction : yX2_doInstruction.cls = RX2 ∧ yX2_doInstruction.cls ≠ "java/lang/invoke/MethodHandle" ∧ yX2_doInstruction.cls ≠ "java/lang/invoke/VarHandle" ∧ (parseMethodDescriptor yX2_doInstruction.desc).map (fun d => d.parameters.length) = some 1 := by decide +kernel
set_option maxRecDepth 100000 in
set_option maxHeartbeats 4000000 in
theorem c_X2_doInstruction_r (l : Launch) (dC : Nat → ClassId) (dI : Nat → Nat → Nat) (cI cZ : ClassId) (a : Nat → Nat) (t : Nat → Nat) (u : St) (x1 : Int32) (o : Int32 × St) (hF : F_X2_doInstruction u x1 = some (0, o)) : MV l yX2_doInstruction wsX2_doInstruction 8 126 (some t) dC dI cI cZ (wC a cI cZ) [.ref (a 14), .int x1] u o := by
  refine mvOf (cc := cX2_doInstruction) (maxL := 6) (by decide) rfl (Nat.le_of_ble_eq_true rfl) ?_
  intro p e s m args below meth c A Q H locs ls hx hb hml hts hown hK hA hz hQ hP hD hS hl
  replace hown : s.vm.findClass RX2 = some m.cls := hown
  replace hl : lv_has ls 6 [(0, .ref (a 14)), (1, .int x1)] := hl
  have hin : ∀ w ∈ u_ws RX2 TX2 5, w ∈ wsX2_doInstruction := by decide +kernel
  have fl12 := hts (.fieldLink RX2 12 "CountedHeap" "program" "LCountedHeap$Program;") (by decide +kernel)
  have fl19 := hts (.fieldLink RX2 19 "CountedHeap" "memory" "LCountedHeap$Memory;") (by decide +kernel)
  have fl31 := hts (.fieldLink RX2 31 "CountedHeap" "nextPlace" "I") (by decide +kernel)
  have b142 : ∀  (x1 x2 x3 x4 : Int32) (u : St), F_X2_doInstruction_142 u x1 x2 x3 x4 = some (0, o) → GW p l e (rmK 8 126) s m args below meth c Q dC dI (wC a cI cZ) A 6 142 [(0, .ref (a 14)), (1, .int x1), (2, .int x2), (3, .int x3), (4, .int x4)] [] u := by
      intro  x1 x2 x3 x4 u hF H locs ls hP hD hS hl
      unfold F_X2_doInstruction_142 at hF
      refine lv_aload_n hx hb dX2_doInstruction_142 rfl (lv_at hl 0 rfl) ?_
      refine lv_aload_n hx hb dX2_doInstruction_143 rfl (lv_at hl 0 rfl) ?_
      refine lv_iload_n hx hb dX2_doInstruction_144 rfl (lv_at hl 2 rfl) ?_
      refine lv_iload_n hx hb dX2_doInstruction_145 rfl (lv_at hl 1 rfl) ?_
      refine lv_iload_n hx hb dX2_doInstruction_146 rfl (lv_at hl 3 rfl) ?_
      refine lv_iload hx hb dX2_doInstruction_147 (lv_at hl 4 rfl) ?_
      obtain ⟨q1, e2, hF⟩ := bd hF
      refine callVI (C := RX2) (ci := 2) (q0 := 14) (As := [.int x2, .int x1, .int x3, .int x4]) (rest := [.ref (a 14)]) ⟨hx, hb, hml, hown, hts⟩ (c_X2_placeAfter l dC dI cI cZ a u x2 x1 x3 x4 q1 e2) gX2_doInstruction_X2_placeAfter rfl hd_X2_placeAfter rfl rfl rfl ⟨Nat.le_of_ble_eq_true rfl, Nat.le_of_ble_eq_true rfl⟩ True.intro hK hP hD hS hA rfl hl.1 rfl (Nat.le_of_ble_eq_true rfl) dX2_doInstruction_149 (fun H locs hP hD hS => ?_)
      refine va_put (D := (dC, dI)) (ci := 2) (v := .int q1.1) (ty := .int) (C := RX2) (T := TX2) (N := 5) hx hb hts hin tyX2 tyX2_ok nmX2 hown hK hP hD hS 14 rfl rfl 4 (by decide) fl31 (fun _ h9 => h9) rfl (tyX2_ok 4 (by decide)) rfl rfl (Nat.le_of_ble_eq_true rfl) dX2_doInstruction_152 (fun H locs hP hD hS => ?_)
      replace hP := wC_p14_4 hP
      replace hD := wC_d14_4 hD
      exact hQ _ _ _ _ _ (Prod.mk.inj (Option.some.inj hF)).2 hP hD hS dX2_doInstruction_155
  unfold F_X2_doInstruction at hF
  refine lv_aload_n hx hb dX2_doInstruction_0 rfl (lv_at hl 0 rfl) ?_
  refine va_get (D := (dC, dI)) (ci := 2) (v := .ref (a 9)) (C := RX2) (T := TX2) (N := 5) hx hb hts hin hown hK hP 14 rfl rfl 0 (by decide) fl12 (fun _ h9 => h9) rfl dX2_doInstruction_1 ?_
  refine lv_iload_n hx hb dX2_doInstruction_4 rfl (lv_at hl 1 rfl) ?_
  obtain ⟨q1, e2, hF⟩ := bd hF
  refine callVI (C := RX1) (ci := 1) (q0 := 9) (As := [.int x1]) (rest := []) ⟨hx, hb, hml, hown, hts⟩ (c_X1_opAt l dC dI cI cZ a u x1 q1 e2) gX2_doInstruction_X1_opAt rfl hd_X1_opAt rfl rfl rfl ⟨Nat.le_of_ble_eq_true rfl, Nat.le_of_ble_eq_true rfl⟩ True.intro hK hP hD hS hA rfl hl.1 rfl (Nat.le_of_ble_eq_true rfl) dX2_doInstruction_5 (fun H locs hP hD hS => ?_)
  refine lv_istore_n (lv' := [(2, .int q1.1), (0, .ref (a 14)), (1, .int x1)]) hx hb dX2_doInstruction_8 rfl hl (by decide) rfl (fun ls hl => ?_)
  refine lv_aload_n hx hb dX2_doInstruction_9 rfl (lv_at hl 1 rfl) ?_
  refine va_get (D := (dC, dI)) (ci := 2) (v := .ref (a 9)) (C := RX2) (T := TX2) (N := 5) hx hb hts hin hown hK hP 14 rfl rfl 0 (by decide) fl12 (fun _ h9 => h9) rfl dX2_doInstruction_10 ?_
  refine lv_iload_n hx hb dX2_doInstruction_13 rfl (lv_at hl 2 rfl) ?_
  obtain ⟨q3, e4, hF⟩ := bd hF
  refine callVI (C := RX1) (ci := 1) (q0 := 9) (As := [.int x1]) (rest := []) ⟨hx, hb, hml, hown, hts⟩ (c_X1_xAt l dC dI cI cZ a q1.2 x1 q3 e4) gX2_doInstruction_X1_xAt rfl hd_X1_xAt rfl rfl rfl ⟨Nat.le_of_ble_eq_true rfl, Nat.le_of_ble_eq_true rfl⟩ True.intro hK hP hD hS hA rfl hl.1 rfl (Nat.le_of_ble_eq_true rfl) dX2_doInstruction_14 (fun H locs hP hD hS => ?_)
  refine lv_istore_n (lv' := [(3, .int q3.1), (2, .int q1.1), (0, .ref (a 14)), (1, .int x1)]) hx hb dX2_doInstruction_17 rfl hl (by decide) rfl (fun ls hl => ?_)
  refine lv_aload_n hx hb dX2_doInstruction_18 rfl (lv_at hl 2 rfl) ?_
  refine va_get (D := (dC, dI)) (ci := 2) (v := .ref (a 9)) (C := RX2) (T := TX2) (N := 5) hx hb hts hin hown hK hP 14 rfl rfl 0 (by decide) fl12 (fun _ h9 => h9) rfl dX2_doInstruction_19 ?_
  refine lv_iload_n hx hb dX2_doInstruction_22 rfl (lv_at hl 3 rfl) ?_
  obtain ⟨q5, e6, hF⟩ := bd hF
  refine callVI (C := RX1) (ci := 1) (q0 := 9) (As := [.int x1]) (rest := []) ⟨hx, hb, hml, hown, hts⟩ (c_X1_yAt l dC dI cI cZ a q3.2 x1 q5 e6) gX2_doInstruction_X1_yAt rfl hd_X1_yAt rfl rfl rfl ⟨Nat.le_of_ble_eq_true rfl, Nat.le_of_ble_eq_true rfl⟩ True.intro hK hP hD hS hA rfl hl.1 rfl (Nat.le_of_ble_eq_true rfl) dX2_doInstruction_23 (fun H locs hP hD hS => ?_)
  refine lv_istore (lv' := [(4, .int q5.1), (3, .int q3.1), (2, .int q1.1), (0, .ref (a 14)), (1, .int x1)]) hx hb dX2_doInstruction_26 hl (by decide) rfl (fun ls hl => ?_)
  refine lv_aload_n hx hb dX2_doInstruction_28 rfl (lv_at hl 3 rfl) ?_
  refine va_get (D := (dC, dI)) (ci := 2) (v := .ref (a 9)) (C := RX2) (T := TX2) (N := 5) hx hb hts hin hown hK hP 14 rfl rfl 0 (by decide) fl12 (fun _ h9 => h9) rfl dX2_doInstruction_29 ?_
  refine lv_iload_n hx hb dX2_doInstruction_32 rfl (lv_at hl 4 rfl) ?_
  obtain ⟨q7, e8, hF⟩ := bd hF
  refine callVI (C := RX1) (ci := 1) (q0 := 9) (As := [.int x1]) (rest := []) ⟨hx, hb, hml, hown, hts⟩ (c_X1_zAt l dC dI cI cZ a q5.2 x1 q7 e8) gX2_doInstruction_X1_zAt rfl hd_X1_zAt rfl rfl rfl ⟨Nat.le_of_ble_eq_true rfl, Nat.le_of_ble_eq_true rfl⟩ True.intro hK hP hD hS hA rfl hl.1 rfl (Nat.le_of_ble_eq_true rfl) dX2_doInstruction_33 (fun H locs hP hD hS => ?_)
  refine lv_istore (lv' := [(5, .int q7.1), (4, .int q5.1), (3, .int q3.1), (2, .int q1.1), (0, .ref (a 14)), (1, .int x1)]) hx hb dX2_doInstruction_36 hl (by decide) rfl (fun ls hl => ?_)
  refine lv_aload_n hx hb dX2_doInstruction_38 rfl (lv_at hl 4 rfl) ?_
  refine va_gets hx hb hz.1.1 hS hown (hts (.fieldLink RX2 45 "CountedHeap" "ROLE_OF_X" "[I") (by decide +kernel)) (fun _ h9 => h9) dX2_doInstruction_39 ?_
  refine lv_iload_n hx hb dX2_doInstruction_42 rfl (lv_at hl 3 rfl) ?_
  obtain ⟨hi9, hF⟩ := ck hF
  refine va_ti hx hb hz.1.2 hS hi9 (v := .int (rlX q1.1.toNatClampNeg)) rfl dX2_doInstruction_43 ?_
  refine lv_iload_n hx hb dX2_doInstruction_44 rfl (lv_at hl 2 rfl) ?_
  obtain ⟨q10, e11, hF⟩ := bd hF
  by_cases h12 : q10.1 = 0
  · replace hF := ip h12 hF
    refine callVV (C := RX2) (ci := 2) (q0 := 14) (As := [.int (rlX q1.1.toNatClampNeg), .int q3.1]) (rest := []) ⟨hx, hb, hml, hown, hts⟩ (c_X2_checkOperand_r l dC dI cI cZ a q7.2 ((rlX q1.1.toNatClampNeg)) (q3.1) q10.2 (e11.trans (congrArg some (Prod.ext h12 rfl)))) gX2_doInstruction_X2_checkOperand rfl hd_X2_checkOperand rfl rfl rfl ⟨Nat.le_of_ble_eq_true rfl, Nat.le_of_ble_eq_true rfl⟩ True.intro hK hP hD hS hA rfl hl.1 rfl (Nat.le_of_ble_eq_true rfl) dX2_doInstruction_45 (fun H locs hP hD hS => ?_)
    refine lv_aload_n hx hb dX2_doInstruction_48 rfl (lv_at hl 4 rfl) ?_
    refine va_gets hx hb hz.2.1.1 hS hown (hts (.fieldLink RX2 52 "CountedHeap" "ROLE_OF_Y" "[I") (by decide +kernel)) (fun _ h9 => h9) dX2_doInstruction_49 ?_
    refine lv_iload_n hx hb dX2_doInstruction_52 rfl (lv_at hl 3 rfl) ?_
    obtain ⟨hi13, hF⟩ := ck hF
    refine va_ti hx hb hz.2.1.2 hS hi13 (v := .int (rlY q1.1.toNatClampNeg)) rfl dX2_doInstruction_53 ?_
    refine lv_iload hx hb dX2_doInstruction_54 (lv_at hl 1 rfl) ?_
    obtain ⟨q14, e15, hF⟩ := bd hF
    by_cases h16 : q14.1 = 0
    · replace hF := ip h16 hF
      refine callVV (C := RX2) (ci := 2) (q0 := 14) (As := [.int (rlY q1.1.toNatClampNeg), .int q5.1]) (rest := []) ⟨hx, hb, hml, hown, hts⟩ (c_X2_checkOperand_r l dC dI cI cZ a q10.2.2 ((rlY q1.1.toNatClampNeg)) (q5.1) q14.2 (e15.trans (congrArg some (Prod.ext h16 rfl)))) gX2_doInstruction_X2_checkOperand rfl hd_X2_checkOperand rfl rfl rfl ⟨Nat.le_of_ble_eq_true rfl, Nat.le_of_ble_eq_true rfl⟩ True.intro hK hP hD hS hA rfl hl.1 rfl (Nat.le_of_ble_eq_true rfl) dX2_doInstruction_56 (fun H locs hP hD hS => ?_)
      refine lv_aload_n hx hb dX2_doInstruction_59 rfl (lv_at hl 4 rfl) ?_
      refine va_gets hx hb hz.2.2.1.1 hS hown (hts (.fieldLink RX2 55 "CountedHeap" "ROLE_OF_Z" "[I") (by decide +kernel)) (fun _ h9 => h9) dX2_doInstruction_60 ?_
      refine lv_iload_n hx hb dX2_doInstruction_63 rfl (lv_at hl 3 rfl) ?_
      obtain ⟨hi17, hF⟩ := ck hF
      refine va_ti hx hb hz.2.2.1.2 hS hi17 (v := .int (rlZ q1.1.toNatClampNeg)) rfl dX2_doInstruction_64 ?_
      refine lv_iload hx hb dX2_doInstruction_65 (lv_at hl 0 rfl) ?_
      obtain ⟨q18, e19, hF⟩ := bd hF
      by_cases h20 : q18.1 = 0
      · replace hF := ip h20 hF
        refine callVV (C := RX2) (ci := 2) (q0 := 14) (As := [.int (rlZ q1.1.toNatClampNeg), .int q7.1]) (rest := []) ⟨hx, hb, hml, hown, hts⟩ (c_X2_checkOperand_r l dC dI cI cZ a q14.2.2 ((rlZ q1.1.toNatClampNeg)) (q7.1) q18.2 (e19.trans (congrArg some (Prod.ext h20 rfl)))) gX2_doInstruction_X2_checkOperand rfl hd_X2_checkOperand rfl rfl rfl ⟨Nat.le_of_ble_eq_true rfl, Nat.le_of_ble_eq_true rfl⟩ True.intro hK hP hD hS hA rfl hl.1 rfl (Nat.le_of_ble_eq_true rfl) dX2_doInstruction_67 (fun H locs hP hD hS => ?_)
        refine lv_aload_n hx hb dX2_doInstruction_70 rfl (lv_at hl 4 rfl) ?_
        refine lv_iload_n hx hb dX2_doInstruction_71 rfl (lv_at hl 3 rfl) ?_
        obtain ⟨q21, e22, hF⟩ := bd hF
        by_cases h23 : q21.1 = 0
        · replace hF := ip h23 hF
          refine callVV (C := RX2) (ci := 2) (q0 := 14) (As := [.int q1.1]) (rest := []) ⟨hx, hb, hml, hown, hts⟩ (c_X2_checkRoom_r l dC dI cI cZ a q18.2.2 (q1.1) q21.2 (e22.trans (congrArg some (Prod.ext h23 rfl)))) gX2_doInstruction_X2_checkRoom rfl hd_X2_checkRoom rfl rfl rfl ⟨Nat.le_of_ble_eq_true rfl, Nat.le_of_ble_eq_true rfl⟩ True.intro hK hP hD hS hA rfl hl.1 rfl (Nat.le_of_ble_eq_true rfl) dX2_doInstruction_72 (fun H locs hP hD hS => ?_)
          refine va_gets hx hb hz.1.1 hS hown (hts (.fieldLink RX2 45 "CountedHeap" "ROLE_OF_X" "[I") (by decide +kernel)) (fun _ h9 => h9) dX2_doInstruction_75 ?_
          refine lv_iload_n hx hb dX2_doInstruction_78 rfl (lv_at hl 3 rfl) ?_
          obtain ⟨hi24, hF⟩ := ck hF
          refine va_ti hx hb hz.1.2 hS hi24 (v := .int (rlX q1.1.toNatClampNeg)) rfl dX2_doInstruction_79 ?_
          refine lv_iconst (v := 1) hx hb dX2_doInstruction_80 (by decide) ?_
          refine lv_icmp_ne (tgt := 111) hx hb dX2_doInstruction_81 (by decide) (fun h25 => ?_) (fun h25 => ?_)
          · replace hF := iq h25 hF
            refine va_gets hx hb hz.1.1 hS hown (hts (.fieldLink RX2 45 "CountedHeap" "ROLE_OF_X" "[I") (by decide +kernel)) (fun _ h9 => h9) dX2_doInstruction_111 ?_
            refine lv_iload_n hx hb dX2_doInstruction_114 rfl (lv_at hl 3 rfl) ?_
            obtain ⟨hi26, hF⟩ := ck hF
            refine va_ti hx hb hz.1.2 hS hi26 (v := .int (rlX q1.1.toNatClampNeg)) rfl dX2_doInstruction_115 ?_
            refine lv_iconst (v := 2) hx hb dX2_doInstruction_116 (by decide) ?_
            refine lv_icmp_ne (tgt := 142) hx hb dX2_doInstruction_117 (by decide) (fun h27 => ?_) (fun h27 => ?_)
            · replace hF := iq h27 hF
              exact b142  x1 (q1.1) (q3.1) (q5.1) q21.2.2 hF H locs ls hP hD hS (lv_sub hl [4, 5, 3, 2, 1] rfl)
            · replace hF := ip h27 hF
              refine lv_aload_n hx hb dX2_doInstruction_120 rfl (lv_at hl 4 rfl) ?_
              refine va_get (D := (dC, dI)) (ci := 2) (v := .ref (a 0)) (C := RX2) (T := TX2) (N := 5) hx hb hts hin hown hK hP 14 rfl rfl 1 (by decide) fl19 (fun _ h9 => h9) rfl dX2_doInstruction_121 ?_
              refine lv_aload_n hx hb dX2_doInstruction_124 rfl (lv_at hl 4 rfl) ?_
              refine va_get (D := (dC, dI)) (ci := 2) (v := .ref (a 0)) (C := RX2) (T := TX2) (N := 5) hx hb hts hin hown hK hP 14 rfl rfl 1 (by decide) fl19 (fun _ h9 => h9) rfl dX2_doInstruction_125 ?_
              refine lv_iload_n hx hb dX2_doInstruction_128 rfl (lv_at hl 2 rfl) ?_
              obtain ⟨q28, e29, hF⟩ := bd hF
              refine callVI (C := RX0) (ci := 0) (q0 := 0) (As := [.int q3.1]) (rest := [.ref (a 0)]) ⟨hx, hb, hml, hown, hts⟩ (c_X0_cellOf l dC dI cI cZ a q21.2.2 (q3.1) q28 e29) gX2_doInstruction_X0_cellOf rfl hd_X0_cellOf rfl rfl rfl ⟨Nat.le_of_ble_eq_true rfl, Nat.le_of_ble_eq_true rfl⟩ True.intro hK hP hD hS hA rfl hl.1 rfl (Nat.le_of_ble_eq_true rfl) dX2_doInstruction_129 (fun H locs hP hD hS => ?_)
              refine lv_aload_n hx hb dX2_doInstruction_132 rfl (lv_at hl 4 rfl) ?_
              refine lv_iload_n hx hb dX2_doInstruction_133 rfl (lv_at hl 3 rfl) ?_
              refine lv_iload hx hb dX2_doInstruction_134 (lv_at hl 1 rfl) ?_
              obtain ⟨q30, e31, hF⟩ := bd hF
              refine callVI (C := RX2) (ci := 2) (q0 := 14) (As := [.int q1.1, .int q5.1]) (rest := [.int q28.1, .ref (a 0)]) ⟨hx, hb, hml, hown, hts⟩ (c_X2_pointerResult l dC dI cI cZ a q28.2 (q1.1) (q5.1) q30 e31) gX2_doInstruction_X2_pointerResult rfl hd_X2_pointerResult rfl rfl rfl ⟨Nat.le_of_ble_eq_true rfl, Nat.le_of_ble_eq_true rfl⟩ True.intro hK hP hD hS hA rfl hl.1 rfl (Nat.le_of_ble_eq_true rfl) dX2_doInstruction_136 (fun H locs hP hD hS => ?_)
              obtain ⟨q32, e33, hF⟩ := bd hF
              refine callVV (C := RX0) (ci := 0) (q0 := 0) (As := [.int q28.1, .int q30.1]) (rest := []) ⟨hx, hb, hml, hown, hts⟩ (c_X0_writePointer l dC dI cI cZ a q30.2 (q28.1) (q30.1) q32 e33) gX2_doInstruction_X0_writePointer rfl hd_X0_writePointer rfl rfl rfl ⟨Nat.le_of_ble_eq_true rfl, Nat.le_of_ble_eq_true rfl⟩ True.intro hK hP hD hS hA rfl hl.1 rfl (Nat.le_of_ble_eq_true rfl) dX2_doInstruction_139 (fun H locs hP hD hS => ?_)
              exact b142  x1 (q1.1) (q3.1) (q5.1) q32.2 hF H locs ls hP hD hS (lv_sub hl [4, 5, 3, 2, 1] rfl)
          · replace hF := ip h25 hF
            refine lv_aload_n hx hb dX2_doInstruction_84 rfl (lv_at hl 4 rfl) ?_
            refine va_get (D := (dC, dI)) (ci := 2) (v := .ref (a 0)) (C := RX2) (T := TX2) (N := 5) hx hb hts hin hown hK hP 14 rfl rfl 1 (by decide) fl19 (fun _ h9 => h9) rfl dX2_doInstruction_85 ?_
            refine lv_aload_n hx hb dX2_doInstruction_88 rfl (lv_at hl 4 rfl) ?_
            refine va_get (D := (dC, dI)) (ci := 2) (v := .ref (a 0)) (C := RX2) (T := TX2) (N := 5) hx hb hts hin hown hK hP 14 rfl rfl 1 (by decide) fl19 (fun _ h9 => h9) rfl dX2_doInstruction_89 ?_
            refine lv_iload_n hx hb dX2_doInstruction_92 rfl (lv_at hl 2 rfl) ?_
            obtain ⟨q34, e35, hF⟩ := bd hF
            refine callVI (C := RX0) (ci := 0) (q0 := 0) (As := [.int q3.1]) (rest := [.ref (a 0)]) ⟨hx, hb, hml, hown, hts⟩ (c_X0_cellOf l dC dI cI cZ a q21.2.2 (q3.1) q34 e35) gX2_doInstruction_X0_cellOf rfl hd_X0_cellOf rfl rfl rfl ⟨Nat.le_of_ble_eq_true rfl, Nat.le_of_ble_eq_true rfl⟩ True.intro hK hP hD hS hA rfl hl.1 rfl (Nat.le_of_ble_eq_true rfl) dX2_doInstruction_93 (fun H locs hP hD hS => ?_)
            refine lv_aload_n hx hb dX2_doInstruction_96 rfl (lv_at hl 4 rfl) ?_
            refine lv_iload_n hx hb dX2_doInstruction_97 rfl (lv_at hl 3 rfl) ?_
            refine lv_iload hx hb dX2_doInstruction_98 (lv_at hl 1 rfl) ?_
            refine lv_iload hx hb dX2_doInstruction_100 (lv_at hl 0 rfl) ?_
            obtain ⟨q36, e37, hF⟩ := bd hF
            refine callVI (C := RX2) (ci := 2) (q0 := 14) (As := [.int q1.1, .int q5.1, .int q7.1]) (rest := [.int q34.1, .ref (a 0)]) ⟨hx, hb, hml, hown, hts⟩ (c_X2_intResult l dC dI cI cZ a q34.2 (q1.1) (q5.1) (q7.1) q36 e37) gX2_doInstruction_X2_intResult rfl hd_X2_intResult rfl rfl rfl ⟨Nat.le_of_ble_eq_true rfl, Nat.le_of_ble_eq_true rfl⟩ True.intro hK hP hD hS hA rfl hl.1 rfl (Nat.le_of_ble_eq_true rfl) dX2_doInstruction_102 (fun H locs hP hD hS => ?_)
            obtain ⟨q38, e39, hF⟩ := bd hF
            refine callVV (C := RX0) (ci := 0) (q0 := 0) (As := [.int q34.1, .int q36.1]) (rest := []) ⟨hx, hb, hml, hown, hts⟩ (c_X0_writeInt l dC dI cI cZ a q36.2 (q34.1) (q36.1) q38 e39) gX2_doInstruction_X0_writeInt rfl hd_X0_writeInt rfl rfl rfl ⟨Nat.le_of_ble_eq_true rfl, Nat.le_of_ble_eq_true rfl⟩ True.intro hK hP hD hS hA rfl hl.1 rfl (Nat.le_of_ble_eq_true rfl) dX2_doInstruction_105 (fun H locs hP hD hS => ?_)
            refine lv_goto (tgt := 142) hx hb dX2_doInstruction_108 (by decide) ?_
            exact b142  x1 (q1.1) (q3.1) (q5.1) q38.2 hF H locs ls hP hD hS (lv_sub hl [4, 5, 3, 2, 1] rfl)
        · replace hF := iq h23 hF
          exact absurd (Prod.mk.inj (Option.some.inj hF)).1 h23
      · replace hF := iq h20 hF
        exact absurd (Prod.mk.inj (Option.some.inj hF)).1 h20
    · replace hF := iq h16 hF
      exact absurd (Prod.mk.inj (Option.some.inj hF)).1 h16
  · replace hF := iq h12 hF
    exact absurd (Prod.mk.inj (Option.some.inj hF)).1 h12
set_option maxRecDepth 100000 in
set_option maxHeartbeats 4000000 in
theorem c_X2_doInstruction_t (l : Launch) (hnt : l.stackTraces = false) (dC : Nat → ClassId) (dI : Nat → Nat → Nat) (cI cZ : ClassId) (a : Nat → Nat) (t : Nat → Nat) (u : St) (x1 : Int32) (k : Nat) (o : Int32 × St) (hF : F_X2_doInstruction u x1 = some (k, o)) (hk : ¬ k = 0) : MX l yX2_doInstruction wsX2_doInstruction 8 126 (some t) dC dI cI cZ (wC a cI cZ) [.ref (a 14), .int x1] u k o.2 := by
  refine mxOf (cc := cX2_doInstruction) (maxL := 6) (ret := none) (by decide) rfl (Nat.le_of_ble_eq_true rfl) hnt (Nat.le_of_ble_eq_true rfl) (Nat.le_of_ble_eq_true rfl) ?_
  intro p e s m args below meth c A Q H locs ls hx hb hml hts hown hK hA hz hThr hOut hP hD hS hl
  replace hown : s.vm.findClass RX2 = some m.cls := hown
  replace hl : lv_has ls 6 [(0, .ref (a 14)), (1, .int x1)] := hl
  have hin : ∀ w ∈ u_ws RX2 TX2 5, w ∈ wsX2_doInstruction := by decide +kernel
  have fl12 := hts (.fieldLink RX2 12 "CountedHeap" "program" "LCountedHeap$Program;") (by decide +kernel)
  have fl19 := hts (.fieldLink RX2 19 "CountedHeap" "memory" "LCountedHeap$Memory;") (by decide +kernel)
  have fl31 := hts (.fieldLink RX2 31 "CountedHeap" "nextPlace" "I") (by decide +kernel)
  have b142 : ∀  (x1 x2 x3 x4 : Int32) (u : St), F_X2_doInstruction_142 u x1 x2 x3 x4 = some (k, o) → GW p l e (rmX 8 126) s m args below meth c Q dC dI (wC a cI cZ) A 6 142 [(0, .ref (a 14)), (1, .int x1), (2, .int x2), (3, .int x3), (4, .int x4)] [] u := by
      intro  x1 x2 x3 x4 u hF H locs ls hP hD hS hl
      unfold F_X2_doInstruction_142 at hF
      refine lv_aload_n hx hb dX2_doInstruction_142 rfl (lv_at hl 0 rfl) ?_
      refine lv_aload_n hx hb dX2_doInstruction_143 rfl (lv_at hl 0 rfl) ?_
      refine lv_iload_n hx hb dX2_doInstruction_144 rfl (lv_at hl 2 rfl) ?_
      refine lv_iload_n hx hb dX2_doInstruction_145 rfl (lv_at hl 1 rfl) ?_
      refine lv_iload_n hx hb dX2_doInstruction_146 rfl (lv_at hl 3 rfl) ?_
      refine lv_iload hx hb dX2_doInstruction_147 (lv_at hl 4 rfl) ?_
      obtain ⟨q1, e2, hF⟩ := bd hF
      refine callVI (C := RX2) (ci := 2) (q0 := 14) (As := [.int x2, .int x1, .int x3, .int x4]) (rest := [.ref (a 14)]) ⟨hx, hb, hml, hown, hts⟩ (c_X2_placeAfter l dC dI cI cZ a u x2 x1 x3 x4 q1 e2) gX2_doInstruction_X2_placeAfter rfl hd_X2_placeAfter rfl rfl rfl ⟨Nat.le_of_ble_eq_true rfl, Nat.le_of_ble_eq_true rfl⟩ True.intro hK hP hD hS hA rfl hl.1 rfl (Nat.le_of_ble_eq_true rfl) dX2_doInstruction_149 (fun H locs hP hD hS => ?_)
      refine va_put (D := (dC, dI)) (ci := 2) (v := .int q1.1) (ty := .int) (C := RX2) (T := TX2) (N := 5) hx hb hts hin tyX2 tyX2_ok nmX2 hown hK hP hD hS 14 rfl rfl 4 (by decide) fl31 (fun _ h9 => h9) rfl (tyX2_ok 4 (by decide)) rfl rfl (Nat.le_of_ble_eq_true rfl) dX2_doInstruction_152 (fun H locs hP hD hS => ?_)
      replace hP := wC_p14_4 hP
      replace hD := wC_d14_4 hD
      exact absurd (Prod.mk.inj (Option.some.inj hF)).1.symm hk
  unfold F_X2_doInstruction at hF
  refine lv_aload_n hx hb dX2_doInstruction_0 rfl (lv_at hl 0 rfl) ?_
  refine va_get (D := (dC, dI)) (ci := 2) (v := .ref (a 9)) (C := RX2) (T := TX2) (N := 5) hx hb hts hin hown hK hP 14 rfl rfl 0 (by decide) fl12 (fun _ h9 => h9) rfl dX2_doInstruction_1 ?_
  refine lv_iload_n hx hb dX2_doInstruction_4 rfl (lv_at hl 1 rfl) ?_
  obtain ⟨q1, e2, hF⟩ := bd hF
  refine callVI (C := RX1) (ci := 1) (q0 := 9) (As := [.int x1]) (rest := []) ⟨hx, hb, hml, hown, hts⟩ (c_X1_opAt l dC dI cI cZ a u x1 q1 e2) gX2_doInstruction_X1_opAt rfl hd_X1_opAt rfl rfl rfl ⟨Nat.le_of_ble_eq_true rfl, Nat.le_of_ble_eq_true rfl⟩ True.intro hK hP hD hS hA rfl hl.1 rfl (Nat.le_of_ble_eq_true rfl) dX2_doInstruction_5 (fun H locs hP hD hS => ?_)
  refine lv_istore_n (lv' := [(2, .int q1.1), (0, .ref (a 14)), (1, .int x1)]) hx hb dX2_doInstruction_8 rfl hl (by decide) rfl (fun ls hl => ?_)
  refine lv_aload_n hx hb dX2_doInstruction_9 rfl (lv_at hl 1 rfl) ?_
  refine va_get (D := (dC, dI)) (ci := 2) (v := .ref (a 9)) (C := RX2) (T := TX2) (N := 5) hx hb hts hin hown hK hP 14 rfl rfl 0 (by decide) fl12 (fun _ h9 => h9) rfl dX2_doInstruction_10 ?_
  refine lv_iload_n hx hb dX2_doInstruction_13 rfl (lv_at hl 2 rfl) ?_
  obtain ⟨q3, e4, hF⟩ := bd hF
  refine callVI (C := RX1) (ci := 1) (q0 := 9) (As := [.int x1]) (rest := []) ⟨hx, hb, hml, hown, hts⟩ (c_X1_xAt l dC dI cI cZ a q1.2 x1 q3 e4) gX2_doInstruction_X1_xAt rfl hd_X1_xAt rfl rfl rfl ⟨Nat.le_of_ble_eq_true rfl, Nat.le_of_ble_eq_true rfl⟩ True.intro hK hP hD hS hA rfl hl.1 rfl (Nat.le_of_ble_eq_true rfl) dX2_doInstruction_14 (fun H locs hP hD hS => ?_)
  refine lv_istore_n (lv' := [(3, .int q3.1), (2, .int q1.1), (0, .ref (a 14)), (1, .int x1)]) hx hb dX2_doInstruction_17 rfl hl (by decide) rfl (fun ls hl => ?_)
  refine lv_aload_n hx hb dX2_doInstruction_18 rfl (lv_at hl 2 rfl) ?_
  refine va_get (D := (dC, dI)) (ci := 2) (v := .ref (a 9)) (C := RX2) (T := TX2) (N := 5) hx hb hts hin hown hK hP 14 rfl rfl 0 (by decide) fl12 (fun _ h9 => h9) rfl dX2_doInstruction_19 ?_
  refine lv_iload_n hx hb dX2_doInstruction_22 rfl (lv_at hl 3 rfl) ?_
  obtain ⟨q5, e6, hF⟩ := bd hF
  refine callVI (C := RX1) (ci := 1) (q0 := 9) (As := [.int x1]) (rest := []) ⟨hx, hb, hml, hown, hts⟩ (c_X1_yAt l dC dI cI cZ a q3.2 x1 q5 e6) gX2_doInstruction_X1_yAt rfl hd_X1_yAt rfl rfl rfl ⟨Nat.le_of_ble_eq_true rfl, Nat.le_of_ble_eq_true rfl⟩ True.intro hK hP hD hS hA rfl hl.1 rfl (Nat.le_of_ble_eq_true rfl) dX2_doInstruction_23 (fun H locs hP hD hS => ?_)
  refine lv_istore (lv' := [(4, .int q5.1), (3, .int q3.1), (2, .int q1.1), (0, .ref (a 14)), (1, .int x1)]) hx hb dX2_doInstruction_26 hl (by decide) rfl (fun ls hl => ?_)
  refine lv_aload_n hx hb dX2_doInstruction_28 rfl (lv_at hl 3 rfl) ?_
  refine va_get (D := (dC, dI)) (ci := 2) (v := .ref (a 9)) (C := RX2) (T := TX2) (N := 5) hx hb hts hin hown hK hP 14 rfl rfl 0 (by decide) fl12 (fun _ h9 => h9) rfl dX2_doInstruction_29 ?_
  refine lv_iload_n hx hb dX2_doInstruction_32 rfl (lv_at hl 4 rfl) ?_
  obtain ⟨q7, e8, hF⟩ := bd hF
  refine callVI (C := RX1) (ci := 1) (q0 := 9) (As := [.int x1]) (rest := []) ⟨hx, hb, hml, hown, hts⟩ (c_X1_zAt l dC dI cI cZ a q5.2 x1 q7 e8) gX2_doInstruction_X1_zAt rfl hd_X1_zAt rfl rfl rfl ⟨Nat.le_of_ble_eq_true rfl, Nat.le_of_ble_eq_true rfl⟩ True.intro hK hP hD hS hA rfl hl.1 rfl (Nat.le_of_ble_eq_true rfl) dX2_doInstruction_33 (fun H locs hP hD hS => ?_)
  refine lv_istore (lv' := [(5, .int q7.1), (4, .int q5.1), (3, .int q3.1), (2, .int q1.1), (0, .ref (a 14)), (1, .int x1)]) hx hb dX2_doInstruction_36 hl (by decide) rfl (fun ls hl => ?_)
  refine lv_aload_n hx hb dX2_doInstruction_38 rfl (lv_at hl 4 rfl) ?_
  refine va_gets hx hb hz.1.1 hS hown (hts (.fieldLink RX2 45 "CountedHeap" "ROLE_OF_X" "[I") (by decide +kernel)) (fun _ h9 => h9) dX2_doInstruction_39 ?_
  refine lv_iload_n hx hb dX2_doInstruction_42 rfl (lv_at hl 3 rfl) ?_
  obtain ⟨hi9, hF⟩ := ck hF
  refine va_ti hx hb hz.1.2 hS hi9 (v := .int (rlX q1.1.toNatClampNeg)) rfl dX2_doInstruction_43 ?_
  refine lv_iload_n hx hb dX2_doInstruction_44 rfl (lv_at hl 2 rfl) ?_
  obtain ⟨q10, e11, hF⟩ := bd hF
  by_cases h12 : q10.1 = 0
  · replace hF := ip h12 hF
    refine callVV (C := RX2) (ci := 2) (q0 := 14) (As := [.int (rlX q1.1.toNatClampNeg), .int q3.1]) (rest := []) ⟨hx, hb, hml, hown, hts⟩ (c_X2_checkOperand_r l dC dI cI cZ a q7.2 ((rlX q1.1.toNatClampNeg)) (q3.1) q10.2 (e11.trans (congrArg some (Prod.ext h12 rfl)))) gX2_doInstruction_X2_checkOperand rfl hd_X2_checkOperand rfl rfl rfl ⟨Nat.le_of_ble_eq_true rfl, Nat.le_of_ble_eq_true rfl⟩ True.intro hK hP hD hS hA rfl hl.1 rfl (Nat.le_of_ble_eq_true rfl) dX2_doInstruction_45 (fun H locs hP hD hS => ?_)
    refine lv_aload_n hx hb dX2_doInstruction_48 rfl (lv_at hl 4 rfl) ?_
    refine va_gets hx hb hz.2.1.1 hS hown (hts (.fieldLink RX2 52 "CountedHeap" "ROLE_OF_Y" "[I") (by decide +kernel)) (fun _ h9 => h9) dX2_doInstruction_49 ?_
    refine lv_iload_n hx hb dX2_doInstruction_52 rfl (lv_at hl 3 rfl) ?_
    obtain ⟨hi13, hF⟩ := ck hF
    refine va_ti hx hb hz.2.1.2 hS hi13 (v := .int (rlY q1.1.toNatClampNeg)) rfl dX2_doInstruction_53 ?_
    refine lv_iload hx hb dX2_doInstruction_54 (lv_at hl 1 rfl) ?_
    obtain ⟨q14, e15, hF⟩ := bd hF
    by_cases h16 : q14.1 = 0
    · replace hF := ip h16 hF
      refine callVV (C := RX2) (ci := 2) (q0 := 14) (As := [.int (rlY q1.1.toNatClampNeg), .int q5.1]) (rest := []) ⟨hx, hb, hml, hown, hts⟩ (c_X2_checkOperand_r l dC dI cI cZ a q10.2.2 ((rlY q1.1.toNatClampNeg)) (q5.1) q14.2 (e15.trans (congrArg some (Prod.ext h16 rfl)))) gX2_doInstruction_X2_checkOperand rfl hd_X2_checkOperand rfl rfl rfl ⟨Nat.le_of_ble_eq_true rfl, Nat.le_of_ble_eq_true rfl⟩ True.intro hK hP hD hS hA rfl hl.1 rfl (Nat.le_of_ble_eq_true rfl) dX2_doInstruction_56 (fun H locs hP hD hS => ?_)
      refine lv_aload_n hx hb dX2_doInstruction_59 rfl (lv_at hl 4 rfl) ?_
      refine va_gets hx hb hz.2.2.1.1 hS hown (hts (.fieldLink RX2 55 "CountedHeap" "ROLE_OF_Z" "[I") (by decide +kernel)) (fun _ h9 => h9) dX2_doInstruction_60 ?_
      refine lv_iload_n hx hb dX2_doInstruction_63 rfl (lv_at hl 3 rfl) ?_
      obtain ⟨hi17, hF⟩ := ck hF
      refine va_ti hx hb hz.2.2.1.2 hS hi17 (v := .int (rlZ q1.1.toNatClampNeg)) rfl dX2_doInstruction_64 ?_
      refine lv_iload hx hb dX2_doInstruction_65 (lv_at hl 0 rfl) ?_
      obtain ⟨q18, e19, hF⟩ := bd hF
      by_cases h20 : q18.1 = 0
      · replace hF := ip h20 hF
        refine callVV (C := RX2) (ci := 2) (q0 := 14) (As := [.int (rlZ q1.1.toNatClampNeg), .int q7.1]) (rest := []) ⟨hx, hb, hml, hown, hts⟩ (c_X2_checkOperand_r l dC dI cI cZ a q14.2.2 ((rlZ q1.1.toNatClampNeg)) (q7.1) q18.2 (e19.trans (congrArg some (Prod.ext h20 rfl)))) gX2_doInstruction_X2_checkOperand rfl hd_X2_checkOperand rfl rfl rfl ⟨Nat.le_of_ble_eq_true rfl, Nat.le_of_ble_eq_true rfl⟩ True.intro hK hP hD hS hA rfl hl.1 rfl (Nat.le_of_ble_eq_true rfl) dX2_doInstruction_67 (fun H locs hP hD hS => ?_)
        refine lv_aload_n hx hb dX2_doInstruction_70 rfl (lv_at hl 4 rfl) ?_
        refine lv_iload_n hx hb dX2_doInstruction_71 rfl (lv_at hl 3 rfl) ?_
        obtain ⟨q21, e22, hF⟩ := bd hF
        by_cases h23 : q21.1 = 0
        · replace hF := ip h23 hF
          refine callVV (C := RX2) (ci := 2) (q0 := 14) (As := [.int q1.1]) (rest := []) ⟨hx, hb, hml, hown, hts⟩ (c_X2_checkRoom_r l dC dI cI cZ a q18.2.2 (q1.1) q21.2 (e22.trans (congrArg some (Prod.ext h23 rfl)))) gX2_doInstruction_X2_checkRoom rfl hd_X2_checkRoom rfl rfl rfl ⟨Nat.le_of_ble_eq_true rfl, Nat.le_of_ble_eq_true rfl⟩ True.intro hK hP hD hS hA rfl hl.1 rfl (Nat.le_of_ble_eq_true rfl) dX2_doInstruction_72 (fun H locs hP hD hS => ?_)
          refine va_gets hx hb hz.1.1 hS hown (hts (.fieldLink RX2 45 "CountedHeap" "ROLE_OF_X" "[I") (by decide +kernel)) (fun _ h9 => h9) dX2_doInstruction_75 ?_
          refine lv_iload_n hx hb dX2_doInstruction_78 rfl (lv_at hl 3 rfl) ?_
          obtain ⟨hi24, hF⟩ := ck hF
          refine va_ti hx hb hz.1.2 hS hi24 (v := .int (rlX q1.1.toNatClampNeg)) rfl dX2_doInstruction_79 ?_
          refine lv_iconst (v := 1) hx hb dX2_doInstruction_80 (by decide) ?_
          refine lv_icmp_ne (tgt := 111) hx hb dX2_doInstruction_81 (by decide) (fun h25 => ?_) (fun h25 => ?_)
          · replace hF := iq h25 hF
            refine va_gets hx hb hz.1.1 hS hown (hts (.fieldLink RX2 45 "CountedHeap" "ROLE_OF_X" "[I") (by decide +kernel)) (fun _ h9 => h9) dX2_doInstruction_111 ?_
            refine lv_iload_n hx hb dX2_doInstruction_114 rfl (lv_at hl 3 rfl) ?_
            obtain ⟨hi26, hF⟩ := ck hF
            refine va_ti hx hb hz.1.2 hS hi26 (v := .int (rlX q1.1.toNatClampNeg)) rfl dX2_doInstruction_115 ?_
            refine lv_iconst (v := 2) hx hb dX2_doInstruction_116 (by decide) ?_
            refine lv_icmp_ne (tgt := 142) hx hb dX2_doInstruction_117 (by decide) (fun h27 => ?_) (fun h27 => ?_)
            · replace hF := iq h27 hF
              exact b142  x1 (q1.1) (q3.1) (q5.1) q21.2.2 hF H locs ls hP hD hS (lv_sub hl [4, 5, 3, 2, 1] rfl)
            · replace hF := ip h27 hF
              refine lv_aload_n hx hb dX2_doInstruction_120 rfl (lv_at hl 4 rfl) ?_
              refine va_get (D := (dC, dI)) (ci := 2) (v := .ref (a 0)) (C := RX2) (T := TX2) (N := 5) hx hb hts hin hown hK hP 14 rfl rfl 1 (by decide) fl19 (fun _ h9 => h9) rfl dX2_doInstruction_121 ?_
              refine lv_aload_n hx hb dX2_doInstruction_124 rfl (lv_at hl 4 rfl) ?_
              refine va_get (D := (dC, dI)) (ci := 2) (v := .ref (a 0)) (C := RX2) (T := TX2) (N := 5) hx hb hts hin hown hK hP 14 rfl rfl 1 (by decide) fl19 (fun _ h9 => h9) rfl dX2_doInstruction_125 ?_
              refine lv_iload_n hx hb dX2_doInstruction_128 rfl (lv_at hl 2 rfl) ?_
              obtain ⟨q28, e29, hF⟩ := bd hF
              refine callVI (C := RX0) (ci := 0) (q0 := 0) (As := [.int q3.1]) (rest := [.ref (a 0)]) ⟨hx, hb, hml, hown, hts⟩ (c_X0_cellOf l dC dI cI cZ a q21.2.2 (q3.1) q28 e29) gX2_doInstruction_X0_cellOf rfl hd_X0_cellOf rfl rfl rfl ⟨Nat.le_of_ble_eq_true rfl, Nat.le_of_ble_eq_true rfl⟩ True.intro hK hP hD hS hA rfl hl.1 rfl (Nat.le_of_ble_eq_true rfl) dX2_doInstruction_129 (fun H locs hP hD hS => ?_)
              refine lv_aload_n hx hb dX2_doInstruction_132 rfl (lv_at hl 4 rfl) ?_
              refine lv_iload_n hx hb dX2_doInstruction_133 rfl (lv_at hl 3 rfl) ?_
              refine lv_iload hx hb dX2_doInstruction_134 (lv_at hl 1 rfl) ?_
              obtain ⟨q30, e31, hF⟩ := bd hF
              refine callVI (C := RX2) (ci := 2) (q0 := 14) (As := [.int q1.1, .int q5.1]) (rest := [.int q28.1, .ref (a 0)]) ⟨hx, hb, hml, hown, hts⟩ (c_X2_pointerResult l dC dI cI cZ a q28.2 (q1.1) (q5.1) q30 e31) gX2_doInstruction_X2_pointerResult rfl hd_X2_pointerResult rfl rfl rfl ⟨Nat.le_of_ble_eq_true rfl, Nat.le_of_ble_eq_true rfl⟩ True.intro hK hP hD hS hA rfl hl.1 rfl (Nat.le_of_ble_eq_true rfl) dX2_doInstruction_136 (fun H locs hP hD hS => ?_)
              obtain ⟨q32, e33, hF⟩ := bd hF
              refine callVV (C := RX0) (ci := 0) (q0 := 0) (As := [.int q28.1, .int q30.1]) (rest := []) ⟨hx, hb, hml, hown, hts⟩ (c_X0_writePointer l dC dI cI cZ a q30.2 (q28.1) (q30.1) q32 e33) gX2_doInstruction_X0_writePointer rfl hd_X0_writePointer rfl rfl rfl ⟨Nat.le_of_ble_eq_true rfl, Nat.le_of_ble_eq_true rfl⟩ True.intro hK hP hD hS hA rfl hl.1 rfl (Nat.le_of_ble_eq_true rfl) dX2_doInstruction_139 (fun H locs hP hD hS => ?_)
              exact b142  x1 (q1.1) (q3.1) (q5.1) q32.2 hF H locs ls hP hD hS (lv_sub hl [4, 5, 3, 2, 1] rfl)
          · replace hF := ip h25 hF
            refine lv_aload_n hx hb dX2_doInstruction_84 rfl (lv_at hl 4 rfl) ?_
            refine va_get (D := (dC, dI)) (ci := 2) (v := .ref (a 0)) (C := RX2) (T := TX2) (N := 5) hx hb hts hin hown hK hP 14 rfl rfl 1 (by decide) fl19 (fun _ h9 => h9) rfl dX2_doInstruction_85 ?_
            refine lv_aload_n hx hb dX2_doInstruction_88 rfl (lv_at hl 4 rfl) ?_
            refine va_get (D := (dC, dI)) (ci := 2) (v := .ref (a 0)) (C := RX2) (T := TX2) (N := 5) hx hb hts hin hown hK hP 14 rfl rfl 1 (by decide) fl19 (fun _ h9 => h9) rfl dX2_doInstruction_89 ?_
            refine lv_iload_n hx hb dX2_doInstruction_92 rfl (lv_at hl 2 rfl) ?_
            obtain ⟨q34, e35, hF⟩ := bd hF
            refine callVI (C := RX0) (ci := 0) (q0 := 0) (As := [.int q3.1]) (rest := [.ref (a 0)]) ⟨hx, hb, hml, hown, hts⟩ (c_X0_cellOf l dC dI cI cZ a q21.2.2 (q3.1) q34 e35) gX2_doInstruction_X0_cellOf rfl hd_X0_cellOf rfl rfl rfl ⟨Nat.le_of_ble_eq_true rfl, Nat.le_of_ble_eq_true rfl⟩ True.intro hK hP hD hS hA rfl hl.1 rfl (Nat.le_of_ble_eq_true rfl) dX2_doInstruction_93 (fun H locs hP hD hS => ?_)
            refine lv_aload_n hx hb dX2_doInstruction_96 rfl (lv_at hl 4 rfl) ?_
            refine lv_iload_n hx hb dX2_doInstruction_97 rfl (lv_at hl 3 rfl) ?_
            refine lv_iload hx hb dX2_doInstruction_98 (lv_at hl 1 rfl) ?_
            refine lv_iload hx hb dX2_doInstruction_100 (lv_at hl 0 rfl) ?_
            obtain ⟨q36, e37, hF⟩ := bd hF
            refine callVI (C := RX2) (ci := 2) (q0 := 14) (As := [.int q1.1, .int q5.1, .int q7.1]) (rest := [.int q34.1, .ref (a 0)]) ⟨hx, hb, hml, hown, hts⟩ (c_X2_intResult l dC dI cI cZ a q34.2 (q1.1) (q5.1) (q7.1) q36 e37) gX2_doInstruction_X2_intResult rfl hd_X2_intResult rfl rfl rfl ⟨Nat.le_of_ble_eq_true rfl, Nat.le_of_ble_eq_true rfl⟩ True.intro hK hP hD hS hA rfl hl.1 rfl (Nat.le_of_ble_eq_true rfl) dX2_doInstruction_102 (fun H locs hP hD hS => ?_)
            obtain ⟨q38, e39, hF⟩ := bd hF
            refine callVV (C := RX0) (ci := 0) (q0 := 0) (As := [.int q34.1, .int q36.1]) (rest := []) ⟨hx, hb, hml, hown, hts⟩ (c_X0_writeInt l dC dI cI cZ a q36.2 (q34.1) (q36.1) q38 e39) gX2_doInstruction_X0_writeInt rfl hd_X0_writeInt rfl rfl rfl ⟨Nat.le_of_ble_eq_true rfl, Nat.le_of_ble_eq_true rfl⟩ True.intro hK hP hD hS hA rfl hl.1 rfl (Nat.le_of_ble_eq_true rfl) dX2_doInstruction_105 (fun H locs hP hD hS => ?_)
            refine lv_goto (tgt := 142) hx hb dX2_doInstruction_108 (by decide) ?_
            exact b142  x1 (q1.1) (q3.1) (q5.1) q38.2 hF H locs ls hP hD hS (lv_sub hl [4, 5, 3, 2, 1] rfl)
        · replace hF := iq h23 hF
          obtain ⟨hk9, ho9⟩ := Prod.mk.inj (Option.some.inj hF)
          refine callVX (C := RX2) (ci := 2) (q0 := 14) (As := [.int q1.1]) (rest := []) ⟨hx, hb, hml, hown, hts⟩ (c_X2_checkRoom_t l hnt dC dI cI cZ a t q18.2.2 (q1.1) q21.1 q21.2 e22 h23) gX2_doInstruction_X2_checkRoom rfl hd_X2_checkRoom rfl rfl rfl ⟨Nat.le_of_ble_eq_true rfl, Nat.le_of_ble_eq_true rfl⟩ ⟨Nat.le_of_ble_eq_true rfl, Nat.le_of_ble_eq_true rfl⟩ hz hK hP hD hS hA rfl hl.1 rfl (Nat.le_of_ble_eq_true rfl) dX2_doInstruction_72 (fun H locs q9 ce hP hD hS h1 h2 h3 => ?_)
          exact hOut H locs ls [] 72 q9 ce q21.2.2 ho9 hP hD hS h1 h2 (by rw [← hk9]; exact h3)
      · replace hF := iq h20 hF
        obtain ⟨hk9, ho9⟩ := Prod.mk.inj (Option.some.inj hF)
        refine callVX (C := RX2) (ci := 2) (q0 := 14) (As := [.int (rlZ q1.1.toNatClampNeg), .int q7.1]) (rest := []) ⟨hx, hb, hml, hown, hts⟩ (c_X2_checkOperand_t l hnt dC dI cI cZ a t q14.2.2 ((rlZ q1.1.toNatClampNeg)) (q7.1) q18.1 q18.2 e19 h20) gX2_doInstruction_X2_checkOperand rfl hd_X2_checkOperand rfl rfl rfl ⟨Nat.le_of_ble_eq_true rfl, Nat.le_of_ble_eq_true rfl⟩ ⟨Nat.le_of_ble_eq_true rfl, Nat.le_of_ble_eq_true rfl⟩ hz hK hP hD hS hA rfl hl.1 rfl (Nat.le_of_ble_eq_true rfl) dX2_doInstruction_67 (fun H locs q9 ce hP hD hS h1 h2 h3 => ?_)
        exact hOut H locs ls [] 67 q9 ce q18.2.2 ho9 hP hD hS h1 h2 (by rw [← hk9]; exact h3)
    · replace hF := iq h16 hF
      obtain ⟨hk9, ho9⟩ := Prod.mk.inj (Option.some.inj hF)
      refine callVX (C := RX2) (ci := 2) (q0 := 14) (As := [.int (rlY q1.1.toNatClampNeg), .int q5.1]) (rest := []) ⟨hx, hb, hml, hown, hts⟩ (c_X2_checkOperand_t l hnt dC dI cI cZ a t q10.2.2 ((rlY q1.1.toNatClampNeg)) (q5.1) q14.1 q14.2 e15 h16) gX2_doInstruction_X2_checkOperand rfl hd_X2_checkOperand rfl rfl rfl ⟨Nat.le_of_ble_eq_true rfl, Nat.le_of_ble_eq_true rfl⟩ ⟨Nat.le_of_ble_eq_true rfl, Nat.le_of_ble_eq_true rfl⟩ hz hK hP hD hS hA rfl hl.1 rfl (Nat.le_of_ble_eq_true rfl) dX2_doInstruction_56 (fun H locs q9 ce hP hD hS h1 h2 h3 => ?_)
      exact hOut H locs ls [] 56 q9 ce q14.2.2 ho9 hP hD hS h1 h2 (by rw [← hk9]; exact h3)
  · replace hF := iq h12 hF
    obtain ⟨hk9, ho9⟩ := Prod.mk.inj (Option.some.inj hF)
    refine callVX (C := RX2) (ci := 2) (q0 := 14) (As := [.int (rlX q1.1.toNatClampNeg), .int q3.1]) (rest := []) ⟨hx, hb, hml, hown, hts⟩ (c_X2_checkOperand_t l hnt dC dI cI cZ a t q7.2 ((rlX q1.1.toNatClampNeg)) (q3.1) q10.1 q10.2 e11 h12) gX2_doInstruction_X2_checkOperand rfl hd_X2_checkOperand rfl rfl rfl ⟨Nat.le_of_ble_eq_true rfl, Nat.le_of_ble_eq_true rfl⟩ ⟨Nat.le_of_ble_eq_true rfl, Nat.le_of_ble_eq_true rfl⟩ hz hK hP hD hS hA rfl hl.1 rfl (Nat.le_of_ble_eq_true rfl) dX2_doInstruction_45 (fun H locs q9 ce hP hD hS h1 h2 h3 => ?_)
    exact hOut H locs ls [] 45 q9 ce q10.2.2 ho9 hP hD hS h1 h2 (by rw [← hk9]; exact h3)

def F_X2_run_23 (k23 : St → Int32 → Int32 → Option (Nat × Int32 × St)) (u : St) (x1 x2 : Int32) : Option (Nat × Int32 × St) := (if x1 ≤ x2 then (some (0, x1, u)) else ((F_X1_has u ((u 14 4))).bind fun q2 => (if q2.1 = 0 then (some (0, x2, q2.2)) else ((F_X1_opAt q2.2 ((q2.2 14 4))).bind fun q5 => (if q5.1 = 0 then (some (0, (x2 + 1), q5.2)) else ((F_X2_doInstruction q5.2 ((q5.2 14 4))).bind fun q8 => (if q8.1 = 0 then k23 q8.2.2 x1 ((x2 + 1)) else (some (q8.1, 0, q8.2.2)))))))))
def L_X2_run_23  : Nat → St → Int32 → Int32 → Option (Nat × Int32 × St)
  | 0 => fun _ _ _ => none
  | n + 1 => fun u x1 x2 => F_X2_run_23 (L_X2_run_23 n) u x1 x2
def F_X2_run_11 (u : St) : Option (Nat × Int32 × St) := (some (3, 0, u))
def F_X2_run (u : St) (x1 : Int32) : Option (Nat × Int32 × St) := (if x1 < 0 then F_X2_run_11 u else (if x1 ≤ 500 then L_X2_run_23 fuel u x1 0 else F_X2_run_11 u))
theorem hd_X2_run : yX2_run.cls = RX2 ∧ yX2_run.cls ≠ "java/lang/invoke/MethodHandle" ∧ yX2_run.cls ≠ "java/lang/invoke/VarHandle" ∧ (parseMethodDescriptor yX2_run.desc).map (fun d => d.parameters.length) = some 1 := by decide +kernel
set_option maxRecDepth 100000 in
set_option maxHeartbeats 4000000 in
theorem c_X2_run_r (l : Launch) (dC : Nat → ClassId) (dI : Nat → Nat → Nat) (cI cZ : ClassId) (a : Nat → Nat) (t : Nat → Nat) (u : St) (x1 : Int32) (o : Int32 × St) (hF : F_X2_run u x1 = some (0, o)) : MI l yX2_run wsX2_run 9 151 (some t) dC dI cI cZ (wC a cI cZ) [.ref (a 14), .int x1] u o := by
  refine miOf (cc := cX2_run) (maxL := 3) (ret := .int) (by decide) rfl (Nat.le_of_ble_eq_true rfl) ?_
  intro p e s m args below meth c A Q H locs ls hx hb hml hts hown hK hA hz hQ hP hD hS hl
  replace hown : s.vm.findClass RX2 = some m.cls := hown
  replace hl : lv_has ls 3 [(0, .ref (a 14)), (1, .int x1)] := hl
  have hin : ∀ w ∈ u_ws RX2 TX2 5, w ∈ wsX2_run := by decide +kernel
  have fl12 := hts (.fieldLink RX2 12 "CountedHeap" "program" "LCountedHeap$Program;") (by decide +kernel)
  have fl31 := hts (.fieldLink RX2 31 "CountedHeap" "nextPlace" "I") (by decide +kernel)
  have b23 : ∀ (k23 : St → Int32 → Int32 → Option (Nat × Int32 × St)) (hk23 : ∀ (x1 x2 : Int32) (u : St), k23 u x1 x2 = some (0, o) → GW p l e (rmK 9 151) s m args below meth c Q dC dI (wC a cI cZ) A 3 23 [(0, .ref (a 14)), (1, .int x1), (2, .int x2)] [] u) (x1 x2 : Int32) (u : St), F_X2_run_23 k23 u x1 x2 = some (0, o) → GW p l e (rmK 9 151) s m args below meth c Q dC dI (wC a cI cZ) A 3 23 [(0, .ref (a 14)), (1, .int x1), (2, .int x2)] [] u := by
      intro k23 hk23 x1 x2 u hF H locs ls hP hD hS hl
      unfold F_X2_run_23 at hF
      refine lv_iload_n hx hb dX2_run_23 rfl (lv_at hl 2 rfl) ?_
      refine lv_iload_n hx hb dX2_run_24 rfl (lv_at hl 1 rfl) ?_
      refine lv_icmp_ge (tgt := 76) hx hb dX2_run_25 (by decide) (fun h1 => ?_) (fun h1 => ?_)
      · replace hF := ip h1 hF
        refine lv_iload_n hx hb dX2_run_76 rfl (lv_at hl 1 rfl) ?_
        exact hQ _ _ _ _ _ _ (Prod.mk.inj (Option.some.inj hF)).2 (vp_nar_int _) hP hD hS dX2_run_77
      · replace hF := iq h1 hF
        refine lv_aload_n hx hb dX2_run_28 rfl (lv_at hl 0 rfl) ?_
        refine va_get (D := (dC, dI)) (ci := 2) (v := .ref (a 9)) (C := RX2) (T := TX2) (N := 5) hx hb hts hin hown hK hP 14 rfl rfl 0 (by decide) fl12 (fun _ h9 => h9) rfl dX2_run_29 ?_
        refine lv_aload_n hx hb dX2_run_32 rfl (lv_at hl 0 rfl) ?_
        refine va_get (D := (dC, dI)) (ci := 2) (v := .int (u 14 4)) (C := RX2) (T := TX2) (N := 5) hx hb hts hin hown hK hP 14 rfl rfl 4 (by decide) fl31 (fun _ h9 => h9) rfl dX2_run_33 ?_
        obtain ⟨q2, e3, hF⟩ := bd hF
        refine callVI (C := RX1) (ci := 1) (q0 := 9) (As := [.int (u 14 4)]) (rest := []) ⟨hx, hb, hml, hown, hts⟩ (c_X1_has l dC dI cI cZ a u ((u 14 4)) q2 e3) gX2_run_X1_has rfl hd_X1_has rfl rfl rfl ⟨Nat.le_of_ble_eq_true rfl, Nat.le_of_ble_eq_true rfl⟩ True.intro hK hP hD hS hA rfl hl.1 rfl (Nat.le_of_ble_eq_true rfl) dX2_run_36 (fun H locs hP hD hS => ?_)
        refine lv_if_ne (tgt := 44) hx hb dX2_run_39 (by decide) (fun h4 => ?_) (fun h4 => ?_)
        · replace hF := iq h4 hF
          refine lv_aload_n hx hb dX2_run_44 rfl (lv_at hl 0 rfl) ?_
          refine va_get (D := (dC, dI)) (ci := 2) (v := .ref (a 9)) (C := RX2) (T := TX2) (N := 5) hx hb hts hin hown hK hP 14 rfl rfl 0 (by decide) fl12 (fun _ h9 => h9) rfl dX2_run_45 ?_
          refine lv_aload_n hx hb dX2_run_48 rfl (lv_at hl 0 rfl) ?_
          refine va_get (D := (dC, dI)) (ci := 2) (v := .int (q2.2 14 4)) (C := RX2) (T := TX2) (N := 5) hx hb hts hin hown hK hP 14 rfl rfl 4 (by decide) fl31 (fun _ h9 => h9) rfl dX2_run_49 ?_
          obtain ⟨q5, e6, hF⟩ := bd hF
          refine callVI (C := RX1) (ci := 1) (q0 := 9) (As := [.int (q2.2 14 4)]) (rest := []) ⟨hx, hb, hml, hown, hts⟩ (c_X1_opAt l dC dI cI cZ a q2.2 ((q2.2 14 4)) q5 e6) gX2_run_X1_opAt rfl hd_X1_opAt rfl rfl rfl ⟨Nat.le_of_ble_eq_true rfl, Nat.le_of_ble_eq_true rfl⟩ True.intro hK hP hD hS hA rfl hl.1 rfl (Nat.le_of_ble_eq_true rfl) dX2_run_52 (fun H locs hP hD hS => ?_)
          refine lv_if_ne (tgt := 62) hx hb dX2_run_55 (by decide) (fun h7 => ?_) (fun h7 => ?_)
          · replace hF := iq h7 hF
            refine lv_aload_n hx hb dX2_run_62 rfl (lv_at hl 0 rfl) ?_
            refine lv_aload_n hx hb dX2_run_63 rfl (lv_at hl 0 rfl) ?_
            refine va_get (D := (dC, dI)) (ci := 2) (v := .int (q5.2 14 4)) (C := RX2) (T := TX2) (N := 5) hx hb hts hin hown hK hP 14 rfl rfl 4 (by decide) fl31 (fun _ h9 => h9) rfl dX2_run_64 ?_
            obtain ⟨q8, e9, hF⟩ := bd hF
            by_cases h10 : q8.1 = 0
            · replace hF := ip h10 hF
              refine callVV (C := RX2) (ci := 2) (q0 := 14) (As := [.int (q5.2 14 4)]) (rest := []) ⟨hx, hb, hml, hown, hts⟩ (c_X2_doInstruction_r l dC dI cI cZ a t q5.2 ((q5.2 14 4)) q8.2 (e9.trans (congrArg some (Prod.ext h10 rfl)))) gX2_run_X2_doInstruction rfl hd_X2_doInstruction rfl rfl rfl ⟨Nat.le_of_ble_eq_true rfl, Nat.le_of_ble_eq_true rfl⟩ hz hK hP hD hS hA rfl hl.1 rfl (Nat.le_of_ble_eq_true rfl) dX2_run_67 (fun H locs hP hD hS => ?_)
              refine lv_iinc (v := (x2 + 1)) (lv' := [(2, .int (x2 + 1)), (0, .ref (a 14)), (1, .int x1)]) hx hb dX2_run_70 hl (k := 2) rfl rfl (by decide) rfl (fun ls hl => ?_)
              refine lv_goto (tgt := 23) hx hb dX2_run_73 (by decide) ?_
              exact hk23 x1 ((x2 + 1)) q8.2.2 hF H locs ls hP hD hS (lv_sub hl [1, 2, 0] rfl)
            · replace hF := iq h10 hF
              exact absurd (Prod.mk.inj (Option.some.inj hF)).1 h10
          · replace hF := ip h7 hF
            refine lv_iload_n hx hb dX2_run_58 rfl (lv_at hl 2 rfl) ?_
            refine lv_iconst (v := 1) hx hb dX2_run_59 (by decide) ?_
            refine lv_iadd hx hb dX2_run_60 ?_
            exact hQ _ _ _ _ _ _ (Prod.mk.inj (Option.some.inj hF)).2 (vp_nar_int _) hP hD hS dX2_run_61
        · replace hF := ip h4 hF
          refine lv_iload_n hx hb dX2_run_42 rfl (lv_at hl 2 rfl) ?_
          exact hQ _ _ _ _ _ _ (Prod.mk.inj (Option.some.inj hF)).2 (vp_nar_int _) hP hD hS dX2_run_43
  have l23 : ∀  (n : Nat) (x1 x2 : Int32) (u : St), L_X2_run_23  n u x1 x2 = some (0, o) → GW p l e (rmK 9 151) s m args below meth c Q dC dI (wC a cI cZ) A 3 23 [(0, .ref (a 14)), (1, .int x1), (2, .int x2)] [] u := by
      intro  n
      induction n with
      | zero =>
        intro x1 x2 u hF
        have hF : (none : Option (Nat × Int32 × St)) = some (0, o) := hF
        cases hF
      | succ n ih =>
        intro x1 x2 u hF
        exact b23 (L_X2_run_23 n) ih x1 x2 u hF
  have b11 : ∀   (u : St), F_X2_run_11 u  = some (0, o) → GW p l e (rmK 9 151) s m args below meth c Q dC dI (wC a cI cZ) A 3 11 [] [] u := by
      intro   u hF H locs ls hP hD hS hl
      unfold F_X2_run_11 at hF
      exact absurd (Prod.mk.inj (Option.some.inj hF)).1 (by decide)
  unfold F_X2_run at hF
  refine lv_iload_n hx hb dX2_run_0 rfl (lv_at hl 1 rfl) ?_
  refine lv_if_lt (tgt := 11) hx hb dX2_run_1 (by decide) (fun h1 => ?_) (fun h1 => ?_)
  · replace hF := ip h1 hF
    exact b11   u hF H locs ls hP hD hS (lv_sub hl [] rfl)
  · replace hF := iq h1 hF
    refine lv_iload_n hx hb dX2_run_4 rfl (lv_at hl 1 rfl) ?_
    refine lv_sipush (v := 500) hx hb dX2_run_5 (by decide) ?_
    refine lv_icmp_le (tgt := 21) hx hb dX2_run_8 (by decide) (fun h2 => ?_) (fun h2 => ?_)
    · replace hF := ip h2 hF
      refine lv_iconst (v := 0) hx hb dX2_run_21 (by decide) ?_
      refine lv_istore_n (lv' := [(2, .int 0), (0, .ref (a 14)), (1, .int x1)]) hx hb dX2_run_22 rfl hl (by decide) rfl (fun ls hl => ?_)
      exact l23  fuel x1 0 u hF H locs ls hP hD hS (lv_sub hl [1, 2, 0] rfl)
    · replace hF := iq h2 hF
      exact b11   u hF H locs ls hP hD hS (lv_sub hl [] rfl)
theorem wx_X2_run_81 : ∀ w ∈ (vx_atS RX2 81 "java/lang/IllegalArgumentException" ["java/lang/RuntimeException", "java/lang/Exception"]).filter goodWord, w ∈ wsX2_run := by decide +kernel
set_option maxRecDepth 100000 in
set_option maxHeartbeats 4000000 in
theorem c_X2_run_t (l : Launch) (hnt : l.stackTraces = false) (dC : Nat → ClassId) (dI : Nat → Nat → Nat) (cI cZ : ClassId) (a : Nat → Nat) (t : Nat → Nat) (u : St) (x1 : Int32) (k : Nat) (o : Int32 × St) (hF : F_X2_run u x1 = some (k, o)) (hk : ¬ k = 0) : MX l yX2_run wsX2_run 9 151 (some t) dC dI cI cZ (wC a cI cZ) [.ref (a 14), .int x1] u k o.2 := by
  refine mxOf (cc := cX2_run) (maxL := 3) (ret := (some .int)) (by decide) rfl (Nat.le_of_ble_eq_true rfl) hnt (Nat.le_of_ble_eq_true rfl) (Nat.le_of_ble_eq_true rfl) ?_
  intro p e s m args below meth c A Q H locs ls hx hb hml hts hown hK hA hz hThr hOut hP hD hS hl
  replace hown : s.vm.findClass RX2 = some m.cls := hown
  replace hl : lv_has ls 3 [(0, .ref (a 14)), (1, .int x1)] := hl
  have hin : ∀ w ∈ u_ws RX2 TX2 5, w ∈ wsX2_run := by decide +kernel
  have fl12 := hts (.fieldLink RX2 12 "CountedHeap" "program" "LCountedHeap$Program;") (by decide +kernel)
  have fl31 := hts (.fieldLink RX2 31 "CountedHeap" "nextPlace" "I") (by decide +kernel)
  have b23 : ∀ (k23 : St → Int32 → Int32 → Option (Nat × Int32 × St)) (hk23 : ∀ (x1 x2 : Int32) (u : St), k23 u x1 x2 = some (k, o) → GW p l e (rmX 9 151) s m args below meth c Q dC dI (wC a cI cZ) A 3 23 [(0, .ref (a 14)), (1, .int x1), (2, .int x2)] [] u) (x1 x2 : Int32) (u : St), F_X2_run_23 k23 u x1 x2 = some (k, o) → GW p l e (rmX 9 151) s m args below meth c Q dC dI (wC a cI cZ) A 3 23 [(0, .ref (a 14)), (1, .int x1), (2, .int x2)] [] u := by
      intro k23 hk23 x1 x2 u hF H locs ls hP hD hS hl
      unfold F_X2_run_23 at hF
      refine lv_iload_n hx hb dX2_run_23 rfl (lv_at hl 2 rfl) ?_
      refine lv_iload_n hx hb dX2_run_24 rfl (lv_at hl 1 rfl) ?_
      refine lv_icmp_ge (tgt := 76) hx hb dX2_run_25 (by decide) (fun h1 => ?_) (fun h1 => ?_)
      · replace hF := ip h1 hF
        refine lv_iload_n hx hb dX2_run_76 rfl (lv_at hl 1 rfl) ?_
        exact absurd (Prod.mk.inj (Option.some.inj hF)).1.symm hk
      · replace hF := iq h1 hF
        refine lv_aload_n hx hb dX2_run_28 rfl (lv_at hl 0 rfl) ?_
        refine va_get (D := (dC, dI)) (ci := 2) (v := .ref (a 9)) (C := RX2) (T := TX2) (N := 5) hx hb hts hin hown hK hP 14 rfl rfl 0 (by decide) fl12 (fun _ h9 => h9) rfl dX2_run_29 ?_
        refine lv_aload_n hx hb dX2_run_32 rfl (lv_at hl 0 rfl) ?_
        refine va_get (D := (dC, dI)) (ci := 2) (v := .int (u 14 4)) (C := RX2) (T := TX2) (N := 5) hx hb hts hin hown hK hP 14 rfl rfl 4 (by decide) fl31 (fun _ h9 => h9) rfl dX2_run_33 ?_
        obtain ⟨q2, e3, hF⟩ := bd hF
        refine callVI (C := RX1) (ci := 1) (q0 := 9) (As := [.int (u 14 4)]) (rest := []) ⟨hx, hb, hml, hown, hts⟩ (c_X1_has l dC dI cI cZ a u ((u 14 4)) q2 e3) gX2_run_X1_has rfl hd_X1_has rfl rfl rfl ⟨Nat.le_of_ble_eq_true rfl, Nat.le_of_ble_eq_true rfl⟩ True.intro hK hP hD hS hA rfl hl.1 rfl (Nat.le_of_ble_eq_true rfl) dX2_run_36 (fun H locs hP hD hS => ?_)
        refine lv_if_ne (tgt := 44) hx hb dX2_run_39 (by decide) (fun h4 => ?_) (fun h4 => ?_)
        · replace hF := iq h4 hF
          refine lv_aload_n hx hb dX2_run_44 rfl (lv_at hl 0 rfl) ?_
          refine va_get (D := (dC, dI)) (ci := 2) (v := .ref (a 9)) (C := RX2) (T := TX2) (N := 5) hx hb hts hin hown hK hP 14 rfl rfl 0 (by decide) fl12 (fun _ h9 => h9) rfl dX2_run_45 ?_
          refine lv_aload_n hx hb dX2_run_48 rfl (lv_at hl 0 rfl) ?_
          refine va_get (D := (dC, dI)) (ci := 2) (v := .int (q2.2 14 4)) (C := RX2) (T := TX2) (N := 5) hx hb hts hin hown hK hP 14 rfl rfl 4 (by decide) fl31 (fun _ h9 => h9) rfl dX2_run_49 ?_
          obtain ⟨q5, e6, hF⟩ := bd hF
          refine callVI (C := RX1) (ci := 1) (q0 := 9) (As := [.int (q2.2 14 4)]) (rest := []) ⟨hx, hb, hml, hown, hts⟩ (c_X1_opAt l dC dI cI cZ a q2.2 ((q2.2 14 4)) q5 e6) gX2_run_X1_opAt rfl hd_X1_opAt rfl rfl rfl ⟨Nat.le_of_ble_eq_true rfl, Nat.le_of_ble_eq_true rfl⟩ True.intro hK hP hD hS hA rfl hl.1 rfl (Nat.le_of_ble_eq_true rfl) dX2_run_52 (fun H locs hP hD hS => ?_)
          refine lv_if_ne (tgt := 62) hx hb dX2_run_55 (by decide) (fun h7 => ?_) (fun h7 => ?_)
          · replace hF := iq h7 hF
            refine lv_aload_n hx hb dX2_run_62 rfl (lv_at hl 0 rfl) ?_
            refine lv_aload_n hx hb dX2_run_63 rfl (lv_at hl 0 rfl) ?_
            refine va_get (D := (dC, dI)) (ci := 2) (v := .int (q5.2 14 4)) (C := RX2) (T := TX2) (N := 5) hx hb hts hin hown hK hP 14 rfl rfl 4 (by decide) fl31 (fun _ h9 => h9) rfl dX2_run_64 ?_
            obtain ⟨q8, e9, hF⟩ := bd hF
            by_cases h10 : q8.1 = 0
            · replace hF := ip h10 hF
              refine callVV (C := RX2) (ci := 2) (q0 := 14) (As := [.int (q5.2 14 4)]) (rest := []) ⟨hx, hb, hml, hown, hts⟩ (c_X2_doInstruction_r l dC dI cI cZ a t q5.2 ((q5.2 14 4)) q8.2 (e9.trans (congrArg some (Prod.ext h10 rfl)))) gX2_run_X2_doInstruction rfl hd_X2_doInstruction rfl rfl rfl ⟨Nat.le_of_ble_eq_true rfl, Nat.le_of_ble_eq_true rfl⟩ hz hK hP hD hS hA rfl hl.1 rfl (Nat.le_of_ble_eq_true rfl) dX2_run_67 (fun H locs hP hD hS => ?_)
              refine lv_iinc (v := (x2 + 1)) (lv' := [(2, .int (x2 + 1)), (0, .ref (a 14)), (1, .int x1)]) hx hb dX2_run_70 hl (k := 2) rfl rfl (by decide) rfl (fun ls hl => ?_)
              refine lv_goto (tgt := 23) hx hb dX2_run_73 (by decide) ?_
              exact hk23 x1 ((x2 + 1)) q8.2.2 hF H locs ls hP hD hS (lv_sub hl [1, 2, 0] rfl)
            · replace hF := iq h10 hF
              obtain ⟨hk9, ho9⟩ := Prod.mk.inj (Option.some.inj hF)
              refine callVX (C := RX2) (ci := 2) (q0 := 14) (As := [.int (q5.2 14 4)]) (rest := []) ⟨hx, hb, hml, hown, hts⟩ (c_X2_doInstruction_t l hnt dC dI cI cZ a t q5.2 ((q5.2 14 4)) q8.1 q8.2 e9 h10) gX2_run_X2_doInstruction rfl hd_X2_doInstruction rfl rfl rfl ⟨Nat.le_of_ble_eq_true rfl, Nat.le_of_ble_eq_true rfl⟩ ⟨Nat.le_of_ble_eq_true rfl, Nat.le_of_ble_eq_true rfl⟩ hz hK hP hD hS hA rfl hl.1 rfl (Nat.le_of_ble_eq_true rfl) dX2_run_67 (fun H locs q9 ce hP hD hS h1 h2 h3 => ?_)
              exact hOut H locs ls [] 67 q9 ce q8.2.2 ho9 hP hD hS h1 h2 (by rw [← hk9]; exact h3)
          · replace hF := ip h7 hF
            refine lv_iload_n hx hb dX2_run_58 rfl (lv_at hl 2 rfl) ?_
            refine lv_iconst (v := 1) hx hb dX2_run_59 (by decide) ?_
            refine lv_iadd hx hb dX2_run_60 ?_
            exact absurd (Prod.mk.inj (Option.some.inj hF)).1.symm hk
        · replace hF := ip h4 hF
          refine lv_iload_n hx hb dX2_run_42 rfl (lv_at hl 2 rfl) ?_
          exact absurd (Prod.mk.inj (Option.some.inj hF)).1.symm hk
  have l23 : ∀  (n : Nat) (x1 x2 : Int32) (u : St), L_X2_run_23  n u x1 x2 = some (k, o) → GW p l e (rmX 9 151) s m args below meth c Q dC dI (wC a cI cZ) A 3 23 [(0, .ref (a 14)), (1, .int x1), (2, .int x2)] [] u := by
      intro  n
      induction n with
      | zero =>
        intro x1 x2 u hF
        have hF : (none : Option (Nat × Int32 × St)) = some (k, o) := hF
        cases hF
      | succ n ih =>
        intro x1 x2 u hF
        exact b23 (L_X2_run_23 n) ih x1 x2 u hF
  have b11 : ∀   (u : St), F_X2_run_11 u  = some (k, o) → GW p l e (rmX 9 151) s m args below meth c Q dC dI (wC a cI cZ) A 3 11 [] [] u := by
      intro   u hF H locs ls hP hD hS hl
      unfold F_X2_run_11 at hF
      obtain ⟨hk9, ho9⟩ := Prod.mk.inj (Option.some.inj hF)
      obtain ⟨sa, hsa⟩ := hz.2.2.2.2.1 (79, "the number of instructions is not 0 .. 500") (List.mem_of_getElem? (i := 0) rfl)
      exact hThr H locs ls 11 77 79 81 sa "java/lang/IllegalArgumentException" "the number of instructions is not 0 .. 500" u (by rw [← hk9]; rfl) ho9 (by decide +kernel) (hts (.classLink RX2 77 "java/lang/IllegalArgumentException") (by decide +kernel)) (hts (.initialized "java/lang/IllegalArgumentException") (by decide +kernel)) hsa (vx_hat (B := dcls.map Cond.declares ++ [.castable "java/lang/IllegalArgumentException" "java/lang/IllegalArgumentException"]) (fun w h => hts w (wx_X2_run_81 w h)) (by decide +kernel) (hzB hz 3 (by decide))) (by decide +kernel) dX2_run_11 dX2_run_14 dX2_run_15 dX2_run_17 dX2_run_20 hP hD hS hl.1
  unfold F_X2_run at hF
  refine lv_iload_n hx hb dX2_run_0 rfl (lv_at hl 1 rfl) ?_
  refine lv_if_lt (tgt := 11) hx hb dX2_run_1 (by decide) (fun h1 => ?_) (fun h1 => ?_)
  · replace hF := ip h1 hF
    exact b11   u hF H locs ls hP hD hS (lv_sub hl [] rfl)
  · replace hF := iq h1 hF
    refine lv_iload_n hx hb dX2_run_4 rfl (lv_at hl 1 rfl) ?_
    refine lv_sipush (v := 500) hx hb dX2_run_5 (by decide) ?_
    refine lv_icmp_le (tgt := 21) hx hb dX2_run_8 (by decide) (fun h2 => ?_) (fun h2 => ?_)
    · replace hF := ip h2 hF
      refine lv_iconst (v := 0) hx hb dX2_run_21 (by decide) ?_
      refine lv_istore_n (lv' := [(2, .int 0), (0, .ref (a 14)), (1, .int x1)]) hx hb dX2_run_22 rfl hl (by decide) rfl (fun ls hl => ?_)
      exact l23  fuel x1 0 u hF H locs ls hP hD hS (lv_sub hl [1, 2, 0] rfl)
    · replace hF := iq h2 hF
      exact b11   u hF H locs ls hP hD hS (lv_sub hl [] rfl)
