def F_X0_wordOf (u : St) (x0 : Int32) : Option (Int32 × St) := (some (((x0 - 16) - (x0 - 16) / 8 * 8), u))
set_option maxRecDepth 100000 in
set_option maxHeartbeats 4000000 in
theorem c_X0_wordOf (l : Launch) (dC : Nat → ClassId) (dI : Nat → Nat → Nat) (cI cZ : ClassId) (a : Nat → Nat) (u : St) (x0 : Int32) (o : Int32 × St) (hF : F_X0_wordOf u x0 = some o) : MI l yX0_wordOf wsX0_wordOf 0 0 none dC dI cI cZ (wC a cI cZ) [.int x0] u o := by
  refine miOf (cc := cX0_wordOf) (maxL := 1) (ret := .int) (by decide) rfl (Nat.le_of_ble_eq_true rfl) ?_
  intro p e s m args below meth c A Q H locs ls hx hb hml hts hown hK hA hz hQ hP hD hS hl
  replace hown : s.vm.findClass RX0 = some m.cls := hown
  replace hl : lv_has ls 1 [(0, .int x0)] := hl
  unfold F_X0_wordOf at hF
  refine lv_iload_n hx hb dX0_wordOf_0 rfl (lv_at hl 0 rfl) ?_
  refine lv_bipush (v := 16) hx hb dX0_wordOf_1 (by decide) ?_
  refine lv_isub hx hb dX0_wordOf_3 ?_
  refine lv_bipush (v := 8) hx hb dX0_wordOf_4 (by decide) ?_
  refine lv_irem hx hb dX0_wordOf_6 (by decide) ?_
  exact hQ _ _ _ _ _ _ (Option.some.inj hF) (vp_nar_int _) hP hD hS dX0_wordOf_7
theorem hd_X0_wordOf : yX0_wordOf.cls ≠ "java/lang/invoke/MethodHandle" ∧ yX0_wordOf.cls ≠ "java/lang/invoke/VarHandle" ∧ (parseMethodDescriptor yX0_wordOf.desc).map (fun d => d.parameters.length) = some 1 := by decide +kernel

def F_X0_cellOfWord (u : St) (x0 x1 : Int32) : Option (Int32 × St) := (some (((8 + ((x0 - 1) * 6)) + x1), u))
set_option maxRecDepth 100000 in
set_option maxHeartbeats 4000000 in
theorem c_X0_cellOfWord (l : Launch) (dC : Nat → ClassId) (dI : Nat → Nat → Nat) (cI cZ : ClassId) (a : Nat → Nat) (u : St) (x0 x1 : Int32) (o : Int32 × St) (hF : F_X0_cellOfWord u x0 x1 = some o) : MI l yX0_cellOfWord wsX0_cellOfWord 0 0 none dC dI cI cZ (wC a cI cZ) [.int x0, .int x1] u o := by
  refine miOf (cc := cX0_cellOfWord) (maxL := 2) (ret := .int) (by decide) rfl (Nat.le_of_ble_eq_true rfl) ?_
  intro p e s m args below meth c A Q H locs ls hx hb hml hts hown hK hA hz hQ hP hD hS hl
  replace hown : s.vm.findClass RX0 = some m.cls := hown
  replace hl : lv_has ls 2 [(0, .int x0), (1, .int x1)] := hl
  unfold F_X0_cellOfWord at hF
  refine lv_bipush (v := 8) hx hb dX0_cellOfWord_0 (by decide) ?_
  refine lv_iload_n hx hb dX0_cellOfWord_2 rfl (lv_at hl 0 rfl) ?_
  refine lv_iconst (v := 1) hx hb dX0_cellOfWord_3 (by decide) ?_
  refine lv_isub hx hb dX0_cellOfWord_4 ?_
  refine lv_bipush (v := 6) hx hb dX0_cellOfWord_5 (by decide) ?_
  refine lv_imul hx hb dX0_cellOfWord_7 ?_
  refine lv_iadd hx hb dX0_cellOfWord_8 ?_
  refine lv_iload_n hx hb dX0_cellOfWord_9 rfl (lv_at hl 1 rfl) ?_
  refine lv_iadd hx hb dX0_cellOfWord_10 ?_
  exact hQ _ _ _ _ _ _ (Option.some.inj hF) (vp_nar_int _) hP hD hS dX0_cellOfWord_11
theorem hd_X0_cellOfWord : yX0_cellOfWord.cls ≠ "java/lang/invoke/MethodHandle" ∧ yX0_cellOfWord.cls ≠ "java/lang/invoke/VarHandle" ∧ (parseMethodDescriptor yX0_cellOfWord.desc).map (fun d => d.parameters.length) = some 2 := by decide +kernel

def F_X0_blockOf (u : St) (x1 : Int32) : Option (Int32 × St) := (if ((4 + ((x1 - 16) / 8)) < 0 ∨ 152 ≤ (4 + ((x1 - 16) / 8)).toNatClampNeg) then none else (some ((u 3 (4 + ((x1 - 16) / 8)).toNatClampNeg), u)))
set_option maxRecDepth 100000 in
set_option maxHeartbeats 4000000 in
theorem c_X0_blockOf (l : Launch) (dC : Nat → ClassId) (dI : Nat → Nat → Nat) (cI cZ : ClassId) (a : Nat → Nat) (u : St) (x1 : Int32) (o : Int32 × St) (hF : F_X0_blockOf u x1 = some o) : MI l yX0_blockOf wsX0_blockOf 0 0 none dC dI cI cZ (wC a cI cZ) [.ref (a 0), .int x1] u o := by
  refine miOf (cc := cX0_blockOf) (maxL := 2) (ret := .int) (by decide) rfl (Nat.le_of_ble_eq_true rfl) ?_
  intro p e s m args below meth c A Q H locs ls hx hb hml hts hown hK hA hz hQ hP hD hS hl
  replace hown : s.vm.findClass RX0 = some m.cls := hown
  replace hl : lv_has ls 2 [(0, .ref (a 0)), (1, .int x1)] := hl
  have hin : ∀ w ∈ u_ws RX0 TX0 11, w ∈ wsX0_blockOf := by decide +kernel
  have fl18 := hts (.fieldLink RX0 18 "CountedHeap$Memory" "cells" "[I") (by decide +kernel)
  unfold F_X0_blockOf at hF
  refine lv_aload_n hx hb dX0_blockOf_0 rfl (lv_at hl 0 rfl) ?_
  refine va_get (D := (dC, dI)) (ci := 0) (v := .ref (a 3)) (C := RX0) (T := TX0) (N := 11) hx hb hts hin hown hK hP 0 rfl rfl 2 (by decide) fl18 (fun _ h9 => h9) rfl dX0_blockOf_1 ?_
  refine lv_iconst (v := 4) hx hb dX0_blockOf_4 (by decide) ?_
  refine lv_iload_n hx hb dX0_blockOf_5 rfl (lv_at hl 1 rfl) ?_
  refine lv_bipush (v := 16) hx hb dX0_blockOf_6 (by decide) ?_
  refine lv_isub hx hb dX0_blockOf_8 ?_
  refine lv_bipush (v := 8) hx hb dX0_blockOf_9 (by decide) ?_
  refine lv_idiv hx hb dX0_blockOf_11 (by decide) ?_
  refine lv_iadd hx hb dX0_blockOf_12 ?_
  obtain ⟨hi1, hF⟩ := ck hF
  refine va_iald hx hb hK hP 3 0 rfl rfl hi1 dX0_blockOf_13 ?_
  exact hQ _ _ _ _ _ _ (Option.some.inj hF) (vp_nar_int _) hP hD hS dX0_blockOf_14
theorem hd_X0_blockOf : yX0_blockOf.cls = RX0 ∧ yX0_blockOf.cls ≠ "java/lang/invoke/MethodHandle" ∧ yX0_blockOf.cls ≠ "java/lang/invoke/VarHandle" ∧ (parseMethodDescriptor yX0_blockOf.desc).map (fun d => d.parameters.length) = some 1 := by decide +kernel

def F_X0_cellOf (u : St) (x1 : Int32) : Option (Int32 × St) := (if 8 ≤ x1 then ((F_X0_blockOf u x1).bind fun q2 => ((F_X0_wordOf q2.2 x1).bind fun q4 => ((F_X0_cellOfWord q4.2 (q2.1) (q4.1)).bind fun q6 => (some (q6.1, q6.2))))) else (some (x1, u)))
set_option maxRecDepth 100000 in
set_option maxHeartbeats 4000000 in
theorem c_X0_cellOf (l : Launch) (dC : Nat → ClassId) (dI : Nat → Nat → Nat) (cI cZ : ClassId) (a : Nat → Nat) (u : St) (x1 : Int32) (o : Int32 × St) (hF : F_X0_cellOf u x1 = some o) : MI l yX0_cellOf wsX0_cellOf 1 21 none dC dI cI cZ (wC a cI cZ) [.ref (a 0), .int x1] u o := by
  refine miOf (cc := cX0_cellOf) (maxL := 2) (ret := .int) (by decide) rfl (Nat.le_of_ble_eq_true rfl) ?_
  intro p e s m args below meth c A Q H locs ls hx hb hml hts hown hK hA hz hQ hP hD hS hl
  replace hown : s.vm.findClass RX0 = some m.cls := hown
  replace hl : lv_has ls 2 [(0, .ref (a 0)), (1, .int x1)] := hl
  unfold F_X0_cellOf at hF
  refine lv_iload_n hx hb dX0_cellOf_0 rfl (lv_at hl 1 rfl) ?_
  refine lv_bipush (v := 8) hx hb dX0_cellOf_1 (by decide) ?_
  refine lv_icmp_ge (tgt := 10) hx hb dX0_cellOf_3 (by decide) (fun h1 => ?_) (fun h1 => ?_)
  · replace hF := ip h1 hF
    refine lv_aload_n hx hb dX0_cellOf_10 rfl (lv_at hl 0 rfl) ?_
    refine lv_iload_n hx hb dX0_cellOf_11 rfl (lv_at hl 1 rfl) ?_
    obtain ⟨q2, e3, hF⟩ := bd hF
    refine callVI (C := RX0) (ci := 0) (q0 := 0) (As := [.int x1]) (rest := []) ⟨hx, hb, hml, hown, hts⟩ (c_X0_blockOf l dC dI cI cZ a u x1 q2 e3) gX0_cellOf_X0_blockOf rfl hd_X0_blockOf rfl rfl rfl ⟨Nat.le_of_ble_eq_true rfl, Nat.le_of_ble_eq_true rfl⟩ True.intro hK hP hD hS hA rfl hl.1 rfl (Nat.le_of_ble_eq_true rfl) dX0_cellOf_12 (fun H locs hP hD hS => ?_)
    refine lv_iload_n hx hb dX0_cellOf_15 rfl (lv_at hl 1 rfl) ?_
    obtain ⟨q4, e5, hF⟩ := bd hF
    refine callSI (As := [.int x1]) (rest := [.int q2.1]) ⟨hx, hb, hml, hown, hts⟩ (c_X0_wordOf l dC dI cI cZ a q2.2 x1 q4 e5) gX0_cellOf_X0_wordOf rfl hd_X0_wordOf ⟨Nat.le_of_ble_eq_true rfl, Nat.le_of_ble_eq_true rfl⟩ True.intro hK hP hD hS hA rfl hl.1 rfl (Nat.le_of_ble_eq_true rfl) dX0_cellOf_16 (fun H locs hP hD hS => ?_)
    obtain ⟨q6, e7, hF⟩ := bd hF
    refine callSI (As := [.int q2.1, .int q4.1]) (rest := []) ⟨hx, hb, hml, hown, hts⟩ (c_X0_cellOfWord l dC dI cI cZ a q4.2 (q2.1) (q4.1) q6 e7) gX0_cellOf_X0_cellOfWord rfl hd_X0_cellOfWord ⟨Nat.le_of_ble_eq_true rfl, Nat.le_of_ble_eq_true rfl⟩ True.intro hK hP hD hS hA rfl hl.1 rfl (Nat.le_of_ble_eq_true rfl) dX0_cellOf_19 (fun H locs hP hD hS => ?_)
    exact hQ _ _ _ _ _ _ (Option.some.inj hF) (vp_nar_int _) hP hD hS dX0_cellOf_22
  · replace hF := iq h1 hF
    refine lv_iload_n hx hb dX0_cellOf_6 rfl (lv_at hl 1 rfl) ?_
    refine lv_goto (tgt := 22) hx hb dX0_cellOf_7 (by decide) ?_
    exact hQ _ _ _ _ _ _ (Option.some.inj hF) (vp_nar_int _) hP hD hS dX0_cellOf_22
theorem hd_X0_cellOf : yX0_cellOf.cls = RX0 ∧ yX0_cellOf.cls ≠ "java/lang/invoke/MethodHandle" ∧ yX0_cellOf.cls ≠ "java/lang/invoke/VarHandle" ∧ (parseMethodDescriptor yX0_cellOf.desc).map (fun d => d.parameters.length) = some 1 := by decide +kernel

def F_X0_isBlock (u : St) (x1 : Int32) : Option (Int32 × St) := (if x1 < 1 then (some (0, u)) else (if 24 < x1 then (some (0, u)) else (if (x1 < 0 ∨ 25 ≤ x1.toNatClampNeg) then none else (if (u 4 x1.toNatClampNeg) = 0 then (some (0, u)) else (some (1, u))))))
set_option maxRecDepth 100000 in
set_option maxHeartbeats 4000000 in
theorem c_X0_isBlock (l : Launch) (dC : Nat → ClassId) (dI : Nat → Nat → Nat) (cI cZ : ClassId) (a : Nat → Nat) (u : St) (x1 : Int32) (o : Int32 × St) (hF : F_X0_isBlock u x1 = some o) : MI l yX0_isBlock wsX0_isBlock 0 0 none dC dI cI cZ (wC a cI cZ) [.ref (a 0), .int x1] u o := by
  refine miOf (cc := cX0_isBlock) (maxL := 2) (ret := .boolean) (by decide) rfl (Nat.le_of_ble_eq_true rfl) ?_
  intro p e s m args below meth c A Q H locs ls hx hb hml hts hown hK hA hz hQ hP hD hS hl
  replace hown : s.vm.findClass RX0 = some m.cls := hown
  replace hl : lv_has ls 2 [(0, .ref (a 0)), (1, .int x1)] := hl
  have hin : ∀ w ∈ u_ws RX0 TX0 11, w ∈ wsX0_isBlock := by decide +kernel
  have fl21 := hts (.fieldLink RX0 21 "CountedHeap$Memory" "used" "[Z") (by decide +kernel)
  unfold F_X0_isBlock at hF
  refine lv_iload_n hx hb dX0_isBlock_0 rfl (lv_at hl 1 rfl) ?_
  refine lv_iconst (v := 1) hx hb dX0_isBlock_1 (by decide) ?_
  refine lv_icmp_lt (tgt := 24) hx hb dX0_isBlock_2 (by decide) (fun h1 => ?_) (fun h1 => ?_)
  · replace hF := ip h1 hF
    refine lv_iconst (v := 0) hx hb dX0_isBlock_24 (by decide) ?_
    exact hQ _ _ _ _ _ _ (Option.some.inj hF) rfl hP hD hS dX0_isBlock_25
  · replace hF := iq h1 hF
    refine lv_iload_n hx hb dX0_isBlock_5 rfl (lv_at hl 1 rfl) ?_
    refine lv_bipush (v := 24) hx hb dX0_isBlock_6 (by decide) ?_
    refine lv_icmp_gt (tgt := 24) hx hb dX0_isBlock_8 (by decide) (fun h2 => ?_) (fun h2 => ?_)
    · replace hF := ip h2 hF
      refine lv_iconst (v := 0) hx hb dX0_isBlock_24 (by decide) ?_
      exact hQ _ _ _ _ _ _ (Option.some.inj hF) rfl hP hD hS dX0_isBlock_25
    · replace hF := iq h2 hF
      refine lv_aload_n hx hb dX0_isBlock_11 rfl (lv_at hl 0 rfl) ?_
      refine va_get (D := (dC, dI)) (ci := 0) (v := .ref (a 4)) (C := RX0) (T := TX0) (N := 11) hx hb hts hin hown hK hP 0 rfl rfl 3 (by decide) fl21 (fun _ h9 => h9) rfl dX0_isBlock_12 ?_
      refine lv_iload_n hx hb dX0_isBlock_15 rfl (lv_at hl 1 rfl) ?_
      obtain ⟨hi3, hF⟩ := ck hF
      refine va_zald hx hb hK hP 4 1 rfl rfl hi3 dX0_isBlock_16 ?_
      refine lv_if_eq (tgt := 24) hx hb dX0_isBlock_17 (by decide) (fun h4 => ?_) (fun h4 => ?_)
      · replace hF := ip h4 hF
        refine lv_iconst (v := 0) hx hb dX0_isBlock_24 (by decide) ?_
        exact hQ _ _ _ _ _ _ (Option.some.inj hF) rfl hP hD hS dX0_isBlock_25
      · replace hF := iq h4 hF
        refine lv_iconst (v := 1) hx hb dX0_isBlock_20 (by decide) ?_
        refine lv_goto (tgt := 25) hx hb dX0_isBlock_21 (by decide) ?_
        exact hQ _ _ _ _ _ _ (Option.some.inj hF) rfl hP hD hS dX0_isBlock_25
theorem hd_X0_isBlock : yX0_isBlock.cls = RX0 ∧ yX0_isBlock.cls ≠ "java/lang/invoke/MethodHandle" ∧ yX0_isBlock.cls ≠ "java/lang/invoke/VarHandle" ∧ (parseMethodDescriptor yX0_isBlock.desc).map (fun d => d.parameters.length) = some 1 := by decide +kernel

def F_X0_hasWord (u : St) (x1 x2 : Int32) : Option (Int32 × St) := ((F_X0_isBlock u x1).bind fun q1 => (if q1.1 = 0 then (some (0, q1.2)) else (if x2 < 0 then (some (0, q1.2)) else (if (x1 < 0 ∨ 25 ≤ x1.toNatClampNeg) then none else (if ((q1.2 5 x1.toNatClampNeg) < 0 ∨ 4 ≤ (q1.2 5 x1.toNatClampNeg).toNatClampNeg) then none else (if (q1.2 1 (q1.2 5 x1.toNatClampNeg).toNatClampNeg) ≤ x2 then (some (0, q1.2)) else (some (1, q1.2))))))))
set_option maxRecDepth 100000 in
set_option maxHeartbeats 4000000 in
theorem c_X0_hasWord (l : Launch) (dC : Nat → ClassId) (dI : Nat → Nat → Nat) (cI cZ : ClassId) (a : Nat → Nat) (u : St) (x1 x2 : Int32) (o : Int32 × St) (hF : F_X0_hasWord u x1 x2 = some o) : MI l yX0_hasWord wsX0_hasWord 1 21 none dC dI cI cZ (wC a cI cZ) [.ref (a 0), .int x1, .int x2] u o := by
  refine miOf (cc := cX0_hasWord) (maxL := 3) (ret := .boolean) (by decide) rfl (Nat.le_of_ble_eq_true rfl) ?_
  intro p e s m args below meth c A Q H locs ls hx hb hml hts hown hK hA hz hQ hP hD hS hl
  replace hown : s.vm.findClass RX0 = some m.cls := hown
  replace hl : lv_has ls 3 [(0, .ref (a 0)), (1, .int x1), (2, .int x2)] := hl
  have hin : ∀ w ∈ u_ws RX0 TX0 11, w ∈ wsX0_hasWord := by decide +kernel
  have fl9 := hts (.fieldLink RX0 9 "CountedHeap$Memory" "sizes" "[I") (by decide +kernel)
  have fl25 := hts (.fieldLink RX0 25 "CountedHeap$Memory" "types" "[I") (by decide +kernel)
  unfold F_X0_hasWord at hF
  refine lv_aload_n hx hb dX0_hasWord_0 rfl (lv_at hl 0 rfl) ?_
  refine lv_iload_n hx hb dX0_hasWord_1 rfl (lv_at hl 1 rfl) ?_
  obtain ⟨q1, e2, hF⟩ := bd hF
  refine callVI (C := RX0) (ci := 0) (q0 := 0) (As := [.int x1]) (rest := []) ⟨hx, hb, hml, hown, hts⟩ (c_X0_isBlock l dC dI cI cZ a u x1 q1 e2) gX0_hasWord_X0_isBlock rfl hd_X0_isBlock rfl rfl rfl ⟨Nat.le_of_ble_eq_true rfl, Nat.le_of_ble_eq_true rfl⟩ True.intro hK hP hD hS hA rfl hl.1 rfl (Nat.le_of_ble_eq_true rfl) dX0_hasWord_2 (fun H locs hP hD hS => ?_)
  refine lv_if_eq (tgt := 31) hx hb dX0_hasWord_5 (by decide) (fun h3 => ?_) (fun h3 => ?_)
  · replace hF := ip h3 hF
    refine lv_iconst (v := 0) hx hb dX0_hasWord_31 (by decide) ?_
    exact hQ _ _ _ _ _ _ (Option.some.inj hF) rfl hP hD hS dX0_hasWord_32
  · replace hF := iq h3 hF
    refine lv_iload_n hx hb dX0_hasWord_8 rfl (lv_at hl 2 rfl) ?_
    refine lv_if_lt (tgt := 31) hx hb dX0_hasWord_9 (by decide) (fun h4 => ?_) (fun h4 => ?_)
    · replace hF := ip h4 hF
      refine lv_iconst (v := 0) hx hb dX0_hasWord_31 (by decide) ?_
      exact hQ _ _ _ _ _ _ (Option.some.inj hF) rfl hP hD hS dX0_hasWord_32
    · replace hF := iq h4 hF
      refine lv_iload_n hx hb dX0_hasWord_12 rfl (lv_at hl 2 rfl) ?_
      refine lv_aload_n hx hb dX0_hasWord_13 rfl (lv_at hl 0 rfl) ?_
      refine va_get (D := (dC, dI)) (ci := 0) (v := .ref (a 1)) (C := RX0) (T := TX0) (N := 11) hx hb hts hin hown hK hP 0 rfl rfl 0 (by decide) fl9 (fun _ h9 => h9) rfl dX0_hasWord_14 ?_
      refine lv_aload_n hx hb dX0_hasWord_17 rfl (lv_at hl 0 rfl) ?_
      refine va_get (D := (dC, dI)) (ci := 0) (v := .ref (a 5)) (C := RX0) (T := TX0) (N := 11) hx hb hts hin hown hK hP 0 rfl rfl 4 (by decide) fl25 (fun _ h9 => h9) rfl dX0_hasWord_18 ?_
      refine lv_iload_n hx hb dX0_hasWord_21 rfl (lv_at hl 1 rfl) ?_
      obtain ⟨hi5, hF⟩ := ck hF
      refine va_iald hx hb hK hP 5 0 rfl rfl hi5 dX0_hasWord_22 ?_
      obtain ⟨hi6, hF⟩ := ck hF
      refine va_iald hx hb hK hP 1 0 rfl rfl hi6 dX0_hasWord_23 ?_
      refine lv_icmp_ge (tgt := 31) hx hb dX0_hasWord_24 (by decide) (fun h7 => ?_) (fun h7 => ?_)
      · replace hF := ip h7 hF
        refine lv_iconst (v := 0) hx hb dX0_hasWord_31 (by decide) ?_
        exact hQ _ _ _ _ _ _ (Option.some.inj hF) rfl hP hD hS dX0_hasWord_32
      · replace hF := iq h7 hF
        refine lv_iconst (v := 1) hx hb dX0_hasWord_27 (by decide) ?_
        refine lv_goto (tgt := 32) hx hb dX0_hasWord_28 (by decide) ?_
        exact hQ _ _ _ _ _ _ (Option.some.inj hF) rfl hP hD hS dX0_hasWord_32
theorem hd_X0_hasWord : yX0_hasWord.cls = RX0 ∧ yX0_hasWord.cls ≠ "java/lang/invoke/MethodHandle" ∧ yX0_hasWord.cls ≠ "java/lang/invoke/VarHandle" ∧ (parseMethodDescriptor yX0_hasWord.desc).map (fun d => d.parameters.length) = some 2 := by decide +kernel

def F_X0_isMapped (u : St) (x1 x2 : Int32) : Option (Int32 × St) := (if (x1 < 0 ∨ 25 ≤ x1.toNatClampNeg) then none else (if ((u 5 x1.toNatClampNeg) < 0 ∨ 4 ≤ (u 5 x1.toNatClampNeg).toNatClampNeg) then none else (if (((u 2 (u 5 x1.toNatClampNeg).toNatClampNeg) >>> (x2 &&& 31)) &&& 1) = 1 then (some (1, u)) else (some (0, u)))))
set_option maxRecDepth 100000 in
set_option maxHeartbeats 4000000 in
theorem c_X0_isMapped (l : Launch) (dC : Nat → ClassId) (dI : Nat → Nat → Nat) (cI cZ : ClassId) (a : Nat → Nat) (u : St) (x1 x2 : Int32) (o : Int32 × St) (hF : F_X0_isMapped u x1 x2 = some o) : MI l yX0_isMapped wsX0_isMapped 0 0 none dC dI cI cZ (wC a cI cZ) [.ref (a 0), .int x1, .int x2] u o := by
  refine miOf (cc := cX0_isMapped) (maxL := 3) (ret := .boolean) (by decide) rfl (Nat.le_of_ble_eq_true rfl) ?_
  intro p e s m args below meth c A Q H locs ls hx hb hml hts hown hK hA hz hQ hP hD hS hl
  replace hown : s.vm.findClass RX0 = some m.cls := hown
  replace hl : lv_has ls 3 [(0, .ref (a 0)), (1, .int x1), (2, .int x2)] := hl
  have hin : ∀ w ∈ u_ws RX0 TX0 11, w ∈ wsX0_isMapped := by decide +kernel
  have fl15 := hts (.fieldLink RX0 15 "CountedHeap$Memory" "maps" "[I") (by decide +kernel)
  have fl25 := hts (.fieldLink RX0 25 "CountedHeap$Memory" "types" "[I") (by decide +kernel)
  unfold F_X0_isMapped at hF
  refine lv_aload_n hx hb dX0_isMapped_0 rfl (lv_at hl 0 rfl) ?_
  refine va_get (D := (dC, dI)) (ci := 0) (v := .ref (a 2)) (C := RX0) (T := TX0) (N := 11) hx hb hts hin hown hK hP 0 rfl rfl 1 (by decide) fl15 (fun _ h9 => h9) rfl dX0_isMapped_1 ?_
  refine lv_aload_n hx hb dX0_isMapped_4 rfl (lv_at hl 0 rfl) ?_
  refine va_get (D := (dC, dI)) (ci := 0) (v := .ref (a 5)) (C := RX0) (T := TX0) (N := 11) hx hb hts hin hown hK hP 0 rfl rfl 4 (by decide) fl25 (fun _ h9 => h9) rfl dX0_isMapped_5 ?_
  refine lv_iload_n hx hb dX0_isMapped_8 rfl (lv_at hl 1 rfl) ?_
  obtain ⟨hi1, hF⟩ := ck hF
  refine va_iald hx hb hK hP 5 0 rfl rfl hi1 dX0_isMapped_9 ?_
  obtain ⟨hi2, hF⟩ := ck hF
  refine va_iald hx hb hK hP 2 0 rfl rfl hi2 dX0_isMapped_10 ?_
  refine lv_iload_n hx hb dX0_isMapped_11 rfl (lv_at hl 2 rfl) ?_
  refine lv_ishr hx hb dX0_isMapped_12 ?_
  refine lv_iconst (v := 1) hx hb dX0_isMapped_13 (by decide) ?_
  refine lv_iand hx hb dX0_isMapped_14 ?_
  refine lv_iconst (v := 1) hx hb dX0_isMapped_15 (by decide) ?_
  refine lv_icmp_ne (tgt := 23) hx hb dX0_isMapped_16 (by decide) (fun h3 => ?_) (fun h3 => ?_)
  · replace hF := iq h3 hF
    refine lv_iconst (v := 0) hx hb dX0_isMapped_23 (by decide) ?_
    exact hQ _ _ _ _ _ _ (Option.some.inj hF) rfl hP hD hS dX0_isMapped_24
  · replace hF := ip h3 hF
    refine lv_iconst (v := 1) hx hb dX0_isMapped_19 (by decide) ?_
    refine lv_goto (tgt := 24) hx hb dX0_isMapped_20 (by decide) ?_
    exact hQ _ _ _ _ _ _ (Option.some.inj hF) rfl hP hD hS dX0_isMapped_24
theorem hd_X0_isMapped : yX0_isMapped.cls = RX0 ∧ yX0_isMapped.cls ≠ "java/lang/invoke/MethodHandle" ∧ yX0_isMapped.cls ≠ "java/lang/invoke/VarHandle" ∧ (parseMethodDescriptor yX0_isMapped.desc).map (fun d => d.parameters.length) = some 2 := by decide +kernel

def F_X0_isPointerWord (u : St) (x1 x2 : Int32) : Option (Int32 × St) := ((F_X0_hasWord u x1 x2).bind fun q1 => (if q1.1 = 0 then (some (0, q1.2)) else ((F_X0_isMapped q1.2 x1 x2).bind fun q4 => (if q4.1 = 0 then (some (0, q4.2)) else (some (1, q4.2))))))
set_option maxRecDepth 100000 in
set_option maxHeartbeats 4000000 in
theorem c_X0_isPointerWord (l : Launch) (dC : Nat → ClassId) (dI : Nat → Nat → Nat) (cI cZ : ClassId) (a : Nat → Nat) (u : St) (x1 x2 : Int32) (o : Int32 × St) (hF : F_X0_isPointerWord u x1 x2 = some o) : MI l yX0_isPointerWord wsX0_isPointerWord 2 43 none dC dI cI cZ (wC a cI cZ) [.ref (a 0), .int x1, .int x2] u o := by
  refine miOf (cc := cX0_isPointerWord) (maxL := 3) (ret := .boolean) (by decide) rfl (Nat.le_of_ble_eq_true rfl) ?_
  intro p e s m args below meth c A Q H locs ls hx hb hml hts hown hK hA hz hQ hP hD hS hl
  replace hown : s.vm.findClass RX0 = some m.cls := hown
  replace hl : lv_has ls 3 [(0, .ref (a 0)), (1, .int x1), (2, .int x2)] := hl
  unfold F_X0_isPointerWord at hF
  refine lv_aload_n hx hb dX0_isPointerWord_0 rfl (lv_at hl 0 rfl) ?_
  refine lv_iload_n hx hb dX0_isPointerWord_1 rfl (lv_at hl 1 rfl) ?_
  refine lv_iload_n hx hb dX0_isPointerWord_2 rfl (lv_at hl 2 rfl) ?_
  obtain ⟨q1, e2, hF⟩ := bd hF
  refine callVI (C := RX0) (ci := 0) (q0 := 0) (As := [.int x1, .int x2]) (rest := []) ⟨hx, hb, hml, hown, hts⟩ (c_X0_hasWord l dC dI cI cZ a u x1 x2 q1 e2) gX0_isPointerWord_X0_hasWord rfl hd_X0_hasWord rfl rfl rfl ⟨Nat.le_of_ble_eq_true rfl, Nat.le_of_ble_eq_true rfl⟩ True.intro hK hP hD hS hA rfl hl.1 rfl (Nat.le_of_ble_eq_true rfl) dX0_isPointerWord_3 (fun H locs hP hD hS => ?_)
  refine lv_if_eq (tgt := 22) hx hb dX0_isPointerWord_6 (by decide) (fun h3 => ?_) (fun h3 => ?_)
  · replace hF := ip h3 hF
    refine lv_iconst (v := 0) hx hb dX0_isPointerWord_22 (by decide) ?_
    exact hQ _ _ _ _ _ _ (Option.some.inj hF) rfl hP hD hS dX0_isPointerWord_23
  · replace hF := iq h3 hF
    refine lv_aload_n hx hb dX0_isPointerWord_9 rfl (lv_at hl 0 rfl) ?_
    refine lv_iload_n hx hb dX0_isPointerWord_10 rfl (lv_at hl 1 rfl) ?_
    refine lv_iload_n hx hb dX0_isPointerWord_11 rfl (lv_at hl 2 rfl) ?_
    obtain ⟨q4, e5, hF⟩ := bd hF
    refine callVI (C := RX0) (ci := 0) (q0 := 0) (As := [.int x1, .int x2]) (rest := []) ⟨hx, hb, hml, hown, hts⟩ (c_X0_isMapped l dC dI cI cZ a q1.2 x1 x2 q4 e5) gX0_isPointerWord_X0_isMapped rfl hd_X0_isMapped rfl rfl rfl ⟨Nat.le_of_ble_eq_true rfl, Nat.le_of_ble_eq_true rfl⟩ True.intro hK hP hD hS hA rfl hl.1 rfl (Nat.le_of_ble_eq_true rfl) dX0_isPointerWord_12 (fun H locs hP hD hS => ?_)
    refine lv_if_eq (tgt := 22) hx hb dX0_isPointerWord_15 (by decide) (fun h6 => ?_) (fun h6 => ?_)
    · replace hF := ip h6 hF
      refine lv_iconst (v := 0) hx hb dX0_isPointerWord_22 (by decide) ?_
      exact hQ _ _ _ _ _ _ (Option.some.inj hF) rfl hP hD hS dX0_isPointerWord_23
    · replace hF := iq h6 hF
      refine lv_iconst (v := 1) hx hb dX0_isPointerWord_18 (by decide) ?_
      refine lv_goto (tgt := 23) hx hb dX0_isPointerWord_19 (by decide) ?_
      exact hQ _ _ _ _ _ _ (Option.some.inj hF) rfl hP hD hS dX0_isPointerWord_23
theorem hd_X0_isPointerWord : yX0_isPointerWord.cls = RX0 ∧ yX0_isPointerWord.cls ≠ "java/lang/invoke/MethodHandle" ∧ yX0_isPointerWord.cls ≠ "java/lang/invoke/VarHandle" ∧ (parseMethodDescriptor yX0_isPointerWord.desc).map (fun d => d.parameters.length) = some 2 := by decide +kernel

def F_X0_holdsPointer (u : St) (x1 : Int32) : Option (Int32 × St) := (if 8 ≤ x1 then ((F_X0_blockOf u x1).bind fun q2 => ((F_X0_wordOf q2.2 x1).bind fun q4 => ((F_X0_isPointerWord q4.2 (q2.1) (q4.1)).bind fun q6 => (if ¬ (q6.1 = 0 ∨ q6.1 = 1) then none else some (q6.1, q6.2))))) else (if x1 < 4 then (some (0, u)) else (some (1, u))))
set_option maxRecDepth 100000 in
set_option maxHeartbeats 4000000 in
theorem c_X0_holdsPointer (l : Launch) (dC : Nat → ClassId) (dI : Nat → Nat → Nat) (cI cZ : ClassId) (a : Nat → Nat) (u : St) (x1 : Int32) (o : Int32 × St) (hF : F_X0_holdsPointer u x1 = some o) : MI l yX0_holdsPointer wsX0_holdsPointer 3 65 none dC dI cI cZ (wC a cI cZ) [.ref (a 0), .int x1] u o := by
  refine miOf (cc := cX0_holdsPointer) (maxL := 2) (ret := .boolean) (by decide) rfl (Nat.le_of_ble_eq_true rfl) ?_
  intro p e s m args below meth c A Q H locs ls hx hb hml hts hown hK hA hz hQ hP hD hS hl
  replace hown : s.vm.findClass RX0 = some m.cls := hown
  replace hl : lv_has ls 2 [(0, .ref (a 0)), (1, .int x1)] := hl
  unfold F_X0_holdsPointer at hF
  refine lv_iload_n hx hb dX0_holdsPointer_0 rfl (lv_at hl 1 rfl) ?_
  refine lv_bipush (v := 8) hx hb dX0_holdsPointer_1 (by decide) ?_
  refine lv_icmp_ge (tgt := 19) hx hb dX0_holdsPointer_3 (by decide) (fun h1 => ?_) (fun h1 => ?_)
  · replace hF := ip h1 hF
    refine lv_aload_n hx hb dX0_holdsPointer_19 rfl (lv_at hl 0 rfl) ?_
    refine lv_aload_n hx hb dX0_holdsPointer_20 rfl (lv_at hl 0 rfl) ?_
    refine lv_iload_n hx hb dX0_holdsPointer_21 rfl (lv_at hl 1 rfl) ?_
    obtain ⟨q2, e3, hF⟩ := bd hF
    refine callVI (C := RX0) (ci := 0) (q0 := 0) (As := [.int x1]) (rest := [.ref (a 0)]) ⟨hx, hb, hml, hown, hts⟩ (c_X0_blockOf l dC dI cI cZ a u x1 q2 e3) gX0_holdsPointer_X0_blockOf rfl hd_X0_blockOf rfl rfl rfl ⟨Nat.le_of_ble_eq_true rfl, Nat.le_of_ble_eq_true rfl⟩ True.intro hK hP hD hS hA rfl hl.1 rfl (Nat.le_of_ble_eq_true rfl) dX0_holdsPointer_22 (fun H locs hP hD hS => ?_)
    refine lv_iload_n hx hb dX0_holdsPointer_25 rfl (lv_at hl 1 rfl) ?_
    obtain ⟨q4, e5, hF⟩ := bd hF
    refine callSI (As := [.int x1]) (rest := [.int q2.1, .ref (a 0)]) ⟨hx, hb, hml, hown, hts⟩ (c_X0_wordOf l dC dI cI cZ a q2.2 x1 q4 e5) gX0_holdsPointer_X0_wordOf rfl hd_X0_wordOf ⟨Nat.le_of_ble_eq_true rfl, Nat.le_of_ble_eq_true rfl⟩ True.intro hK hP hD hS hA rfl hl.1 rfl (Nat.le_of_ble_eq_true rfl) dX0_holdsPointer_26 (fun H locs hP hD hS => ?_)
    obtain ⟨q6, e7, hF⟩ := bd hF
    refine callVI (C := RX0) (ci := 0) (q0 := 0) (As := [.int q2.1, .int q4.1]) (rest := []) ⟨hx, hb, hml, hown, hts⟩ (c_X0_isPointerWord l dC dI cI cZ a q4.2 (q2.1) (q4.1) q6 e7) gX0_holdsPointer_X0_isPointerWord rfl hd_X0_isPointerWord rfl rfl rfl ⟨Nat.le_of_ble_eq_true rfl, Nat.le_of_ble_eq_true rfl⟩ True.intro hK hP hD hS hA rfl hl.1 rfl (Nat.le_of_ble_eq_true rfl) dX0_holdsPointer_29 (fun H locs hP hD hS => ?_)
    obtain ⟨hn9, hF⟩ := ck hF
    exact hQ _ _ _ _ _ _ (Option.some.inj hF) (nb01 hn9) hP hD hS dX0_holdsPointer_32
  · replace hF := iq h1 hF
    refine lv_iload_n hx hb dX0_holdsPointer_6 rfl (lv_at hl 1 rfl) ?_
    refine lv_iconst (v := 4) hx hb dX0_holdsPointer_7 (by decide) ?_
    refine lv_icmp_lt (tgt := 15) hx hb dX0_holdsPointer_8 (by decide) (fun h8 => ?_) (fun h8 => ?_)
    · replace hF := ip h8 hF
      refine lv_iconst (v := 0) hx hb dX0_holdsPointer_15 (by decide) ?_
      refine lv_goto (tgt := 32) hx hb dX0_holdsPointer_16 (by decide) ?_
      exact hQ _ _ _ _ _ _ (Option.some.inj hF) rfl hP hD hS dX0_holdsPointer_32
    · replace hF := iq h8 hF
      refine lv_iconst (v := 1) hx hb dX0_holdsPointer_11 (by decide) ?_
      refine lv_goto (tgt := 32) hx hb dX0_holdsPointer_12 (by decide) ?_
      exact hQ _ _ _ _ _ _ (Option.some.inj hF) rfl hP hD hS dX0_holdsPointer_32
theorem hd_X0_holdsPointer : yX0_holdsPointer.cls = RX0 ∧ yX0_holdsPointer.cls ≠ "java/lang/invoke/MethodHandle" ∧ yX0_holdsPointer.cls ≠ "java/lang/invoke/VarHandle" ∧ (parseMethodDescriptor yX0_holdsPointer.desc).map (fun d => d.parameters.length) = some 1 := by decide +kernel

def F_X0_isFull (u : St) : Option (Int32 × St) := (if (u 0 9) < 24 then (some (0, u)) else (some (1, u)))
set_option maxRecDepth 100000 in
set_option maxHeartbeats 4000000 in
theorem c_X0_isFull (l : Launch) (dC : Nat → ClassId) (dI : Nat → Nat → Nat) (cI cZ : ClassId) (a : Nat → Nat) (u : St) (o : Int32 × St) (hF : F_X0_isFull u = some o) : MI l yX0_isFull wsX0_isFull 0 0 none dC dI cI cZ (wC a cI cZ) [.ref (a 0)] u o := by
  refine miOf (cc := cX0_isFull) (maxL := 1) (ret := .boolean) (by decide) rfl (Nat.le_of_ble_eq_true rfl) ?_
  intro p e s m args below meth c A Q H locs ls hx hb hml hts hown hK hA hz hQ hP hD hS hl
  replace hown : s.vm.findClass RX0 = some m.cls := hown
  replace hl : lv_has ls 1 [(0, .ref (a 0))] := hl
  have hin : ∀ w ∈ u_ws RX0 TX0 11, w ∈ wsX0_isFull := by decide +kernel
  have fl41 := hts (.fieldLink RX0 41 "CountedHeap$Memory" "usedTotal" "I") (by decide +kernel)
  unfold F_X0_isFull at hF
  refine lv_aload_n hx hb dX0_isFull_0 rfl (lv_at hl 0 rfl) ?_
  refine va_get (D := (dC, dI)) (ci := 0) (v := .int (u 0 9)) (C := RX0) (T := TX0) (N := 11) hx hb hts hin hown hK hP 0 rfl rfl 9 (by decide) fl41 (fun _ h9 => h9) rfl dX0_isFull_1 ?_
  refine lv_bipush (v := 24) hx hb dX0_isFull_4 (by decide) ?_
  refine lv_icmp_lt (tgt := 13) hx hb dX0_isFull_6 (by decide) (fun h1 => ?_) (fun h1 => ?_)
  · replace hF := ip h1 hF
    refine lv_iconst (v := 0) hx hb dX0_isFull_13 (by decide) ?_
    exact hQ _ _ _ _ _ _ (Option.some.inj hF) rfl hP hD hS dX0_isFull_14
  · replace hF := iq h1 hF
    refine lv_iconst (v := 1) hx hb dX0_isFull_9 (by decide) ?_
    refine lv_goto (tgt := 14) hx hb dX0_isFull_10 (by decide) ?_
    exact hQ _ _ _ _ _ _ (Option.some.inj hF) rfl hP hD hS dX0_isFull_14
theorem hd_X0_isFull : yX0_isFull.cls = RX0 ∧ yX0_isFull.cls ≠ "java/lang/invoke/MethodHandle" ∧ yX0_isFull.cls ≠ "java/lang/invoke/VarHandle" ∧ (parseMethodDescriptor yX0_isFull.desc).map (fun d => d.parameters.length) = some 0 := by decide +kernel

def F_X0_blockTotal (u : St) : Option (Int32 × St) := (some ((u 0 9), u))
set_option maxRecDepth 100000 in
set_option maxHeartbeats 4000000 in
theorem c_X0_blockTotal (l : Launch) (dC : Nat → ClassId) (dI : Nat → Nat → Nat) (cI cZ : ClassId) (a : Nat → Nat) (u : St) (o : Int32 × St) (hF : F_X0_blockTotal u = some o) : MI l yX0_blockTotal wsX0_blockTotal 0 0 none dC dI cI cZ (wC a cI cZ) [.ref (a 0)] u o := by
  refine miOf (cc := cX0_blockTotal) (maxL := 1) (ret := .int) (by decide) rfl (Nat.le_of_ble_eq_true rfl) ?_
  intro p e s m args below meth c A Q H locs ls hx hb hml hts hown hK hA hz hQ hP hD hS hl
  replace hown : s.vm.findClass RX0 = some m.cls := hown
  replace hl : lv_has ls 1 [(0, .ref (a 0))] := hl
  have hin : ∀ w ∈ u_ws RX0 TX0 11, w ∈ wsX0_blockTotal := by decide +kernel
  have fl41 := hts (.fieldLink RX0 41 "CountedHeap$Memory" "usedTotal" "I") (by decide +kernel)
  unfold F_X0_blockTotal at hF
  refine lv_aload_n hx hb dX0_blockTotal_0 rfl (lv_at hl 0 rfl) ?_
  refine va_get (D := (dC, dI)) (ci := 0) (v := .int (u 0 9)) (C := RX0) (T := TX0) (N := 11) hx hb hts hin hown hK hP 0 rfl rfl 9 (by decide) fl41 (fun _ h9 => h9) rfl dX0_blockTotal_1 ?_
  exact hQ _ _ _ _ _ _ (Option.some.inj hF) (vp_nar_int _) hP hD hS dX0_blockTotal_4
theorem hd_X0_blockTotal : yX0_blockTotal.cls = RX0 ∧ yX0_blockTotal.cls ≠ "java/lang/invoke/MethodHandle" ∧ yX0_blockTotal.cls ≠ "java/lang/invoke/VarHandle" ∧ (parseMethodDescriptor yX0_blockTotal.desc).map (fun d => d.parameters.length) = some 0 := by decide +kernel

def F_X0_givenTotal (u : St) : Option (Int32 × St) := (some ((u 0 10), u))
set_option maxRecDepth 100000 in
set_option maxHeartbeats 4000000 in
theorem c_X0_givenTotal (l : Launch) (dC : Nat → ClassId) (dI : Nat → Nat → Nat) (cI cZ : ClassId) (a : Nat → Nat) (u : St) (o : Int32 × St) (hF : F_X0_givenTotal u = some o) : MI l yX0_givenTotal wsX0_givenTotal 0 0 none dC dI cI cZ (wC a cI cZ) [.ref (a 0)] u o := by
  refine miOf (cc := cX0_givenTotal) (maxL := 1) (ret := .int) (by decide) rfl (Nat.le_of_ble_eq_true rfl) ?_
  intro p e s m args below meth c A Q H locs ls hx hb hml hts hown hK hA hz hQ hP hD hS hl
  replace hown : s.vm.findClass RX0 = some m.cls := hown
  replace hl : lv_has ls 1 [(0, .ref (a 0))] := hl
  have hin : ∀ w ∈ u_ws RX0 TX0 11, w ∈ wsX0_givenTotal := by decide +kernel
  have fl44 := hts (.fieldLink RX0 44 "CountedHeap$Memory" "givenBack" "I") (by decide +kernel)
  unfold F_X0_givenTotal at hF
  refine lv_aload_n hx hb dX0_givenTotal_0 rfl (lv_at hl 0 rfl) ?_
  refine va_get (D := (dC, dI)) (ci := 0) (v := .int (u 0 10)) (C := RX0) (T := TX0) (N := 11) hx hb hts hin hown hK hP 0 rfl rfl 10 (by decide) fl44 (fun _ h9 => h9) rfl dX0_givenTotal_1 ?_
  exact hQ _ _ _ _ _ _ (Option.some.inj hF) (vp_nar_int _) hP hD hS dX0_givenTotal_4
theorem hd_X0_givenTotal : yX0_givenTotal.cls = RX0 ∧ yX0_givenTotal.cls ≠ "java/lang/invoke/MethodHandle" ∧ yX0_givenTotal.cls ≠ "java/lang/invoke/VarHandle" ∧ (parseMethodDescriptor yX0_givenTotal.desc).map (fun d => d.parameters.length) = some 0 := by decide +kernel

def F_X0_countOf (u : St) (x1 : Int32) : Option (Int32 × St) := ((F_X0_isBlock u x1).bind fun q1 => (if q1.1 = 0 then (some ((-1), q1.2)) else (if (x1 < 0 ∨ 25 ≤ x1.toNatClampNeg) then none else (some ((q1.2 6 x1.toNatClampNeg), q1.2)))))
set_option maxRecDepth 100000 in
set_option maxHeartbeats 4000000 in
theorem c_X0_countOf (l : Launch) (dC : Nat → ClassId) (dI : Nat → Nat → Nat) (cI cZ : ClassId) (a : Nat → Nat) (u : St) (x1 : Int32) (o : Int32 × St) (hF : F_X0_countOf u x1 = some o) : MI l yX0_countOf wsX0_countOf 1 21 none dC dI cI cZ (wC a cI cZ) [.ref (a 0), .int x1] u o := by
  refine miOf (cc := cX0_countOf) (maxL := 2) (ret := .int) (by decide) rfl (Nat.le_of_ble_eq_true rfl) ?_
  intro p e s m args below meth c A Q H locs ls hx hb hml hts hown hK hA hz hQ hP hD hS hl
  replace hown : s.vm.findClass RX0 = some m.cls := hown
  replace hl : lv_has ls 2 [(0, .ref (a 0)), (1, .int x1)] := hl
  have hin : ∀ w ∈ u_ws RX0 TX0 11, w ∈ wsX0_countOf := by decide +kernel
  have fl28 := hts (.fieldLink RX0 28 "CountedHeap$Memory" "counts" "[I") (by decide +kernel)
  unfold F_X0_countOf at hF
  refine lv_aload_n hx hb dX0_countOf_0 rfl (lv_at hl 0 rfl) ?_
  refine lv_iload_n hx hb dX0_countOf_1 rfl (lv_at hl 1 rfl) ?_
  obtain ⟨q1, e2, hF⟩ := bd hF
  refine callVI (C := RX0) (ci := 0) (q0 := 0) (As := [.int x1]) (rest := []) ⟨hx, hb, hml, hown, hts⟩ (c_X0_isBlock l dC dI cI cZ a u x1 q1 e2) gX0_countOf_X0_isBlock rfl hd_X0_isBlock rfl rfl rfl ⟨Nat.le_of_ble_eq_true rfl, Nat.le_of_ble_eq_true rfl⟩ True.intro hK hP hD hS hA rfl hl.1 rfl (Nat.le_of_ble_eq_true rfl) dX0_countOf_2 (fun H locs hP hD hS => ?_)
  refine lv_if_eq (tgt := 17) hx hb dX0_countOf_5 (by decide) (fun h3 => ?_) (fun h3 => ?_)
  · replace hF := ip h3 hF
    refine lv_iconst (v := (-1)) hx hb dX0_countOf_17 (by decide) ?_
    exact hQ _ _ _ _ _ _ (Option.some.inj hF) (vp_nar_int _) hP hD hS dX0_countOf_18
  · replace hF := iq h3 hF
    refine lv_aload_n hx hb dX0_countOf_8 rfl (lv_at hl 0 rfl) ?_
    refine va_get (D := (dC, dI)) (ci := 0) (v := .ref (a 6)) (C := RX0) (T := TX0) (N := 11) hx hb hts hin hown hK hP 0 rfl rfl 5 (by decide) fl28 (fun _ h9 => h9) rfl dX0_countOf_9 ?_
    refine lv_iload_n hx hb dX0_countOf_12 rfl (lv_at hl 1 rfl) ?_
    obtain ⟨hi4, hF⟩ := ck hF
    refine va_iald hx hb hK hP 6 0 rfl rfl hi4 dX0_countOf_13 ?_
    refine lv_goto (tgt := 18) hx hb dX0_countOf_14 (by decide) ?_
    exact hQ _ _ _ _ _ _ (Option.some.inj hF) (vp_nar_int _) hP hD hS dX0_countOf_18
theorem hd_X0_countOf : yX0_countOf.cls = RX0 ∧ yX0_countOf.cls ≠ "java/lang/invoke/MethodHandle" ∧ yX0_countOf.cls ≠ "java/lang/invoke/VarHandle" ∧ (parseMethodDescriptor yX0_countOf.desc).map (fun d => d.parameters.length) = some 1 := by decide +kernel

def F_X0_blockType (u : St) (x1 : Int32) : Option (Int32 × St) := ((F_X0_isBlock u x1).bind fun q1 => (if q1.1 = 0 then (some ((-1), q1.2)) else (if (x1 < 0 ∨ 25 ≤ x1.toNatClampNeg) then none else (some ((q1.2 5 x1.toNatClampNeg), q1.2)))))
set_option maxRecDepth 100000 in
set_option maxHeartbeats 4000000 in
theorem c_X0_blockType (l : Launch) (dC : Nat → ClassId) (dI : Nat → Nat → Nat) (cI cZ : ClassId) (a : Nat → Nat) (u : St) (x1 : Int32) (o : Int32 × St) (hF : F_X0_blockType u x1 = some o) : MI l yX0_blockType wsX0_blockType 1 21 none dC dI cI cZ (wC a cI cZ) [.ref (a 0), .int x1] u o := by
  refine miOf (cc := cX0_blockType) (maxL := 2) (ret := .int) (by decide) rfl (Nat.le_of_ble_eq_true rfl) ?_
  intro p e s m args below meth c A Q H locs ls hx hb hml hts hown hK hA hz hQ hP hD hS hl
  replace hown : s.vm.findClass RX0 = some m.cls := hown
  replace hl : lv_has ls 2 [(0, .ref (a 0)), (1, .int x1)] := hl
  have hin : ∀ w ∈ u_ws RX0 TX0 11, w ∈ wsX0_blockType := by decide +kernel
  have fl25 := hts (.fieldLink RX0 25 "CountedHeap$Memory" "types" "[I") (by decide +kernel)
  unfold F_X0_blockType at hF
  refine lv_aload_n hx hb dX0_blockType_0 rfl (lv_at hl 0 rfl) ?_
  refine lv_iload_n hx hb dX0_blockType_1 rfl (lv_at hl 1 rfl) ?_
  obtain ⟨q1, e2, hF⟩ := bd hF
  refine callVI (C := RX0) (ci := 0) (q0 := 0) (As := [.int x1]) (rest := []) ⟨hx, hb, hml, hown, hts⟩ (c_X0_isBlock l dC dI cI cZ a u x1 q1 e2) gX0_blockType_X0_isBlock rfl hd_X0_isBlock rfl rfl rfl ⟨Nat.le_of_ble_eq_true rfl, Nat.le_of_ble_eq_true rfl⟩ True.intro hK hP hD hS hA rfl hl.1 rfl (Nat.le_of_ble_eq_true rfl) dX0_blockType_2 (fun H locs hP hD hS => ?_)
  refine lv_if_eq (tgt := 17) hx hb dX0_blockType_5 (by decide) (fun h3 => ?_) (fun h3 => ?_)
  · replace hF := ip h3 hF
    refine lv_iconst (v := (-1)) hx hb dX0_blockType_17 (by decide) ?_
    exact hQ _ _ _ _ _ _ (Option.some.inj hF) (vp_nar_int _) hP hD hS dX0_blockType_18
  · replace hF := iq h3 hF
    refine lv_aload_n hx hb dX0_blockType_8 rfl (lv_at hl 0 rfl) ?_
    refine va_get (D := (dC, dI)) (ci := 0) (v := .ref (a 5)) (C := RX0) (T := TX0) (N := 11) hx hb hts hin hown hK hP 0 rfl rfl 4 (by decide) fl25 (fun _ h9 => h9) rfl dX0_blockType_9 ?_
    refine lv_iload_n hx hb dX0_blockType_12 rfl (lv_at hl 1 rfl) ?_
    obtain ⟨hi4, hF⟩ := ck hF
    refine va_iald hx hb hK hP 5 0 rfl rfl hi4 dX0_blockType_13 ?_
    refine lv_goto (tgt := 18) hx hb dX0_blockType_14 (by decide) ?_
    exact hQ _ _ _ _ _ _ (Option.some.inj hF) (vp_nar_int _) hP hD hS dX0_blockType_18
theorem hd_X0_blockType : yX0_blockType.cls = RX0 ∧ yX0_blockType.cls ≠ "java/lang/invoke/MethodHandle" ∧ yX0_blockType.cls ≠ "java/lang/invoke/VarHandle" ∧ (parseMethodDescriptor yX0_blockType.desc).map (fun d => d.parameters.length) = some 1 := by decide +kernel

def F_X0_hasBlockOfType_2 (k2 : St → Int32 → Int32 → Option (Int32 × St)) (u : St) (x1 x2 : Int32) : Option (Int32 × St) := (if 24 < x2 then (some (0, u)) else (if (x2 < 0 ∨ 25 ≤ x2.toNatClampNeg) then none else (if (u 4 x2.toNatClampNeg) = 0 then k2 u x1 ((x2 + 1)) else (if (x2 < 0 ∨ 25 ≤ x2.toNatClampNeg) then none else (if (u 5 x2.toNatClampNeg) = x1 then (some (1, u)) else k2 u x1 ((x2 + 1)))))))
def L_X0_hasBlockOfType_2  : Nat → St → Int32 → Int32 → Option (Int32 × St)
  | 0 => fun _ _ _ => none
  | n + 1 => fun u x1 x2 => F_X0_hasBlockOfType_2 (L_X0_hasBlockOfType_2 n) u x1 x2
def F_X0_hasBlockOfType (u : St) (x1 : Int32) : Option (Int32 × St) := L_X0_hasBlockOfType_2 fuel u x1 1
set_option maxRecDepth 100000 in
set_option maxHeartbeats 4000000 in
theorem c_X0_hasBlockOfType (l : Launch) (dC : Nat → ClassId) (dI : Nat → Nat → Nat) (cI cZ : ClassId) (a : Nat → Nat) (u : St) (x1 : Int32) (o : Int32 × St) (hF : F_X0_hasBlockOfType u x1 = some o) : MI l yX0_hasBlockOfType wsX0_hasBlockOfType 0 0 none dC dI cI cZ (wC a cI cZ) [.ref (a 0), .int x1] u o := by
  refine miOf (cc := cX0_hasBlockOfType) (maxL := 3) (ret := .boolean) (by decide) rfl (Nat.le_of_ble_eq_true rfl) ?_
  intro p e s m args below meth c A Q H locs ls hx hb hml hts hown hK hA hz hQ hP hD hS hl
  replace hown : s.vm.findClass RX0 = some m.cls := hown
  replace hl : lv_has ls 3 [(0, .ref (a 0)), (1, .int x1)] := hl
  have hin : ∀ w ∈ u_ws RX0 TX0 11, w ∈ wsX0_hasBlockOfType := by decide +kernel
  have fl21 := hts (.fieldLink RX0 21 "CountedHeap$Memory" "used" "[Z") (by decide +kernel)
  have fl25 := hts (.fieldLink RX0 25 "CountedHeap$Memory" "types" "[I") (by decide +kernel)
  have b2 : ∀ (k2 : St → Int32 → Int32 → Option (Int32 × St)) (hk2 : ∀ (x1 x2 : Int32) (u : St), k2 u x1 x2 = some o → GW p l e (rmK 0 0) s m args below meth c Q dC dI (wC a cI cZ) A 3 2 [(0, .ref (a 0)), (1, .int x1), (2, .int x2)] [] u) (x1 x2 : Int32) (u : St), F_X0_hasBlockOfType_2 k2 u x1 x2 = some o → GW p l e (rmK 0 0) s m args below meth c Q dC dI (wC a cI cZ) A 3 2 [(0, .ref (a 0)), (1, .int x1), (2, .int x2)] [] u := by
      intro k2 hk2 x1 x2 u hF H locs ls hP hD hS hl
      unfold F_X0_hasBlockOfType_2 at hF
      refine lv_iload_n hx hb dX0_hasBlockOfType_2 rfl (lv_at hl 2 rfl) ?_
      refine lv_bipush (v := 24) hx hb dX0_hasBlockOfType_3 (by decide) ?_
      refine lv_icmp_gt (tgt := 35) hx hb dX0_hasBlockOfType_5 (by decide) (fun h1 => ?_) (fun h1 => ?_)
      · replace hF := ip h1 hF
        refine lv_iconst (v := 0) hx hb dX0_hasBlockOfType_35 (by decide) ?_
        exact hQ _ _ _ _ _ _ (Option.some.inj hF) rfl hP hD hS dX0_hasBlockOfType_36
      · replace hF := iq h1 hF
        refine lv_aload_n hx hb dX0_hasBlockOfType_8 rfl (lv_at hl 0 rfl) ?_
        refine va_get (D := (dC, dI)) (ci := 0) (v := .ref (a 4)) (C := RX0) (T := TX0) (N := 11) hx hb hts hin hown hK hP 0 rfl rfl 3 (by decide) fl21 (fun _ h9 => h9) rfl dX0_hasBlockOfType_9 ?_
        refine lv_iload_n hx hb dX0_hasBlockOfType_12 rfl (lv_at hl 2 rfl) ?_
        obtain ⟨hi2, hF⟩ := ck hF
        refine va_zald hx hb hK hP 4 1 rfl rfl hi2 dX0_hasBlockOfType_13 ?_
        refine lv_if_eq (tgt := 29) hx hb dX0_hasBlockOfType_14 (by decide) (fun h3 => ?_) (fun h3 => ?_)
        · replace hF := ip h3 hF
          refine lv_iinc (v := (x2 + 1)) (lv' := [(2, .int (x2 + 1)), (0, .ref (a 0)), (1, .int x1)]) hx hb dX0_hasBlockOfType_29 hl (k := 2) rfl rfl (by decide) rfl (fun ls hl => ?_)
          refine lv_goto (tgt := 2) hx hb dX0_hasBlockOfType_32 (by decide) ?_
          exact hk2 x1 ((x2 + 1)) u hF H locs ls hP hD hS (lv_sub hl [1, 2, 0] rfl)
        · replace hF := iq h3 hF
          refine lv_aload_n hx hb dX0_hasBlockOfType_17 rfl (lv_at hl 0 rfl) ?_
          refine va_get (D := (dC, dI)) (ci := 0) (v := .ref (a 5)) (C := RX0) (T := TX0) (N := 11) hx hb hts hin hown hK hP 0 rfl rfl 4 (by decide) fl25 (fun _ h9 => h9) rfl dX0_hasBlockOfType_18 ?_
          refine lv_iload_n hx hb dX0_hasBlockOfType_21 rfl (lv_at hl 2 rfl) ?_
          obtain ⟨hi4, hF⟩ := ck hF
          refine va_iald hx hb hK hP 5 0 rfl rfl hi4 dX0_hasBlockOfType_22 ?_
          refine lv_iload_n hx hb dX0_hasBlockOfType_23 rfl (lv_at hl 1 rfl) ?_
          refine lv_icmp_ne (tgt := 29) hx hb dX0_hasBlockOfType_24 (by decide) (fun h5 => ?_) (fun h5 => ?_)
          · replace hF := iq h5 hF
            refine lv_iinc (v := (x2 + 1)) (lv' := [(2, .int (x2 + 1)), (0, .ref (a 0)), (1, .int x1)]) hx hb dX0_hasBlockOfType_29 hl (k := 2) rfl rfl (by decide) rfl (fun ls hl => ?_)
            refine lv_goto (tgt := 2) hx hb dX0_hasBlockOfType_32 (by decide) ?_
            exact hk2 x1 ((x2 + 1)) u hF H locs ls hP hD hS (lv_sub hl [1, 2, 0] rfl)
          · replace hF := ip h5 hF
            refine lv_iconst (v := 1) hx hb dX0_hasBlockOfType_27 (by decide) ?_
            exact hQ _ _ _ _ _ _ (Option.some.inj hF) rfl hP hD hS dX0_hasBlockOfType_28
  have l2 : ∀  (n : Nat) (x1 x2 : Int32) (u : St), L_X0_hasBlockOfType_2  n u x1 x2 = some o → GW p l e (rmK 0 0) s m args below meth c Q dC dI (wC a cI cZ) A 3 2 [(0, .ref (a 0)), (1, .int x1), (2, .int x2)] [] u := by
      intro  n
      induction n with
      | zero =>
        intro x1 x2 u hF
        have hF : (none : Option (Int32 × St)) = some o := hF
        cases hF
      | succ n ih =>
        intro x1 x2 u hF
        exact b2 (L_X0_hasBlockOfType_2 n) ih x1 x2 u hF
  unfold F_X0_hasBlockOfType at hF
  refine lv_iconst (v := 1) hx hb dX0_hasBlockOfType_0 (by decide) ?_
  refine lv_istore_n (lv' := [(2, .int 1), (0, .ref (a 0)), (1, .int x1)]) hx hb dX0_hasBlockOfType_1 rfl hl (by decide) rfl (fun ls hl => ?_)
  exact l2  fuel x1 1 u hF H locs ls hP hD hS (lv_sub hl [1, 2, 0] rfl)
theorem hd_X0_hasBlockOfType : yX0_hasBlockOfType.cls = RX0 ∧ yX0_hasBlockOfType.cls ≠ "java/lang/invoke/MethodHandle" ∧ yX0_hasBlockOfType.cls ≠ "java/lang/invoke/VarHandle" ∧ (parseMethodDescriptor yX0_hasBlockOfType.desc).map (fun d => d.parameters.length) = some 1 := by decide +kernel

def F_X0_changeType (u : St) (x1 x2 x3 : Int32) : Option (Int32 × St) := (if (x1 < 0 ∨ 4 ≤ x1.toNatClampNeg) then none else (sb (su u 1 x1.toNatClampNeg x2) fun u2 => (if (x1 < 0 ∨ 4 ≤ x1.toNatClampNeg) then none else (some (0, (su u2 2 x1.toNatClampNeg x3))))))
set_option maxRecDepth 100000 in
set_option maxHeartbeats 4000000 in
theorem c_X0_changeType (l : Launch) (dC : Nat → ClassId) (dI : Nat → Nat → Nat) (cI cZ : ClassId) (a : Nat → Nat) (u : St) (x1 x2 x3 : Int32) (o : Int32 × St) (hF : F_X0_changeType u x1 x2 x3 = some o) : MV l yX0_changeType wsX0_changeType 0 0 none dC dI cI cZ (wC a cI cZ) [.ref (a 0), .int x1, .int x2, .int x3] u o := by
  refine mvOf (cc := cX0_changeType) (maxL := 4) (by decide) rfl (Nat.le_of_ble_eq_true rfl) ?_
  intro p e s m args below meth c A Q H locs ls hx hb hml hts hown hK hA hz hQ hP hD hS hl
  replace hown : s.vm.findClass RX0 = some m.cls := hown
  replace hl : lv_has ls 4 [(0, .ref (a 0)), (1, .int x1), (2, .int x2), (3, .int x3)] := hl
  have hin : ∀ w ∈ u_ws RX0 TX0 11, w ∈ wsX0_changeType := by decide +kernel
  have fl9 := hts (.fieldLink RX0 9 "CountedHeap$Memory" "sizes" "[I") (by decide +kernel)
  have fl15 := hts (.fieldLink RX0 15 "CountedHeap$Memory" "maps" "[I") (by decide +kernel)
  unfold F_X0_changeType at hF
  refine lv_aload_n hx hb dX0_changeType_0 rfl (lv_at hl 0 rfl) ?_
  refine va_get (D := (dC, dI)) (ci := 0) (v := .ref (a 1)) (C := RX0) (T := TX0) (N := 11) hx hb hts hin hown hK hP 0 rfl rfl 0 (by decide) fl9 (fun _ h9 => h9) rfl dX0_changeType_1 ?_
  refine lv_iload_n hx hb dX0_changeType_4 rfl (lv_at hl 1 rfl) ?_
  refine lv_iload_n hx hb dX0_changeType_5 rfl (lv_at hl 2 rfl) ?_
  obtain ⟨hi1, hF⟩ := ck hF
  refine va_iast hx hb hK hP hD hS 1 0 rfl rfl hi1 dX0_changeType_6 (fun H locs hP hD hS => ?_)
  replace hP := wC_p1 hP
  replace hD := wC_d1 hD
  replace hF := sbE hF
  generalize (su u 1 x1.toNatClampNeg x2) = u2 at hF hP hD
  refine lv_aload_n hx hb dX0_changeType_7 rfl (lv_at hl 0 rfl) ?_
  refine va_get (D := (dC, dI)) (ci := 0) (v := .ref (a 2)) (C := RX0) (T := TX0) (N := 11) hx hb hts hin hown hK hP 0 rfl rfl 1 (by decide) fl15 (fun _ h9 => h9) rfl dX0_changeType_8 ?_
  refine lv_iload_n hx hb dX0_changeType_11 rfl (lv_at hl 1 rfl) ?_
  refine lv_iload_n hx hb dX0_changeType_12 rfl (lv_at hl 3 rfl) ?_
  obtain ⟨hi3, hF⟩ := ck hF
  refine va_iast hx hb hK hP hD hS 2 0 rfl rfl hi3 dX0_changeType_13 (fun H locs hP hD hS => ?_)
  replace hP := wC_p2 hP
  replace hD := wC_d2 hD
  exact hQ _ _ _ _ _ (Option.some.inj hF) hP hD hS dX0_changeType_14
theorem hd_X0_changeType : yX0_changeType.cls = RX0 ∧ yX0_changeType.cls ≠ "java/lang/invoke/MethodHandle" ∧ yX0_changeType.cls ≠ "java/lang/invoke/VarHandle" ∧ (parseMethodDescriptor yX0_changeType.desc).map (fun d => d.parameters.length) = some 3 := by decide +kernel
