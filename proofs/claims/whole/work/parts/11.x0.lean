def F_X0_read (u : St) (x1 : Int32) : Option (Int32 × St) := (if (x1 < 0 ∨ 152 ≤ x1.toNatClampNeg) then none else (some ((u 3 x1.toNatClampNeg), u)))
set_option maxRecDepth 100000 in
set_option maxHeartbeats 4000000 in
theorem c_X0_read (l : Launch) (dC : Nat → ClassId) (dI : Nat → Nat → Nat) (cI cZ : ClassId) (a : Nat → Nat) (u : St) (x1 : Int32) (o : Int32 × St) (hF : F_X0_read u x1 = some o) : MI l yX0_read wsX0_read 0 0 none dC dI cI cZ (wC a cI cZ) [.ref (a 0), .int x1] u o := by
  refine miOf (cc := cX0_read) (maxL := 2) (ret := .int) (by decide) rfl (Nat.le_of_ble_eq_true rfl) ?_
  intro p e s m args below meth c A Q H locs ls hx hb hml hts hown hK hA hz hQ hP hD hS hl
  replace hown : s.vm.findClass RX0 = some m.cls := hown
  replace hl : lv_has ls 2 [(0, .ref (a 0)), (1, .int x1)] := hl
  have hin : ∀ w ∈ u_ws RX0 TX0 11, w ∈ wsX0_read := by decide +kernel
  have fl18 := hts (.fieldLink RX0 18 "CountedHeap$Memory" "cells" "[I") (by decide +kernel)
  unfold F_X0_read at hF
  refine lv_aload_n hx hb dX0_read_0 rfl (lv_at hl 0 rfl) ?_
  refine va_get (D := (dC, dI)) (ci := 0) (v := .ref (a 3)) (C := RX0) (T := TX0) (N := 11) hx hb hts hin hown hK hP 0 rfl rfl 2 (by decide) fl18 (fun _ h9 => h9) rfl dX0_read_1 ?_
  refine lv_iload_n hx hb dX0_read_4 rfl (lv_at hl 1 rfl) ?_
  obtain ⟨hi1, hF⟩ := ck hF
  refine va_iald hx hb hK hP 3 0 rfl rfl hi1 dX0_read_5 ?_
  exact hQ _ _ _ _ _ _ (Option.some.inj hF) (vp_nar_int _) hP hD hS dX0_read_6
theorem hd_X0_read : yX0_read.cls = RX0 ∧ yX0_read.cls ≠ "java/lang/invoke/MethodHandle" ∧ yX0_read.cls ≠ "java/lang/invoke/VarHandle" ∧ (parseMethodDescriptor yX0_read.desc).map (fun d => d.parameters.length) = some 1 := by decide +kernel

def F_X0_writeInt (u : St) (x1 x2 : Int32) : Option (Int32 × St) := (if (x1 < 0 ∨ 152 ≤ x1.toNatClampNeg) then none else (some (0, (su u 3 x1.toNatClampNeg x2))))
set_option maxRecDepth 100000 in
set_option maxHeartbeats 4000000 in
theorem c_X0_writeInt (l : Launch) (dC : Nat → ClassId) (dI : Nat → Nat → Nat) (cI cZ : ClassId) (a : Nat → Nat) (u : St) (x1 x2 : Int32) (o : Int32 × St) (hF : F_X0_writeInt u x1 x2 = some o) : MV l yX0_writeInt wsX0_writeInt 0 0 none dC dI cI cZ (wC a cI cZ) [.ref (a 0), .int x1, .int x2] u o := by
  refine mvOf (cc := cX0_writeInt) (maxL := 3) (by decide) rfl (Nat.le_of_ble_eq_true rfl) ?_
  intro p e s m args below meth c A Q H locs ls hx hb hml hts hown hK hA hz hQ hP hD hS hl
  replace hown : s.vm.findClass RX0 = some m.cls := hown
  replace hl : lv_has ls 3 [(0, .ref (a 0)), (1, .int x1), (2, .int x2)] := hl
  have hin : ∀ w ∈ u_ws RX0 TX0 11, w ∈ wsX0_writeInt := by decide +kernel
  have fl18 := hts (.fieldLink RX0 18 "CountedHeap$Memory" "cells" "[I") (by decide +kernel)
  unfold F_X0_writeInt at hF
  refine lv_aload_n hx hb dX0_writeInt_0 rfl (lv_at hl 0 rfl) ?_
  refine va_get (D := (dC, dI)) (ci := 0) (v := .ref (a 3)) (C := RX0) (T := TX0) (N := 11) hx hb hts hin hown hK hP 0 rfl rfl 2 (by decide) fl18 (fun _ h9 => h9) rfl dX0_writeInt_1 ?_
  refine lv_iload_n hx hb dX0_writeInt_4 rfl (lv_at hl 1 rfl) ?_
  refine lv_iload_n hx hb dX0_writeInt_5 rfl (lv_at hl 2 rfl) ?_
  obtain ⟨hi1, hF⟩ := ck hF
  refine va_iast hx hb hK hP hD hS 3 0 rfl rfl hi1 dX0_writeInt_6 (fun H locs hP hD hS => ?_)
  replace hP := wC_p3 hP
  replace hD := wC_d3 hD
  exact hQ _ _ _ _ _ (Option.some.inj hF) hP hD hS dX0_writeInt_7
theorem hd_X0_writeInt : yX0_writeInt.cls = RX0 ∧ yX0_writeInt.cls ≠ "java/lang/invoke/MethodHandle" ∧ yX0_writeInt.cls ≠ "java/lang/invoke/VarHandle" ∧ (parseMethodDescriptor yX0_writeInt.desc).map (fun d => d.parameters.length) = some 2 := by decide +kernel

def F_X0_giveBack (u : St) (x1 : Int32) : Option (Int32 × St) := (if (x1 < 0 ∨ 25 ≤ x1.toNatClampNeg) then none else (sb (su u 4 x1.toNatClampNeg 0) fun u2 => (sb (su u2 0 9 ((u2 0 9) - 1)) fun u3 => (some (0, (su u3 0 10 ((u3 0 10) + 1)))))))
set_option maxRecDepth 100000 in
set_option maxHeartbeats 4000000 in
theorem c_X0_giveBack (l : Launch) (dC : Nat → ClassId) (dI : Nat → Nat → Nat) (cI cZ : ClassId) (a : Nat → Nat) (u : St) (x1 : Int32) (o : Int32 × St) (hF : F_X0_giveBack u x1 = some o) : MV l yX0_giveBack wsX0_giveBack 0 0 none dC dI cI cZ (wC a cI cZ) [.ref (a 0), .int x1] u o := by
  refine mvOf (cc := cX0_giveBack) (maxL := 2) (by decide) rfl (Nat.le_of_ble_eq_true rfl) ?_
  intro p e s m args below meth c A Q H locs ls hx hb hml hts hown hK hA hz hQ hP hD hS hl
  replace hown : s.vm.findClass RX0 = some m.cls := hown
  replace hl : lv_has ls 2 [(0, .ref (a 0)), (1, .int x1)] := hl
  have hin : ∀ w ∈ u_ws RX0 TX0 11, w ∈ wsX0_giveBack := by decide +kernel
  have fl21 := hts (.fieldLink RX0 21 "CountedHeap$Memory" "used" "[Z") (by decide +kernel)
  have fl41 := hts (.fieldLink RX0 41 "CountedHeap$Memory" "usedTotal" "I") (by decide +kernel)
  have fl44 := hts (.fieldLink RX0 44 "CountedHeap$Memory" "givenBack" "I") (by decide +kernel)
  unfold F_X0_giveBack at hF
  refine lv_aload_n hx hb dX0_giveBack_0 rfl (lv_at hl 0 rfl) ?_
  refine va_get (D := (dC, dI)) (ci := 0) (v := .ref (a 4)) (C := RX0) (T := TX0) (N := 11) hx hb hts hin hown hK hP 0 rfl rfl 3 (by decide) fl21 (fun _ h9 => h9) rfl dX0_giveBack_1 ?_
  refine lv_iload_n hx hb dX0_giveBack_4 rfl (lv_at hl 1 rfl) ?_
  refine lv_iconst (v := 0) hx hb dX0_giveBack_5 (by decide) ?_
  obtain ⟨hi1, hF⟩ := ck hF
  refine va_zast hx hb hK hP hD hS 4 1 rfl rfl hi1 dX0_giveBack_6 (fun H locs hP hD hS => ?_)
  rw [nz0] at hP hD
  replace hP := wC_p4 hP
  replace hD := wC_d4 hD
  replace hF := sbE hF
  generalize (su u 4 x1.toNatClampNeg 0) = u2 at hF hP hD
  refine lv_aload_n hx hb dX0_giveBack_7 rfl (lv_at hl 0 rfl) ?_
  refine lv_dup hx hb dX0_giveBack_8 rfl ?_
  refine va_get (D := (dC, dI)) (ci := 0) (v := .int (u2 0 9)) (C := RX0) (T := TX0) (N := 11) hx hb hts hin hown hK hP 0 rfl rfl 9 (by decide) fl41 (fun _ h9 => h9) rfl dX0_giveBack_9 ?_
  refine lv_iconst (v := 1) hx hb dX0_giveBack_12 (by decide) ?_
  refine lv_isub hx hb dX0_giveBack_13 ?_
  refine va_put (D := (dC, dI)) (ci := 0) (v := .int ((u2 0 9) - 1)) (ty := .int) (C := RX0) (T := TX0) (N := 11) hx hb hts hin tyX0 tyX0_ok nmX0 hown hK hP hD hS 0 rfl rfl 9 (by decide) fl41 (fun _ h9 => h9) rfl (tyX0_ok 9 (by decide)) rfl rfl (Nat.le_of_ble_eq_true rfl) dX0_giveBack_14 (fun H locs hP hD hS => ?_)
  replace hP := wC_p0_9 hP
  replace hD := wC_d0_9 hD
  replace hF := sbE hF
  generalize (su u2 0 9 ((u2 0 9) - 1)) = u3 at hF hP hD
  refine lv_aload_n hx hb dX0_giveBack_17 rfl (lv_at hl 0 rfl) ?_
  refine lv_dup hx hb dX0_giveBack_18 rfl ?_
  refine va_get (D := (dC, dI)) (ci := 0) (v := .int (u3 0 10)) (C := RX0) (T := TX0) (N := 11) hx hb hts hin hown hK hP 0 rfl rfl 10 (by decide) fl44 (fun _ h9 => h9) rfl dX0_giveBack_19 ?_
  refine lv_iconst (v := 1) hx hb dX0_giveBack_22 (by decide) ?_
  refine lv_iadd hx hb dX0_giveBack_23 ?_
  refine va_put (D := (dC, dI)) (ci := 0) (v := .int ((u3 0 10) + 1)) (ty := .int) (C := RX0) (T := TX0) (N := 11) hx hb hts hin tyX0 tyX0_ok nmX0 hown hK hP hD hS 0 rfl rfl 10 (by decide) fl44 (fun _ h9 => h9) rfl (tyX0_ok 10 (by decide)) rfl rfl (Nat.le_of_ble_eq_true rfl) dX0_giveBack_24 (fun H locs hP hD hS => ?_)
  replace hP := wC_p0_10 hP
  replace hD := wC_d0_10 hD
  exact hQ _ _ _ _ _ (Option.some.inj hF) hP hD hS dX0_giveBack_27
theorem hd_X0_giveBack : yX0_giveBack.cls = RX0 ∧ yX0_giveBack.cls ≠ "java/lang/invoke/MethodHandle" ∧ yX0_giveBack.cls ≠ "java/lang/invoke/VarHandle" ∧ (parseMethodDescriptor yX0_giveBack.desc).map (fun d => d.parameters.length) = some 1 := by decide +kernel

def F_X0_enqueue (u : St) (x1 : Int32) : Option (Int32 × St) := (if 24 ≤ (u 0 8) then (some (0, u)) else (if ((u 0 8) < 0 ∨ 24 ≤ (u 0 8).toNatClampNeg) then none else (sb (su u 8 (u 0 8).toNatClampNeg x1) fun u3 => (some (0, (su u3 0 8 ((u3 0 8) + 1)))))))
set_option maxRecDepth 100000 in
set_option maxHeartbeats 4000000 in
theorem c_X0_enqueue (l : Launch) (dC : Nat → ClassId) (dI : Nat → Nat → Nat) (cI cZ : ClassId) (a : Nat → Nat) (u : St) (x1 : Int32) (o : Int32 × St) (hF : F_X0_enqueue u x1 = some o) : MV l yX0_enqueue wsX0_enqueue 0 0 none dC dI cI cZ (wC a cI cZ) [.ref (a 0), .int x1] u o := by
  refine mvOf (cc := cX0_enqueue) (maxL := 2) (by decide) rfl (Nat.le_of_ble_eq_true rfl) ?_
  intro p e s m args below meth c A Q H locs ls hx hb hml hts hown hK hA hz hQ hP hD hS hl
  replace hown : s.vm.findClass RX0 = some m.cls := hown
  replace hl : lv_has ls 2 [(0, .ref (a 0)), (1, .int x1)] := hl
  have hin : ∀ w ∈ u_ws RX0 TX0 11, w ∈ wsX0_enqueue := by decide +kernel
  have fl34 := hts (.fieldLink RX0 34 "CountedHeap$Memory" "queue" "[I") (by decide +kernel)
  have fl37 := hts (.fieldLink RX0 37 "CountedHeap$Memory" "queued" "I") (by decide +kernel)
  unfold F_X0_enqueue at hF
  refine lv_aload_n hx hb dX0_enqueue_0 rfl (lv_at hl 0 rfl) ?_
  refine va_get (D := (dC, dI)) (ci := 0) (v := .int (u 0 8)) (C := RX0) (T := TX0) (N := 11) hx hb hts hin hown hK hP 0 rfl rfl 8 (by decide) fl37 (fun _ h9 => h9) rfl dX0_enqueue_1 ?_
  refine lv_bipush (v := 24) hx hb dX0_enqueue_4 (by decide) ?_
  refine lv_icmp_ge (tgt := 29) hx hb dX0_enqueue_6 (by decide) (fun h1 => ?_) (fun h1 => ?_)
  · replace hF := ip h1 hF
    exact hQ _ _ _ _ _ (Option.some.inj hF) hP hD hS dX0_enqueue_29
  · replace hF := iq h1 hF
    refine lv_aload_n hx hb dX0_enqueue_9 rfl (lv_at hl 0 rfl) ?_
    refine va_get (D := (dC, dI)) (ci := 0) (v := .ref (a 8)) (C := RX0) (T := TX0) (N := 11) hx hb hts hin hown hK hP 0 rfl rfl 7 (by decide) fl34 (fun _ h9 => h9) rfl dX0_enqueue_10 ?_
    refine lv_aload_n hx hb dX0_enqueue_13 rfl (lv_at hl 0 rfl) ?_
    refine va_get (D := (dC, dI)) (ci := 0) (v := .int (u 0 8)) (C := RX0) (T := TX0) (N := 11) hx hb hts hin hown hK hP 0 rfl rfl 8 (by decide) fl37 (fun _ h9 => h9) rfl dX0_enqueue_14 ?_
    refine lv_iload_n hx hb dX0_enqueue_17 rfl (lv_at hl 1 rfl) ?_
    obtain ⟨hi2, hF⟩ := ck hF
    refine va_iast hx hb hK hP hD hS 8 0 rfl rfl hi2 dX0_enqueue_18 (fun H locs hP hD hS => ?_)
    replace hP := wC_p8 hP
    replace hD := wC_d8 hD
    replace hF := sbE hF
    generalize (su u 8 (u 0 8).toNatClampNeg x1) = u3 at hF hP hD
    refine lv_aload_n hx hb dX0_enqueue_19 rfl (lv_at hl 0 rfl) ?_
    refine lv_dup hx hb dX0_enqueue_20 rfl ?_
    refine va_get (D := (dC, dI)) (ci := 0) (v := .int (u3 0 8)) (C := RX0) (T := TX0) (N := 11) hx hb hts hin hown hK hP 0 rfl rfl 8 (by decide) fl37 (fun _ h9 => h9) rfl dX0_enqueue_21 ?_
    refine lv_iconst (v := 1) hx hb dX0_enqueue_24 (by decide) ?_
    refine lv_iadd hx hb dX0_enqueue_25 ?_
    refine va_put (D := (dC, dI)) (ci := 0) (v := .int ((u3 0 8) + 1)) (ty := .int) (C := RX0) (T := TX0) (N := 11) hx hb hts hin tyX0 tyX0_ok nmX0 hown hK hP hD hS 0 rfl rfl 8 (by decide) fl37 (fun _ h9 => h9) rfl (tyX0_ok 8 (by decide)) rfl rfl (Nat.le_of_ble_eq_true rfl) dX0_enqueue_26 (fun H locs hP hD hS => ?_)
    replace hP := wC_p0_8 hP
    replace hD := wC_d0_8 hD
    exact hQ _ _ _ _ _ (Option.some.inj hF) hP hD hS dX0_enqueue_29
theorem hd_X0_enqueue : yX0_enqueue.cls = RX0 ∧ yX0_enqueue.cls ≠ "java/lang/invoke/MethodHandle" ∧ yX0_enqueue.cls ≠ "java/lang/invoke/VarHandle" ∧ (parseMethodDescriptor yX0_enqueue.desc).map (fun d => d.parameters.length) = some 1 := by decide +kernel

def F_X0_countLess (u : St) (x1 : Int32) : Option (Int32 × St) := ((F_X0_isBlock u x1).bind fun q1 => (if q1.1 = 0 then (some (0, q1.2)) else (if (x1 < 0 ∨ 25 ≤ x1.toNatClampNeg) then none else (if (x1 < 0 ∨ 25 ≤ x1.toNatClampNeg) then none else (sb (su q1.2 6 x1.toNatClampNeg ((q1.2 6 x1.toNatClampNeg) - 1)) fun u6 => (if (x1 < 0 ∨ 25 ≤ x1.toNatClampNeg) then none else (if (u6 6 x1.toNatClampNeg) = 0 then ((F_X0_giveBack u6 x1).bind fun q9 => ((F_X0_enqueue q9.2 x1).bind fun q11 => (some (0, q11.2)))) else (some (0, u6)))))))))
set_option maxRecDepth 100000 in
set_option maxHeartbeats 4000000 in
theorem c_X0_countLess (l : Launch) (dC : Nat → ClassId) (dI : Nat → Nat → Nat) (cI cZ : ClassId) (a : Nat → Nat) (u : St) (x1 : Int32) (o : Int32 × St) (hF : F_X0_countLess u x1 = some o) : MV l yX0_countLess wsX0_countLess 1 21 none dC dI cI cZ (wC a cI cZ) [.ref (a 0), .int x1] u o := by
  refine mvOf (cc := cX0_countLess) (maxL := 2) (by decide) rfl (Nat.le_of_ble_eq_true rfl) ?_
  intro p e s m args below meth c A Q H locs ls hx hb hml hts hown hK hA hz hQ hP hD hS hl
  replace hown : s.vm.findClass RX0 = some m.cls := hown
  replace hl : lv_has ls 2 [(0, .ref (a 0)), (1, .int x1)] := hl
  have hin : ∀ w ∈ u_ws RX0 TX0 11, w ∈ wsX0_countLess := by decide +kernel
  have fl28 := hts (.fieldLink RX0 28 "CountedHeap$Memory" "counts" "[I") (by decide +kernel)
  unfold F_X0_countLess at hF
  refine lv_aload_n hx hb dX0_countLess_0 rfl (lv_at hl 0 rfl) ?_
  refine lv_iload_n hx hb dX0_countLess_1 rfl (lv_at hl 1 rfl) ?_
  obtain ⟨q1, e2, hF⟩ := bd hF
  refine callVI (C := RX0) (ci := 0) (q0 := 0) (As := [.int x1]) (rest := []) ⟨hx, hb, hml, hown, hts⟩ (c_X0_isBlock l dC dI cI cZ a u x1 q1 e2) gX0_countLess_X0_isBlock rfl hd_X0_isBlock rfl rfl rfl ⟨Nat.le_of_ble_eq_true rfl, Nat.le_of_ble_eq_true rfl⟩ True.intro hK hP hD hS hA rfl hl.1 rfl (Nat.le_of_ble_eq_true rfl) dX0_countLess_2 (fun H locs hP hD hS => ?_)
  refine lv_if_ne (tgt := 9) hx hb dX0_countLess_5 (by decide) (fun h3 => ?_) (fun h3 => ?_)
  · replace hF := iq h3 hF
    refine lv_aload_n hx hb dX0_countLess_9 rfl (lv_at hl 0 rfl) ?_
    refine va_get (D := (dC, dI)) (ci := 0) (v := .ref (a 6)) (C := RX0) (T := TX0) (N := 11) hx hb hts hin hown hK hP 0 rfl rfl 5 (by decide) fl28 (fun _ h9 => h9) rfl dX0_countLess_10 ?_
    refine lv_iload_n hx hb dX0_countLess_13 rfl (lv_at hl 1 rfl) ?_
    refine lv_dup2_11 hx hb dX0_countLess_14 rfl rfl ?_
    obtain ⟨hi4, hF⟩ := ck hF
    refine va_iald hx hb hK hP 6 0 rfl rfl hi4 dX0_countLess_15 ?_
    refine lv_iconst (v := 1) hx hb dX0_countLess_16 (by decide) ?_
    refine lv_isub hx hb dX0_countLess_17 ?_
    obtain ⟨hi5, hF⟩ := ck hF
    refine va_iast hx hb hK hP hD hS 6 0 rfl rfl hi5 dX0_countLess_18 (fun H locs hP hD hS => ?_)
    replace hP := wC_p6 hP
    replace hD := wC_d6 hD
    replace hF := sbE hF
    generalize (su q1.2 6 x1.toNatClampNeg ((q1.2 6 x1.toNatClampNeg) - 1)) = u6 at hF hP hD
    refine lv_aload_n hx hb dX0_countLess_19 rfl (lv_at hl 0 rfl) ?_
    refine va_get (D := (dC, dI)) (ci := 0) (v := .ref (a 6)) (C := RX0) (T := TX0) (N := 11) hx hb hts hin hown hK hP 0 rfl rfl 5 (by decide) fl28 (fun _ h9 => h9) rfl dX0_countLess_20 ?_
    refine lv_iload_n hx hb dX0_countLess_23 rfl (lv_at hl 1 rfl) ?_
    obtain ⟨hi7, hF⟩ := ck hF
    refine va_iald hx hb hK hP 6 0 rfl rfl hi7 dX0_countLess_24 ?_
    refine lv_if_ne (tgt := 38) hx hb dX0_countLess_25 (by decide) (fun h8 => ?_) (fun h8 => ?_)
    · replace hF := iq h8 hF
      exact hQ _ _ _ _ _ (Option.some.inj hF) hP hD hS dX0_countLess_38
    · replace hF := ip h8 hF
      refine lv_aload_n hx hb dX0_countLess_28 rfl (lv_at hl 0 rfl) ?_
      refine lv_iload_n hx hb dX0_countLess_29 rfl (lv_at hl 1 rfl) ?_
      obtain ⟨q9, e10, hF⟩ := bd hF
      refine callVV (C := RX0) (ci := 0) (q0 := 0) (As := [.int x1]) (rest := []) ⟨hx, hb, hml, hown, hts⟩ (c_X0_giveBack l dC dI cI cZ a u6 x1 q9 e10) gX0_countLess_X0_giveBack rfl hd_X0_giveBack rfl rfl rfl ⟨Nat.le_of_ble_eq_true rfl, Nat.le_of_ble_eq_true rfl⟩ True.intro hK hP hD hS hA rfl hl.1 rfl (Nat.le_of_ble_eq_true rfl) dX0_countLess_30 (fun H locs hP hD hS => ?_)
      refine lv_aload_n hx hb dX0_countLess_33 rfl (lv_at hl 0 rfl) ?_
      refine lv_iload_n hx hb dX0_countLess_34 rfl (lv_at hl 1 rfl) ?_
      obtain ⟨q11, e12, hF⟩ := bd hF
      refine callVV (C := RX0) (ci := 0) (q0 := 0) (As := [.int x1]) (rest := []) ⟨hx, hb, hml, hown, hts⟩ (c_X0_enqueue l dC dI cI cZ a q9.2 x1 q11 e12) gX0_countLess_X0_enqueue rfl hd_X0_enqueue rfl rfl rfl ⟨Nat.le_of_ble_eq_true rfl, Nat.le_of_ble_eq_true rfl⟩ True.intro hK hP hD hS hA rfl hl.1 rfl (Nat.le_of_ble_eq_true rfl) dX0_countLess_35 (fun H locs hP hD hS => ?_)
      exact hQ _ _ _ _ _ (Option.some.inj hF) hP hD hS dX0_countLess_38
  · replace hF := ip h3 hF
    exact hQ _ _ _ _ _ (Option.some.inj hF) hP hD hS dX0_countLess_8
theorem hd_X0_countLess : yX0_countLess.cls = RX0 ∧ yX0_countLess.cls ≠ "java/lang/invoke/MethodHandle" ∧ yX0_countLess.cls ≠ "java/lang/invoke/VarHandle" ∧ (parseMethodDescriptor yX0_countLess.desc).map (fun d => d.parameters.length) = some 1 := by decide +kernel

def F_X0_dropPointersOf_2 (k2 : St → Int32 → Int32 → Option (Int32 × St)) (u : St) (x1 x2 : Int32) : Option (Int32 × St) := (if 6 ≤ x2 then (some (0, u)) else ((F_X0_isMapped u x1 x2).bind fun q2 => (if q2.1 = 0 then k2 q2.2 x1 ((x2 + 1)) else ((F_X0_cellOfWord q2.2 x1 x2).bind fun q5 => (if (q5.1 < 0 ∨ 152 ≤ q5.1.toNatClampNeg) then none else ((F_X0_countLess q5.2 ((q5.2 3 q5.1.toNatClampNeg))).bind fun q8 => k2 q8.2 x1 ((x2 + 1))))))))
def L_X0_dropPointersOf_2  : Nat → St → Int32 → Int32 → Option (Int32 × St)
  | 0 => fun _ _ _ => none
  | n + 1 => fun u x1 x2 => F_X0_dropPointersOf_2 (L_X0_dropPointersOf_2 n) u x1 x2
def F_X0_dropPointersOf (u : St) (x1 : Int32) : Option (Int32 × St) := L_X0_dropPointersOf_2 fuel u x1 0
set_option maxRecDepth 100000 in
set_option maxHeartbeats 4000000 in
theorem c_X0_dropPointersOf (l : Launch) (dC : Nat → ClassId) (dI : Nat → Nat → Nat) (cI cZ : ClassId) (a : Nat → Nat) (u : St) (x1 : Int32) (o : Int32 × St) (hF : F_X0_dropPointersOf u x1 = some o) : MV l yX0_dropPointersOf wsX0_dropPointersOf 2 42 none dC dI cI cZ (wC a cI cZ) [.ref (a 0), .int x1] u o := by
  refine mvOf (cc := cX0_dropPointersOf) (maxL := 3) (by decide) rfl (Nat.le_of_ble_eq_true rfl) ?_
  intro p e s m args below meth c A Q H locs ls hx hb hml hts hown hK hA hz hQ hP hD hS hl
  replace hown : s.vm.findClass RX0 = some m.cls := hown
  replace hl : lv_has ls 3 [(0, .ref (a 0)), (1, .int x1)] := hl
  have hin : ∀ w ∈ u_ws RX0 TX0 11, w ∈ wsX0_dropPointersOf := by decide +kernel
  have fl18 := hts (.fieldLink RX0 18 "CountedHeap$Memory" "cells" "[I") (by decide +kernel)
  have b2 : ∀ (k2 : St → Int32 → Int32 → Option (Int32 × St)) (hk2 : ∀ (x1 x2 : Int32) (u : St), k2 u x1 x2 = some o → GW p l e (rmK 2 42) s m args below meth c Q dC dI (wC a cI cZ) A 3 2 [(0, .ref (a 0)), (1, .int x1), (2, .int x2)] [] u) (x1 x2 : Int32) (u : St), F_X0_dropPointersOf_2 k2 u x1 x2 = some o → GW p l e (rmK 2 42) s m args below meth c Q dC dI (wC a cI cZ) A 3 2 [(0, .ref (a 0)), (1, .int x1), (2, .int x2)] [] u := by
      intro k2 hk2 x1 x2 u hF H locs ls hP hD hS hl
      unfold F_X0_dropPointersOf_2 at hF
      refine lv_iload_n hx hb dX0_dropPointersOf_2 rfl (lv_at hl 2 rfl) ?_
      refine lv_bipush (v := 6) hx hb dX0_dropPointersOf_3 (by decide) ?_
      refine lv_icmp_ge (tgt := 37) hx hb dX0_dropPointersOf_5 (by decide) (fun h1 => ?_) (fun h1 => ?_)
      · replace hF := ip h1 hF
        exact hQ _ _ _ _ _ (Option.some.inj hF) hP hD hS dX0_dropPointersOf_37
      · replace hF := iq h1 hF
        refine lv_aload_n hx hb dX0_dropPointersOf_8 rfl (lv_at hl 0 rfl) ?_
        refine lv_iload_n hx hb dX0_dropPointersOf_9 rfl (lv_at hl 1 rfl) ?_
        refine lv_iload_n hx hb dX0_dropPointersOf_10 rfl (lv_at hl 2 rfl) ?_
        obtain ⟨q2, e3, hF⟩ := bd hF
        refine callVI (C := RX0) (ci := 0) (q0 := 0) (As := [.int x1, .int x2]) (rest := []) ⟨hx, hb, hml, hown, hts⟩ (c_X0_isMapped l dC dI cI cZ a u x1 x2 q2 e3) gX0_dropPointersOf_X0_isMapped rfl hd_X0_isMapped rfl rfl rfl ⟨Nat.le_of_ble_eq_true rfl, Nat.le_of_ble_eq_true rfl⟩ True.intro hK hP hD hS hA rfl hl.1 rfl (Nat.le_of_ble_eq_true rfl) dX0_dropPointersOf_11 (fun H locs hP hD hS => ?_)
        refine lv_if_eq (tgt := 31) hx hb dX0_dropPointersOf_14 (by decide) (fun h4 => ?_) (fun h4 => ?_)
        · replace hF := ip h4 hF
          refine lv_iinc (v := (x2 + 1)) (lv' := [(2, .int (x2 + 1)), (0, .ref (a 0)), (1, .int x1)]) hx hb dX0_dropPointersOf_31 hl (k := 2) rfl rfl (by decide) rfl (fun ls hl => ?_)
          refine lv_goto (tgt := 2) hx hb dX0_dropPointersOf_34 (by decide) ?_
          exact hk2 x1 ((x2 + 1)) q2.2 hF H locs ls hP hD hS (lv_sub hl [1, 2, 0] rfl)
        · replace hF := iq h4 hF
          refine lv_aload_n hx hb dX0_dropPointersOf_17 rfl (lv_at hl 0 rfl) ?_
          refine lv_aload_n hx hb dX0_dropPointersOf_18 rfl (lv_at hl 0 rfl) ?_
          refine va_get (D := (dC, dI)) (ci := 0) (v := .ref (a 3)) (C := RX0) (T := TX0) (N := 11) hx hb hts hin hown hK hP 0 rfl rfl 2 (by decide) fl18 (fun _ h9 => h9) rfl dX0_dropPointersOf_19 ?_
          refine lv_iload_n hx hb dX0_dropPointersOf_22 rfl (lv_at hl 1 rfl) ?_
          refine lv_iload_n hx hb dX0_dropPointersOf_23 rfl (lv_at hl 2 rfl) ?_
          obtain ⟨q5, e6, hF⟩ := bd hF
          refine callSI (As := [.int x1, .int x2]) (rest := [.ref (a 3), .ref (a 0)]) ⟨hx, hb, hml, hown, hts⟩ (c_X0_cellOfWord l dC dI cI cZ a q2.2 x1 x2 q5 e6) gX0_dropPointersOf_X0_cellOfWord rfl hd_X0_cellOfWord ⟨Nat.le_of_ble_eq_true rfl, Nat.le_of_ble_eq_true rfl⟩ True.intro hK hP hD hS hA rfl hl.1 rfl (Nat.le_of_ble_eq_true rfl) dX0_dropPointersOf_24 (fun H locs hP hD hS => ?_)
          obtain ⟨hi7, hF⟩ := ck hF
          refine va_iald hx hb hK hP 3 0 rfl rfl hi7 dX0_dropPointersOf_27 ?_
          obtain ⟨q8, e9, hF⟩ := bd hF
          refine callVV (C := RX0) (ci := 0) (q0 := 0) (As := [.int (q5.2 3 q5.1.toNatClampNeg)]) (rest := []) ⟨hx, hb, hml, hown, hts⟩ (c_X0_countLess l dC dI cI cZ a q5.2 ((q5.2 3 q5.1.toNatClampNeg)) q8 e9) gX0_dropPointersOf_X0_countLess rfl hd_X0_countLess rfl rfl rfl ⟨Nat.le_of_ble_eq_true rfl, Nat.le_of_ble_eq_true rfl⟩ True.intro hK hP hD hS hA rfl hl.1 rfl (Nat.le_of_ble_eq_true rfl) dX0_dropPointersOf_28 (fun H locs hP hD hS => ?_)
          refine lv_iinc (v := (x2 + 1)) (lv' := [(2, .int (x2 + 1)), (0, .ref (a 0)), (1, .int x1)]) hx hb dX0_dropPointersOf_31 hl (k := 2) rfl rfl (by decide) rfl (fun ls hl => ?_)
          refine lv_goto (tgt := 2) hx hb dX0_dropPointersOf_34 (by decide) ?_
          exact hk2 x1 ((x2 + 1)) q8.2 hF H locs ls hP hD hS (lv_sub hl [1, 2, 0] rfl)
  have l2 : ∀  (n : Nat) (x1 x2 : Int32) (u : St), L_X0_dropPointersOf_2  n u x1 x2 = some o → GW p l e (rmK 2 42) s m args below meth c Q dC dI (wC a cI cZ) A 3 2 [(0, .ref (a 0)), (1, .int x1), (2, .int x2)] [] u := by
      intro  n
      induction n with
      | zero =>
        intro x1 x2 u hF
        have hF : (none : Option (Int32 × St)) = some o := hF
        cases hF
      | succ n ih =>
        intro x1 x2 u hF
        exact b2 (L_X0_dropPointersOf_2 n) ih x1 x2 u hF
  unfold F_X0_dropPointersOf at hF
  refine lv_iconst (v := 0) hx hb dX0_dropPointersOf_0 (by decide) ?_
  refine lv_istore_n (lv' := [(2, .int 0), (0, .ref (a 0)), (1, .int x1)]) hx hb dX0_dropPointersOf_1 rfl hl (by decide) rfl (fun ls hl => ?_)
  exact l2  fuel x1 0 u hF H locs ls hP hD hS (lv_sub hl [1, 2, 0] rfl)
theorem hd_X0_dropPointersOf : yX0_dropPointersOf.cls = RX0 ∧ yX0_dropPointersOf.cls ≠ "java/lang/invoke/MethodHandle" ∧ yX0_dropPointersOf.cls ≠ "java/lang/invoke/VarHandle" ∧ (parseMethodDescriptor yX0_dropPointersOf.desc).map (fun d => d.parameters.length) = some 1 := by decide +kernel

def F_X0_dropPointer_12 (k12 : St → Int32 → Option (Int32 × St)) (u : St) (x2 : Int32) : Option (Int32 × St) := (if (u 0 8) ≤ x2 then (some (0, u)) else (if 24 ≤ x2 then (some (0, u)) else (if (x2 < 0 ∨ 24 ≤ x2.toNatClampNeg) then none else ((F_X0_dropPointersOf u ((u 8 x2.toNatClampNeg))).bind fun q4 => k12 q4.2 ((x2 + 1))))))
def L_X0_dropPointer_12  : Nat → St → Int32 → Option (Int32 × St)
  | 0 => fun _ _ => none
  | n + 1 => fun u x2 => F_X0_dropPointer_12 (L_X0_dropPointer_12 n) u x2
def F_X0_dropPointer (u : St) (x1 : Int32) : Option (Int32 × St) := (sb (su u 0 8 0) fun u1 => ((F_X0_countLess u1 x1).bind fun q2 => L_X0_dropPointer_12 fuel q2.2 0))
set_option maxRecDepth 100000 in
set_option maxHeartbeats 4000000 in
theorem c_X0_dropPointer (l : Launch) (dC : Nat → ClassId) (dI : Nat → Nat → Nat) (cI cZ : ClassId) (a : Nat → Nat) (u : St) (x1 : Int32) (o : Int32 × St) (hF : F_X0_dropPointer u x1 = some o) : MV l yX0_dropPointer wsX0_dropPointer 3 64 none dC dI cI cZ (wC a cI cZ) [.ref (a 0), .int x1] u o := by
  refine mvOf (cc := cX0_dropPointer) (maxL := 3) (by decide) rfl (Nat.le_of_ble_eq_true rfl) ?_
  intro p e s m args below meth c A Q H locs ls hx hb hml hts hown hK hA hz hQ hP hD hS hl
  replace hown : s.vm.findClass RX0 = some m.cls := hown
  replace hl : lv_has ls 3 [(0, .ref (a 0)), (1, .int x1)] := hl
  have hin : ∀ w ∈ u_ws RX0 TX0 11, w ∈ wsX0_dropPointer := by decide +kernel
  have fl34 := hts (.fieldLink RX0 34 "CountedHeap$Memory" "queue" "[I") (by decide +kernel)
  have fl37 := hts (.fieldLink RX0 37 "CountedHeap$Memory" "queued" "I") (by decide +kernel)
  have b12 : ∀ (k12 : St → Int32 → Option (Int32 × St)) (hk12 : ∀ (x2 : Int32) (u : St), k12 u x2 = some o → GW p l e (rmK 3 64) s m args below meth c Q dC dI (wC a cI cZ) A 3 12 [(0, .ref (a 0)), (2, .int x2)] [] u) (x2 : Int32) (u : St), F_X0_dropPointer_12 k12 u x2 = some o → GW p l e (rmK 3 64) s m args below meth c Q dC dI (wC a cI cZ) A 3 12 [(0, .ref (a 0)), (2, .int x2)] [] u := by
      intro k12 hk12 x2 u hF H locs ls hP hD hS hl
      unfold F_X0_dropPointer_12 at hF
      refine lv_iload_n hx hb dX0_dropPointer_12 rfl (lv_at hl 1 rfl) ?_
      refine lv_aload_n hx hb dX0_dropPointer_13 rfl (lv_at hl 0 rfl) ?_
      refine va_get (D := (dC, dI)) (ci := 0) (v := .int (u 0 8)) (C := RX0) (T := TX0) (N := 11) hx hb hts hin hown hK hP 0 rfl rfl 8 (by decide) fl37 (fun _ h9 => h9) rfl dX0_dropPointer_14 ?_
      refine lv_icmp_ge (tgt := 42) hx hb dX0_dropPointer_17 (by decide) (fun h1 => ?_) (fun h1 => ?_)
      · replace hF := ip h1 hF
        exact hQ _ _ _ _ _ (Option.some.inj hF) hP hD hS dX0_dropPointer_42
      · replace hF := iq h1 hF
        refine lv_iload_n hx hb dX0_dropPointer_20 rfl (lv_at hl 1 rfl) ?_
        refine lv_bipush (v := 24) hx hb dX0_dropPointer_21 (by decide) ?_
        refine lv_icmp_ge (tgt := 42) hx hb dX0_dropPointer_23 (by decide) (fun h2 => ?_) (fun h2 => ?_)
        · replace hF := ip h2 hF
          exact hQ _ _ _ _ _ (Option.some.inj hF) hP hD hS dX0_dropPointer_42
        · replace hF := iq h2 hF
          refine lv_aload_n hx hb dX0_dropPointer_26 rfl (lv_at hl 0 rfl) ?_
          refine lv_aload_n hx hb dX0_dropPointer_27 rfl (lv_at hl 0 rfl) ?_
          refine va_get (D := (dC, dI)) (ci := 0) (v := .ref (a 8)) (C := RX0) (T := TX0) (N := 11) hx hb hts hin hown hK hP 0 rfl rfl 7 (by decide) fl34 (fun _ h9 => h9) rfl dX0_dropPointer_28 ?_
          refine lv_iload_n hx hb dX0_dropPointer_31 rfl (lv_at hl 1 rfl) ?_
          obtain ⟨hi3, hF⟩ := ck hF
          refine va_iald hx hb hK hP 8 0 rfl rfl hi3 dX0_dropPointer_32 ?_
          obtain ⟨q4, e5, hF⟩ := bd hF
          refine callVV (C := RX0) (ci := 0) (q0 := 0) (As := [.int (u 8 x2.toNatClampNeg)]) (rest := []) ⟨hx, hb, hml, hown, hts⟩ (c_X0_dropPointersOf l dC dI cI cZ a u ((u 8 x2.toNatClampNeg)) q4 e5) gX0_dropPointer_X0_dropPointersOf rfl hd_X0_dropPointersOf rfl rfl rfl ⟨Nat.le_of_ble_eq_true rfl, Nat.le_of_ble_eq_true rfl⟩ True.intro hK hP hD hS hA rfl hl.1 rfl (Nat.le_of_ble_eq_true rfl) dX0_dropPointer_33 (fun H locs hP hD hS => ?_)
          refine lv_iinc (v := (x2 + 1)) (lv' := [(2, .int (x2 + 1)), (0, .ref (a 0))]) hx hb dX0_dropPointer_36 hl (k := 1) rfl rfl (by decide) rfl (fun ls hl => ?_)
          refine lv_goto (tgt := 12) hx hb dX0_dropPointer_39 (by decide) ?_
          exact hk12 ((x2 + 1)) q4.2 hF H locs ls hP hD hS (lv_sub hl [1, 0] rfl)
  have l12 : ∀  (n : Nat) (x2 : Int32) (u : St), L_X0_dropPointer_12  n u x2 = some o → GW p l e (rmK 3 64) s m args below meth c Q dC dI (wC a cI cZ) A 3 12 [(0, .ref (a 0)), (2, .int x2)] [] u := by
      intro  n
      induction n with
      | zero =>
        intro x2 u hF
        have hF : (none : Option (Int32 × St)) = some o := hF
        cases hF
      | succ n ih =>
        intro x2 u hF
        exact b12 (L_X0_dropPointer_12 n) ih x2 u hF
  unfold F_X0_dropPointer at hF
  refine lv_aload_n hx hb dX0_dropPointer_0 rfl (lv_at hl 0 rfl) ?_
  refine lv_iconst (v := 0) hx hb dX0_dropPointer_1 (by decide) ?_
  refine va_put (D := (dC, dI)) (ci := 0) (v := .int 0) (ty := .int) (C := RX0) (T := TX0) (N := 11) hx hb hts hin tyX0 tyX0_ok nmX0 hown hK hP hD hS 0 rfl rfl 8 (by decide) fl37 (fun _ h9 => h9) rfl (tyX0_ok 8 (by decide)) rfl rfl (Nat.le_of_ble_eq_true rfl) dX0_dropPointer_2 (fun H locs hP hD hS => ?_)
  replace hP := wC_p0_8 hP
  replace hD := wC_d0_8 hD
  replace hF := sbE hF
  generalize (su u 0 8 0) = u1 at hF hP hD
  refine lv_aload_n hx hb dX0_dropPointer_5 rfl (lv_at hl 0 rfl) ?_
  refine lv_iload_n hx hb dX0_dropPointer_6 rfl (lv_at hl 1 rfl) ?_
  obtain ⟨q2, e3, hF⟩ := bd hF
  refine callVV (C := RX0) (ci := 0) (q0 := 0) (As := [.int x1]) (rest := []) ⟨hx, hb, hml, hown, hts⟩ (c_X0_countLess l dC dI cI cZ a u1 x1 q2 e3) gX0_dropPointer_X0_countLess rfl hd_X0_countLess rfl rfl rfl ⟨Nat.le_of_ble_eq_true rfl, Nat.le_of_ble_eq_true rfl⟩ True.intro hK hP hD hS hA rfl hl.1 rfl (Nat.le_of_ble_eq_true rfl) dX0_dropPointer_7 (fun H locs hP hD hS => ?_)
  refine lv_iconst (v := 0) hx hb dX0_dropPointer_10 (by decide) ?_
  refine lv_istore_n (lv' := [(2, .int 0), (0, .ref (a 0)), (1, .int x1)]) hx hb dX0_dropPointer_11 rfl hl (by decide) rfl (fun ls hl => ?_)
  exact l12  fuel 0 q2.2 hF H locs ls hP hD hS (lv_sub hl [1, 0] rfl)
theorem hd_X0_dropPointer : yX0_dropPointer.cls = RX0 ∧ yX0_dropPointer.cls ≠ "java/lang/invoke/MethodHandle" ∧ yX0_dropPointer.cls ≠ "java/lang/invoke/VarHandle" ∧ (parseMethodDescriptor yX0_dropPointer.desc).map (fun d => d.parameters.length) = some 1 := by decide +kernel

def F_X0_writePointer_32 (u : St) (x3 : Int32) : Option (Int32 × St) := ((F_X0_dropPointer u x3).bind fun q1 => (some (0, q1.2)))
def F_X0_writePointer (u : St) (x1 x2 : Int32) : Option (Int32 × St) := (if (x1 < 0 ∨ 152 ≤ x1.toNatClampNeg) then none else (if (x1 < 0 ∨ 152 ≤ x1.toNatClampNeg) then none else (sb (su u 3 x1.toNatClampNeg x2) fun u3 => ((F_X0_isBlock u3 x2).bind fun q4 => (if q4.1 = 0 then F_X0_writePointer_32 q4.2 ((u 3 x1.toNatClampNeg)) else (if (x2 < 0 ∨ 25 ≤ x2.toNatClampNeg) then none else (if (x2 < 0 ∨ 25 ≤ x2.toNatClampNeg) then none else F_X0_writePointer_32 (su q4.2 6 x2.toNatClampNeg ((q4.2 6 x2.toNatClampNeg) + 1)) ((u 3 x1.toNatClampNeg)))))))))
set_option maxRecDepth 100000 in
set_option maxHeartbeats 4000000 in
theorem c_X0_writePointer (l : Launch) (dC : Nat → ClassId) (dI : Nat → Nat → Nat) (cI cZ : ClassId) (a : Nat → Nat) (u : St) (x1 x2 : Int32) (o : Int32 × St) (hF : F_X0_writePointer u x1 x2 = some o) : MV l yX0_writePointer wsX0_writePointer 4 86 none dC dI cI cZ (wC a cI cZ) [.ref (a 0), .int x1, .int x2] u o := by
  refine mvOf (cc := cX0_writePointer) (maxL := 4) (by decide) rfl (Nat.le_of_ble_eq_true rfl) ?_
  intro p e s m args below meth c A Q H locs ls hx hb hml hts hown hK hA hz hQ hP hD hS hl
  replace hown : s.vm.findClass RX0 = some m.cls := hown
  replace hl : lv_has ls 4 [(0, .ref (a 0)), (1, .int x1), (2, .int x2)] := hl
  have hin : ∀ w ∈ u_ws RX0 TX0 11, w ∈ wsX0_writePointer := by decide +kernel
  have fl18 := hts (.fieldLink RX0 18 "CountedHeap$Memory" "cells" "[I") (by decide +kernel)
  have fl28 := hts (.fieldLink RX0 28 "CountedHeap$Memory" "counts" "[I") (by decide +kernel)
  have b32 : ∀  (x3 : Int32) (u : St), F_X0_writePointer_32 u x3 = some o → GW p l e (rmK 4 86) s m args below meth c Q dC dI (wC a cI cZ) A 4 32 [(0, .ref (a 0)), (3, .int x3)] [] u := by
      intro  x3 u hF H locs ls hP hD hS hl
      unfold F_X0_writePointer_32 at hF
      refine lv_aload_n hx hb dX0_writePointer_32 rfl (lv_at hl 0 rfl) ?_
      refine lv_iload_n hx hb dX0_writePointer_33 rfl (lv_at hl 1 rfl) ?_
      obtain ⟨q1, e2, hF⟩ := bd hF
      refine callVV (C := RX0) (ci := 0) (q0 := 0) (As := [.int x3]) (rest := []) ⟨hx, hb, hml, hown, hts⟩ (c_X0_dropPointer l dC dI cI cZ a u x3 q1 e2) gX0_writePointer_X0_dropPointer rfl hd_X0_dropPointer rfl rfl rfl ⟨Nat.le_of_ble_eq_true rfl, Nat.le_of_ble_eq_true rfl⟩ True.intro hK hP hD hS hA rfl hl.1 rfl (Nat.le_of_ble_eq_true rfl) dX0_writePointer_34 (fun H locs hP hD hS => ?_)
      exact hQ _ _ _ _ _ (Option.some.inj hF) hP hD hS dX0_writePointer_37
  unfold F_X0_writePointer at hF
  refine lv_aload_n hx hb dX0_writePointer_0 rfl (lv_at hl 0 rfl) ?_
  refine va_get (D := (dC, dI)) (ci := 0) (v := .ref (a 3)) (C := RX0) (T := TX0) (N := 11) hx hb hts hin hown hK hP 0 rfl rfl 2 (by decide) fl18 (fun _ h9 => h9) rfl dX0_writePointer_1 ?_
  refine lv_iload_n hx hb dX0_writePointer_4 rfl (lv_at hl 1 rfl) ?_
  obtain ⟨hi1, hF⟩ := ck hF
  refine va_iald hx hb hK hP 3 0 rfl rfl hi1 dX0_writePointer_5 ?_
  refine lv_istore_n (lv' := [(3, .int (u 3 x1.toNatClampNeg)), (0, .ref (a 0)), (1, .int x1), (2, .int x2)]) hx hb dX0_writePointer_6 rfl hl (by decide) rfl (fun ls hl => ?_)
  refine lv_aload_n hx hb dX0_writePointer_7 rfl (lv_at hl 1 rfl) ?_
  refine va_get (D := (dC, dI)) (ci := 0) (v := .ref (a 3)) (C := RX0) (T := TX0) (N := 11) hx hb hts hin hown hK hP 0 rfl rfl 2 (by decide) fl18 (fun _ h9 => h9) rfl dX0_writePointer_8 ?_
  refine lv_iload_n hx hb dX0_writePointer_11 rfl (lv_at hl 2 rfl) ?_
  refine lv_iload_n hx hb dX0_writePointer_12 rfl (lv_at hl 3 rfl) ?_
  obtain ⟨hi2, hF⟩ := ck hF
  refine va_iast hx hb hK hP hD hS 3 0 rfl rfl hi2 dX0_writePointer_13 (fun H locs hP hD hS => ?_)
  replace hP := wC_p3 hP
  replace hD := wC_d3 hD
  replace hF := sbE hF
  generalize (su u 3 x1.toNatClampNeg x2) = u3 at hF hP hD
  refine lv_aload_n hx hb dX0_writePointer_14 rfl (lv_at hl 1 rfl) ?_
  refine lv_iload_n hx hb dX0_writePointer_15 rfl (lv_at hl 3 rfl) ?_
  obtain ⟨q4, e5, hF⟩ := bd hF
  refine callVI (C := RX0) (ci := 0) (q0 := 0) (As := [.int x2]) (rest := []) ⟨hx, hb, hml, hown, hts⟩ (c_X0_isBlock l dC dI cI cZ a u3 x2 q4 e5) gX0_writePointer_X0_isBlock rfl hd_X0_isBlock rfl rfl rfl ⟨Nat.le_of_ble_eq_true rfl, Nat.le_of_ble_eq_true rfl⟩ True.intro hK hP hD hS hA rfl hl.1 rfl (Nat.le_of_ble_eq_true rfl) dX0_writePointer_16 (fun H locs hP hD hS => ?_)
  refine lv_if_eq (tgt := 32) hx hb dX0_writePointer_19 (by decide) (fun h6 => ?_) (fun h6 => ?_)
  · replace hF := ip h6 hF
    exact b32  ((u 3 x1.toNatClampNeg)) q4.2 hF H locs ls hP hD hS (lv_sub hl [1, 0] rfl)
  · replace hF := iq h6 hF
    refine lv_aload_n hx hb dX0_writePointer_22 rfl (lv_at hl 1 rfl) ?_
    refine va_get (D := (dC, dI)) (ci := 0) (v := .ref (a 6)) (C := RX0) (T := TX0) (N := 11) hx hb hts hin hown hK hP 0 rfl rfl 5 (by decide) fl28 (fun _ h9 => h9) rfl dX0_writePointer_23 ?_
    refine lv_iload_n hx hb dX0_writePointer_26 rfl (lv_at hl 3 rfl) ?_
    refine lv_dup2_11 hx hb dX0_writePointer_27 rfl rfl ?_
    obtain ⟨hi7, hF⟩ := ck hF
    refine va_iald hx hb hK hP 6 0 rfl rfl hi7 dX0_writePointer_28 ?_
    refine lv_iconst (v := 1) hx hb dX0_writePointer_29 (by decide) ?_
    refine lv_iadd hx hb dX0_writePointer_30 ?_
    obtain ⟨hi8, hF⟩ := ck hF
    refine va_iast hx hb hK hP hD hS 6 0 rfl rfl hi8 dX0_writePointer_31 (fun H locs hP hD hS => ?_)
    replace hP := wC_p6 hP
    replace hD := wC_d6 hD
    exact b32  ((u 3 x1.toNatClampNeg)) (su q4.2 6 x2.toNatClampNeg ((q4.2 6 x2.toNatClampNeg) + 1)) hF H locs ls hP hD hS (lv_sub hl [1, 0] rfl)
theorem hd_X0_writePointer : yX0_writePointer.cls = RX0 ∧ yX0_writePointer.cls ≠ "java/lang/invoke/MethodHandle" ∧ yX0_writePointer.cls ≠ "java/lang/invoke/VarHandle" ∧ (parseMethodDescriptor yX0_writePointer.desc).map (fun d => d.parameters.length) = some 2 := by decide +kernel

def F_X0_emptyWords_2 (k2 : St → Int32 → Int32 → Option (Int32 × St)) (u : St) (x1 x2 : Int32) : Option (Int32 × St) := (if 6 ≤ x2 then (some (0, u)) else ((F_X0_cellOfWord u x1 x2).bind fun q2 => (if (q2.1 < 0 ∨ 152 ≤ q2.1.toNatClampNeg) then none else k2 (su q2.2 3 q2.1.toNatClampNeg 0) x1 ((x2 + 1)))))
def L_X0_emptyWords_2  : Nat → St → Int32 → Int32 → Option (Int32 × St)
  | 0 => fun _ _ _ => none
  | n + 1 => fun u x1 x2 => F_X0_emptyWords_2 (L_X0_emptyWords_2 n) u x1 x2
def F_X0_emptyWords (u : St) (x1 : Int32) : Option (Int32 × St) := L_X0_emptyWords_2 fuel u x1 0
set_option maxRecDepth 100000 in
set_option maxHeartbeats 4000000 in
theorem c_X0_emptyWords (l : Launch) (dC : Nat → ClassId) (dI : Nat → Nat → Nat) (cI cZ : ClassId) (a : Nat → Nat) (u : St) (x1 : Int32) (o : Int32 × St) (hF : F_X0_emptyWords u x1 = some o) : MV l yX0_emptyWords wsX0_emptyWords 1 21 none dC dI cI cZ (wC a cI cZ) [.ref (a 0), .int x1] u o := by
  refine mvOf (cc := cX0_emptyWords) (maxL := 3) (by decide) rfl (Nat.le_of_ble_eq_true rfl) ?_
  intro p e s m args below meth c A Q H locs ls hx hb hml hts hown hK hA hz hQ hP hD hS hl
  replace hown : s.vm.findClass RX0 = some m.cls := hown
  replace hl : lv_has ls 3 [(0, .ref (a 0)), (1, .int x1)] := hl
  have hin : ∀ w ∈ u_ws RX0 TX0 11, w ∈ wsX0_emptyWords := by decide +kernel
  have fl18 := hts (.fieldLink RX0 18 "CountedHeap$Memory" "cells" "[I") (by decide +kernel)
  have b2 : ∀ (k2 : St → Int32 → Int32 → Option (Int32 × St)) (hk2 : ∀ (x1 x2 : Int32) (u : St), k2 u x1 x2 = some o → GW p l e (rmK 1 21) s m args below meth c Q dC dI (wC a cI cZ) A 3 2 [(0, .ref (a 0)), (1, .int x1), (2, .int x2)] [] u) (x1 x2 : Int32) (u : St), F_X0_emptyWords_2 k2 u x1 x2 = some o → GW p l e (rmK 1 21) s m args below meth c Q dC dI (wC a cI cZ) A 3 2 [(0, .ref (a 0)), (1, .int x1), (2, .int x2)] [] u := by
      intro k2 hk2 x1 x2 u hF H locs ls hP hD hS hl
      unfold F_X0_emptyWords_2 at hF
      refine lv_iload_n hx hb dX0_emptyWords_2 rfl (lv_at hl 2 rfl) ?_
      refine lv_bipush (v := 6) hx hb dX0_emptyWords_3 (by decide) ?_
      refine lv_icmp_ge (tgt := 25) hx hb dX0_emptyWords_5 (by decide) (fun h1 => ?_) (fun h1 => ?_)
      · replace hF := ip h1 hF
        exact hQ _ _ _ _ _ (Option.some.inj hF) hP hD hS dX0_emptyWords_25
      · replace hF := iq h1 hF
        refine lv_aload_n hx hb dX0_emptyWords_8 rfl (lv_at hl 0 rfl) ?_
        refine va_get (D := (dC, dI)) (ci := 0) (v := .ref (a 3)) (C := RX0) (T := TX0) (N := 11) hx hb hts hin hown hK hP 0 rfl rfl 2 (by decide) fl18 (fun _ h9 => h9) rfl dX0_emptyWords_9 ?_
        refine lv_iload_n hx hb dX0_emptyWords_12 rfl (lv_at hl 1 rfl) ?_
        refine lv_iload_n hx hb dX0_emptyWords_13 rfl (lv_at hl 2 rfl) ?_
        obtain ⟨q2, e3, hF⟩ := bd hF
        refine callSI (As := [.int x1, .int x2]) (rest := [.ref (a 3)]) ⟨hx, hb, hml, hown, hts⟩ (c_X0_cellOfWord l dC dI cI cZ a u x1 x2 q2 e3) gX0_emptyWords_X0_cellOfWord rfl hd_X0_cellOfWord ⟨Nat.le_of_ble_eq_true rfl, Nat.le_of_ble_eq_true rfl⟩ True.intro hK hP hD hS hA rfl hl.1 rfl (Nat.le_of_ble_eq_true rfl) dX0_emptyWords_14 (fun H locs hP hD hS => ?_)
        refine lv_iconst (v := 0) hx hb dX0_emptyWords_17 (by decide) ?_
        obtain ⟨hi4, hF⟩ := ck hF
        refine va_iast hx hb hK hP hD hS 3 0 rfl rfl hi4 dX0_emptyWords_18 (fun H locs hP hD hS => ?_)
        replace hP := wC_p3 hP
        replace hD := wC_d3 hD
        refine lv_iinc (v := (x2 + 1)) (lv' := [(2, .int (x2 + 1)), (0, .ref (a 0)), (1, .int x1)]) hx hb dX0_emptyWords_19 hl (k := 2) rfl rfl (by decide) rfl (fun ls hl => ?_)
        refine lv_goto (tgt := 2) hx hb dX0_emptyWords_22 (by decide) ?_
        exact hk2 x1 ((x2 + 1)) (su q2.2 3 q2.1.toNatClampNeg 0) hF H locs ls hP hD hS (lv_sub hl [1, 2, 0] rfl)
  have l2 : ∀  (n : Nat) (x1 x2 : Int32) (u : St), L_X0_emptyWords_2  n u x1 x2 = some o → GW p l e (rmK 1 21) s m args below meth c Q dC dI (wC a cI cZ) A 3 2 [(0, .ref (a 0)), (1, .int x1), (2, .int x2)] [] u := by
      intro  n
      induction n with
      | zero =>
        intro x1 x2 u hF
        have hF : (none : Option (Int32 × St)) = some o := hF
        cases hF
      | succ n ih =>
        intro x1 x2 u hF
        exact b2 (L_X0_emptyWords_2 n) ih x1 x2 u hF
  unfold F_X0_emptyWords at hF
  refine lv_iconst (v := 0) hx hb dX0_emptyWords_0 (by decide) ?_
  refine lv_istore_n (lv' := [(2, .int 0), (0, .ref (a 0)), (1, .int x1)]) hx hb dX0_emptyWords_1 rfl hl (by decide) rfl (fun ls hl => ?_)
  exact l2  fuel x1 0 u hF H locs ls hP hD hS (lv_sub hl [1, 2, 0] rfl)
theorem hd_X0_emptyWords : yX0_emptyWords.cls = RX0 ∧ yX0_emptyWords.cls ≠ "java/lang/invoke/MethodHandle" ∧ yX0_emptyWords.cls ≠ "java/lang/invoke/VarHandle" ∧ (parseMethodDescriptor yX0_emptyWords.desc).map (fun d => d.parameters.length) = some 1 := by decide +kernel

def F_X0_makeBlock_2 (k2 : St → Int32 → Int32 → Option (Int32 × St)) (u : St) (x1 x2 : Int32) : Option (Int32 × St) := (if 24 < x2 then (some (0, u)) else (if (x2 < 0 ∨ 25 ≤ x2.toNatClampNeg) then none else (if (u 4 x2.toNatClampNeg) = 0 then (if (x2 < 0 ∨ 25 ≤ x2.toNatClampNeg) then none else (sb (su u 4 x2.toNatClampNeg 1) fun u5 => (if (x2 < 0 ∨ 25 ≤ x2.toNatClampNeg) then none else (sb (su u5 5 x2.toNatClampNeg x1) fun u7 => (if (x2 < 0 ∨ 25 ≤ x2.toNatClampNeg) then none else (sb (su u7 6 x2.toNatClampNeg 0) fun u9 => (sb (su u9 0 9 ((u9 0 9) + 1)) fun u10 => ((F_X0_emptyWords u10 x2).bind fun q11 => (some (x2, q11.2)))))))))) else k2 u x1 ((x2 + 1)))))
def L_X0_makeBlock_2  : Nat → St → Int32 → Int32 → Option (Int32 × St)
  | 0 => fun _ _ _ => none
  | n + 1 => fun u x1 x2 => F_X0_makeBlock_2 (L_X0_makeBlock_2 n) u x1 x2
def F_X0_makeBlock (u : St) (x1 : Int32) : Option (Int32 × St) := L_X0_makeBlock_2 fuel u x1 1
set_option maxRecDepth 100000 in
set_option maxHeartbeats 4000000 in
theorem c_X0_makeBlock (l : Launch) (dC : Nat → ClassId) (dI : Nat → Nat → Nat) (cI cZ : ClassId) (a : Nat → Nat) (u : St) (x1 : Int32) (o : Int32 × St) (hF : F_X0_makeBlock u x1 = some o) : MI l yX0_makeBlock wsX0_makeBlock 2 43 none dC dI cI cZ (wC a cI cZ) [.ref (a 0), .int x1] u o := by
  refine miOf (cc := cX0_makeBlock) (maxL := 3) (ret := .int) (by decide) rfl (Nat.le_of_ble_eq_true rfl) ?_
  intro p e s m args below meth c A Q H locs ls hx hb hml hts hown hK hA hz hQ hP hD hS hl
  replace hown : s.vm.findClass RX0 = some m.cls := hown
  replace hl : lv_has ls 3 [(0, .ref (a 0)), (1, .int x1)] := hl
  have hin : ∀ w ∈ u_ws RX0 TX0 11, w ∈ wsX0_makeBlock := by decide +kernel
  have fl21 := hts (.fieldLink RX0 21 "CountedHeap$Memory" "used" "[Z") (by decide +kernel)
  have fl25 := hts (.fieldLink RX0 25 "CountedHeap$Memory" "types" "[I") (by decide +kernel)
  have fl28 := hts (.fieldLink RX0 28 "CountedHeap$Memory" "counts" "[I") (by decide +kernel)
  have fl41 := hts (.fieldLink RX0 41 "CountedHeap$Memory" "usedTotal" "I") (by decide +kernel)
  have b2 : ∀ (k2 : St → Int32 → Int32 → Option (Int32 × St)) (hk2 : ∀ (x1 x2 : Int32) (u : St), k2 u x1 x2 = some o → GW p l e (rmK 2 43) s m args below meth c Q dC dI (wC a cI cZ) A 3 2 [(0, .ref (a 0)), (1, .int x1), (2, .int x2)] [] u) (x1 x2 : Int32) (u : St), F_X0_makeBlock_2 k2 u x1 x2 = some o → GW p l e (rmK 2 43) s m args below meth c Q dC dI (wC a cI cZ) A 3 2 [(0, .ref (a 0)), (1, .int x1), (2, .int x2)] [] u := by
      intro k2 hk2 x1 x2 u hF H locs ls hP hD hS hl
      unfold F_X0_makeBlock_2 at hF
      refine lv_iload_n hx hb dX0_makeBlock_2 rfl (lv_at hl 2 rfl) ?_
      refine lv_bipush (v := 24) hx hb dX0_makeBlock_3 (by decide) ?_
      refine lv_icmp_gt (tgt := 61) hx hb dX0_makeBlock_5 (by decide) (fun h1 => ?_) (fun h1 => ?_)
      · replace hF := ip h1 hF
        refine lv_iconst (v := 0) hx hb dX0_makeBlock_61 (by decide) ?_
        exact hQ _ _ _ _ _ _ (Option.some.inj hF) (vp_nar_int _) hP hD hS dX0_makeBlock_62
      · replace hF := iq h1 hF
        refine lv_aload_n hx hb dX0_makeBlock_8 rfl (lv_at hl 0 rfl) ?_
        refine va_get (D := (dC, dI)) (ci := 0) (v := .ref (a 4)) (C := RX0) (T := TX0) (N := 11) hx hb hts hin hown hK hP 0 rfl rfl 3 (by decide) fl21 (fun _ h9 => h9) rfl dX0_makeBlock_9 ?_
        refine lv_iload_n hx hb dX0_makeBlock_12 rfl (lv_at hl 2 rfl) ?_
        obtain ⟨hi2, hF⟩ := ck hF
        refine va_zald hx hb hK hP 4 1 rfl rfl hi2 dX0_makeBlock_13 ?_
        refine lv_if_ne (tgt := 55) hx hb dX0_makeBlock_14 (by decide) (fun h3 => ?_) (fun h3 => ?_)
        · replace hF := iq h3 hF
          refine lv_iinc (v := (x2 + 1)) (lv' := [(2, .int (x2 + 1)), (0, .ref (a 0)), (1, .int x1)]) hx hb dX0_makeBlock_55 hl (k := 2) rfl rfl (by decide) rfl (fun ls hl => ?_)
          refine lv_goto (tgt := 2) hx hb dX0_makeBlock_58 (by decide) ?_
          exact hk2 x1 ((x2 + 1)) u hF H locs ls hP hD hS (lv_sub hl [1, 2, 0] rfl)
        · replace hF := ip h3 hF
          refine lv_aload_n hx hb dX0_makeBlock_17 rfl (lv_at hl 0 rfl) ?_
          refine va_get (D := (dC, dI)) (ci := 0) (v := .ref (a 4)) (C := RX0) (T := TX0) (N := 11) hx hb hts hin hown hK hP 0 rfl rfl 3 (by decide) fl21 (fun _ h9 => h9) rfl dX0_makeBlock_18 ?_
          refine lv_iload_n hx hb dX0_makeBlock_21 rfl (lv_at hl 2 rfl) ?_
          refine lv_iconst (v := 1) hx hb dX0_makeBlock_22 (by decide) ?_
          obtain ⟨hi4, hF⟩ := ck hF
          refine va_zast hx hb hK hP hD hS 4 1 rfl rfl hi4 dX0_makeBlock_23 (fun H locs hP hD hS => ?_)
          rw [nz1] at hP hD
          replace hP := wC_p4 hP
          replace hD := wC_d4 hD
          replace hF := sbE hF
          generalize (su u 4 x2.toNatClampNeg 1) = u5 at hF hP hD
          refine lv_aload_n hx hb dX0_makeBlock_24 rfl (lv_at hl 0 rfl) ?_
          refine va_get (D := (dC, dI)) (ci := 0) (v := .ref (a 5)) (C := RX0) (T := TX0) (N := 11) hx hb hts hin hown hK hP 0 rfl rfl 4 (by decide) fl25 (fun _ h9 => h9) rfl dX0_makeBlock_25 ?_
          refine lv_iload_n hx hb dX0_makeBlock_28 rfl (lv_at hl 2 rfl) ?_
          refine lv_iload_n hx hb dX0_makeBlock_29 rfl (lv_at hl 1 rfl) ?_
          obtain ⟨hi6, hF⟩ := ck hF
          refine va_iast hx hb hK hP hD hS 5 0 rfl rfl hi6 dX0_makeBlock_30 (fun H locs hP hD hS => ?_)
          replace hP := wC_p5 hP
          replace hD := wC_d5 hD
          replace hF := sbE hF
          generalize (su u5 5 x2.toNatClampNeg x1) = u7 at hF hP hD
          refine lv_aload_n hx hb dX0_makeBlock_31 rfl (lv_at hl 0 rfl) ?_
          refine va_get (D := (dC, dI)) (ci := 0) (v := .ref (a 6)) (C := RX0) (T := TX0) (N := 11) hx hb hts hin hown hK hP 0 rfl rfl 5 (by decide) fl28 (fun _ h9 => h9) rfl dX0_makeBlock_32 ?_
          refine lv_iload_n hx hb dX0_makeBlock_35 rfl (lv_at hl 2 rfl) ?_
          refine lv_iconst (v := 0) hx hb dX0_makeBlock_36 (by decide) ?_
          obtain ⟨hi8, hF⟩ := ck hF
          refine va_iast hx hb hK hP hD hS 6 0 rfl rfl hi8 dX0_makeBlock_37 (fun H locs hP hD hS => ?_)
          replace hP := wC_p6 hP
          replace hD := wC_d6 hD
          replace hF := sbE hF
          generalize (su u7 6 x2.toNatClampNeg 0) = u9 at hF hP hD
          refine lv_aload_n hx hb dX0_makeBlock_38 rfl (lv_at hl 0 rfl) ?_
          refine lv_dup hx hb dX0_makeBlock_39 rfl ?_
          refine va_get (D := (dC, dI)) (ci := 0) (v := .int (u9 0 9)) (C := RX0) (T := TX0) (N := 11) hx hb hts hin hown hK hP 0 rfl rfl 9 (by decide) fl41 (fun _ h9 => h9) rfl dX0_makeBlock_40 ?_
          refine lv_iconst (v := 1) hx hb dX0_makeBlock_43 (by decide) ?_
          refine lv_iadd hx hb dX0_makeBlock_44 ?_
          refine va_put (D := (dC, dI)) (ci := 0) (v := .int ((u9 0 9) + 1)) (ty := .int) (C := RX0) (T := TX0) (N := 11) hx hb hts hin tyX0 tyX0_ok nmX0 hown hK hP hD hS 0 rfl rfl 9 (by decide) fl41 (fun _ h9 => h9) rfl (tyX0_ok 9 (by decide)) rfl rfl (Nat.le_of_ble_eq_true rfl) dX0_makeBlock_45 (fun H locs hP hD hS => ?_)
          replace hP := wC_p0_9 hP
          replace hD := wC_d0_9 hD
          replace hF := sbE hF
          generalize (su u9 0 9 ((u9 0 9) + 1)) = u10 at hF hP hD
          refine lv_aload_n hx hb dX0_makeBlock_48 rfl (lv_at hl 0 rfl) ?_
          refine lv_iload_n hx hb dX0_makeBlock_49 rfl (lv_at hl 2 rfl) ?_
          obtain ⟨q11, e12, hF⟩ := bd hF
          refine callVV (C := RX0) (ci := 0) (q0 := 0) (As := [.int x2]) (rest := []) ⟨hx, hb, hml, hown, hts⟩ (c_X0_emptyWords l dC dI cI cZ a u10 x2 q11 e12) gX0_makeBlock_X0_emptyWords rfl hd_X0_emptyWords rfl rfl rfl ⟨Nat.le_of_ble_eq_true rfl, Nat.le_of_ble_eq_true rfl⟩ True.intro hK hP hD hS hA rfl hl.1 rfl (Nat.le_of_ble_eq_true rfl) dX0_makeBlock_50 (fun H locs hP hD hS => ?_)
          refine lv_iload_n hx hb dX0_makeBlock_53 rfl (lv_at hl 2 rfl) ?_
          exact hQ _ _ _ _ _ _ (Option.some.inj hF) (vp_nar_int _) hP hD hS dX0_makeBlock_54
  have l2 : ∀  (n : Nat) (x1 x2 : Int32) (u : St), L_X0_makeBlock_2  n u x1 x2 = some o → GW p l e (rmK 2 43) s m args below meth c Q dC dI (wC a cI cZ) A 3 2 [(0, .ref (a 0)), (1, .int x1), (2, .int x2)] [] u := by
      intro  n
      induction n with
      | zero =>
        intro x1 x2 u hF
        have hF : (none : Option (Int32 × St)) = some o := hF
        cases hF
      | succ n ih =>
        intro x1 x2 u hF
        exact b2 (L_X0_makeBlock_2 n) ih x1 x2 u hF
  unfold F_X0_makeBlock at hF
  refine lv_iconst (v := 1) hx hb dX0_makeBlock_0 (by decide) ?_
  refine lv_istore_n (lv' := [(2, .int 1), (0, .ref (a 0)), (1, .int x1)]) hx hb dX0_makeBlock_1 rfl hl (by decide) rfl (fun ls hl => ?_)
  exact l2  fuel x1 1 u hF H locs ls hP hD hS (lv_sub hl [1, 2, 0] rfl)
theorem hd_X0_makeBlock : yX0_makeBlock.cls = RX0 ∧ yX0_makeBlock.cls ≠ "java/lang/invoke/MethodHandle" ∧ yX0_makeBlock.cls ≠ "java/lang/invoke/VarHandle" ∧ (parseMethodDescriptor yX0_makeBlock.desc).map (fun d => d.parameters.length) = some 1 := by decide +kernel

def F_X0_reach (u : St) (x1 : Int32) : Option (Int32 × St) := ((F_X0_isBlock u x1).bind fun q1 => (if q1.1 = 0 then (some (0, q1.2)) else (if (x1 < 0 ∨ 25 ≤ x1.toNatClampNeg) then none else (if (q1.2 7 x1.toNatClampNeg) = 0 then (if (x1 < 0 ∨ 25 ≤ x1.toNatClampNeg) then none else (sb (su q1.2 7 x1.toNatClampNeg 1) fun u7 => ((F_X0_enqueue u7 x1).bind fun q8 => (some (0, q8.2))))) else (some (0, q1.2))))))
set_option maxRecDepth 100000 in
set_option maxHeartbeats 4000000 in
theorem c_X0_reach (l : Launch) (dC : Nat → ClassId) (dI : Nat → Nat → Nat) (cI cZ : ClassId) (a : Nat → Nat) (u : St) (x1 : Int32) (o : Int32 × St) (hF : F_X0_reach u x1 = some o) : MV l yX0_reach wsX0_reach 1 21 none dC dI cI cZ (wC a cI cZ) [.ref (a 0), .int x1] u o := by
  refine mvOf (cc := cX0_reach) (maxL := 2) (by decide) rfl (Nat.le_of_ble_eq_true rfl) ?_
  intro p e s m args below meth c A Q H locs ls hx hb hml hts hown hK hA hz hQ hP hD hS hl
  replace hown : s.vm.findClass RX0 = some m.cls := hown
  replace hl : lv_has ls 2 [(0, .ref (a 0)), (1, .int x1)] := hl
  have hin : ∀ w ∈ u_ws RX0 TX0 11, w ∈ wsX0_reach := by decide +kernel
  have fl31 := hts (.fieldLink RX0 31 "CountedHeap$Memory" "reached" "[Z") (by decide +kernel)
  unfold F_X0_reach at hF
  refine lv_aload_n hx hb dX0_reach_0 rfl (lv_at hl 0 rfl) ?_
  refine lv_iload_n hx hb dX0_reach_1 rfl (lv_at hl 1 rfl) ?_
  obtain ⟨q1, e2, hF⟩ := bd hF
  refine callVI (C := RX0) (ci := 0) (q0 := 0) (As := [.int x1]) (rest := []) ⟨hx, hb, hml, hown, hts⟩ (c_X0_isBlock l dC dI cI cZ a u x1 q1 e2) gX0_reach_X0_isBlock rfl hd_X0_isBlock rfl rfl rfl ⟨Nat.le_of_ble_eq_true rfl, Nat.le_of_ble_eq_true rfl⟩ True.intro hK hP hD hS hA rfl hl.1 rfl (Nat.le_of_ble_eq_true rfl) dX0_reach_2 (fun H locs hP hD hS => ?_)
  refine lv_if_eq (tgt := 29) hx hb dX0_reach_5 (by decide) (fun h3 => ?_) (fun h3 => ?_)
  · replace hF := ip h3 hF
    exact hQ _ _ _ _ _ (Option.some.inj hF) hP hD hS dX0_reach_29
  · replace hF := iq h3 hF
    refine lv_aload_n hx hb dX0_reach_8 rfl (lv_at hl 0 rfl) ?_
    refine va_get (D := (dC, dI)) (ci := 0) (v := .ref (a 7)) (C := RX0) (T := TX0) (N := 11) hx hb hts hin hown hK hP 0 rfl rfl 6 (by decide) fl31 (fun _ h9 => h9) rfl dX0_reach_9 ?_
    refine lv_iload_n hx hb dX0_reach_12 rfl (lv_at hl 1 rfl) ?_
    obtain ⟨hi4, hF⟩ := ck hF
    refine va_zald hx hb hK hP 7 1 rfl rfl hi4 dX0_reach_13 ?_
    refine lv_if_ne (tgt := 29) hx hb dX0_reach_14 (by decide) (fun h5 => ?_) (fun h5 => ?_)
    · replace hF := iq h5 hF
      exact hQ _ _ _ _ _ (Option.some.inj hF) hP hD hS dX0_reach_29
    · replace hF := ip h5 hF
      refine lv_aload_n hx hb dX0_reach_17 rfl (lv_at hl 0 rfl) ?_
      refine va_get (D := (dC, dI)) (ci := 0) (v := .ref (a 7)) (C := RX0) (T := TX0) (N := 11) hx hb hts hin hown hK hP 0 rfl rfl 6 (by decide) fl31 (fun _ h9 => h9) rfl dX0_reach_18 ?_
      refine lv_iload_n hx hb dX0_reach_21 rfl (lv_at hl 1 rfl) ?_
      refine lv_iconst (v := 1) hx hb dX0_reach_22 (by decide) ?_
      obtain ⟨hi6, hF⟩ := ck hF
      refine va_zast hx hb hK hP hD hS 7 1 rfl rfl hi6 dX0_reach_23 (fun H locs hP hD hS => ?_)
      rw [nz1] at hP hD
      replace hP := wC_p7 hP
      replace hD := wC_d7 hD
      replace hF := sbE hF
      generalize (su q1.2 7 x1.toNatClampNeg 1) = u7 at hF hP hD
      refine lv_aload_n hx hb dX0_reach_24 rfl (lv_at hl 0 rfl) ?_
      refine lv_iload_n hx hb dX0_reach_25 rfl (lv_at hl 1 rfl) ?_
      obtain ⟨q8, e9, hF⟩ := bd hF
      refine callVV (C := RX0) (ci := 0) (q0 := 0) (As := [.int x1]) (rest := []) ⟨hx, hb, hml, hown, hts⟩ (c_X0_enqueue l dC dI cI cZ a u7 x1 q8 e9) gX0_reach_X0_enqueue rfl hd_X0_enqueue rfl rfl rfl ⟨Nat.le_of_ble_eq_true rfl, Nat.le_of_ble_eq_true rfl⟩ True.intro hK hP hD hS hA rfl hl.1 rfl (Nat.le_of_ble_eq_true rfl) dX0_reach_26 (fun H locs hP hD hS => ?_)
      exact hQ _ _ _ _ _ (Option.some.inj hF) hP hD hS dX0_reach_29
theorem hd_X0_reach : yX0_reach.cls = RX0 ∧ yX0_reach.cls ≠ "java/lang/invoke/MethodHandle" ∧ yX0_reach.cls ≠ "java/lang/invoke/VarHandle" ∧ (parseMethodDescriptor yX0_reach.desc).map (fun d => d.parameters.length) = some 1 := by decide +kernel

def F_X0_reachPointersOf_2 (k2 : St → Int32 → Int32 → Option (Int32 × St)) (u : St) (x1 x2 : Int32) : Option (Int32 × St) := (if 6 ≤ x2 then (some (0, u)) else ((F_X0_isPointerWord u x1 x2).bind fun q2 => (if q2.1 = 0 then k2 q2.2 x1 ((x2 + 1)) else ((F_X0_cellOfWord q2.2 x1 x2).bind fun q5 => (if (q5.1 < 0 ∨ 152 ≤ q5.1.toNatClampNeg) then none else ((F_X0_reach q5.2 ((q5.2 3 q5.1.toNatClampNeg))).bind fun q8 => k2 q8.2 x1 ((x2 + 1))))))))
def L_X0_reachPointersOf_2  : Nat → St → Int32 → Int32 → Option (Int32 × St)
  | 0 => fun _ _ _ => none
  | n + 1 => fun u x1 x2 => F_X0_reachPointersOf_2 (L_X0_reachPointersOf_2 n) u x1 x2
def F_X0_reachPointersOf (u : St) (x1 : Int32) : Option (Int32 × St) := L_X0_reachPointersOf_2 fuel u x1 0
set_option maxRecDepth 100000 in
set_option maxHeartbeats 4000000 in
theorem c_X0_reachPointersOf (l : Launch) (dC : Nat → ClassId) (dI : Nat → Nat → Nat) (cI cZ : ClassId) (a : Nat → Nat) (u : St) (x1 : Int32) (o : Int32 × St) (hF : F_X0_reachPointersOf u x1 = some o) : MV l yX0_reachPointersOf wsX0_reachPointersOf 3 65 none dC dI cI cZ (wC a cI cZ) [.ref (a 0), .int x1] u o := by
  refine mvOf (cc := cX0_reachPointersOf) (maxL := 3) (by decide) rfl (Nat.le_of_ble_eq_true rfl) ?_
  intro p e s m args below meth c A Q H locs ls hx hb hml hts hown hK hA hz hQ hP hD hS hl
  replace hown : s.vm.findClass RX0 = some m.cls := hown
  replace hl : lv_has ls 3 [(0, .ref (a 0)), (1, .int x1)] := hl
  have hin : ∀ w ∈ u_ws RX0 TX0 11, w ∈ wsX0_reachPointersOf := by decide +kernel
  have fl18 := hts (.fieldLink RX0 18 "CountedHeap$Memory" "cells" "[I") (by decide +kernel)
  have b2 : ∀ (k2 : St → Int32 → Int32 → Option (Int32 × St)) (hk2 : ∀ (x1 x2 : Int32) (u : St), k2 u x1 x2 = some o → GW p l e (rmK 3 65) s m args below meth c Q dC dI (wC a cI cZ) A 3 2 [(0, .ref (a 0)), (1, .int x1), (2, .int x2)] [] u) (x1 x2 : Int32) (u : St), F_X0_reachPointersOf_2 k2 u x1 x2 = some o → GW p l e (rmK 3 65) s m args below meth c Q dC dI (wC a cI cZ) A 3 2 [(0, .ref (a 0)), (1, .int x1), (2, .int x2)] [] u := by
      intro k2 hk2 x1 x2 u hF H locs ls hP hD hS hl
      unfold F_X0_reachPointersOf_2 at hF
      refine lv_iload_n hx hb dX0_reachPointersOf_2 rfl (lv_at hl 2 rfl) ?_
      refine lv_bipush (v := 6) hx hb dX0_reachPointersOf_3 (by decide) ?_
      refine lv_icmp_ge (tgt := 37) hx hb dX0_reachPointersOf_5 (by decide) (fun h1 => ?_) (fun h1 => ?_)
      · replace hF := ip h1 hF
        exact hQ _ _ _ _ _ (Option.some.inj hF) hP hD hS dX0_reachPointersOf_37
      · replace hF := iq h1 hF
        refine lv_aload_n hx hb dX0_reachPointersOf_8 rfl (lv_at hl 0 rfl) ?_
        refine lv_iload_n hx hb dX0_reachPointersOf_9 rfl (lv_at hl 1 rfl) ?_
        refine lv_iload_n hx hb dX0_reachPointersOf_10 rfl (lv_at hl 2 rfl) ?_
        obtain ⟨q2, e3, hF⟩ := bd hF
        refine callVI (C := RX0) (ci := 0) (q0 := 0) (As := [.int x1, .int x2]) (rest := []) ⟨hx, hb, hml, hown, hts⟩ (c_X0_isPointerWord l dC dI cI cZ a u x1 x2 q2 e3) gX0_reachPointersOf_X0_isPointerWord rfl hd_X0_isPointerWord rfl rfl rfl ⟨Nat.le_of_ble_eq_true rfl, Nat.le_of_ble_eq_true rfl⟩ True.intro hK hP hD hS hA rfl hl.1 rfl (Nat.le_of_ble_eq_true rfl) dX0_reachPointersOf_11 (fun H locs hP hD hS => ?_)
        refine lv_if_eq (tgt := 31) hx hb dX0_reachPointersOf_14 (by decide) (fun h4 => ?_) (fun h4 => ?_)
        · replace hF := ip h4 hF
          refine lv_iinc (v := (x2 + 1)) (lv' := [(2, .int (x2 + 1)), (0, .ref (a 0)), (1, .int x1)]) hx hb dX0_reachPointersOf_31 hl (k := 2) rfl rfl (by decide) rfl (fun ls hl => ?_)
          refine lv_goto (tgt := 2) hx hb dX0_reachPointersOf_34 (by decide) ?_
          exact hk2 x1 ((x2 + 1)) q2.2 hF H locs ls hP hD hS (lv_sub hl [1, 2, 0] rfl)
        · replace hF := iq h4 hF
          refine lv_aload_n hx hb dX0_reachPointersOf_17 rfl (lv_at hl 0 rfl) ?_
          refine lv_aload_n hx hb dX0_reachPointersOf_18 rfl (lv_at hl 0 rfl) ?_
          refine va_get (D := (dC, dI)) (ci := 0) (v := .ref (a 3)) (C := RX0) (T := TX0) (N := 11) hx hb hts hin hown hK hP 0 rfl rfl 2 (by decide) fl18 (fun _ h9 => h9) rfl dX0_reachPointersOf_19 ?_
          refine lv_iload_n hx hb dX0_reachPointersOf_22 rfl (lv_at hl 1 rfl) ?_
          refine lv_iload_n hx hb dX0_reachPointersOf_23 rfl (lv_at hl 2 rfl) ?_
          obtain ⟨q5, e6, hF⟩ := bd hF
          refine callSI (As := [.int x1, .int x2]) (rest := [.ref (a 3), .ref (a 0)]) ⟨hx, hb, hml, hown, hts⟩ (c_X0_cellOfWord l dC dI cI cZ a q2.2 x1 x2 q5 e6) gX0_reachPointersOf_X0_cellOfWord rfl hd_X0_cellOfWord ⟨Nat.le_of_ble_eq_true rfl, Nat.le_of_ble_eq_true rfl⟩ True.intro hK hP hD hS hA rfl hl.1 rfl (Nat.le_of_ble_eq_true rfl) dX0_reachPointersOf_24 (fun H locs hP hD hS => ?_)
          obtain ⟨hi7, hF⟩ := ck hF
          refine va_iald hx hb hK hP 3 0 rfl rfl hi7 dX0_reachPointersOf_27 ?_
          obtain ⟨q8, e9, hF⟩ := bd hF
          refine callVV (C := RX0) (ci := 0) (q0 := 0) (As := [.int (q5.2 3 q5.1.toNatClampNeg)]) (rest := []) ⟨hx, hb, hml, hown, hts⟩ (c_X0_reach l dC dI cI cZ a q5.2 ((q5.2 3 q5.1.toNatClampNeg)) q8 e9) gX0_reachPointersOf_X0_reach rfl hd_X0_reach rfl rfl rfl ⟨Nat.le_of_ble_eq_true rfl, Nat.le_of_ble_eq_true rfl⟩ True.intro hK hP hD hS hA rfl hl.1 rfl (Nat.le_of_ble_eq_true rfl) dX0_reachPointersOf_28 (fun H locs hP hD hS => ?_)
          refine lv_iinc (v := (x2 + 1)) (lv' := [(2, .int (x2 + 1)), (0, .ref (a 0)), (1, .int x1)]) hx hb dX0_reachPointersOf_31 hl (k := 2) rfl rfl (by decide) rfl (fun ls hl => ?_)
          refine lv_goto (tgt := 2) hx hb dX0_reachPointersOf_34 (by decide) ?_
          exact hk2 x1 ((x2 + 1)) q8.2 hF H locs ls hP hD hS (lv_sub hl [1, 2, 0] rfl)
  have l2 : ∀  (n : Nat) (x1 x2 : Int32) (u : St), L_X0_reachPointersOf_2  n u x1 x2 = some o → GW p l e (rmK 3 65) s m args below meth c Q dC dI (wC a cI cZ) A 3 2 [(0, .ref (a 0)), (1, .int x1), (2, .int x2)] [] u := by
      intro  n
      induction n with
      | zero =>
        intro x1 x2 u hF
        have hF : (none : Option (Int32 × St)) = some o := hF
        cases hF
      | succ n ih =>
        intro x1 x2 u hF
        exact b2 (L_X0_reachPointersOf_2 n) ih x1 x2 u hF
  unfold F_X0_reachPointersOf at hF
  refine lv_iconst (v := 0) hx hb dX0_reachPointersOf_0 (by decide) ?_
  refine lv_istore_n (lv' := [(2, .int 0), (0, .ref (a 0)), (1, .int x1)]) hx hb dX0_reachPointersOf_1 rfl hl (by decide) rfl (fun ls hl => ?_)
  exact l2  fuel x1 0 u hF H locs ls hP hD hS (lv_sub hl [1, 2, 0] rfl)
theorem hd_X0_reachPointersOf : yX0_reachPointersOf.cls = RX0 ∧ yX0_reachPointersOf.cls ≠ "java/lang/invoke/MethodHandle" ∧ yX0_reachPointersOf.cls ≠ "java/lang/invoke/VarHandle" ∧ (parseMethodDescriptor yX0_reachPointersOf.desc).map (fun d => d.parameters.length) = some 1 := by decide +kernel

def F_X0_findLost_83 (u : St) : Option (Int32 × St) := (some (((u 0 9) - (u 0 8)), u))
def F_X0_findLost_53 (k53 : St → Int32 → Option (Int32 × St)) (u : St) (x1 : Int32) : Option (Int32 × St) := (if (u 0 8) ≤ x1 then F_X0_findLost_83 u else (if 24 ≤ x1 then F_X0_findLost_83 u else (if (x1 < 0 ∨ 24 ≤ x1.toNatClampNeg) then none else ((F_X0_reachPointersOf u ((u 8 x1.toNatClampNeg))).bind fun q4 => k53 q4.2 ((x1 + 1))))))
def L_X0_findLost_53  : Nat → St → Int32 → Option (Int32 × St)
  | 0 => fun _ _ => none
  | n + 1 => fun u x1 => F_X0_findLost_53 (L_X0_findLost_53 n) u x1
def F_X0_findLost_28 (k28 : St → Int32 → Option (Int32 × St)) (u : St) (x1 : Int32) : Option (Int32 × St) := (if 4 ≤ x1 then L_X0_findLost_53 fuel u 0 else (if ((4 + x1) < 0 ∨ 152 ≤ (4 + x1).toNatClampNeg) then none else ((F_X0_reach u ((u 3 (4 + x1).toNatClampNeg))).bind fun q3 => k28 q3.2 ((x1 + 1)))))
def L_X0_findLost_28  : Nat → St → Int32 → Option (Int32 × St)
  | 0 => fun _ _ => none
  | n + 1 => fun u x1 => F_X0_findLost_28 (L_X0_findLost_28 n) u x1
def F_X0_findLost_7 (k7 : St → Int32 → Option (Int32 × St)) (u : St) (x1 : Int32) : Option (Int32 × St) := (if 24 < x1 then L_X0_findLost_28 fuel u 0 else (if (x1 < 0 ∨ 25 ≤ x1.toNatClampNeg) then none else k7 (su u 7 x1.toNatClampNeg 0) ((x1 + 1))))
def L_X0_findLost_7  : Nat → St → Int32 → Option (Int32 × St)
  | 0 => fun _ _ => none
  | n + 1 => fun u x1 => F_X0_findLost_7 (L_X0_findLost_7 n) u x1
def F_X0_findLost (u : St) : Option (Int32 × St) := (sb (su u 0 8 0) fun u1 => L_X0_findLost_7 fuel u1 1)
set_option maxRecDepth 100000 in
set_option maxHeartbeats 4000000 in
theorem c_X0_findLost (l : Launch) (dC : Nat → ClassId) (dI : Nat → Nat → Nat) (cI cZ : ClassId) (a : Nat → Nat) (u : St) (o : Int32 × St) (hF : F_X0_findLost u = some o) : MI l yX0_findLost wsX0_findLost 4 87 none dC dI cI cZ (wC a cI cZ) [.ref (a 0)] u o := by
  refine miOf (cc := cX0_findLost) (maxL := 2) (ret := .int) (by decide) rfl (Nat.le_of_ble_eq_true rfl) ?_
  intro p e s m args below meth c A Q H locs ls hx hb hml hts hown hK hA hz hQ hP hD hS hl
  replace hown : s.vm.findClass RX0 = some m.cls := hown
  replace hl : lv_has ls 2 [(0, .ref (a 0))] := hl
  have hin : ∀ w ∈ u_ws RX0 TX0 11, w ∈ wsX0_findLost := by decide +kernel
  have fl18 := hts (.fieldLink RX0 18 "CountedHeap$Memory" "cells" "[I") (by decide +kernel)
  have fl31 := hts (.fieldLink RX0 31 "CountedHeap$Memory" "reached" "[Z") (by decide +kernel)
  have fl34 := hts (.fieldLink RX0 34 "CountedHeap$Memory" "queue" "[I") (by decide +kernel)
  have fl37 := hts (.fieldLink RX0 37 "CountedHeap$Memory" "queued" "I") (by decide +kernel)
  have fl41 := hts (.fieldLink RX0 41 "CountedHeap$Memory" "usedTotal" "I") (by decide +kernel)
  have b83 : ∀   (u : St), F_X0_findLost_83 u  = some o → GW p l e (rmK 4 87) s m args below meth c Q dC dI (wC a cI cZ) A 2 83 [(0, .ref (a 0))] [] u := by
      intro   u hF H locs ls hP hD hS hl
      unfold F_X0_findLost_83 at hF
      refine lv_aload_n hx hb dX0_findLost_83 rfl (lv_at hl 0 rfl) ?_
      refine va_get (D := (dC, dI)) (ci := 0) (v := .int (u 0 9)) (C := RX0) (T := TX0) (N := 11) hx hb hts hin hown hK hP 0 rfl rfl 9 (by decide) fl41 (fun _ h9 => h9) rfl dX0_findLost_84 ?_
      refine lv_aload_n hx hb dX0_findLost_87 rfl (lv_at hl 0 rfl) ?_
      refine va_get (D := (dC, dI)) (ci := 0) (v := .int (u 0 8)) (C := RX0) (T := TX0) (N := 11) hx hb hts hin hown hK hP 0 rfl rfl 8 (by decide) fl37 (fun _ h9 => h9) rfl dX0_findLost_88 ?_
      refine lv_isub hx hb dX0_findLost_91 ?_
      exact hQ _ _ _ _ _ _ (Option.some.inj hF) (vp_nar_int _) hP hD hS dX0_findLost_92
  have b53 : ∀ (k53 : St → Int32 → Option (Int32 × St)) (hk53 : ∀ (x1 : Int32) (u : St), k53 u x1 = some o → GW p l e (rmK 4 87) s m args below meth c Q dC dI (wC a cI cZ) A 2 53 [(0, .ref (a 0)), (1, .int x1)] [] u) (x1 : Int32) (u : St), F_X0_findLost_53 k53 u x1 = some o → GW p l e (rmK 4 87) s m args below meth c Q dC dI (wC a cI cZ) A 2 53 [(0, .ref (a 0)), (1, .int x1)] [] u := by
      intro k53 hk53 x1 u hF H locs ls hP hD hS hl
      unfold F_X0_findLost_53 at hF
      refine lv_iload_n hx hb dX0_findLost_53 rfl (lv_at hl 1 rfl) ?_
      refine lv_aload_n hx hb dX0_findLost_54 rfl (lv_at hl 0 rfl) ?_
      refine va_get (D := (dC, dI)) (ci := 0) (v := .int (u 0 8)) (C := RX0) (T := TX0) (N := 11) hx hb hts hin hown hK hP 0 rfl rfl 8 (by decide) fl37 (fun _ h9 => h9) rfl dX0_findLost_55 ?_
      refine lv_icmp_ge (tgt := 83) hx hb dX0_findLost_58 (by decide) (fun h1 => ?_) (fun h1 => ?_)
      · replace hF := ip h1 hF
        exact b83   u hF H locs ls hP hD hS (lv_sub hl [0] rfl)
      · replace hF := iq h1 hF
        refine lv_iload_n hx hb dX0_findLost_61 rfl (lv_at hl 1 rfl) ?_
        refine lv_bipush (v := 24) hx hb dX0_findLost_62 (by decide) ?_
        refine lv_icmp_ge (tgt := 83) hx hb dX0_findLost_64 (by decide) (fun h2 => ?_) (fun h2 => ?_)
        · replace hF := ip h2 hF
          exact b83   u hF H locs ls hP hD hS (lv_sub hl [0] rfl)
        · replace hF := iq h2 hF
          refine lv_aload_n hx hb dX0_findLost_67 rfl (lv_at hl 0 rfl) ?_
          refine lv_aload_n hx hb dX0_findLost_68 rfl (lv_at hl 0 rfl) ?_
          refine va_get (D := (dC, dI)) (ci := 0) (v := .ref (a 8)) (C := RX0) (T := TX0) (N := 11) hx hb hts hin hown hK hP 0 rfl rfl 7 (by decide) fl34 (fun _ h9 => h9) rfl dX0_findLost_69 ?_
          refine lv_iload_n hx hb dX0_findLost_72 rfl (lv_at hl 1 rfl) ?_
          obtain ⟨hi3, hF⟩ := ck hF
          refine va_iald hx hb hK hP 8 0 rfl rfl hi3 dX0_findLost_73 ?_
          obtain ⟨q4, e5, hF⟩ := bd hF
          refine callVV (C := RX0) (ci := 0) (q0 := 0) (As := [.int (u 8 x1.toNatClampNeg)]) (rest := []) ⟨hx, hb, hml, hown, hts⟩ (c_X0_reachPointersOf l dC dI cI cZ a u ((u 8 x1.toNatClampNeg)) q4 e5) gX0_findLost_X0_reachPointersOf rfl hd_X0_reachPointersOf rfl rfl rfl ⟨Nat.le_of_ble_eq_true rfl, Nat.le_of_ble_eq_true rfl⟩ True.intro hK hP hD hS hA rfl hl.1 rfl (Nat.le_of_ble_eq_true rfl) dX0_findLost_74 (fun H locs hP hD hS => ?_)
          refine lv_iinc (v := (x1 + 1)) (lv' := [(1, .int (x1 + 1)), (0, .ref (a 0))]) hx hb dX0_findLost_77 hl (k := 1) rfl rfl (by decide) rfl (fun ls hl => ?_)
          refine lv_goto (tgt := 53) hx hb dX0_findLost_80 (by decide) ?_
          exact hk53 ((x1 + 1)) q4.2 hF H locs ls hP hD hS (lv_sub hl [1, 0] rfl)
  have l53 : ∀  (n : Nat) (x1 : Int32) (u : St), L_X0_findLost_53  n u x1 = some o → GW p l e (rmK 4 87) s m args below meth c Q dC dI (wC a cI cZ) A 2 53 [(0, .ref (a 0)), (1, .int x1)] [] u := by
      intro  n
      induction n with
      | zero =>
        intro x1 u hF
        have hF : (none : Option (Int32 × St)) = some o := hF
        cases hF
      | succ n ih =>
        intro x1 u hF
        exact b53 (L_X0_findLost_53 n) ih x1 u hF
  have b28 : ∀ (k28 : St → Int32 → Option (Int32 × St)) (hk28 : ∀ (x1 : Int32) (u : St), k28 u x1 = some o → GW p l e (rmK 4 87) s m args below meth c Q dC dI (wC a cI cZ) A 2 28 [(0, .ref (a 0)), (1, .int x1)] [] u) (x1 : Int32) (u : St), F_X0_findLost_28 k28 u x1 = some o → GW p l e (rmK 4 87) s m args below meth c Q dC dI (wC a cI cZ) A 2 28 [(0, .ref (a 0)), (1, .int x1)] [] u := by
      intro k28 hk28 x1 u hF H locs ls hP hD hS hl
      unfold F_X0_findLost_28 at hF
      refine lv_iload_n hx hb dX0_findLost_28 rfl (lv_at hl 1 rfl) ?_
      refine lv_iconst (v := 4) hx hb dX0_findLost_29 (by decide) ?_
      refine lv_icmp_ge (tgt := 51) hx hb dX0_findLost_30 (by decide) (fun h1 => ?_) (fun h1 => ?_)
      · replace hF := ip h1 hF
        refine lv_iconst (v := 0) hx hb dX0_findLost_51 (by decide) ?_
        refine lv_istore_n (lv' := [(1, .int 0), (0, .ref (a 0))]) hx hb dX0_findLost_52 rfl hl (by decide) rfl (fun ls hl => ?_)
        exact l53  fuel 0 u hF H locs ls hP hD hS (lv_sub hl [1, 0] rfl)
      · replace hF := iq h1 hF
        refine lv_aload_n hx hb dX0_findLost_33 rfl (lv_at hl 0 rfl) ?_
        refine lv_aload_n hx hb dX0_findLost_34 rfl (lv_at hl 0 rfl) ?_
        refine va_get (D := (dC, dI)) (ci := 0) (v := .ref (a 3)) (C := RX0) (T := TX0) (N := 11) hx hb hts hin hown hK hP 0 rfl rfl 2 (by decide) fl18 (fun _ h9 => h9) rfl dX0_findLost_35 ?_
        refine lv_iconst (v := 4) hx hb dX0_findLost_38 (by decide) ?_
        refine lv_iload_n hx hb dX0_findLost_39 rfl (lv_at hl 1 rfl) ?_
        refine lv_iadd hx hb dX0_findLost_40 ?_
        obtain ⟨hi2, hF⟩ := ck hF
        refine va_iald hx hb hK hP 3 0 rfl rfl hi2 dX0_findLost_41 ?_
        obtain ⟨q3, e4, hF⟩ := bd hF
        refine callVV (C := RX0) (ci := 0) (q0 := 0) (As := [.int (u 3 (4 + x1).toNatClampNeg)]) (rest := []) ⟨hx, hb, hml, hown, hts⟩ (c_X0_reach l dC dI cI cZ a u ((u 3 (4 + x1).toNatClampNeg)) q3 e4) gX0_findLost_X0_reach rfl hd_X0_reach rfl rfl rfl ⟨Nat.le_of_ble_eq_true rfl, Nat.le_of_ble_eq_true rfl⟩ True.intro hK hP hD hS hA rfl hl.1 rfl (Nat.le_of_ble_eq_true rfl) dX0_findLost_42 (fun H locs hP hD hS => ?_)
        refine lv_iinc (v := (x1 + 1)) (lv' := [(1, .int (x1 + 1)), (0, .ref (a 0))]) hx hb dX0_findLost_45 hl (k := 1) rfl rfl (by decide) rfl (fun ls hl => ?_)
        refine lv_goto (tgt := 28) hx hb dX0_findLost_48 (by decide) ?_
        exact hk28 ((x1 + 1)) q3.2 hF H locs ls hP hD hS (lv_sub hl [1, 0] rfl)
  have l28 : ∀  (n : Nat) (x1 : Int32) (u : St), L_X0_findLost_28  n u x1 = some o → GW p l e (rmK 4 87) s m args below meth c Q dC dI (wC a cI cZ) A 2 28 [(0, .ref (a 0)), (1, .int x1)] [] u := by
      intro  n
      induction n with
      | zero =>
        intro x1 u hF
        have hF : (none : Option (Int32 × St)) = some o := hF
        cases hF
      | succ n ih =>
        intro x1 u hF
        exact b28 (L_X0_findLost_28 n) ih x1 u hF
  have b7 : ∀ (k7 : St → Int32 → Option (Int32 × St)) (hk7 : ∀ (x1 : Int32) (u : St), k7 u x1 = some o → GW p l e (rmK 4 87) s m args below meth c Q dC dI (wC a cI cZ) A 2 7 [(0, .ref (a 0)), (1, .int x1)] [] u) (x1 : Int32) (u : St), F_X0_findLost_7 k7 u x1 = some o → GW p l e (rmK 4 87) s m args below meth c Q dC dI (wC a cI cZ) A 2 7 [(0, .ref (a 0)), (1, .int x1)] [] u := by
      intro k7 hk7 x1 u hF H locs ls hP hD hS hl
      unfold F_X0_findLost_7 at hF
      refine lv_iload_n hx hb dX0_findLost_7 rfl (lv_at hl 1 rfl) ?_
      refine lv_bipush (v := 24) hx hb dX0_findLost_8 (by decide) ?_
      refine lv_icmp_gt (tgt := 26) hx hb dX0_findLost_10 (by decide) (fun h1 => ?_) (fun h1 => ?_)
      · replace hF := ip h1 hF
        refine lv_iconst (v := 0) hx hb dX0_findLost_26 (by decide) ?_
        refine lv_istore_n (lv' := [(1, .int 0), (0, .ref (a 0))]) hx hb dX0_findLost_27 rfl hl (by decide) rfl (fun ls hl => ?_)
        exact l28  fuel 0 u hF H locs ls hP hD hS (lv_sub hl [1, 0] rfl)
      · replace hF := iq h1 hF
        refine lv_aload_n hx hb dX0_findLost_13 rfl (lv_at hl 0 rfl) ?_
        refine va_get (D := (dC, dI)) (ci := 0) (v := .ref (a 7)) (C := RX0) (T := TX0) (N := 11) hx hb hts hin hown hK hP 0 rfl rfl 6 (by decide) fl31 (fun _ h9 => h9) rfl dX0_findLost_14 ?_
        refine lv_iload_n hx hb dX0_findLost_17 rfl (lv_at hl 1 rfl) ?_
        refine lv_iconst (v := 0) hx hb dX0_findLost_18 (by decide) ?_
        obtain ⟨hi2, hF⟩ := ck hF
        refine va_zast hx hb hK hP hD hS 7 1 rfl rfl hi2 dX0_findLost_19 (fun H locs hP hD hS => ?_)
        rw [nz0] at hP hD
        replace hP := wC_p7 hP
        replace hD := wC_d7 hD
        refine lv_iinc (v := (x1 + 1)) (lv' := [(1, .int (x1 + 1)), (0, .ref (a 0))]) hx hb dX0_findLost_20 hl (k := 1) rfl rfl (by decide) rfl (fun ls hl => ?_)
        refine lv_goto (tgt := 7) hx hb dX0_findLost_23 (by decide) ?_
        exact hk7 ((x1 + 1)) (su u 7 x1.toNatClampNeg 0) hF H locs ls hP hD hS (lv_sub hl [1, 0] rfl)
  have l7 : ∀  (n : Nat) (x1 : Int32) (u : St), L_X0_findLost_7  n u x1 = some o → GW p l e (rmK 4 87) s m args below meth c Q dC dI (wC a cI cZ) A 2 7 [(0, .ref (a 0)), (1, .int x1)] [] u := by
      intro  n
      induction n with
      | zero =>
        intro x1 u hF
        have hF : (none : Option (Int32 × St)) = some o := hF
        cases hF
      | succ n ih =>
        intro x1 u hF
        exact b7 (L_X0_findLost_7 n) ih x1 u hF
  unfold F_X0_findLost at hF
  refine lv_aload_n hx hb dX0_findLost_0 rfl (lv_at hl 0 rfl) ?_
  refine lv_iconst (v := 0) hx hb dX0_findLost_1 (by decide) ?_
  refine va_put (D := (dC, dI)) (ci := 0) (v := .int 0) (ty := .int) (C := RX0) (T := TX0) (N := 11) hx hb hts hin tyX0 tyX0_ok nmX0 hown hK hP hD hS 0 rfl rfl 8 (by decide) fl37 (fun _ h9 => h9) rfl (tyX0_ok 8 (by decide)) rfl rfl (Nat.le_of_ble_eq_true rfl) dX0_findLost_2 (fun H locs hP hD hS => ?_)
  replace hP := wC_p0_8 hP
  replace hD := wC_d0_8 hD
  replace hF := sbE hF
  generalize (su u 0 8 0) = u1 at hF hP hD
  refine lv_iconst (v := 1) hx hb dX0_findLost_5 (by decide) ?_
  refine lv_istore_n (lv' := [(1, .int 1), (0, .ref (a 0))]) hx hb dX0_findLost_6 rfl hl (by decide) rfl (fun ls hl => ?_)
  exact l7  fuel 1 u1 hF H locs ls hP hD hS (lv_sub hl [1, 0] rfl)
theorem hd_X0_findLost : yX0_findLost.cls = RX0 ∧ yX0_findLost.cls ≠ "java/lang/invoke/MethodHandle" ∧ yX0_findLost.cls ≠ "java/lang/invoke/VarHandle" ∧ (parseMethodDescriptor yX0_findLost.desc).map (fun d => d.parameters.length) = some 0 := by decide +kernel

def F_X0_takeOffCountsOf_2 (k2 : St → Int32 → Int32 → Option (Int32 × St)) (u : St) (x1 x2 : Int32) : Option (Int32 × St) := (if 6 ≤ x2 then (some (0, u)) else ((F_X0_isPointerWord u x1 x2).bind fun q2 => (if q2.1 = 0 then k2 q2.2 x1 ((x2 + 1)) else ((F_X0_cellOfWord q2.2 x1 x2).bind fun q5 => (if (q5.1 < 0 ∨ 152 ≤ q5.1.toNatClampNeg) then none else ((F_X0_isBlock q5.2 ((q5.2 3 q5.1.toNatClampNeg))).bind fun q8 => (if q8.1 = 0 then k2 q8.2 x1 ((x2 + 1)) else (if ((q5.2 3 q5.1.toNatClampNeg) < 0 ∨ 25 ≤ (q5.2 3 q5.1.toNatClampNeg).toNatClampNeg) then none else (if (q8.2 7 (q5.2 3 q5.1.toNatClampNeg).toNatClampNeg) = 0 then k2 q8.2 x1 ((x2 + 1)) else (if ((q5.2 3 q5.1.toNatClampNeg) < 0 ∨ 25 ≤ (q5.2 3 q5.1.toNatClampNeg).toNatClampNeg) then none else (if ((q5.2 3 q5.1.toNatClampNeg) < 0 ∨ 25 ≤ (q5.2 3 q5.1.toNatClampNeg).toNatClampNeg) then none else k2 (su q8.2 6 (q5.2 3 q5.1.toNatClampNeg).toNatClampNeg ((q8.2 6 (q5.2 3 q5.1.toNatClampNeg).toNatClampNeg) - 1)) x1 ((x2 + 1)))))))))))))
def L_X0_takeOffCountsOf_2  : Nat → St → Int32 → Int32 → Option (Int32 × St)
  | 0 => fun _ _ _ => none
  | n + 1 => fun u x1 x2 => F_X0_takeOffCountsOf_2 (L_X0_takeOffCountsOf_2 n) u x1 x2
def F_X0_takeOffCountsOf (u : St) (x1 : Int32) : Option (Int32 × St) := L_X0_takeOffCountsOf_2 fuel u x1 0
set_option maxRecDepth 100000 in
set_option maxHeartbeats 4000000 in
theorem c_X0_takeOffCountsOf (l : Launch) (dC : Nat → ClassId) (dI : Nat → Nat → Nat) (cI cZ : ClassId) (a : Nat → Nat) (u : St) (x1 : Int32) (o : Int32 × St) (hF : F_X0_takeOffCountsOf u x1 = some o) : MV l yX0_takeOffCountsOf wsX0_takeOffCountsOf 3 65 none dC dI cI cZ (wC a cI cZ) [.ref (a 0), .int x1] u o := by
  refine mvOf (cc := cX0_takeOffCountsOf) (maxL := 4) (by decide) rfl (Nat.le_of_ble_eq_true rfl) ?_
  intro p e s m args below meth c A Q H locs ls hx hb hml hts hown hK hA hz hQ hP hD hS hl
  replace hown : s.vm.findClass RX0 = some m.cls := hown
  replace hl : lv_has ls 4 [(0, .ref (a 0)), (1, .int x1)] := hl
  have hin : ∀ w ∈ u_ws RX0 TX0 11, w ∈ wsX0_takeOffCountsOf := by decide +kernel
  have fl18 := hts (.fieldLink RX0 18 "CountedHeap$Memory" "cells" "[I") (by decide +kernel)
  have fl28 := hts (.fieldLink RX0 28 "CountedHeap$Memory" "counts" "[I") (by decide +kernel)
  have fl31 := hts (.fieldLink RX0 31 "CountedHeap$Memory" "reached" "[Z") (by decide +kernel)
  have b2 : ∀ (k2 : St → Int32 → Int32 → Option (Int32 × St)) (hk2 : ∀ (x1 x2 : Int32) (u : St), k2 u x1 x2 = some o → GW p l e (rmK 3 65) s m args below meth c Q dC dI (wC a cI cZ) A 4 2 [(0, .ref (a 0)), (1, .int x1), (2, .int x2)] [] u) (x1 x2 : Int32) (u : St), F_X0_takeOffCountsOf_2 k2 u x1 x2 = some o → GW p l e (rmK 3 65) s m args below meth c Q dC dI (wC a cI cZ) A 4 2 [(0, .ref (a 0)), (1, .int x1), (2, .int x2)] [] u := by
      intro k2 hk2 x1 x2 u hF H locs ls hP hD hS hl
      unfold F_X0_takeOffCountsOf_2 at hF
      refine lv_iload_n hx hb dX0_takeOffCountsOf_2 rfl (lv_at hl 2 rfl) ?_
      refine lv_bipush (v := 6) hx hb dX0_takeOffCountsOf_3 (by decide) ?_
      refine lv_icmp_ge (tgt := 61) hx hb dX0_takeOffCountsOf_5 (by decide) (fun h1 => ?_) (fun h1 => ?_)
      · replace hF := ip h1 hF
        exact hQ _ _ _ _ _ (Option.some.inj hF) hP hD hS dX0_takeOffCountsOf_61
      · replace hF := iq h1 hF
        refine lv_aload_n hx hb dX0_takeOffCountsOf_8 rfl (lv_at hl 0 rfl) ?_
        refine lv_iload_n hx hb dX0_takeOffCountsOf_9 rfl (lv_at hl 1 rfl) ?_
        refine lv_iload_n hx hb dX0_takeOffCountsOf_10 rfl (lv_at hl 2 rfl) ?_
        obtain ⟨q2, e3, hF⟩ := bd hF
        refine callVI (C := RX0) (ci := 0) (q0 := 0) (As := [.int x1, .int x2]) (rest := []) ⟨hx, hb, hml, hown, hts⟩ (c_X0_isPointerWord l dC dI cI cZ a u x1 x2 q2 e3) gX0_takeOffCountsOf_X0_isPointerWord rfl hd_X0_isPointerWord rfl rfl rfl ⟨Nat.le_of_ble_eq_true rfl, Nat.le_of_ble_eq_true rfl⟩ True.intro hK hP hD hS hA rfl hl.1 rfl (Nat.le_of_ble_eq_true rfl) dX0_takeOffCountsOf_11 (fun H locs hP hD hS => ?_)
        refine lv_if_eq (tgt := 55) hx hb dX0_takeOffCountsOf_14 (by decide) (fun h4 => ?_) (fun h4 => ?_)
        · replace hF := ip h4 hF
          refine lv_iinc (v := (x2 + 1)) (lv' := [(2, .int (x2 + 1)), (0, .ref (a 0)), (1, .int x1)]) hx hb dX0_takeOffCountsOf_55 hl (k := 2) rfl rfl (by decide) rfl (fun ls hl => ?_)
          refine lv_goto (tgt := 2) hx hb dX0_takeOffCountsOf_58 (by decide) ?_
          exact hk2 x1 ((x2 + 1)) q2.2 hF H locs ls hP hD hS (lv_sub hl [1, 2, 0] rfl)
        · replace hF := iq h4 hF
          refine lv_aload_n hx hb dX0_takeOffCountsOf_17 rfl (lv_at hl 0 rfl) ?_
          refine va_get (D := (dC, dI)) (ci := 0) (v := .ref (a 3)) (C := RX0) (T := TX0) (N := 11) hx hb hts hin hown hK hP 0 rfl rfl 2 (by decide) fl18 (fun _ h9 => h9) rfl dX0_takeOffCountsOf_18 ?_
          refine lv_iload_n hx hb dX0_takeOffCountsOf_21 rfl (lv_at hl 1 rfl) ?_
          refine lv_iload_n hx hb dX0_takeOffCountsOf_22 rfl (lv_at hl 2 rfl) ?_
          obtain ⟨q5, e6, hF⟩ := bd hF
          refine callSI (As := [.int x1, .int x2]) (rest := [.ref (a 3)]) ⟨hx, hb, hml, hown, hts⟩ (c_X0_cellOfWord l dC dI cI cZ a q2.2 x1 x2 q5 e6) gX0_takeOffCountsOf_X0_cellOfWord rfl hd_X0_cellOfWord ⟨Nat.le_of_ble_eq_true rfl, Nat.le_of_ble_eq_true rfl⟩ True.intro hK hP hD hS hA rfl hl.1 rfl (Nat.le_of_ble_eq_true rfl) dX0_takeOffCountsOf_23 (fun H locs hP hD hS => ?_)
          obtain ⟨hi7, hF⟩ := ck hF
          refine va_iald hx hb hK hP 3 0 rfl rfl hi7 dX0_takeOffCountsOf_26 ?_
          refine lv_istore_n (lv' := [(3, .int (q5.2 3 q5.1.toNatClampNeg)), (0, .ref (a 0)), (1, .int x1), (2, .int x2)]) hx hb dX0_takeOffCountsOf_27 rfl hl (by decide) rfl (fun ls hl => ?_)
          refine lv_aload_n hx hb dX0_takeOffCountsOf_28 rfl (lv_at hl 1 rfl) ?_
          refine lv_iload_n hx hb dX0_takeOffCountsOf_29 rfl (lv_at hl 0 rfl) ?_
          obtain ⟨q8, e9, hF⟩ := bd hF
          refine callVI (C := RX0) (ci := 0) (q0 := 0) (As := [.int (q5.2 3 q5.1.toNatClampNeg)]) (rest := []) ⟨hx, hb, hml, hown, hts⟩ (c_X0_isBlock l dC dI cI cZ a q5.2 ((q5.2 3 q5.1.toNatClampNeg)) q8 e9) gX0_takeOffCountsOf_X0_isBlock rfl hd_X0_isBlock rfl rfl rfl ⟨Nat.le_of_ble_eq_true rfl, Nat.le_of_ble_eq_true rfl⟩ True.intro hK hP hD hS hA rfl hl.1 rfl (Nat.le_of_ble_eq_true rfl) dX0_takeOffCountsOf_30 (fun H locs hP hD hS => ?_)
          refine lv_if_eq (tgt := 55) hx hb dX0_takeOffCountsOf_33 (by decide) (fun h10 => ?_) (fun h10 => ?_)
          · replace hF := ip h10 hF
            refine lv_iinc (v := (x2 + 1)) (lv' := [(2, .int (x2 + 1)), (3, .int (q5.2 3 q5.1.toNatClampNeg)), (0, .ref (a 0)), (1, .int x1)]) hx hb dX0_takeOffCountsOf_55 hl (k := 3) rfl rfl (by decide) rfl (fun ls hl => ?_)
            refine lv_goto (tgt := 2) hx hb dX0_takeOffCountsOf_58 (by decide) ?_
            exact hk2 x1 ((x2 + 1)) q8.2 hF H locs ls hP hD hS (lv_sub hl [2, 3, 0] rfl)
          · replace hF := iq h10 hF
            refine lv_aload_n hx hb dX0_takeOffCountsOf_36 rfl (lv_at hl 1 rfl) ?_
            refine va_get (D := (dC, dI)) (ci := 0) (v := .ref (a 7)) (C := RX0) (T := TX0) (N := 11) hx hb hts hin hown hK hP 0 rfl rfl 6 (by decide) fl31 (fun _ h9 => h9) rfl dX0_takeOffCountsOf_37 ?_
            refine lv_iload_n hx hb dX0_takeOffCountsOf_40 rfl (lv_at hl 0 rfl) ?_
            obtain ⟨hi11, hF⟩ := ck hF
            refine va_zald hx hb hK hP 7 1 rfl rfl hi11 dX0_takeOffCountsOf_41 ?_
            refine lv_if_eq (tgt := 55) hx hb dX0_takeOffCountsOf_42 (by decide) (fun h12 => ?_) (fun h12 => ?_)
            · replace hF := ip h12 hF
              refine lv_iinc (v := (x2 + 1)) (lv' := [(2, .int (x2 + 1)), (3, .int (q5.2 3 q5.1.toNatClampNeg)), (0, .ref (a 0)), (1, .int x1)]) hx hb dX0_takeOffCountsOf_55 hl (k := 3) rfl rfl (by decide) rfl (fun ls hl => ?_)
              refine lv_goto (tgt := 2) hx hb dX0_takeOffCountsOf_58 (by decide) ?_
              exact hk2 x1 ((x2 + 1)) q8.2 hF H locs ls hP hD hS (lv_sub hl [2, 3, 0] rfl)
            · replace hF := iq h12 hF
              refine lv_aload_n hx hb dX0_takeOffCountsOf_45 rfl (lv_at hl 1 rfl) ?_
              refine va_get (D := (dC, dI)) (ci := 0) (v := .ref (a 6)) (C := RX0) (T := TX0) (N := 11) hx hb hts hin hown hK hP 0 rfl rfl 5 (by decide) fl28 (fun _ h9 => h9) rfl dX0_takeOffCountsOf_46 ?_
              refine lv_iload_n hx hb dX0_takeOffCountsOf_49 rfl (lv_at hl 0 rfl) ?_
              refine lv_dup2_11 hx hb dX0_takeOffCountsOf_50 rfl rfl ?_
              obtain ⟨hi13, hF⟩ := ck hF
              refine va_iald hx hb hK hP 6 0 rfl rfl hi13 dX0_takeOffCountsOf_51 ?_
              refine lv_iconst (v := 1) hx hb dX0_takeOffCountsOf_52 (by decide) ?_
              refine lv_isub hx hb dX0_takeOffCountsOf_53 ?_
              obtain ⟨hi14, hF⟩ := ck hF
              refine va_iast hx hb hK hP hD hS 6 0 rfl rfl hi14 dX0_takeOffCountsOf_54 (fun H locs hP hD hS => ?_)
              replace hP := wC_p6 hP
              replace hD := wC_d6 hD
              refine lv_iinc (v := (x2 + 1)) (lv' := [(2, .int (x2 + 1)), (3, .int (q5.2 3 q5.1.toNatClampNeg)), (0, .ref (a 0)), (1, .int x1)]) hx hb dX0_takeOffCountsOf_55 hl (k := 3) rfl rfl (by decide) rfl (fun ls hl => ?_)
              refine lv_goto (tgt := 2) hx hb dX0_takeOffCountsOf_58 (by decide) ?_
              exact hk2 x1 ((x2 + 1)) (su q8.2 6 (q5.2 3 q5.1.toNatClampNeg).toNatClampNeg ((q8.2 6 (q5.2 3 q5.1.toNatClampNeg).toNatClampNeg) - 1)) hF H locs ls hP hD hS (lv_sub hl [2, 3, 0] rfl)
  have l2 : ∀  (n : Nat) (x1 x2 : Int32) (u : St), L_X0_takeOffCountsOf_2  n u x1 x2 = some o → GW p l e (rmK 3 65) s m args below meth c Q dC dI (wC a cI cZ) A 4 2 [(0, .ref (a 0)), (1, .int x1), (2, .int x2)] [] u := by
      intro  n
      induction n with
      | zero =>
        intro x1 x2 u hF
        have hF : (none : Option (Int32 × St)) = some o := hF
        cases hF
      | succ n ih =>
        intro x1 x2 u hF
        exact b2 (L_X0_takeOffCountsOf_2 n) ih x1 x2 u hF
  unfold F_X0_takeOffCountsOf at hF
  refine lv_iconst (v := 0) hx hb dX0_takeOffCountsOf_0 (by decide) ?_
  refine lv_istore_n (lv' := [(2, .int 0), (0, .ref (a 0)), (1, .int x1)]) hx hb dX0_takeOffCountsOf_1 rfl hl (by decide) rfl (fun ls hl => ?_)
  exact l2  fuel x1 0 u hF H locs ls hP hD hS (lv_sub hl [1, 2, 0] rfl)
theorem hd_X0_takeOffCountsOf : yX0_takeOffCountsOf.cls = RX0 ∧ yX0_takeOffCountsOf.cls ≠ "java/lang/invoke/MethodHandle" ∧ yX0_takeOffCountsOf.cls ≠ "java/lang/invoke/VarHandle" ∧ (parseMethodDescriptor yX0_takeOffCountsOf.desc).map (fun d => d.parameters.length) = some 1 := by decide +kernel

def F_X0_giveBackLost_7 (k7 : St → Int32 → Int32 → Option (Int32 × St)) (u : St) (x1 x2 : Int32) : Option (Int32 × St) := (if 24 < x2 then (some (x1, u)) else (if (x2 < 0 ∨ 25 ≤ x2.toNatClampNeg) then none else (if (u 4 x2.toNatClampNeg) = 0 then k7 u x1 ((x2 + 1)) else (if (x2 < 0 ∨ 25 ≤ x2.toNatClampNeg) then none else (if (u 7 x2.toNatClampNeg) = 0 then ((F_X0_takeOffCountsOf u x2).bind fun q6 => ((F_X0_giveBack q6.2 x2).bind fun q8 => k7 q8.2 x1 ((x2 + 1)))) else k7 u x1 ((x2 + 1)))))))
def L_X0_giveBackLost_7  : Nat → St → Int32 → Int32 → Option (Int32 × St)
  | 0 => fun _ _ _ => none
  | n + 1 => fun u x1 x2 => F_X0_giveBackLost_7 (L_X0_giveBackLost_7 n) u x1 x2
def F_X0_giveBackLost (u : St) : Option (Int32 × St) := ((F_X0_findLost u).bind fun q1 => L_X0_giveBackLost_7 fuel q1.2 (q1.1) 1)
set_option maxRecDepth 100000 in
set_option maxHeartbeats 4000000 in
theorem c_X0_giveBackLost (l : Launch) (dC : Nat → ClassId) (dI : Nat → Nat → Nat) (cI cZ : ClassId) (a : Nat → Nat) (u : St) (o : Int32 × St) (hF : F_X0_giveBackLost u = some o) : MI l yX0_giveBackLost wsX0_giveBackLost 5 108 none dC dI cI cZ (wC a cI cZ) [.ref (a 0)] u o := by
  refine miOf (cc := cX0_giveBackLost) (maxL := 3) (ret := .int) (by decide) rfl (Nat.le_of_ble_eq_true rfl) ?_
  intro p e s m args below meth c A Q H locs ls hx hb hml hts hown hK hA hz hQ hP hD hS hl
  replace hown : s.vm.findClass RX0 = some m.cls := hown
  replace hl : lv_has ls 3 [(0, .ref (a 0))] := hl
  have hin : ∀ w ∈ u_ws RX0 TX0 11, w ∈ wsX0_giveBackLost := by decide +kernel
  have fl21 := hts (.fieldLink RX0 21 "CountedHeap$Memory" "used" "[Z") (by decide +kernel)
  have fl31 := hts (.fieldLink RX0 31 "CountedHeap$Memory" "reached" "[Z") (by decide +kernel)
  have b7 : ∀ (k7 : St → Int32 → Int32 → Option (Int32 × St)) (hk7 : ∀ (x1 x2 : Int32) (u : St), k7 u x1 x2 = some o → GW p l e (rmK 5 108) s m args below meth c Q dC dI (wC a cI cZ) A 3 7 [(0, .ref (a 0)), (1, .int x1), (2, .int x2)] [] u) (x1 x2 : Int32) (u : St), F_X0_giveBackLost_7 k7 u x1 x2 = some o → GW p l e (rmK 5 108) s m args below meth c Q dC dI (wC a cI cZ) A 3 7 [(0, .ref (a 0)), (1, .int x1), (2, .int x2)] [] u := by
      intro k7 hk7 x1 x2 u hF H locs ls hP hD hS hl
      unfold F_X0_giveBackLost_7 at hF
      refine lv_iload_n hx hb dX0_giveBackLost_7 rfl (lv_at hl 2 rfl) ?_
      refine lv_bipush (v := 24) hx hb dX0_giveBackLost_8 (by decide) ?_
      refine lv_icmp_gt (tgt := 47) hx hb dX0_giveBackLost_10 (by decide) (fun h1 => ?_) (fun h1 => ?_)
      · replace hF := ip h1 hF
        refine lv_iload_n hx hb dX0_giveBackLost_47 rfl (lv_at hl 1 rfl) ?_
        exact hQ _ _ _ _ _ _ (Option.some.inj hF) (vp_nar_int _) hP hD hS dX0_giveBackLost_48
      · replace hF := iq h1 hF
        refine lv_aload_n hx hb dX0_giveBackLost_13 rfl (lv_at hl 0 rfl) ?_
        refine va_get (D := (dC, dI)) (ci := 0) (v := .ref (a 4)) (C := RX0) (T := TX0) (N := 11) hx hb hts hin hown hK hP 0 rfl rfl 3 (by decide) fl21 (fun _ h9 => h9) rfl dX0_giveBackLost_14 ?_
        refine lv_iload_n hx hb dX0_giveBackLost_17 rfl (lv_at hl 2 rfl) ?_
        obtain ⟨hi2, hF⟩ := ck hF
        refine va_zald hx hb hK hP 4 1 rfl rfl hi2 dX0_giveBackLost_18 ?_
        refine lv_if_eq (tgt := 41) hx hb dX0_giveBackLost_19 (by decide) (fun h3 => ?_) (fun h3 => ?_)
        · replace hF := ip h3 hF
          refine lv_iinc (v := (x2 + 1)) (lv' := [(2, .int (x2 + 1)), (0, .ref (a 0)), (1, .int x1)]) hx hb dX0_giveBackLost_41 hl (k := 2) rfl rfl (by decide) rfl (fun ls hl => ?_)
          refine lv_goto (tgt := 7) hx hb dX0_giveBackLost_44 (by decide) ?_
          exact hk7 x1 ((x2 + 1)) u hF H locs ls hP hD hS (lv_sub hl [1, 2, 0] rfl)
        · replace hF := iq h3 hF
          refine lv_aload_n hx hb dX0_giveBackLost_22 rfl (lv_at hl 0 rfl) ?_
          refine va_get (D := (dC, dI)) (ci := 0) (v := .ref (a 7)) (C := RX0) (T := TX0) (N := 11) hx hb hts hin hown hK hP 0 rfl rfl 6 (by decide) fl31 (fun _ h9 => h9) rfl dX0_giveBackLost_23 ?_
          refine lv_iload_n hx hb dX0_giveBackLost_26 rfl (lv_at hl 2 rfl) ?_
          obtain ⟨hi4, hF⟩ := ck hF
          refine va_zald hx hb hK hP 7 1 rfl rfl hi4 dX0_giveBackLost_27 ?_
          refine lv_if_ne (tgt := 41) hx hb dX0_giveBackLost_28 (by decide) (fun h5 => ?_) (fun h5 => ?_)
          · replace hF := iq h5 hF
            refine lv_iinc (v := (x2 + 1)) (lv' := [(2, .int (x2 + 1)), (0, .ref (a 0)), (1, .int x1)]) hx hb dX0_giveBackLost_41 hl (k := 2) rfl rfl (by decide) rfl (fun ls hl => ?_)
            refine lv_goto (tgt := 7) hx hb dX0_giveBackLost_44 (by decide) ?_
            exact hk7 x1 ((x2 + 1)) u hF H locs ls hP hD hS (lv_sub hl [1, 2, 0] rfl)
          · replace hF := ip h5 hF
            refine lv_aload_n hx hb dX0_giveBackLost_31 rfl (lv_at hl 0 rfl) ?_
            refine lv_iload_n hx hb dX0_giveBackLost_32 rfl (lv_at hl 2 rfl) ?_
            obtain ⟨q6, e7, hF⟩ := bd hF
            refine callVV (C := RX0) (ci := 0) (q0 := 0) (As := [.int x2]) (rest := []) ⟨hx, hb, hml, hown, hts⟩ (c_X0_takeOffCountsOf l dC dI cI cZ a u x2 q6 e7) gX0_giveBackLost_X0_takeOffCountsOf rfl hd_X0_takeOffCountsOf rfl rfl rfl ⟨Nat.le_of_ble_eq_true rfl, Nat.le_of_ble_eq_true rfl⟩ True.intro hK hP hD hS hA rfl hl.1 rfl (Nat.le_of_ble_eq_true rfl) dX0_giveBackLost_33 (fun H locs hP hD hS => ?_)
            refine lv_aload_n hx hb dX0_giveBackLost_36 rfl (lv_at hl 0 rfl) ?_
            refine lv_iload_n hx hb dX0_giveBackLost_37 rfl (lv_at hl 2 rfl) ?_
            obtain ⟨q8, e9, hF⟩ := bd hF
            refine callVV (C := RX0) (ci := 0) (q0 := 0) (As := [.int x2]) (rest := []) ⟨hx, hb, hml, hown, hts⟩ (c_X0_giveBack l dC dI cI cZ a q6.2 x2 q8 e9) gX0_giveBackLost_X0_giveBack rfl hd_X0_giveBack rfl rfl rfl ⟨Nat.le_of_ble_eq_true rfl, Nat.le_of_ble_eq_true rfl⟩ True.intro hK hP hD hS hA rfl hl.1 rfl (Nat.le_of_ble_eq_true rfl) dX0_giveBackLost_38 (fun H locs hP hD hS => ?_)
            refine lv_iinc (v := (x2 + 1)) (lv' := [(2, .int (x2 + 1)), (0, .ref (a 0)), (1, .int x1)]) hx hb dX0_giveBackLost_41 hl (k := 2) rfl rfl (by decide) rfl (fun ls hl => ?_)
            refine lv_goto (tgt := 7) hx hb dX0_giveBackLost_44 (by decide) ?_
            exact hk7 x1 ((x2 + 1)) q8.2 hF H locs ls hP hD hS (lv_sub hl [1, 2, 0] rfl)
  have l7 : ∀  (n : Nat) (x1 x2 : Int32) (u : St), L_X0_giveBackLost_7  n u x1 x2 = some o → GW p l e (rmK 5 108) s m args below meth c Q dC dI (wC a cI cZ) A 3 7 [(0, .ref (a 0)), (1, .int x1), (2, .int x2)] [] u := by
      intro  n
      induction n with
      | zero =>
        intro x1 x2 u hF
        have hF : (none : Option (Int32 × St)) = some o := hF
        cases hF
      | succ n ih =>
        intro x1 x2 u hF
        exact b7 (L_X0_giveBackLost_7 n) ih x1 x2 u hF
  unfold F_X0_giveBackLost at hF
  refine lv_aload_n hx hb dX0_giveBackLost_0 rfl (lv_at hl 0 rfl) ?_
  obtain ⟨q1, e2, hF⟩ := bd hF
  refine callVI (C := RX0) (ci := 0) (q0 := 0) (As := []) (rest := []) ⟨hx, hb, hml, hown, hts⟩ (c_X0_findLost l dC dI cI cZ a u q1 e2) gX0_giveBackLost_X0_findLost rfl hd_X0_findLost rfl rfl rfl ⟨Nat.le_of_ble_eq_true rfl, Nat.le_of_ble_eq_true rfl⟩ True.intro hK hP hD hS hA rfl hl.1 rfl (Nat.le_of_ble_eq_true rfl) dX0_giveBackLost_1 (fun H locs hP hD hS => ?_)
  refine lv_istore_n (lv' := [(1, .int q1.1), (0, .ref (a 0))]) hx hb dX0_giveBackLost_4 rfl hl (by decide) rfl (fun ls hl => ?_)
  refine lv_iconst (v := 1) hx hb dX0_giveBackLost_5 (by decide) ?_
  refine lv_istore_n (lv' := [(2, .int 1), (1, .int q1.1), (0, .ref (a 0))]) hx hb dX0_giveBackLost_6 rfl hl (by decide) rfl (fun ls hl => ?_)
  exact l7  fuel (q1.1) 1 q1.2 hF H locs ls hP hD hS (lv_sub hl [2, 1, 0] rfl)
theorem hd_X0_giveBackLost : yX0_giveBackLost.cls = RX0 ∧ yX0_giveBackLost.cls ≠ "java/lang/invoke/MethodHandle" ∧ yX0_giveBackLost.cls ≠ "java/lang/invoke/VarHandle" ∧ (parseMethodDescriptor yX0_giveBackLost.desc).map (fun d => d.parameters.length) = some 0 := by decide +kernel

def F_X1_isFull (u : St) : Option (Int32 × St) := (if (u 9 4) < 40 then (some (0, u)) else (some (1, u)))
set_option maxRecDepth 100000 in
set_option maxHeartbeats 4000000 in
theorem c_X1_isFull (l : Launch) (dC : Nat → ClassId) (dI : Nat → Nat → Nat) (cI cZ : ClassId) (a : Nat → Nat) (u : St) (o : Int32 × St) (hF : F_X1_isFull u = some o) : MI l yX1_isFull wsX1_isFull 0 0 none dC dI cI cZ (wC a cI cZ) [.ref (a 9)] u o := by
  refine miOf (cc := cX1_isFull) (maxL := 1) (ret := .boolean) (by decide) rfl (Nat.le_of_ble_eq_true rfl) ?_
  intro p e s m args below meth c A Q H locs ls hx hb hml hts hown hK hA hz hQ hP hD hS hl
  replace hown : s.vm.findClass RX1 = some m.cls := hown
  replace hl : lv_has ls 1 [(0, .ref (a 9))] := hl
  have hin : ∀ w ∈ u_ws RX1 TX1 5, w ∈ wsX1_isFull := by decide +kernel
  have fl24 := hts (.fieldLink RX1 24 "CountedHeap$Program" "length" "I") (by decide +kernel)
  unfold F_X1_isFull at hF
  refine lv_aload_n hx hb dX1_isFull_0 rfl (lv_at hl 0 rfl) ?_
  refine va_get (D := (dC, dI)) (ci := 1) (v := .int (u 9 4)) (C := RX1) (T := TX1) (N := 5) hx hb hts hin hown hK hP 9 rfl rfl 4 (by decide) fl24 (fun _ h9 => h9) rfl dX1_isFull_1 ?_
  refine lv_bipush (v := 40) hx hb dX1_isFull_4 (by decide) ?_
  refine lv_icmp_lt (tgt := 13) hx hb dX1_isFull_6 (by decide) (fun h1 => ?_) (fun h1 => ?_)
  · replace hF := ip h1 hF
    refine lv_iconst (v := 0) hx hb dX1_isFull_13 (by decide) ?_
    exact hQ _ _ _ _ _ _ (Option.some.inj hF) rfl hP hD hS dX1_isFull_14
  · replace hF := iq h1 hF
    refine lv_iconst (v := 1) hx hb dX1_isFull_9 (by decide) ?_
    refine lv_goto (tgt := 14) hx hb dX1_isFull_10 (by decide) ?_
    exact hQ _ _ _ _ _ _ (Option.some.inj hF) rfl hP hD hS dX1_isFull_14
theorem hd_X1_isFull : yX1_isFull.cls = RX1 ∧ yX1_isFull.cls ≠ "java/lang/invoke/MethodHandle" ∧ yX1_isFull.cls ≠ "java/lang/invoke/VarHandle" ∧ (parseMethodDescriptor yX1_isFull.desc).map (fun d => d.parameters.length) = some 0 := by decide +kernel

def F_X1_has (u : St) (x1 : Int32) : Option (Int32 × St) := (if x1 < 0 then (some (0, u)) else (if (u 9 4) ≤ x1 then (some (0, u)) else (some (1, u))))
set_option maxRecDepth 100000 in
set_option maxHeartbeats 4000000 in
theorem c_X1_has (l : Launch) (dC : Nat → ClassId) (dI : Nat → Nat → Nat) (cI cZ : ClassId) (a : Nat → Nat) (u : St) (x1 : Int32) (o : Int32 × St) (hF : F_X1_has u x1 = some o) : MI l yX1_has wsX1_has 0 0 none dC dI cI cZ (wC a cI cZ) [.ref (a 9), .int x1] u o := by
  refine miOf (cc := cX1_has) (maxL := 2) (ret := .boolean) (by decide) rfl (Nat.le_of_ble_eq_true rfl) ?_
  intro p e s m args below meth c A Q H locs ls hx hb hml hts hown hK hA hz hQ hP hD hS hl
  replace hown : s.vm.findClass RX1 = some m.cls := hown
  replace hl : lv_has ls 2 [(0, .ref (a 9)), (1, .int x1)] := hl
  have hin : ∀ w ∈ u_ws RX1 TX1 5, w ∈ wsX1_has := by decide +kernel
  have fl24 := hts (.fieldLink RX1 24 "CountedHeap$Program" "length" "I") (by decide +kernel)
  unfold F_X1_has at hF
  refine lv_iload_n hx hb dX1_has_0 rfl (lv_at hl 1 rfl) ?_
  refine lv_if_lt (tgt := 16) hx hb dX1_has_1 (by decide) (fun h1 => ?_) (fun h1 => ?_)
  · replace hF := ip h1 hF
    refine lv_iconst (v := 0) hx hb dX1_has_16 (by decide) ?_
    exact hQ _ _ _ _ _ _ (Option.some.inj hF) rfl hP hD hS dX1_has_17
  · replace hF := iq h1 hF
    refine lv_iload_n hx hb dX1_has_4 rfl (lv_at hl 1 rfl) ?_
    refine lv_aload_n hx hb dX1_has_5 rfl (lv_at hl 0 rfl) ?_
    refine va_get (D := (dC, dI)) (ci := 1) (v := .int (u 9 4)) (C := RX1) (T := TX1) (N := 5) hx hb hts hin hown hK hP 9 rfl rfl 4 (by decide) fl24 (fun _ h9 => h9) rfl dX1_has_6 ?_
    refine lv_icmp_ge (tgt := 16) hx hb dX1_has_9 (by decide) (fun h2 => ?_) (fun h2 => ?_)
    · replace hF := ip h2 hF
      refine lv_iconst (v := 0) hx hb dX1_has_16 (by decide) ?_
      exact hQ _ _ _ _ _ _ (Option.some.inj hF) rfl hP hD hS dX1_has_17
    · replace hF := iq h2 hF
      refine lv_iconst (v := 1) hx hb dX1_has_12 (by decide) ?_
      refine lv_goto (tgt := 17) hx hb dX1_has_13 (by decide) ?_
      exact hQ _ _ _ _ _ _ (Option.some.inj hF) rfl hP hD hS dX1_has_17
theorem hd_X1_has : yX1_has.cls = RX1 ∧ yX1_has.cls ≠ "java/lang/invoke/MethodHandle" ∧ yX1_has.cls ≠ "java/lang/invoke/VarHandle" ∧ (parseMethodDescriptor yX1_has.desc).map (fun d => d.parameters.length) = some 1 := by decide +kernel

def F_X1_append (u : St) (x1 x2 x3 x4 : Int32) : Option (Int32 × St) := (if ((u 9 4) < 0 ∨ 40 ≤ (u 9 4).toNatClampNeg) then none else (sb (su u 10 (u 9 4).toNatClampNeg x1) fun u2 => (if ((u 9 4) < 0 ∨ 40 ≤ (u 9 4).toNatClampNeg) then none else (sb (su u2 11 (u 9 4).toNatClampNeg x2) fun u4 => (if ((u 9 4) < 0 ∨ 40 ≤ (u 9 4).toNatClampNeg) then none else (sb (su u4 12 (u 9 4).toNatClampNeg x3) fun u6 => (if ((u 9 4) < 0 ∨ 40 ≤ (u 9 4).toNatClampNeg) then none else (sb (su u6 13 (u 9 4).toNatClampNeg x4) fun u8 => (sb (su u8 9 4 ((u8 9 4) + 1)) fun u9 => (some ((u 9 4), u9)))))))))))
set_option maxRecDepth 100000 in
set_option maxHeartbeats 4000000 in
theorem c_X1_append (l : Launch) (dC : Nat → ClassId) (dI : Nat → Nat → Nat) (cI cZ : ClassId) (a : Nat → Nat) (u : St) (x1 x2 x3 x4 : Int32) (o : Int32 × St) (hF : F_X1_append u x1 x2 x3 x4 = some o) : MI l yX1_append wsX1_append 0 0 none dC dI cI cZ (wC a cI cZ) [.ref (a 9), .int x1, .int x2, .int x3, .int x4] u o := by
  refine miOf (cc := cX1_append) (maxL := 6) (ret := .int) (by decide) rfl (Nat.le_of_ble_eq_true rfl) ?_
  intro p e s m args below meth c A Q H locs ls hx hb hml hts hown hK hA hz hQ hP hD hS hl
  replace hown : s.vm.findClass RX1 = some m.cls := hown
  replace hl : lv_has ls 6 [(0, .ref (a 9)), (1, .int x1), (2, .int x2), (3, .int x3), (4, .int x4)] := hl
  have hin : ∀ w ∈ u_ws RX1 TX1 5, w ∈ wsX1_append := by decide +kernel
  have fl9 := hts (.fieldLink RX1 9 "CountedHeap$Program" "ops" "[I") (by decide +kernel)
  have fl15 := hts (.fieldLink RX1 15 "CountedHeap$Program" "xs" "[I") (by decide +kernel)
  have fl18 := hts (.fieldLink RX1 18 "CountedHeap$Program" "ys" "[I") (by decide +kernel)
  have fl21 := hts (.fieldLink RX1 21 "CountedHeap$Program" "zs" "[I") (by decide +kernel)
  have fl24 := hts (.fieldLink RX1 24 "CountedHeap$Program" "length" "I") (by decide +kernel)
  unfold F_X1_append at hF
  refine lv_aload_n hx hb dX1_append_0 rfl (lv_at hl 0 rfl) ?_
  refine va_get (D := (dC, dI)) (ci := 1) (v := .int (u 9 4)) (C := RX1) (T := TX1) (N := 5) hx hb hts hin hown hK hP 9 rfl rfl 4 (by decide) fl24 (fun _ h9 => h9) rfl dX1_append_1 ?_
  refine lv_istore (lv' := [(5, .int (u 9 4)), (0, .ref (a 9)), (1, .int x1), (2, .int x2), (3, .int x3), (4, .int x4)]) hx hb dX1_append_4 hl (by decide) rfl (fun ls hl => ?_)
  refine lv_aload_n hx hb dX1_append_6 rfl (lv_at hl 1 rfl) ?_
  refine va_get (D := (dC, dI)) (ci := 1) (v := .ref (a 10)) (C := RX1) (T := TX1) (N := 5) hx hb hts hin hown hK hP 9 rfl rfl 0 (by decide) fl9 (fun _ h9 => h9) rfl dX1_append_7 ?_
  refine lv_iload hx hb dX1_append_10 (lv_at hl 0 rfl) ?_
  refine lv_iload_n hx hb dX1_append_12 rfl (lv_at hl 2 rfl) ?_
  obtain ⟨hi1, hF⟩ := ck hF
  refine va_iast hx hb hK hP hD hS 10 0 rfl rfl hi1 dX1_append_13 (fun H locs hP hD hS => ?_)
  replace hP := wC_p10 hP
  replace hD := wC_d10 hD
  replace hF := sbE hF
  generalize (su u 10 (u 9 4).toNatClampNeg x1) = u2 at hF hP hD
  refine lv_aload_n hx hb dX1_append_14 rfl (lv_at hl 1 rfl) ?_
  refine va_get (D := (dC, dI)) (ci := 1) (v := .ref (a 11)) (C := RX1) (T := TX1) (N := 5) hx hb hts hin hown hK hP 9 rfl rfl 1 (by decide) fl15 (fun _ h9 => h9) rfl dX1_append_15 ?_
  refine lv_iload hx hb dX1_append_18 (lv_at hl 0 rfl) ?_
  refine lv_iload_n hx hb dX1_append_20 rfl (lv_at hl 3 rfl) ?_
  obtain ⟨hi3, hF⟩ := ck hF
  refine va_iast hx hb hK hP hD hS 11 0 rfl rfl hi3 dX1_append_21 (fun H locs hP hD hS => ?_)
  replace hP := wC_p11 hP
  replace hD := wC_d11 hD
  replace hF := sbE hF
  generalize (su u2 11 (u 9 4).toNatClampNeg x2) = u4 at hF hP hD
  refine lv_aload_n hx hb dX1_append_22 rfl (lv_at hl 1 rfl) ?_
  refine va_get (D := (dC, dI)) (ci := 1) (v := .ref (a 12)) (C := RX1) (T := TX1) (N := 5) hx hb hts hin hown hK hP 9 rfl rfl 2 (by decide) fl18 (fun _ h9 => h9) rfl dX1_append_23 ?_
  refine lv_iload hx hb dX1_append_26 (lv_at hl 0 rfl) ?_
  refine lv_iload_n hx hb dX1_append_28 rfl (lv_at hl 4 rfl) ?_
  obtain ⟨hi5, hF⟩ := ck hF
  refine va_iast hx hb hK hP hD hS 12 0 rfl rfl hi5 dX1_append_29 (fun H locs hP hD hS => ?_)
  replace hP := wC_p12 hP
  replace hD := wC_d12 hD
  replace hF := sbE hF
  generalize (su u4 12 (u 9 4).toNatClampNeg x3) = u6 at hF hP hD
  refine lv_aload_n hx hb dX1_append_30 rfl (lv_at hl 1 rfl) ?_
  refine va_get (D := (dC, dI)) (ci := 1) (v := .ref (a 13)) (C := RX1) (T := TX1) (N := 5) hx hb hts hin hown hK hP 9 rfl rfl 3 (by decide) fl21 (fun _ h9 => h9) rfl dX1_append_31 ?_
  refine lv_iload hx hb dX1_append_34 (lv_at hl 0 rfl) ?_
  refine lv_iload hx hb dX1_append_36 (lv_at hl 5 rfl) ?_
  obtain ⟨hi7, hF⟩ := ck hF
  refine va_iast hx hb hK hP hD hS 13 0 rfl rfl hi7 dX1_append_38 (fun H locs hP hD hS => ?_)
  replace hP := wC_p13 hP
  replace hD := wC_d13 hD
  replace hF := sbE hF
  generalize (su u6 13 (u 9 4).toNatClampNeg x4) = u8 at hF hP hD
  refine lv_aload_n hx hb dX1_append_39 rfl (lv_at hl 1 rfl) ?_
  refine lv_dup hx hb dX1_append_40 rfl ?_
  refine va_get (D := (dC, dI)) (ci := 1) (v := .int (u8 9 4)) (C := RX1) (T := TX1) (N := 5) hx hb hts hin hown hK hP 9 rfl rfl 4 (by decide) fl24 (fun _ h9 => h9) rfl dX1_append_41 ?_
  refine lv_iconst (v := 1) hx hb dX1_append_44 (by decide) ?_
  refine lv_iadd hx hb dX1_append_45 ?_
  refine va_put (D := (dC, dI)) (ci := 1) (v := .int ((u8 9 4) + 1)) (ty := .int) (C := RX1) (T := TX1) (N := 5) hx hb hts hin tyX1 tyX1_ok nmX1 hown hK hP hD hS 9 rfl rfl 4 (by decide) fl24 (fun _ h9 => h9) rfl (tyX1_ok 4 (by decide)) rfl rfl (Nat.le_of_ble_eq_true rfl) dX1_append_46 (fun H locs hP hD hS => ?_)
  replace hP := wC_p9_4 hP
  replace hD := wC_d9_4 hD
  replace hF := sbE hF
  generalize (su u8 9 4 ((u8 9 4) + 1)) = u9 at hF hP hD
  refine lv_iload hx hb dX1_append_49 (lv_at hl 0 rfl) ?_
  exact hQ _ _ _ _ _ _ (Option.some.inj hF) (vp_nar_int _) hP hD hS dX1_append_51
theorem hd_X1_append : yX1_append.cls = RX1 ∧ yX1_append.cls ≠ "java/lang/invoke/MethodHandle" ∧ yX1_append.cls ≠ "java/lang/invoke/VarHandle" ∧ (parseMethodDescriptor yX1_append.desc).map (fun d => d.parameters.length) = some 4 := by decide +kernel

def F_X1_removeAll (u : St) : Option (Int32 × St) := (sb (su u 9 4 0) fun u1 => (some ((u 9 4), u1)))
set_option maxRecDepth 100000 in
set_option maxHeartbeats 4000000 in
theorem c_X1_removeAll (l : Launch) (dC : Nat → ClassId) (dI : Nat → Nat → Nat) (cI cZ : ClassId) (a : Nat → Nat) (u : St) (o : Int32 × St) (hF : F_X1_removeAll u = some o) : MI l yX1_removeAll wsX1_removeAll 0 0 none dC dI cI cZ (wC a cI cZ) [.ref (a 9)] u o := by
  refine miOf (cc := cX1_removeAll) (maxL := 2) (ret := .int) (by decide) rfl (Nat.le_of_ble_eq_true rfl) ?_
  intro p e s m args below meth c A Q H locs ls hx hb hml hts hown hK hA hz hQ hP hD hS hl
  replace hown : s.vm.findClass RX1 = some m.cls := hown
  replace hl : lv_has ls 2 [(0, .ref (a 9))] := hl
  have hin : ∀ w ∈ u_ws RX1 TX1 5, w ∈ wsX1_removeAll := by decide +kernel
  have fl24 := hts (.fieldLink RX1 24 "CountedHeap$Program" "length" "I") (by decide +kernel)
  unfold F_X1_removeAll at hF
  refine lv_aload_n hx hb dX1_removeAll_0 rfl (lv_at hl 0 rfl) ?_
  refine va_get (D := (dC, dI)) (ci := 1) (v := .int (u 9 4)) (C := RX1) (T := TX1) (N := 5) hx hb hts hin hown hK hP 9 rfl rfl 4 (by decide) fl24 (fun _ h9 => h9) rfl dX1_removeAll_1 ?_
  refine lv_istore_n (lv' := [(1, .int (u 9 4)), (0, .ref (a 9))]) hx hb dX1_removeAll_4 rfl hl (by decide) rfl (fun ls hl => ?_)
  refine lv_aload_n hx hb dX1_removeAll_5 rfl (lv_at hl 1 rfl) ?_
  refine lv_iconst (v := 0) hx hb dX1_removeAll_6 (by decide) ?_
  refine va_put (D := (dC, dI)) (ci := 1) (v := .int 0) (ty := .int) (C := RX1) (T := TX1) (N := 5) hx hb hts hin tyX1 tyX1_ok nmX1 hown hK hP hD hS 9 rfl rfl 4 (by decide) fl24 (fun _ h9 => h9) rfl (tyX1_ok 4 (by decide)) rfl rfl (Nat.le_of_ble_eq_true rfl) dX1_removeAll_7 (fun H locs hP hD hS => ?_)
  replace hP := wC_p9_4 hP
  replace hD := wC_d9_4 hD
  replace hF := sbE hF
  generalize (su u 9 4 0) = u1 at hF hP hD
  refine lv_iload_n hx hb dX1_removeAll_10 rfl (lv_at hl 0 rfl) ?_
  exact hQ _ _ _ _ _ _ (Option.some.inj hF) (vp_nar_int _) hP hD hS dX1_removeAll_11
theorem hd_X1_removeAll : yX1_removeAll.cls = RX1 ∧ yX1_removeAll.cls ≠ "java/lang/invoke/MethodHandle" ∧ yX1_removeAll.cls ≠ "java/lang/invoke/VarHandle" ∧ (parseMethodDescriptor yX1_removeAll.desc).map (fun d => d.parameters.length) = some 0 := by decide +kernel

def F_X1_opAt (u : St) (x1 : Int32) : Option (Int32 × St) := (if (x1 < 0 ∨ 40 ≤ x1.toNatClampNeg) then none else (some ((u 10 x1.toNatClampNeg), u)))
set_option maxRecDepth 100000 in
set_option maxHeartbeats 4000000 in
theorem c_X1_opAt (l : Launch) (dC : Nat → ClassId) (dI : Nat → Nat → Nat) (cI cZ : ClassId) (a : Nat → Nat) (u : St) (x1 : Int32) (o : Int32 × St) (hF : F_X1_opAt u x1 = some o) : MI l yX1_opAt wsX1_opAt 0 0 none dC dI cI cZ (wC a cI cZ) [.ref (a 9), .int x1] u o := by
  refine miOf (cc := cX1_opAt) (maxL := 2) (ret := .int) (by decide) rfl (Nat.le_of_ble_eq_true rfl) ?_
  intro p e s m args below meth c A Q H locs ls hx hb hml hts hown hK hA hz hQ hP hD hS hl
  replace hown : s.vm.findClass RX1 = some m.cls := hown
  replace hl : lv_has ls 2 [(0, .ref (a 9)), (1, .int x1)] := hl
  have hin : ∀ w ∈ u_ws RX1 TX1 5, w ∈ wsX1_opAt := by decide +kernel
  have fl9 := hts (.fieldLink RX1 9 "CountedHeap$Program" "ops" "[I") (by decide +kernel)
  unfold F_X1_opAt at hF
  refine lv_aload_n hx hb dX1_opAt_0 rfl (lv_at hl 0 rfl) ?_
  refine va_get (D := (dC, dI)) (ci := 1) (v := .ref (a 10)) (C := RX1) (T := TX1) (N := 5) hx hb hts hin hown hK hP 9 rfl rfl 0 (by decide) fl9 (fun _ h9 => h9) rfl dX1_opAt_1 ?_
  refine lv_iload_n hx hb dX1_opAt_4 rfl (lv_at hl 1 rfl) ?_
  obtain ⟨hi1, hF⟩ := ck hF
  refine va_iald hx hb hK hP 10 0 rfl rfl hi1 dX1_opAt_5 ?_
  exact hQ _ _ _ _ _ _ (Option.some.inj hF) (vp_nar_int _) hP hD hS dX1_opAt_6
theorem hd_X1_opAt : yX1_opAt.cls = RX1 ∧ yX1_opAt.cls ≠ "java/lang/invoke/MethodHandle" ∧ yX1_opAt.cls ≠ "java/lang/invoke/VarHandle" ∧ (parseMethodDescriptor yX1_opAt.desc).map (fun d => d.parameters.length) = some 1 := by decide +kernel

def F_X1_xAt (u : St) (x1 : Int32) : Option (Int32 × St) := (if (x1 < 0 ∨ 40 ≤ x1.toNatClampNeg) then none else (some ((u 11 x1.toNatClampNeg), u)))
set_option maxRecDepth 100000 in
set_option maxHeartbeats 4000000 in
theorem c_X1_xAt (l : Launch) (dC : Nat → ClassId) (dI : Nat → Nat → Nat) (cI cZ : ClassId) (a : Nat → Nat) (u : St) (x1 : Int32) (o : Int32 × St) (hF : F_X1_xAt u x1 = some o) : MI l yX1_xAt wsX1_xAt 0 0 none dC dI cI cZ (wC a cI cZ) [.ref (a 9), .int x1] u o := by
  refine miOf (cc := cX1_xAt) (maxL := 2) (ret := .int) (by decide) rfl (Nat.le_of_ble_eq_true rfl) ?_
  intro p e s m args below meth c A Q H locs ls hx hb hml hts hown hK hA hz hQ hP hD hS hl
  replace hown : s.vm.findClass RX1 = some m.cls := hown
  replace hl : lv_has ls 2 [(0, .ref (a 9)), (1, .int x1)] := hl
  have hin : ∀ w ∈ u_ws RX1 TX1 5, w ∈ wsX1_xAt := by decide +kernel
  have fl15 := hts (.fieldLink RX1 15 "CountedHeap$Program" "xs" "[I") (by decide +kernel)
  unfold F_X1_xAt at hF
  refine lv_aload_n hx hb dX1_xAt_0 rfl (lv_at hl 0 rfl) ?_
  refine va_get (D := (dC, dI)) (ci := 1) (v := .ref (a 11)) (C := RX1) (T := TX1) (N := 5) hx hb hts hin hown hK hP 9 rfl rfl 1 (by decide) fl15 (fun _ h9 => h9) rfl dX1_xAt_1 ?_
  refine lv_iload_n hx hb dX1_xAt_4 rfl (lv_at hl 1 rfl) ?_
  obtain ⟨hi1, hF⟩ := ck hF
  refine va_iald hx hb hK hP 11 0 rfl rfl hi1 dX1_xAt_5 ?_
  exact hQ _ _ _ _ _ _ (Option.some.inj hF) (vp_nar_int _) hP hD hS dX1_xAt_6
theorem hd_X1_xAt : yX1_xAt.cls = RX1 ∧ yX1_xAt.cls ≠ "java/lang/invoke/MethodHandle" ∧ yX1_xAt.cls ≠ "java/lang/invoke/VarHandle" ∧ (parseMethodDescriptor yX1_xAt.desc).map (fun d => d.parameters.length) = some 1 := by decide +kernel

def F_X1_yAt (u : St) (x1 : Int32) : Option (Int32 × St) := (if (x1 < 0 ∨ 40 ≤ x1.toNatClampNeg) then none else (some ((u 12 x1.toNatClampNeg), u)))
set_option maxRecDepth 100000 in
set_option maxHeartbeats 4000000 in
theorem c_X1_yAt (l : Launch) (dC : Nat → ClassId) (dI : Nat → Nat → Nat) (cI cZ : ClassId) (a : Nat → Nat) (u : St) (x1 : Int32) (o : Int32 × St) (hF : F_X1_yAt u x1 = some o) : MI l yX1_yAt wsX1_yAt 0 0 none dC dI cI cZ (wC a cI cZ) [.ref (a 9), .int x1] u o := by
  refine miOf (cc := cX1_yAt) (maxL := 2) (ret := .int) (by decide) rfl (Nat.le_of_ble_eq_true rfl) ?_
  intro p e s m args below meth c A Q H locs ls hx hb hml hts hown hK hA hz hQ hP hD hS hl
  replace hown : s.vm.findClass RX1 = some m.cls := hown
  replace hl : lv_has ls 2 [(0, .ref (a 9)), (1, .int x1)] := hl
  have hin : ∀ w ∈ u_ws RX1 TX1 5, w ∈ wsX1_yAt := by decide +kernel
  have fl18 := hts (.fieldLink RX1 18 "CountedHeap$Program" "ys" "[I") (by decide +kernel)
  unfold F_X1_yAt at hF
  refine lv_aload_n hx hb dX1_yAt_0 rfl (lv_at hl 0 rfl) ?_
  refine va_get (D := (dC, dI)) (ci := 1) (v := .ref (a 12)) (C := RX1) (T := TX1) (N := 5) hx hb hts hin hown hK hP 9 rfl rfl 2 (by decide) fl18 (fun _ h9 => h9) rfl dX1_yAt_1 ?_
  refine lv_iload_n hx hb dX1_yAt_4 rfl (lv_at hl 1 rfl) ?_
  obtain ⟨hi1, hF⟩ := ck hF
  refine va_iald hx hb hK hP 12 0 rfl rfl hi1 dX1_yAt_5 ?_
  exact hQ _ _ _ _ _ _ (Option.some.inj hF) (vp_nar_int _) hP hD hS dX1_yAt_6
theorem hd_X1_yAt : yX1_yAt.cls = RX1 ∧ yX1_yAt.cls ≠ "java/lang/invoke/MethodHandle" ∧ yX1_yAt.cls ≠ "java/lang/invoke/VarHandle" ∧ (parseMethodDescriptor yX1_yAt.desc).map (fun d => d.parameters.length) = some 1 := by decide +kernel

def F_X1_zAt (u : St) (x1 : Int32) : Option (Int32 × St) := (if (x1 < 0 ∨ 40 ≤ x1.toNatClampNeg) then none else (some ((u 13 x1.toNatClampNeg), u)))
set_option maxRecDepth 100000 in
set_option maxHeartbeats 4000000 in
theorem c_X1_zAt (l : Launch) (dC : Nat → ClassId) (dI : Nat → Nat → Nat) (cI cZ : ClassId) (a : Nat → Nat) (u : St) (x1 : Int32) (o : Int32 × St) (hF : F_X1_zAt u x1 = some o) : MI l yX1_zAt wsX1_zAt 0 0 none dC dI cI cZ (wC a cI cZ) [.ref (a 9), .int x1] u o := by
  refine miOf (cc := cX1_zAt) (maxL := 2) (ret := .int) (by decide) rfl (Nat.le_of_ble_eq_true rfl) ?_
  intro p e s m args below meth c A Q H locs ls hx hb hml hts hown hK hA hz hQ hP hD hS hl
  replace hown : s.vm.findClass RX1 = some m.cls := hown
  replace hl : lv_has ls 2 [(0, .ref (a 9)), (1, .int x1)] := hl
  have hin : ∀ w ∈ u_ws RX1 TX1 5, w ∈ wsX1_zAt := by decide +kernel
  have fl21 := hts (.fieldLink RX1 21 "CountedHeap$Program" "zs" "[I") (by decide +kernel)
  unfold F_X1_zAt at hF
  refine lv_aload_n hx hb dX1_zAt_0 rfl (lv_at hl 0 rfl) ?_
  refine va_get (D := (dC, dI)) (ci := 1) (v := .ref (a 13)) (C := RX1) (T := TX1) (N := 5) hx hb hts hin hown hK hP 9 rfl rfl 3 (by decide) fl21 (fun _ h9 => h9) rfl dX1_zAt_1 ?_
  refine lv_iload_n hx hb dX1_zAt_4 rfl (lv_at hl 1 rfl) ?_
  obtain ⟨hi1, hF⟩ := ck hF
  refine va_iald hx hb hK hP 13 0 rfl rfl hi1 dX1_zAt_5 ?_
  exact hQ _ _ _ _ _ _ (Option.some.inj hF) (vp_nar_int _) hP hD hS dX1_zAt_6
theorem hd_X1_zAt : yX1_zAt.cls = RX1 ∧ yX1_zAt.cls ≠ "java/lang/invoke/MethodHandle" ∧ yX1_zAt.cls ≠ "java/lang/invoke/VarHandle" ∧ (parseMethodDescriptor yX1_zAt.desc).map (fun d => d.parameters.length) = some 1 := by decide +kernel
