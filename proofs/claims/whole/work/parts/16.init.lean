/-- the class's state when it is new -/
def uC0 : St := fun c => match c with
  | 1 => upd (upd (upd (upd (fun _ => 0) (0 : Int32).toNatClampNeg 1) (1 : Int32).toNatClampNeg 1) (2 : Int32).toNatClampNeg 1) (3 : Int32).toNatClampNeg 1
  | _ => fun _ => 0
def wM (a : Nat → Nat) (cI cZ : ClassId) : va_W := (wC a cI cZ uC0).take 9
def wPg (a : Nat → Nat) (cI cZ : ClassId) : va_W := [(a 0, .inr (1, [.ref (a 1), .ref (a 2), .ref (a 3), .ref (a 4), .int 0])), (a 1, .inl (cI, 40, .inl (fun _ => 0))), (a 2, .inl (cI, 40, .inl (fun _ => 0))), (a 3, .inl (cI, 40, .inl (fun _ => 0))), (a 4, .inl (cI, 40, .inl (fun _ => 0)))]
section NEWA
variable {p : Program} {l : Launch} {e : Env} {R : Room} {s : State} {m : MethodId} {args : Array Value} {below : List Frame} {meth : Method} {c : Code} {H : Heap} {locs : List Loc} {cells slots : Nat} {Q : State → Prop}
variable {cc : ByteArray} {pc : Nat} {ls : Array Slot} {rest : List Value} {D : va_G} {A : Nat → Prop} {cI cZ : ClassId} {ws : va_W} {H0 : Heap}
theorem newI (hexec : p.tables.exec = Jvm.exec) (hb : c.code = cc) (harr : (Cond.arrayClass .int).before args s = true) (hK : va_K D vwCl (tyW cI cZ) s) (hP : va_P D vwCl ws H) (hD : va_D A ws) (hS : va_S A H0 H locs) (hA : ∀ q, H0.size ≤ q → A q)
    {n : Int32} {N' : Nat} (hn : ¬ n < 0) (hN : n.toNatClampNeg = N') (hbytes : N' * componentBytes .int ≤ 536870912) (hcells : cells + 1 ≤ R.cells) (hslots : slots + N' ≤ R.slots) (hdg : decode cc pc = .ok (.newarray .int, 2))
    (kk : ∀ (q : Nat) (H1 : Heap), va_P D vwCl (ws ++ [(q, .inl (cI, N', .inl (fun _ => 0)))]) H1 → va_D A (ws ++ [(q, .inl (cI, N', .inl (fun _ => 0)))]) → va_S A H0 H1 locs →
      W p l e R s m args below meth c H1 locs (cells + 1) (slots + N') Q (F0 m (pc + 2) ls (.ref q :: rest))) : W p l e R s m args below meth c H locs cells slots Q (F0 m pc ls (.int n :: rest)) := by
  refine va_newa (atype := .int) hexec hb harr (ty := .int) rfl hK hP hD hS hA (a0 := (N', .inl (fun _ => 0))) (fun _ => rfl) hn hN hbytes hcells hslots hdg (fun q cA H1 hK1 hP1 hD1 hS1 => ?_)
  have e : cA = cI := by
    have h1 : s.vm.findClass ("[" ++ FieldType.int.toString) = some cA := (hK1.2 2 (cA, .int) rfl).2
    have h2 : s.vm.findClass ("[" ++ FieldType.int.toString) = some cI := (hK.2 0 (cI, .int) rfl).2
    exact Option.some.inj (h1.symm.trans h2)
  subst e
  exact kk q H1 hP1 hD1 hS1
theorem newZ (hexec : p.tables.exec = Jvm.exec) (hb : c.code = cc) (harr : (Cond.arrayClass .boolean).before args s = true) (hK : va_K D vwCl (tyW cI cZ) s) (hP : va_P D vwCl ws H) (hD : va_D A ws) (hS : va_S A H0 H locs) (hA : ∀ q, H0.size ≤ q → A q)
    {n : Int32} {N' : Nat} (hn : ¬ n < 0) (hN : n.toNatClampNeg = N') (hbytes : N' * componentBytes .boolean ≤ 536870912) (hcells : cells + 1 ≤ R.cells) (hslots : slots + N' ≤ R.slots) (hdg : decode cc pc = .ok (.newarray .boolean, 2))
    (kk : ∀ (q : Nat) (H1 : Heap), va_P D vwCl (ws ++ [(q, .inl (cZ, N', .inl (fun _ => 0)))]) H1 → va_D A (ws ++ [(q, .inl (cZ, N', .inl (fun _ => 0)))]) → va_S A H0 H1 locs →
      W p l e R s m args below meth c H1 locs (cells + 1) (slots + N') Q (F0 m (pc + 2) ls (.ref q :: rest))) : W p l e R s m args below meth c H locs cells slots Q (F0 m pc ls (.int n :: rest)) := by
  refine va_newa (atype := .boolean) hexec hb harr (ty := .boolean) rfl hK hP hD hS hA (a0 := (N', .inl (fun _ => 0))) (fun _ => rfl) hn hN hbytes hcells hslots hdg (fun q cA H1 hK1 hP1 hD1 hS1 => ?_)
  have e : cA = cZ := by
    have h1 : s.vm.findClass ("[" ++ FieldType.boolean.toString) = some cA := (hK1.2 2 (cA, .boolean) rfl).2
    have h2 : s.vm.findClass ("[" ++ FieldType.boolean.toString) = some cZ := (hK.2 1 (cZ, .boolean) rfl).2
    exact Option.some.inj (h1.symm.trans h2)
  subst e
  exact kk q H1 hP1 hD1 hS1
end NEWA
abbrev GWn (p : Program) (l : Launch) (e : Env) (R : Room) (s : State) (m : MethodId) (args : Array Value) (below : List Frame) (meth : Method) (c : Code) (nc ns : Nat) (Q : State → Prop) (dC : Nat → ClassId) (dI : Nat → Nat → Nat) (w : St → va_W) (A : Nat → Prop) (nL pc : Nat) (lv : List (Nat × Value)) (st : List Value) (u : St) : Prop :=
  ∀ (H : Heap) (locs : List Loc) (ls : Array Slot), va_P (dC, dI) vwCl (w u) H → va_D A (w u) → va_S A s.heap H locs → lv_has ls nL lv → W p l e R s m args below meth c H locs nc ns Q (F0 m pc ls st)

def F_X3_init_104 (k104 : St → Int32 → Option (Int32 × St)) (u : St) (x1 : Int32) : Option (Int32 × St) := (if 25 ≤ x1 then (some (0, u)) else (if (x1 < 0 ∨ 25 ≤ x1.toNatClampNeg) then none else k104 (su u 7 x1.toNatClampNeg (-1)) ((x1 + 1))))
def L_X3_init_104 : Nat → St → Int32 → Option (Int32 × St)
  | 0 => fun _ _ => none
  | n + 1 => fun u x1 => F_X3_init_104 (L_X3_init_104 n) u x1
def F_X3_init_84 (k84 : St → Int32 → Option (Int32 × St)) (u : St) (x1 : Int32) : Option (Int32 × St) := (if 4 ≤ x1 then L_X3_init_104 fuel u 0 else (if (x1 < 0 ∨ 4 ≤ x1.toNatClampNeg) then none else k84 (su u 1 x1.toNatClampNeg 1) ((x1 + 1))))
def L_X3_init_84 : Nat → St → Int32 → Option (Int32 × St)
  | 0 => fun _ _ => none
  | n + 1 => fun u x1 => F_X3_init_84 (L_X3_init_84 n) u x1
def F_X3_init (u : St) : Option (Int32 × St) := L_X3_init_84 fuel u 0
set_option maxRecDepth 100000 in
set_option maxHeartbeats 4000000 in
theorem i_X3_init {p : Program} {l : Launch} {e : Env} {R : Room} {s : State} {m : MethodId} {args : Array Value} {below : List Frame} {meth : Method} {c : Code} {nc ns : Nat} {Q : State → Prop} {dC : Nat → ClassId} {dI : Nat → Nat → Nat} {cI cZ : ClassId} {A : Nat → Prop} (a : Nat → Nat) (u : St) (o : Int32 × St) (hF : F_X3_init u = some o)
    (hx : p.tables.exec = Jvm.exec) (hb : c.code = cX3_init) (hts : ∀ w ∈ wsX3_init, w.before args s = true) (hown : s.vm.findClass RX3 = some m.cls) (hK : va_K (dC, dI) vwCl (tyW cI cZ) s)
    (hQ : ∀ (H : Heap) (locs : List Loc) (ls : Array Slot) (pc : Nat) (v : St), ((0 : Int32), v) = o → va_P (dC, dI) vwCl (wD a cI cZ v) H → va_D A (wD a cI cZ v) → va_S A s.heap H locs → decode cX3_init pc = .ok (.return_, 1) → W p l e R s m args below meth c H locs nc ns Q (F0 m pc ls [])) : GWn p l e R s m args below meth c nc ns Q dC dI (wD a cI cZ) A 2 82 [(0, .ref (a 0))] [] u := by
  intro H locs ls hP hD hS hl
  have hin : ∀ w ∈ u_ws RX3 TX3 17, w ∈ wsX3_init := by decide +kernel
  have fl7 := hts (.fieldLink RX3 7 "CountedHeapModel" "size" "[I") (by decide +kernel)
  have fl28 := hts (.fieldLink RX3 28 "CountedHeapModel" "kind" "[I") (by decide +kernel)
  have b104 : ∀ (k104 : St → Int32 → Option (Int32 × St)) (hk104 : ∀ (x1 : Int32) (u : St), k104 u x1 = some o → GWn p l e R s m args below meth c nc ns Q dC dI (wD a cI cZ) A 2 104 [(0, .ref (a 0)), (1, .int x1)] [] u) (x1 : Int32) (u : St), F_X3_init_104 k104 u x1 = some o → GWn p l e R s m args below meth c nc ns Q dC dI (wD a cI cZ) A 2 104 [(0, .ref (a 0)), (1, .int x1)] [] u := by
      intro k104 hk104 x1 u hF H locs ls hP hD hS hl
      unfold F_X3_init_104 at hF
      refine lv_iload_n hx hb dX3_init_104 rfl (lv_at hl 1 rfl) ?_
      refine lv_bipush (v := 25) hx hb dX3_init_105 (by decide) ?_
      refine lv_icmp_ge (tgt := 123) hx hb dX3_init_107 (by decide) (fun h1 => ?_) (fun h1 => ?_)
      · replace hF := ip h1 hF
        exact hQ _ _ _ _ _ (Option.some.inj hF) hP hD hS dX3_init_123
      · replace hF := iq h1 hF
        refine lv_aload_n hx hb dX3_init_110 rfl (lv_at hl 0 rfl) ?_
        refine va_get (D := (dC, dI)) (ci := 3) (v := .ref (a 7)) (C := RX3) (T := TX3) (N := 17) hx hb hts hin hown hK hP 0 rfl rfl 11 (by decide) fl28 (fun _ h9 => h9) rfl dX3_init_111 ?_
        refine lv_iload_n hx hb dX3_init_114 rfl (lv_at hl 1 rfl) ?_
        refine lv_iconst (v := (-1)) hx hb dX3_init_115 (by decide) ?_
        obtain ⟨hi2, hF⟩ := ck hF
        refine va_iast hx hb hK hP hD hS 7 0 rfl rfl hi2 dX3_init_116 (fun H locs hP hD hS => ?_)
        replace hP := wD_p7 hP
        replace hD := wD_d7 hD
        refine lv_iinc (v := (x1 + 1)) (lv' := [(1, .int (x1 + 1)), (0, .ref (a 0))]) hx hb dX3_init_117 hl (k := 1) rfl rfl (by decide) rfl (fun ls hl => ?_)
        refine lv_goto (tgt := 104) hx hb dX3_init_120 (by decide) ?_
        exact hk104 ((x1 + 1)) (su u 7 x1.toNatClampNeg (-1)) hF H locs ls hP hD hS (lv_sub hl [1, 0] rfl)
  have l104 : ∀ (n : Nat) (x1 : Int32) (u : St), L_X3_init_104 n u x1 = some o → GWn p l e R s m args below meth c nc ns Q dC dI (wD a cI cZ) A 2 104 [(0, .ref (a 0)), (1, .int x1)] [] u := by
      intro n
      induction n with
      | zero =>
        intro x1 u hF
        have hF : (none : Option (Int32 × St)) = some o := hF
        cases hF
      | succ n ih =>
        intro x1 u hF
        exact b104 (L_X3_init_104 n) ih x1 u hF
  have b84 : ∀ (k84 : St → Int32 → Option (Int32 × St)) (hk84 : ∀ (x1 : Int32) (u : St), k84 u x1 = some o → GWn p l e R s m args below meth c nc ns Q dC dI (wD a cI cZ) A 2 84 [(0, .ref (a 0)), (1, .int x1)] [] u) (x1 : Int32) (u : St), F_X3_init_84 k84 u x1 = some o → GWn p l e R s m args below meth c nc ns Q dC dI (wD a cI cZ) A 2 84 [(0, .ref (a 0)), (1, .int x1)] [] u := by
      intro k84 hk84 x1 u hF H locs ls hP hD hS hl
      unfold F_X3_init_84 at hF
      refine lv_iload_n hx hb dX3_init_84 rfl (lv_at hl 1 rfl) ?_
      refine lv_iconst (v := 4) hx hb dX3_init_85 (by decide) ?_
      refine lv_icmp_ge (tgt := 102) hx hb dX3_init_86 (by decide) (fun h1 => ?_) (fun h1 => ?_)
      · replace hF := ip h1 hF
        refine lv_iconst (v := 0) hx hb dX3_init_102 (by decide) ?_
        refine lv_istore_n (lv' := [(1, .int 0), (0, .ref (a 0))]) hx hb dX3_init_103 rfl hl (by decide) rfl (fun ls hl => ?_)
        exact l104  fuel 0 u hF H locs ls hP hD hS (lv_sub hl [1, 0] rfl)
      · replace hF := iq h1 hF
        refine lv_aload_n hx hb dX3_init_89 rfl (lv_at hl 0 rfl) ?_
        refine va_get (D := (dC, dI)) (ci := 3) (v := .ref (a 1)) (C := RX3) (T := TX3) (N := 17) hx hb hts hin hown hK hP 0 rfl rfl 0 (by decide) fl7 (fun _ h9 => h9) rfl dX3_init_90 ?_
        refine lv_iload_n hx hb dX3_init_93 rfl (lv_at hl 1 rfl) ?_
        refine lv_iconst (v := 1) hx hb dX3_init_94 (by decide) ?_
        obtain ⟨hi2, hF⟩ := ck hF
        refine va_iast hx hb hK hP hD hS 1 0 rfl rfl hi2 dX3_init_95 (fun H locs hP hD hS => ?_)
        replace hP := wD_p1 hP
        replace hD := wD_d1 hD
        refine lv_iinc (v := (x1 + 1)) (lv' := [(1, .int (x1 + 1)), (0, .ref (a 0))]) hx hb dX3_init_96 hl (k := 1) rfl rfl (by decide) rfl (fun ls hl => ?_)
        refine lv_goto (tgt := 84) hx hb dX3_init_99 (by decide) ?_
        exact hk84 ((x1 + 1)) (su u 1 x1.toNatClampNeg 1) hF H locs ls hP hD hS (lv_sub hl [1, 0] rfl)
  have l84 : ∀ (n : Nat) (x1 : Int32) (u : St), L_X3_init_84 n u x1 = some o → GWn p l e R s m args below meth c nc ns Q dC dI (wD a cI cZ) A 2 84 [(0, .ref (a 0)), (1, .int x1)] [] u := by
      intro n
      induction n with
      | zero =>
        intro x1 u hF
        have hF : (none : Option (Int32 × St)) = some o := hF
        cases hF
      | succ n ih =>
        intro x1 u hF
        exact b84 (L_X3_init_84 n) ih x1 u hF
  unfold F_X3_init at hF
  refine lv_iconst (v := 0) hx hb dX3_init_82 (by decide) ?_
  refine lv_istore_n (lv' := [(1, .int 0), (0, .ref (a 0))]) hx hb dX3_init_83 rfl hl (by decide) rfl (fun ls hl => ?_)
  exact l84  fuel 0 u hF H locs ls hP hD hS (lv_sub hl [1, 0] rfl)

set_option maxRecDepth 100000 in
set_option maxHeartbeats 4000000 in
theorem c_X0_init (l : Launch) (dC : Nat → ClassId) (dI : Nat → Nat → Nat) (cI cZ : ClassId) (h sz : Nat) : Met l yX0_init wsX0_init ({ frames := 1, cells := 8, slots := 284, locals := 12 }) (va_Pc [.ref h] (fun U => U.heap.size = sz ∧ va_P (dC, dI) vwCl [(h, .inr (0, [.null, .null, .null, .null, .null, .null, .null, .null, .int 0, .int 0, .int 0]))] U.heap ∧ va_K (dC, dI) vwCl (tyW cI cZ) U ∧ va_D (fun _ => True) [(h, .inr (0, [.null, .null, .null, .null, .null, .null, .null, .null, .int 0, .int 0, .int 0]))])) (va_Qv (fun (a : Nat → Nat) => a 0 = h) (fun (a : Nat → Nat) (t : State) => va_P (dC, dI) vwCl (wM a cI cZ) t.heap ∧ va_K (dC, dI) vwCl (tyW cI cZ) t ∧ va_D (va_A [(h, .inr (0, [.null, .null, .null, .null, .null, .null, .null, .null, .int 0, .int 0, .int 0]))] sz) (wM a cI cZ)) (va_A [(h, .inr (0, [.null, .null, .null, .null, .null, .null, .null, .null, .int 0, .int 0, .int 0]))] sz)) 8 284 (va_A [(h, .inr (0, [.null, .null, .null, .null, .null, .null, .null, .null, .int 0, .int 0, .int 0]))] sz) := by
  refine Met.ofW (cc := cX0_init) (maxL := 1) (ret := none) (by decide) rfl ?_
  intro p e s m args below meth c s₁ B hml hv
  obtain ⟨rfl, hsz, hP, hK, hD0⟩ := hv
  have hx := B.exec
  have hb := B.bytes
  have hr := B.returns
  have hts := atoms_spec (ws := wsX0_init) B.pre
  have hown : s.vm.findClass RX0 = some m.cls := findClass_of_methodNamed B.named
  have hlocks := B.notSynchronized
  have hin2 : meth.name = "<init>" := (name_of_methodNamed B.named B.method).1
  subst hsz
  have hD := hD0.self (sz := s.heap.size)
  have hA : ∀ q : Nat, s.heap.size ≤ q → (va_A [(h, .inr (0, [.null, .null, .null, .null, .null, .null, .null, .null, .int 0, .int 0, .int 0]))] s.heap.size) q := fun q h => Or.inr h
  generalize va_A [(h, .inr (0, [.null, .null, .null, .null, .null, .null, .null, .null, .int 0, .int 0, .int 0]))] s.heap.size = A at hD hA ⊢
  have hS : va_S A s.heap s.heap [] := va_S.rf
  have hP : va_P (dC, dI) vwCl [(h, .inr (0, [.null, .null, .null, .null, .null, .null, .null, .null, .int 0, .int 0, .int 0]))] s.heap := hP
  have hl := lv_entry ([.ref h]) (n := 1) (Nat.le_of_ble_eq_true rfl)
  rw [lg_entry_eq]
  generalize (lg_sl ([.ref h]) ++ List.replicate (1 - (lg_sl ([.ref h])).length) Slot.unset).toArray = ls at hl ⊢
  have hl : lv_has ls 1 [(0, .ref h)] := hl
  have hin : ∀ w ∈ u_ws RX0 TX0 11, w ∈ wsX0_init := by decide +kernel
  have fl9 := hts (.fieldLink RX0 9 "CountedHeap$Memory" "sizes" "[I") (by decide +kernel)
  have fl15 := hts (.fieldLink RX0 15 "CountedHeap$Memory" "maps" "[I") (by decide +kernel)
  have fl18 := hts (.fieldLink RX0 18 "CountedHeap$Memory" "cells" "[I") (by decide +kernel)
  have fl21 := hts (.fieldLink RX0 21 "CountedHeap$Memory" "used" "[Z") (by decide +kernel)
  have fl25 := hts (.fieldLink RX0 25 "CountedHeap$Memory" "types" "[I") (by decide +kernel)
  have fl28 := hts (.fieldLink RX0 28 "CountedHeap$Memory" "counts" "[I") (by decide +kernel)
  have fl31 := hts (.fieldLink RX0 31 "CountedHeap$Memory" "reached" "[Z") (by decide +kernel)
  have fl34 := hts (.fieldLink RX0 34 "CountedHeap$Memory" "queue" "[I") (by decide +kernel)
  have fl37 := hts (.fieldLink RX0 37 "CountedHeap$Memory" "queued" "I") (by decide +kernel)
  have fl41 := hts (.fieldLink RX0 41 "CountedHeap$Memory" "usedTotal" "I") (by decide +kernel)
  have fl44 := hts (.fieldLink RX0 44 "CountedHeap$Memory" "givenBack" "I") (by decide +kernel)
  refine lv_aload_n hx hb dX0_init_0 rfl (lv_at hl 0 rfl) ?_
  refine W.objInit hx hb hown (hts (.methodLink RX0 3 objectInit) (by decide +kernel)) (hts (.instanceMethod objectInit) (by decide +kernel)) (hts (.code objectInit ⟨#[0xb1]⟩ 1 none) (by decide +kernel)) rfl (by rw [hml]; exact hl.1) rfl dX0_init_1 (Nat.le_of_ble_eq_true rfl) (Nat.le_of_ble_eq_true rfl) ?_
  refine W.eq (g2 := F0 m 4 ls []) rfl ?_
  refine lv_aload_n hx hb dX0_init_4 rfl (lv_at hl 0 rfl) ?_
  refine lv_iconst (v := 4) hx hb dX0_init_5 (by decide) ?_
  refine newI hx hb (hts (.arrayClass .int) (by decide +kernel)) hK hP hD hS hA (by decide) (N' := 4) (by decide) (by decide) (Nat.le_of_ble_eq_true rfl) (Nat.le_of_ble_eq_true rfl) dX0_init_6 (fun q1 H hP hD hS => ?_)
  replace hP : va_P (dC, dI) vwCl [(h, .inr (0, [.null, .null, .null, .null, .null, .null, .null, .null, .int 0, .int 0, .int 0])), (q1, .inl (cI, 4, .inl (fun _ => 0)))] H := hP
  replace hD : va_D A [(h, .inr (0, [.null, .null, .null, .null, .null, .null, .null, .null, .int 0, .int 0, .int 0])), (q1, .inl (cI, 4, .inl (fun _ => 0)))] := hD
  refine lv_dup hx hb dX0_init_8 rfl ?_
  refine lv_iconst (v := 0) hx hb dX0_init_9 (by decide) ?_
  refine lv_iconst (v := 1) hx hb dX0_init_10 (by decide) ?_
  refine va_iast hx hb hK hP hD hS 1 0 rfl rfl (show vp_in 0 4 by unfold vp_in; decide) dX0_init_11 (fun H locs hP hD hS => ?_)
  replace hP : va_P (dC, dI) vwCl [(h, .inr (0, [.null, .null, .null, .null, .null, .null, .null, .null, .int 0, .int 0, .int 0])), (q1, .inl (cI, 4, .inl (upd (fun _ => 0) (0 : Int32).toNatClampNeg 1)))] H := hP
  replace hD : va_D A [(h, .inr (0, [.null, .null, .null, .null, .null, .null, .null, .null, .int 0, .int 0, .int 0])), (q1, .inl (cI, 4, .inl (upd (fun _ => 0) (0 : Int32).toNatClampNeg 1)))] := hD
  refine lv_dup hx hb dX0_init_12 rfl ?_
  refine lv_iconst (v := 1) hx hb dX0_init_13 (by decide) ?_
  refine lv_iconst (v := 1) hx hb dX0_init_14 (by decide) ?_
  refine va_iast hx hb hK hP hD hS 1 0 rfl rfl (show vp_in 1 4 by unfold vp_in; decide) dX0_init_15 (fun H locs hP hD hS => ?_)
  replace hP : va_P (dC, dI) vwCl [(h, .inr (0, [.null, .null, .null, .null, .null, .null, .null, .null, .int 0, .int 0, .int 0])), (q1, .inl (cI, 4, .inl (upd (upd (fun _ => 0) (0 : Int32).toNatClampNeg 1) (1 : Int32).toNatClampNeg 1)))] H := hP
  replace hD : va_D A [(h, .inr (0, [.null, .null, .null, .null, .null, .null, .null, .null, .int 0, .int 0, .int 0])), (q1, .inl (cI, 4, .inl (upd (upd (fun _ => 0) (0 : Int32).toNatClampNeg 1) (1 : Int32).toNatClampNeg 1)))] := hD
  refine lv_dup hx hb dX0_init_16 rfl ?_
  refine lv_iconst (v := 2) hx hb dX0_init_17 (by decide) ?_
  refine lv_iconst (v := 1) hx hb dX0_init_18 (by decide) ?_
  refine va_iast hx hb hK hP hD hS 1 0 rfl rfl (show vp_in 2 4 by unfold vp_in; decide) dX0_init_19 (fun H locs hP hD hS => ?_)
  replace hP : va_P (dC, dI) vwCl [(h, .inr (0, [.null, .null, .null, .null, .null, .null, .null, .null, .int 0, .int 0, .int 0])), (q1, .inl (cI, 4, .inl (upd (upd (upd (fun _ => 0) (0 : Int32).toNatClampNeg 1) (1 : Int32).toNatClampNeg 1) (2 : Int32).toNatClampNeg 1)))] H := hP
  replace hD : va_D A [(h, .inr (0, [.null, .null, .null, .null, .null, .null, .null, .null, .int 0, .int 0, .int 0])), (q1, .inl (cI, 4, .inl (upd (upd (upd (fun _ => 0) (0 : Int32).toNatClampNeg 1) (1 : Int32).toNatClampNeg 1) (2 : Int32).toNatClampNeg 1)))] := hD
  refine lv_dup hx hb dX0_init_20 rfl ?_
  refine lv_iconst (v := 3) hx hb dX0_init_21 (by decide) ?_
  refine lv_iconst (v := 1) hx hb dX0_init_22 (by decide) ?_
  refine va_iast hx hb hK hP hD hS 1 0 rfl rfl (show vp_in 3 4 by unfold vp_in; decide) dX0_init_23 (fun H locs hP hD hS => ?_)
  replace hP : va_P (dC, dI) vwCl [(h, .inr (0, [.null, .null, .null, .null, .null, .null, .null, .null, .int 0, .int 0, .int 0])), (q1, .inl (cI, 4, .inl (upd (upd (upd (upd (fun _ => 0) (0 : Int32).toNatClampNeg 1) (1 : Int32).toNatClampNeg 1) (2 : Int32).toNatClampNeg 1) (3 : Int32).toNatClampNeg 1)))] H := hP
  replace hD : va_D A [(h, .inr (0, [.null, .null, .null, .null, .null, .null, .null, .null, .int 0, .int 0, .int 0])), (q1, .inl (cI, 4, .inl (upd (upd (upd (upd (fun _ => 0) (0 : Int32).toNatClampNeg 1) (1 : Int32).toNatClampNeg 1) (2 : Int32).toNatClampNeg 1) (3 : Int32).toNatClampNeg 1)))] := hD
  refine va_putF (D := (dC, dI)) (ci := 0) (v := .ref (q1)) (ty := tyX0 0) (C := RX0) (T := TX0) (N := 11) hx hb hts hin tyX0 tyX0_ok nmX0 hown hK hP hD hS 0 rfl rfl 0 (by decide) fl9 (fun _ h9 => h9) rfl hin2 rfl (tyX0_ok 0 (by decide)) rfl rfl (Nat.le_of_ble_eq_true rfl) dX0_init_24 (fun H locs hP hD hS => ?_)
  replace hP : va_P (dC, dI) vwCl [(h, .inr (0, [.ref (q1), .null, .null, .null, .null, .null, .null, .null, .int 0, .int 0, .int 0])), (q1, .inl (cI, 4, .inl (upd (upd (upd (upd (fun _ => 0) (0 : Int32).toNatClampNeg 1) (1 : Int32).toNatClampNeg 1) (2 : Int32).toNatClampNeg 1) (3 : Int32).toNatClampNeg 1)))] H := hP
  replace hD : va_D A [(h, .inr (0, [.ref (q1), .null, .null, .null, .null, .null, .null, .null, .int 0, .int 0, .int 0])), (q1, .inl (cI, 4, .inl (upd (upd (upd (upd (fun _ => 0) (0 : Int32).toNatClampNeg 1) (1 : Int32).toNatClampNeg 1) (2 : Int32).toNatClampNeg 1) (3 : Int32).toNatClampNeg 1)))] := hD
  refine lv_aload_n hx hb dX0_init_27 rfl (lv_at hl 0 rfl) ?_
  refine lv_iconst (v := 4) hx hb dX0_init_28 (by decide) ?_
  refine newI hx hb (hts (.arrayClass .int) (by decide +kernel)) hK hP hD hS hA (by decide) (N' := 4) (by decide) (by decide) (Nat.le_of_ble_eq_true rfl) (Nat.le_of_ble_eq_true rfl) dX0_init_29 (fun q2 H hP hD hS => ?_)
  replace hP : va_P (dC, dI) vwCl [(h, .inr (0, [.ref (q1), .null, .null, .null, .null, .null, .null, .null, .int 0, .int 0, .int 0])), (q1, .inl (cI, 4, .inl (upd (upd (upd (upd (fun _ => 0) (0 : Int32).toNatClampNeg 1) (1 : Int32).toNatClampNeg 1) (2 : Int32).toNatClampNeg 1) (3 : Int32).toNatClampNeg 1))), (q2, .inl (cI, 4, .inl (fun _ => 0)))] H := hP
  replace hD : va_D A [(h, .inr (0, [.ref (q1), .null, .null, .null, .null, .null, .null, .null, .int 0, .int 0, .int 0])), (q1, .inl (cI, 4, .inl (upd (upd (upd (upd (fun _ => 0) (0 : Int32).toNatClampNeg 1) (1 : Int32).toNatClampNeg 1) (2 : Int32).toNatClampNeg 1) (3 : Int32).toNatClampNeg 1))), (q2, .inl (cI, 4, .inl (fun _ => 0)))] := hD
  refine va_putF (D := (dC, dI)) (ci := 0) (v := .ref (q2)) (ty := tyX0 1) (C := RX0) (T := TX0) (N := 11) hx hb hts hin tyX0 tyX0_ok nmX0 hown hK hP hD hS 0 rfl rfl 1 (by decide) fl15 (fun _ h9 => h9) rfl hin2 rfl (tyX0_ok 1 (by decide)) rfl rfl (Nat.le_of_ble_eq_true rfl) dX0_init_31 (fun H locs hP hD hS => ?_)
  replace hP : va_P (dC, dI) vwCl [(h, .inr (0, [.ref (q1), .ref (q2), .null, .null, .null, .null, .null, .null, .int 0, .int 0, .int 0])), (q1, .inl (cI, 4, .inl (upd (upd (upd (upd (fun _ => 0) (0 : Int32).toNatClampNeg 1) (1 : Int32).toNatClampNeg 1) (2 : Int32).toNatClampNeg 1) (3 : Int32).toNatClampNeg 1))), (q2, .inl (cI, 4, .inl (fun _ => 0)))] H := hP
  replace hD : va_D A [(h, .inr (0, [.ref (q1), .ref (q2), .null, .null, .null, .null, .null, .null, .int 0, .int 0, .int 0])), (q1, .inl (cI, 4, .inl (upd (upd (upd (upd (fun _ => 0) (0 : Int32).toNatClampNeg 1) (1 : Int32).toNatClampNeg 1) (2 : Int32).toNatClampNeg 1) (3 : Int32).toNatClampNeg 1))), (q2, .inl (cI, 4, .inl (fun _ => 0)))] := hD
  refine lv_aload_n hx hb dX0_init_34 rfl (lv_at hl 0 rfl) ?_
  refine lv_sipush (v := 152) hx hb dX0_init_35 (by decide) ?_
  refine newI hx hb (hts (.arrayClass .int) (by decide +kernel)) hK hP hD hS hA (by decide) (N' := 152) (by decide) (by decide) (Nat.le_of_ble_eq_true rfl) (Nat.le_of_ble_eq_true rfl) dX0_init_38 (fun q3 H hP hD hS => ?_)
  replace hP : va_P (dC, dI) vwCl [(h, .inr (0, [.ref (q1), .ref (q2), .null, .null, .null, .null, .null, .null, .int 0, .int 0, .int 0])), (q1, .inl (cI, 4, .inl (upd (upd (upd (upd (fun _ => 0) (0 : Int32).toNatClampNeg 1) (1 : Int32).toNatClampNeg 1) (2 : Int32).toNatClampNeg 1) (3 : Int32).toNatClampNeg 1))), (q2, .inl (cI, 4, .inl (fun _ => 0))), (q3, .inl (cI, 152, .inl (fun _ => 0)))] H := hP
  replace hD : va_D A [(h, .inr (0, [.ref (q1), .ref (q2), .null, .null, .null, .null, .null, .null, .int 0, .int 0, .int 0])), (q1, .inl (cI, 4, .inl (upd (upd (upd (upd (fun _ => 0) (0 : Int32).toNatClampNeg 1) (1 : Int32).toNatClampNeg 1) (2 : Int32).toNatClampNeg 1) (3 : Int32).toNatClampNeg 1))), (q2, .inl (cI, 4, .inl (fun _ => 0))), (q3, .inl (cI, 152, .inl (fun _ => 0)))] := hD
  refine va_putF (D := (dC, dI)) (ci := 0) (v := .ref (q3)) (ty := tyX0 2) (C := RX0) (T := TX0) (N := 11) hx hb hts hin tyX0 tyX0_ok nmX0 hown hK hP hD hS 0 rfl rfl 2 (by decide) fl18 (fun _ h9 => h9) rfl hin2 rfl (tyX0_ok 2 (by decide)) rfl rfl (Nat.le_of_ble_eq_true rfl) dX0_init_40 (fun H locs hP hD hS => ?_)
  replace hP : va_P (dC, dI) vwCl [(h, .inr (0, [.ref (q1), .ref (q2), .ref (q3), .null, .null, .null, .null, .null, .int 0, .int 0, .int 0])), (q1, .inl (cI, 4, .inl (upd (upd (upd (upd (fun _ => 0) (0 : Int32).toNatClampNeg 1) (1 : Int32).toNatClampNeg 1) (2 : Int32).toNatClampNeg 1) (3 : Int32).toNatClampNeg 1))), (q2, .inl (cI, 4, .inl (fun _ => 0))), (q3, .inl (cI, 152, .inl (fun _ => 0)))] H := hP
  replace hD : va_D A [(h, .inr (0, [.ref (q1), .ref (q2), .ref (q3), .null, .null, .null, .null, .null, .int 0, .int 0, .int 0])), (q1, .inl (cI, 4, .inl (upd (upd (upd (upd (fun _ => 0) (0 : Int32).toNatClampNeg 1) (1 : Int32).toNatClampNeg 1) (2 : Int32).toNatClampNeg 1) (3 : Int32).toNatClampNeg 1))), (q2, .inl (cI, 4, .inl (fun _ => 0))), (q3, .inl (cI, 152, .inl (fun _ => 0)))] := hD
  refine lv_aload_n hx hb dX0_init_43 rfl (lv_at hl 0 rfl) ?_
  refine lv_bipush (v := 25) hx hb dX0_init_44 (by decide) ?_
  refine newZ hx hb (hts (.arrayClass .boolean) (by decide +kernel)) hK hP hD hS hA (by decide) (N' := 25) (by decide) (by decide) (Nat.le_of_ble_eq_true rfl) (Nat.le_of_ble_eq_true rfl) dX0_init_46 (fun q4 H hP hD hS => ?_)
  replace hP : va_P (dC, dI) vwCl [(h, .inr (0, [.ref (q1), .ref (q2), .ref (q3), .null, .null, .null, .null, .null, .int 0, .int 0, .int 0])), (q1, .inl (cI, 4, .inl (upd (upd (upd (upd (fun _ => 0) (0 : Int32).toNatClampNeg 1) (1 : Int32).toNatClampNeg 1) (2 : Int32).toNatClampNeg 1) (3 : Int32).toNatClampNeg 1))), (q2, .inl (cI, 4, .inl (fun _ => 0))), (q3, .inl (cI, 152, .inl (fun _ => 0))), (q4, .inl (cZ, 25, .inl (fun _ => 0)))] H := hP
  replace hD : va_D A [(h, .inr (0, [.ref (q1), .ref (q2), .ref (q3), .null, .null, .null, .null, .null, .int 0, .int 0, .int 0])), (q1, .inl (cI, 4, .inl (upd (upd (upd (upd (fun _ => 0) (0 : Int32).toNatClampNeg 1) (1 : Int32).toNatClampNeg 1) (2 : Int32).toNatClampNeg 1) (3 : Int32).toNatClampNeg 1))), (q2, .inl (cI, 4, .inl (fun _ => 0))), (q3, .inl (cI, 152, .inl (fun _ => 0))), (q4, .inl (cZ, 25, .inl (fun _ => 0)))] := hD
  refine va_putF (D := (dC, dI)) (ci := 0) (v := .ref (q4)) (ty := tyX0 3) (C := RX0) (T := TX0) (N := 11) hx hb hts hin tyX0 tyX0_ok nmX0 hown hK hP hD hS 0 rfl rfl 3 (by decide) fl21 (fun _ h9 => h9) rfl hin2 rfl (tyX0_ok 3 (by decide)) rfl rfl (Nat.le_of_ble_eq_true rfl) dX0_init_48 (fun H locs hP hD hS => ?_)
  replace hP : va_P (dC, dI) vwCl [(h, .inr (0, [.ref (q1), .ref (q2), .ref (q3), .ref (q4), .null, .null, .null, .null, .int 0, .int 0, .int 0])), (q1, .inl (cI, 4, .inl (upd (upd (upd (upd (fun _ => 0) (0 : Int32).toNatClampNeg 1) (1 : Int32).toNatClampNeg 1) (2 : Int32).toNatClampNeg 1) (3 : Int32).toNatClampNeg 1))), (q2, .inl (cI, 4, .inl (fun _ => 0))), (q3, .inl (cI, 152, .inl (fun _ => 0))), (q4, .inl (cZ, 25, .inl (fun _ => 0)))] H := hP
  replace hD : va_D A [(h, .inr (0, [.ref (q1), .ref (q2), .ref (q3), .ref (q4), .null, .null, .null, .null, .int 0, .int 0, .int 0])), (q1, .inl (cI, 4, .inl (upd (upd (upd (upd (fun _ => 0) (0 : Int32).toNatClampNeg 1) (1 : Int32).toNatClampNeg 1) (2 : Int32).toNatClampNeg 1) (3 : Int32).toNatClampNeg 1))), (q2, .inl (cI, 4, .inl (fun _ => 0))), (q3, .inl (cI, 152, .inl (fun _ => 0))), (q4, .inl (cZ, 25, .inl (fun _ => 0)))] := hD
  refine lv_aload_n hx hb dX0_init_51 rfl (lv_at hl 0 rfl) ?_
  refine lv_bipush (v := 25) hx hb dX0_init_52 (by decide) ?_
  refine newI hx hb (hts (.arrayClass .int) (by decide +kernel)) hK hP hD hS hA (by decide) (N' := 25) (by decide) (by decide) (Nat.le_of_ble_eq_true rfl) (Nat.le_of_ble_eq_true rfl) dX0_init_54 (fun q5 H hP hD hS => ?_)
  replace hP : va_P (dC, dI) vwCl [(h, .inr (0, [.ref (q1), .ref (q2), .ref (q3), .ref (q4), .null, .null, .null, .null, .int 0, .int 0, .int 0])), (q1, .inl (cI, 4, .inl (upd (upd (upd (upd (fun _ => 0) (0 : Int32).toNatClampNeg 1) (1 : Int32).toNatClampNeg 1) (2 : Int32).toNatClampNeg 1) (3 : Int32).toNatClampNeg 1))), (q2, .inl (cI, 4, .inl (fun _ => 0))), (q3, .inl (cI, 152, .inl (fun _ => 0))), (q4, .inl (cZ, 25, .inl (fun _ => 0))), (q5, .inl (cI, 25, .inl (fun _ => 0)))] H := hP
  replace hD : va_D A [(h, .inr (0, [.ref (q1), .ref (q2), .ref (q3), .ref (q4), .null, .null, .null, .null, .int 0, .int 0, .int 0])), (q1, .inl (cI, 4, .inl (upd (upd (upd (upd (fun _ => 0) (0 : Int32).toNatClampNeg 1) (1 : Int32).toNatClampNeg 1) (2 : Int32).toNatClampNeg 1) (3 : Int32).toNatClampNeg 1))), (q2, .inl (cI, 4, .inl (fun _ => 0))), (q3, .inl (cI, 152, .inl (fun _ => 0))), (q4, .inl (cZ, 25, .inl (fun _ => 0))), (q5, .inl (cI, 25, .inl (fun _ => 0)))] := hD
  refine va_putF (D := (dC, dI)) (ci := 0) (v := .ref (q5)) (ty := tyX0 4) (C := RX0) (T := TX0) (N := 11) hx hb hts hin tyX0 tyX0_ok nmX0 hown hK hP hD hS 0 rfl rfl 4 (by decide) fl25 (fun _ h9 => h9) rfl hin2 rfl (tyX0_ok 4 (by decide)) rfl rfl (Nat.le_of_ble_eq_true rfl) dX0_init_56 (fun H locs hP hD hS => ?_)
  replace hP : va_P (dC, dI) vwCl [(h, .inr (0, [.ref (q1), .ref (q2), .ref (q3), .ref (q4), .ref (q5), .null, .null, .null, .int 0, .int 0, .int 0])), (q1, .inl (cI, 4, .inl (upd (upd (upd (upd (fun _ => 0) (0 : Int32).toNatClampNeg 1) (1 : Int32).toNatClampNeg 1) (2 : Int32).toNatClampNeg 1) (3 : Int32).toNatClampNeg 1))), (q2, .inl (cI, 4, .inl (fun _ => 0))), (q3, .inl (cI, 152, .inl (fun _ => 0))), (q4, .inl (cZ, 25, .inl (fun _ => 0))), (q5, .inl (cI, 25, .inl (fun _ => 0)))] H := hP
  replace hD : va_D A [(h, .inr (0, [.ref (q1), .ref (q2), .ref (q3), .ref (q4), .ref (q5), .null, .null, .null, .int 0, .int 0, .int 0])), (q1, .inl (cI, 4, .inl (upd (upd (upd (upd (fun _ => 0) (0 : Int32).toNatClampNeg 1) (1 : Int32).toNatClampNeg 1) (2 : Int32).toNatClampNeg 1) (3 : Int32).toNatClampNeg 1))), (q2, .inl (cI, 4, .inl (fun _ => 0))), (q3, .inl (cI, 152, .inl (fun _ => 0))), (q4, .inl (cZ, 25, .inl (fun _ => 0))), (q5, .inl (cI, 25, .inl (fun _ => 0)))] := hD
  refine lv_aload_n hx hb dX0_init_59 rfl (lv_at hl 0 rfl) ?_
  refine lv_bipush (v := 25) hx hb dX0_init_60 (by decide) ?_
  refine newI hx hb (hts (.arrayClass .int) (by decide +kernel)) hK hP hD hS hA (by decide) (N' := 25) (by decide) (by decide) (Nat.le_of_ble_eq_true rfl) (Nat.le_of_ble_eq_true rfl) dX0_init_62 (fun q6 H hP hD hS => ?_)
  replace hP : va_P (dC, dI) vwCl [(h, .inr (0, [.ref (q1), .ref (q2), .ref (q3), .ref (q4), .ref (q5), .null, .null, .null, .int 0, .int 0, .int 0])), (q1, .inl (cI, 4, .inl (upd (upd (upd (upd (fun _ => 0) (0 : Int32).toNatClampNeg 1) (1 : Int32).toNatClampNeg 1) (2 : Int32).toNatClampNeg 1) (3 : Int32).toNatClampNeg 1))), (q2, .inl (cI, 4, .inl (fun _ => 0))), (q3, .inl (cI, 152, .inl (fun _ => 0))), (q4, .inl (cZ, 25, .inl (fun _ => 0))), (q5, .inl (cI, 25, .inl (fun _ => 0))), (q6, .inl (cI, 25, .inl (fun _ => 0)))] H := hP
  replace hD : va_D A [(h, .inr (0, [.ref (q1), .ref (q2), .ref (q3), .ref (q4), .ref (q5), .null, .null, .null, .int 0, .int 0, .int 0])), (q1, .inl (cI, 4, .inl (upd (upd (upd (upd (fun _ => 0) (0 : Int32).toNatClampNeg 1) (1 : Int32).toNatClampNeg 1) (2 : Int32).toNatClampNeg 1) (3 : Int32).toNatClampNeg 1))), (q2, .inl (cI, 4, .inl (fun _ => 0))), (q3, .inl (cI, 152, .inl (fun _ => 0))), (q4, .inl (cZ, 25, .inl (fun _ => 0))), (q5, .inl (cI, 25, .inl (fun _ => 0))), (q6, .inl (cI, 25, .inl (fun _ => 0)))] := hD
  refine va_putF (D := (dC, dI)) (ci := 0) (v := .ref (q6)) (ty := tyX0 5) (C := RX0) (T := TX0) (N := 11) hx hb hts hin tyX0 tyX0_ok nmX0 hown hK hP hD hS 0 rfl rfl 5 (by decide) fl28 (fun _ h9 => h9) rfl hin2 rfl (tyX0_ok 5 (by decide)) rfl rfl (Nat.le_of_ble_eq_true rfl) dX0_init_64 (fun H locs hP hD hS => ?_)
  replace hP : va_P (dC, dI) vwCl [(h, .inr (0, [.ref (q1), .ref (q2), .ref (q3), .ref (q4), .ref (q5), .ref (q6), .null, .null, .int 0, .int 0, .int 0])), (q1, .inl (cI, 4, .inl (upd (upd (upd (upd (fun _ => 0) (0 : Int32).toNatClampNeg 1) (1 : Int32).toNatClampNeg 1) (2 : Int32).toNatClampNeg 1) (3 : Int32).toNatClampNeg 1))), (q2, .inl (cI, 4, .inl (fun _ => 0))), (q3, .inl (cI, 152, .inl (fun _ => 0))), (q4, .inl (cZ, 25, .inl (fun _ => 0))), (q5, .inl (cI, 25, .inl (fun _ => 0))), (q6, .inl (cI, 25, .inl (fun _ => 0)))] H := hP
  replace hD : va_D A [(h, .inr (0, [.ref (q1), .ref (q2), .ref (q3), .ref (q4), .ref (q5), .ref (q6), .null, .null, .int 0, .int 0, .int 0])), (q1, .inl (cI, 4, .inl (upd (upd (upd (upd (fun _ => 0) (0 : Int32).toNatClampNeg 1) (1 : Int32).toNatClampNeg 1) (2 : Int32).toNatClampNeg 1) (3 : Int32).toNatClampNeg 1))), (q2, .inl (cI, 4, .inl (fun _ => 0))), (q3, .inl (cI, 152, .inl (fun _ => 0))), (q4, .inl (cZ, 25, .inl (fun _ => 0))), (q5, .inl (cI, 25, .inl (fun _ => 0))), (q6, .inl (cI, 25, .inl (fun _ => 0)))] := hD
  refine lv_aload_n hx hb dX0_init_67 rfl (lv_at hl 0 rfl) ?_
  refine lv_bipush (v := 25) hx hb dX0_init_68 (by decide) ?_
  refine newZ hx hb (hts (.arrayClass .boolean) (by decide +kernel)) hK hP hD hS hA (by decide) (N' := 25) (by decide) (by decide) (Nat.le_of_ble_eq_true rfl) (Nat.le_of_ble_eq_true rfl) dX0_init_70 (fun q7 H hP hD hS => ?_)
  replace hP : va_P (dC, dI) vwCl [(h, .inr (0, [.ref (q1), .ref (q2), .ref (q3), .ref (q4), .ref (q5), .ref (q6), .null, .null, .int 0, .int 0, .int 0])), (q1, .inl (cI, 4, .inl (upd (upd (upd (upd (fun _ => 0) (0 : Int32).toNatClampNeg 1) (1 : Int32).toNatClampNeg 1) (2 : Int32).toNatClampNeg 1) (3 : Int32).toNatClampNeg 1))), (q2, .inl (cI, 4, .inl (fun _ => 0))), (q3, .inl (cI, 152, .inl (fun _ => 0))), (q4, .inl (cZ, 25, .inl (fun _ => 0))), (q5, .inl (cI, 25, .inl (fun _ => 0))), (q6, .inl (cI, 25, .inl (fun _ => 0))), (q7, .inl (cZ, 25, .inl (fun _ => 0)))] H := hP
  replace hD : va_D A [(h, .inr (0, [.ref (q1), .ref (q2), .ref (q3), .ref (q4), .ref (q5), .ref (q6), .null, .null, .int 0, .int 0, .int 0])), (q1, .inl (cI, 4, .inl (upd (upd (upd (upd (fun _ => 0) (0 : Int32).toNatClampNeg 1) (1 : Int32).toNatClampNeg 1) (2 : Int32).toNatClampNeg 1) (3 : Int32).toNatClampNeg 1))), (q2, .inl (cI, 4, .inl (fun _ => 0))), (q3, .inl (cI, 152, .inl (fun _ => 0))), (q4, .inl (cZ, 25, .inl (fun _ => 0))), (q5, .inl (cI, 25, .inl (fun _ => 0))), (q6, .inl (cI, 25, .inl (fun _ => 0))), (q7, .inl (cZ, 25, .inl (fun _ => 0)))] := hD
  refine va_putF (D := (dC, dI)) (ci := 0) (v := .ref (q7)) (ty := tyX0 6) (C := RX0) (T := TX0) (N := 11) hx hb hts hin tyX0 tyX0_ok nmX0 hown hK hP hD hS 0 rfl rfl 6 (by decide) fl31 (fun _ h9 => h9) rfl hin2 rfl (tyX0_ok 6 (by decide)) rfl rfl (Nat.le_of_ble_eq_true rfl) dX0_init_72 (fun H locs hP hD hS => ?_)
  replace hP : va_P (dC, dI) vwCl [(h, .inr (0, [.ref (q1), .ref (q2), .ref (q3), .ref (q4), .ref (q5), .ref (q6), .ref (q7), .null, .int 0, .int 0, .int 0])), (q1, .inl (cI, 4, .inl (upd (upd (upd (upd (fun _ => 0) (0 : Int32).toNatClampNeg 1) (1 : Int32).toNatClampNeg 1) (2 : Int32).toNatClampNeg 1) (3 : Int32).toNatClampNeg 1))), (q2, .inl (cI, 4, .inl (fun _ => 0))), (q3, .inl (cI, 152, .inl (fun _ => 0))), (q4, .inl (cZ, 25, .inl (fun _ => 0))), (q5, .inl (cI, 25, .inl (fun _ => 0))), (q6, .inl (cI, 25, .inl (fun _ => 0))), (q7, .inl (cZ, 25, .inl (fun _ => 0)))] H := hP
  replace hD : va_D A [(h, .inr (0, [.ref (q1), .ref (q2), .ref (q3), .ref (q4), .ref (q5), .ref (q6), .ref (q7), .null, .int 0, .int 0, .int 0])), (q1, .inl (cI, 4, .inl (upd (upd (upd (upd (fun _ => 0) (0 : Int32).toNatClampNeg 1) (1 : Int32).toNatClampNeg 1) (2 : Int32).toNatClampNeg 1) (3 : Int32).toNatClampNeg 1))), (q2, .inl (cI, 4, .inl (fun _ => 0))), (q3, .inl (cI, 152, .inl (fun _ => 0))), (q4, .inl (cZ, 25, .inl (fun _ => 0))), (q5, .inl (cI, 25, .inl (fun _ => 0))), (q6, .inl (cI, 25, .inl (fun _ => 0))), (q7, .inl (cZ, 25, .inl (fun _ => 0)))] := hD
  refine lv_aload_n hx hb dX0_init_75 rfl (lv_at hl 0 rfl) ?_
  refine lv_bipush (v := 24) hx hb dX0_init_76 (by decide) ?_
  refine newI hx hb (hts (.arrayClass .int) (by decide +kernel)) hK hP hD hS hA (by decide) (N' := 24) (by decide) (by decide) (Nat.le_of_ble_eq_true rfl) (Nat.le_of_ble_eq_true rfl) dX0_init_78 (fun q8 H hP hD hS => ?_)
  replace hP : va_P (dC, dI) vwCl [(h, .inr (0, [.ref (q1), .ref (q2), .ref (q3), .ref (q4), .ref (q5), .ref (q6), .ref (q7), .null, .int 0, .int 0, .int 0])), (q1, .inl (cI, 4, .inl (upd (upd (upd (upd (fun _ => 0) (0 : Int32).toNatClampNeg 1) (1 : Int32).toNatClampNeg 1) (2 : Int32).toNatClampNeg 1) (3 : Int32).toNatClampNeg 1))), (q2, .inl (cI, 4, .inl (fun _ => 0))), (q3, .inl (cI, 152, .inl (fun _ => 0))), (q4, .inl (cZ, 25, .inl (fun _ => 0))), (q5, .inl (cI, 25, .inl (fun _ => 0))), (q6, .inl (cI, 25, .inl (fun _ => 0))), (q7, .inl (cZ, 25, .inl (fun _ => 0))), (q8, .inl (cI, 24, .inl (fun _ => 0)))] H := hP
  replace hD : va_D A [(h, .inr (0, [.ref (q1), .ref (q2), .ref (q3), .ref (q4), .ref (q5), .ref (q6), .ref (q7), .null, .int 0, .int 0, .int 0])), (q1, .inl (cI, 4, .inl (upd (upd (upd (upd (fun _ => 0) (0 : Int32).toNatClampNeg 1) (1 : Int32).toNatClampNeg 1) (2 : Int32).toNatClampNeg 1) (3 : Int32).toNatClampNeg 1))), (q2, .inl (cI, 4, .inl (fun _ => 0))), (q3, .inl (cI, 152, .inl (fun _ => 0))), (q4, .inl (cZ, 25, .inl (fun _ => 0))), (q5, .inl (cI, 25, .inl (fun _ => 0))), (q6, .inl (cI, 25, .inl (fun _ => 0))), (q7, .inl (cZ, 25, .inl (fun _ => 0))), (q8, .inl (cI, 24, .inl (fun _ => 0)))] := hD
  refine va_putF (D := (dC, dI)) (ci := 0) (v := .ref (q8)) (ty := tyX0 7) (C := RX0) (T := TX0) (N := 11) hx hb hts hin tyX0 tyX0_ok nmX0 hown hK hP hD hS 0 rfl rfl 7 (by decide) fl34 (fun _ h9 => h9) rfl hin2 rfl (tyX0_ok 7 (by decide)) rfl rfl (Nat.le_of_ble_eq_true rfl) dX0_init_80 (fun H locs hP hD hS => ?_)
  replace hP : va_P (dC, dI) vwCl [(h, .inr (0, [.ref (q1), .ref (q2), .ref (q3), .ref (q4), .ref (q5), .ref (q6), .ref (q7), .ref (q8), .int 0, .int 0, .int 0])), (q1, .inl (cI, 4, .inl (upd (upd (upd (upd (fun _ => 0) (0 : Int32).toNatClampNeg 1) (1 : Int32).toNatClampNeg 1) (2 : Int32).toNatClampNeg 1) (3 : Int32).toNatClampNeg 1))), (q2, .inl (cI, 4, .inl (fun _ => 0))), (q3, .inl (cI, 152, .inl (fun _ => 0))), (q4, .inl (cZ, 25, .inl (fun _ => 0))), (q5, .inl (cI, 25, .inl (fun _ => 0))), (q6, .inl (cI, 25, .inl (fun _ => 0))), (q7, .inl (cZ, 25, .inl (fun _ => 0))), (q8, .inl (cI, 24, .inl (fun _ => 0)))] H := hP
  replace hD : va_D A [(h, .inr (0, [.ref (q1), .ref (q2), .ref (q3), .ref (q4), .ref (q5), .ref (q6), .ref (q7), .ref (q8), .int 0, .int 0, .int 0])), (q1, .inl (cI, 4, .inl (upd (upd (upd (upd (fun _ => 0) (0 : Int32).toNatClampNeg 1) (1 : Int32).toNatClampNeg 1) (2 : Int32).toNatClampNeg 1) (3 : Int32).toNatClampNeg 1))), (q2, .inl (cI, 4, .inl (fun _ => 0))), (q3, .inl (cI, 152, .inl (fun _ => 0))), (q4, .inl (cZ, 25, .inl (fun _ => 0))), (q5, .inl (cI, 25, .inl (fun _ => 0))), (q6, .inl (cI, 25, .inl (fun _ => 0))), (q7, .inl (cZ, 25, .inl (fun _ => 0))), (q8, .inl (cI, 24, .inl (fun _ => 0)))] := hD
  refine lv_aload_n hx hb dX0_init_83 rfl (lv_at hl 0 rfl) ?_
  refine lv_iconst (v := 0) hx hb dX0_init_84 (by decide) ?_
  refine va_put (D := (dC, dI)) (ci := 0) (v := .int 0) (ty := .int) (C := RX0) (T := TX0) (N := 11) hx hb hts hin tyX0 tyX0_ok nmX0 hown hK hP hD hS 0 rfl rfl 8 (by decide) fl37 (fun _ h9 => h9) rfl (tyX0_ok 8 (by decide)) rfl rfl (Nat.le_of_ble_eq_true rfl) dX0_init_85 (fun H locs hP hD hS => ?_)
  replace hP : va_P (dC, dI) vwCl [(h, .inr (0, [.ref (q1), .ref (q2), .ref (q3), .ref (q4), .ref (q5), .ref (q6), .ref (q7), .ref (q8), .int 0, .int 0, .int 0])), (q1, .inl (cI, 4, .inl (upd (upd (upd (upd (fun _ => 0) (0 : Int32).toNatClampNeg 1) (1 : Int32).toNatClampNeg 1) (2 : Int32).toNatClampNeg 1) (3 : Int32).toNatClampNeg 1))), (q2, .inl (cI, 4, .inl (fun _ => 0))), (q3, .inl (cI, 152, .inl (fun _ => 0))), (q4, .inl (cZ, 25, .inl (fun _ => 0))), (q5, .inl (cI, 25, .inl (fun _ => 0))), (q6, .inl (cI, 25, .inl (fun _ => 0))), (q7, .inl (cZ, 25, .inl (fun _ => 0))), (q8, .inl (cI, 24, .inl (fun _ => 0)))] H := hP
  replace hD : va_D A [(h, .inr (0, [.ref (q1), .ref (q2), .ref (q3), .ref (q4), .ref (q5), .ref (q6), .ref (q7), .ref (q8), .int 0, .int 0, .int 0])), (q1, .inl (cI, 4, .inl (upd (upd (upd (upd (fun _ => 0) (0 : Int32).toNatClampNeg 1) (1 : Int32).toNatClampNeg 1) (2 : Int32).toNatClampNeg 1) (3 : Int32).toNatClampNeg 1))), (q2, .inl (cI, 4, .inl (fun _ => 0))), (q3, .inl (cI, 152, .inl (fun _ => 0))), (q4, .inl (cZ, 25, .inl (fun _ => 0))), (q5, .inl (cI, 25, .inl (fun _ => 0))), (q6, .inl (cI, 25, .inl (fun _ => 0))), (q7, .inl (cZ, 25, .inl (fun _ => 0))), (q8, .inl (cI, 24, .inl (fun _ => 0)))] := hD
  refine lv_aload_n hx hb dX0_init_88 rfl (lv_at hl 0 rfl) ?_
  refine lv_iconst (v := 0) hx hb dX0_init_89 (by decide) ?_
  refine va_put (D := (dC, dI)) (ci := 0) (v := .int 0) (ty := .int) (C := RX0) (T := TX0) (N := 11) hx hb hts hin tyX0 tyX0_ok nmX0 hown hK hP hD hS 0 rfl rfl 9 (by decide) fl41 (fun _ h9 => h9) rfl (tyX0_ok 9 (by decide)) rfl rfl (Nat.le_of_ble_eq_true rfl) dX0_init_90 (fun H locs hP hD hS => ?_)
  replace hP : va_P (dC, dI) vwCl [(h, .inr (0, [.ref (q1), .ref (q2), .ref (q3), .ref (q4), .ref (q5), .ref (q6), .ref (q7), .ref (q8), .int 0, .int 0, .int 0])), (q1, .inl (cI, 4, .inl (upd (upd (upd (upd (fun _ => 0) (0 : Int32).toNatClampNeg 1) (1 : Int32).toNatClampNeg 1) (2 : Int32).toNatClampNeg 1) (3 : Int32).toNatClampNeg 1))), (q2, .inl (cI, 4, .inl (fun _ => 0))), (q3, .inl (cI, 152, .inl (fun _ => 0))), (q4, .inl (cZ, 25, .inl (fun _ => 0))), (q5, .inl (cI, 25, .inl (fun _ => 0))), (q6, .inl (cI, 25, .inl (fun _ => 0))), (q7, .inl (cZ, 25, .inl (fun _ => 0))), (q8, .inl (cI, 24, .inl (fun _ => 0)))] H := hP
  replace hD : va_D A [(h, .inr (0, [.ref (q1), .ref (q2), .ref (q3), .ref (q4), .ref (q5), .ref (q6), .ref (q7), .ref (q8), .int 0, .int 0, .int 0])), (q1, .inl (cI, 4, .inl (upd (upd (upd (upd (fun _ => 0) (0 : Int32).toNatClampNeg 1) (1 : Int32).toNatClampNeg 1) (2 : Int32).toNatClampNeg 1) (3 : Int32).toNatClampNeg 1))), (q2, .inl (cI, 4, .inl (fun _ => 0))), (q3, .inl (cI, 152, .inl (fun _ => 0))), (q4, .inl (cZ, 25, .inl (fun _ => 0))), (q5, .inl (cI, 25, .inl (fun _ => 0))), (q6, .inl (cI, 25, .inl (fun _ => 0))), (q7, .inl (cZ, 25, .inl (fun _ => 0))), (q8, .inl (cI, 24, .inl (fun _ => 0)))] := hD
  refine lv_aload_n hx hb dX0_init_93 rfl (lv_at hl 0 rfl) ?_
  refine lv_iconst (v := 0) hx hb dX0_init_94 (by decide) ?_
  refine va_put (D := (dC, dI)) (ci := 0) (v := .int 0) (ty := .int) (C := RX0) (T := TX0) (N := 11) hx hb hts hin tyX0 tyX0_ok nmX0 hown hK hP hD hS 0 rfl rfl 10 (by decide) fl44 (fun _ h9 => h9) rfl (tyX0_ok 10 (by decide)) rfl rfl (Nat.le_of_ble_eq_true rfl) dX0_init_95 (fun H locs hP hD hS => ?_)
  replace hP : va_P (dC, dI) vwCl [(h, .inr (0, [.ref (q1), .ref (q2), .ref (q3), .ref (q4), .ref (q5), .ref (q6), .ref (q7), .ref (q8), .int 0, .int 0, .int 0])), (q1, .inl (cI, 4, .inl (upd (upd (upd (upd (fun _ => 0) (0 : Int32).toNatClampNeg 1) (1 : Int32).toNatClampNeg 1) (2 : Int32).toNatClampNeg 1) (3 : Int32).toNatClampNeg 1))), (q2, .inl (cI, 4, .inl (fun _ => 0))), (q3, .inl (cI, 152, .inl (fun _ => 0))), (q4, .inl (cZ, 25, .inl (fun _ => 0))), (q5, .inl (cI, 25, .inl (fun _ => 0))), (q6, .inl (cI, 25, .inl (fun _ => 0))), (q7, .inl (cZ, 25, .inl (fun _ => 0))), (q8, .inl (cI, 24, .inl (fun _ => 0)))] H := hP
  replace hD : va_D A [(h, .inr (0, [.ref (q1), .ref (q2), .ref (q3), .ref (q4), .ref (q5), .ref (q6), .ref (q7), .ref (q8), .int 0, .int 0, .int 0])), (q1, .inl (cI, 4, .inl (upd (upd (upd (upd (fun _ => 0) (0 : Int32).toNatClampNeg 1) (1 : Int32).toNatClampNeg 1) (2 : Int32).toNatClampNeg 1) (3 : Int32).toNatClampNeg 1))), (q2, .inl (cI, 4, .inl (fun _ => 0))), (q3, .inl (cI, 152, .inl (fun _ => 0))), (q4, .inl (cZ, 25, .inl (fun _ => 0))), (q5, .inl (cI, 25, .inl (fun _ => 0))), (q6, .inl (cI, 25, .inl (fun _ => 0))), (q7, .inl (cZ, 25, .inl (fun _ => 0))), (q8, .inl (cI, 24, .inl (fun _ => 0)))] := hD
  obtain ⟨aa, haa⟩ : ∃ z : Nat → Nat, z = fun k => ([h, q1, q2, q3, q4, q5, q6, q7, q8] : List Nat).getD k 0 := ⟨_, rfl⟩
  have hP9 : va_P (dC, dI) vwCl (wM aa cI cZ) H := by rw [haa]; exact hP
  have hD9 : va_D A (wM aa cI cZ) := by rw [haa]; exact hD
  refine W.widen (k := 8) (n := 284) (Nat.le_of_ble_eq_true rfl) (Nat.le_of_ble_eq_true rfl) ?_
  exact W.vret hx hb hr (fun t ht hW => ⟨⟨aa, rfl, by rw [haa]; rfl, by rw [ht]; exact hP9, va_K.moved hW.alike hK, hD9⟩, hS.F ht⟩) hS.2.2 dX0_init_98

set_option maxRecDepth 100000 in
set_option maxHeartbeats 4000000 in
theorem c_X1_init (l : Launch) (dC : Nat → ClassId) (dI : Nat → Nat → Nat) (cI cZ : ClassId) (h sz : Nat) : Met l yX1_init wsX1_init ({ frames := 1, cells := 4, slots := 160, locals := 12 }) (va_Pc [.ref h] (fun U => U.heap.size = sz ∧ va_P (dC, dI) vwCl [(h, .inr (1, [.null, .null, .null, .null, .int 0]))] U.heap ∧ va_K (dC, dI) vwCl (tyW cI cZ) U ∧ va_D (fun _ => True) [(h, .inr (1, [.null, .null, .null, .null, .int 0]))])) (va_Qv (fun (a : Nat → Nat) => a 0 = h) (fun (a : Nat → Nat) (t : State) => va_P (dC, dI) vwCl (wPg a cI cZ) t.heap ∧ va_K (dC, dI) vwCl (tyW cI cZ) t ∧ va_D (va_A [(h, .inr (1, [.null, .null, .null, .null, .int 0]))] sz) (wPg a cI cZ)) (va_A [(h, .inr (1, [.null, .null, .null, .null, .int 0]))] sz)) 4 160 (va_A [(h, .inr (1, [.null, .null, .null, .null, .int 0]))] sz) := by
  refine Met.ofW (cc := cX1_init) (maxL := 1) (ret := none) (by decide) rfl ?_
  intro p e s m args below meth c s₁ B hml hv
  obtain ⟨rfl, hsz, hP, hK, hD0⟩ := hv
  have hx := B.exec
  have hb := B.bytes
  have hr := B.returns
  have hts := atoms_spec (ws := wsX1_init) B.pre
  have hown : s.vm.findClass RX1 = some m.cls := findClass_of_methodNamed B.named
  have hlocks := B.notSynchronized
  have hin2 : meth.name = "<init>" := (name_of_methodNamed B.named B.method).1
  subst hsz
  have hD := hD0.self (sz := s.heap.size)
  have hA : ∀ q : Nat, s.heap.size ≤ q → (va_A [(h, .inr (1, [.null, .null, .null, .null, .int 0]))] s.heap.size) q := fun q h => Or.inr h
  generalize va_A [(h, .inr (1, [.null, .null, .null, .null, .int 0]))] s.heap.size = A at hD hA ⊢
  have hS : va_S A s.heap s.heap [] := va_S.rf
  have hP : va_P (dC, dI) vwCl [(h, .inr (1, [.null, .null, .null, .null, .int 0]))] s.heap := hP
  have hl := lv_entry ([.ref h]) (n := 1) (Nat.le_of_ble_eq_true rfl)
  rw [lg_entry_eq]
  generalize (lg_sl ([.ref h]) ++ List.replicate (1 - (lg_sl ([.ref h])).length) Slot.unset).toArray = ls at hl ⊢
  have hl : lv_has ls 1 [(0, .ref h)] := hl
  have hin : ∀ w ∈ u_ws RX1 TX1 5, w ∈ wsX1_init := by decide +kernel
  have fl9 := hts (.fieldLink RX1 9 "CountedHeap$Program" "ops" "[I") (by decide +kernel)
  have fl15 := hts (.fieldLink RX1 15 "CountedHeap$Program" "xs" "[I") (by decide +kernel)
  have fl18 := hts (.fieldLink RX1 18 "CountedHeap$Program" "ys" "[I") (by decide +kernel)
  have fl21 := hts (.fieldLink RX1 21 "CountedHeap$Program" "zs" "[I") (by decide +kernel)
  have fl24 := hts (.fieldLink RX1 24 "CountedHeap$Program" "length" "I") (by decide +kernel)
  refine lv_aload_n hx hb dX1_init_0 rfl (lv_at hl 0 rfl) ?_
  refine W.objInit hx hb hown (hts (.methodLink RX1 3 objectInit) (by decide +kernel)) (hts (.instanceMethod objectInit) (by decide +kernel)) (hts (.code objectInit ⟨#[0xb1]⟩ 1 none) (by decide +kernel)) rfl (by rw [hml]; exact hl.1) rfl dX1_init_1 (Nat.le_of_ble_eq_true rfl) (Nat.le_of_ble_eq_true rfl) ?_
  refine W.eq (g2 := F0 m 4 ls []) rfl ?_
  refine lv_aload_n hx hb dX1_init_4 rfl (lv_at hl 0 rfl) ?_
  refine lv_bipush (v := 40) hx hb dX1_init_5 (by decide) ?_
  refine newI hx hb (hts (.arrayClass .int) (by decide +kernel)) hK hP hD hS hA (by decide) (N' := 40) (by decide) (by decide) (Nat.le_of_ble_eq_true rfl) (Nat.le_of_ble_eq_true rfl) dX1_init_7 (fun q1 H hP hD hS => ?_)
  replace hP : va_P (dC, dI) vwCl [(h, .inr (1, [.null, .null, .null, .null, .int 0])), (q1, .inl (cI, 40, .inl (fun _ => 0)))] H := hP
  replace hD : va_D A [(h, .inr (1, [.null, .null, .null, .null, .int 0])), (q1, .inl (cI, 40, .inl (fun _ => 0)))] := hD
  refine va_putF (D := (dC, dI)) (ci := 1) (v := .ref (q1)) (ty := tyX1 0) (C := RX1) (T := TX1) (N := 5) hx hb hts hin tyX1 tyX1_ok nmX1 hown hK hP hD hS 0 rfl rfl 0 (by decide) fl9 (fun _ h9 => h9) rfl hin2 rfl (tyX1_ok 0 (by decide)) rfl rfl (Nat.le_of_ble_eq_true rfl) dX1_init_9 (fun H locs hP hD hS => ?_)
  replace hP : va_P (dC, dI) vwCl [(h, .inr (1, [.ref (q1), .null, .null, .null, .int 0])), (q1, .inl (cI, 40, .inl (fun _ => 0)))] H := hP
  replace hD : va_D A [(h, .inr (1, [.ref (q1), .null, .null, .null, .int 0])), (q1, .inl (cI, 40, .inl (fun _ => 0)))] := hD
  refine lv_aload_n hx hb dX1_init_12 rfl (lv_at hl 0 rfl) ?_
  refine lv_bipush (v := 40) hx hb dX1_init_13 (by decide) ?_
  refine newI hx hb (hts (.arrayClass .int) (by decide +kernel)) hK hP hD hS hA (by decide) (N' := 40) (by decide) (by decide) (Nat.le_of_ble_eq_true rfl) (Nat.le_of_ble_eq_true rfl) dX1_init_15 (fun q2 H hP hD hS => ?_)
  replace hP : va_P (dC, dI) vwCl [(h, .inr (1, [.ref (q1), .null, .null, .null, .int 0])), (q1, .inl (cI, 40, .inl (fun _ => 0))), (q2, .inl (cI, 40, .inl (fun _ => 0)))] H := hP
  replace hD : va_D A [(h, .inr (1, [.ref (q1), .null, .null, .null, .int 0])), (q1, .inl (cI, 40, .inl (fun _ => 0))), (q2, .inl (cI, 40, .inl (fun _ => 0)))] := hD
  refine va_putF (D := (dC, dI)) (ci := 1) (v := .ref (q2)) (ty := tyX1 1) (C := RX1) (T := TX1) (N := 5) hx hb hts hin tyX1 tyX1_ok nmX1 hown hK hP hD hS 0 rfl rfl 1 (by decide) fl15 (fun _ h9 => h9) rfl hin2 rfl (tyX1_ok 1 (by decide)) rfl rfl (Nat.le_of_ble_eq_true rfl) dX1_init_17 (fun H locs hP hD hS => ?_)
  replace hP : va_P (dC, dI) vwCl [(h, .inr (1, [.ref (q1), .ref (q2), .null, .null, .int 0])), (q1, .inl (cI, 40, .inl (fun _ => 0))), (q2, .inl (cI, 40, .inl (fun _ => 0)))] H := hP
  replace hD : va_D A [(h, .inr (1, [.ref (q1), .ref (q2), .null, .null, .int 0])), (q1, .inl (cI, 40, .inl (fun _ => 0))), (q2, .inl (cI, 40, .inl (fun _ => 0)))] := hD
  refine lv_aload_n hx hb dX1_init_20 rfl (lv_at hl 0 rfl) ?_
  refine lv_bipush (v := 40) hx hb dX1_init_21 (by decide) ?_
  refine newI hx hb (hts (.arrayClass .int) (by decide +kernel)) hK hP hD hS hA (by decide) (N' := 40) (by decide) (by decide) (Nat.le_of_ble_eq_true rfl) (Nat.le_of_ble_eq_true rfl) dX1_init_23 (fun q3 H hP hD hS => ?_)
  replace hP : va_P (dC, dI) vwCl [(h, .inr (1, [.ref (q1), .ref (q2), .null, .null, .int 0])), (q1, .inl (cI, 40, .inl (fun _ => 0))), (q2, .inl (cI, 40, .inl (fun _ => 0))), (q3, .inl (cI, 40, .inl (fun _ => 0)))] H := hP
  replace hD : va_D A [(h, .inr (1, [.ref (q1), .ref (q2), .null, .null, .int 0])), (q1, .inl (cI, 40, .inl (fun _ => 0))), (q2, .inl (cI, 40, .inl (fun _ => 0))), (q3, .inl (cI, 40, .inl (fun _ => 0)))] := hD
  refine va_putF (D := (dC, dI)) (ci := 1) (v := .ref (q3)) (ty := tyX1 2) (C := RX1) (T := TX1) (N := 5) hx hb hts hin tyX1 tyX1_ok nmX1 hown hK hP hD hS 0 rfl rfl 2 (by decide) fl18 (fun _ h9 => h9) rfl hin2 rfl (tyX1_ok 2 (by decide)) rfl rfl (Nat.le_of_ble_eq_true rfl) dX1_init_25 (fun H locs hP hD hS => ?_)
  replace hP : va_P (dC, dI) vwCl [(h, .inr (1, [.ref (q1), .ref (q2), .ref (q3), .null, .int 0])), (q1, .inl (cI, 40, .inl (fun _ => 0))), (q2, .inl (cI, 40, .inl (fun _ => 0))), (q3, .inl (cI, 40, .inl (fun _ => 0)))] H := hP
  replace hD : va_D A [(h, .inr (1, [.ref (q1), .ref (q2), .ref (q3), .null, .int 0])), (q1, .inl (cI, 40, .inl (fun _ => 0))), (q2, .inl (cI, 40, .inl (fun _ => 0))), (q3, .inl (cI, 40, .inl (fun _ => 0)))] := hD
  refine lv_aload_n hx hb dX1_init_28 rfl (lv_at hl 0 rfl) ?_
  refine lv_bipush (v := 40) hx hb dX1_init_29 (by decide) ?_
  refine newI hx hb (hts (.arrayClass .int) (by decide +kernel)) hK hP hD hS hA (by decide) (N' := 40) (by decide) (by decide) (Nat.le_of_ble_eq_true rfl) (Nat.le_of_ble_eq_true rfl) dX1_init_31 (fun q4 H hP hD hS => ?_)
  replace hP : va_P (dC, dI) vwCl [(h, .inr (1, [.ref (q1), .ref (q2), .ref (q3), .null, .int 0])), (q1, .inl (cI, 40, .inl (fun _ => 0))), (q2, .inl (cI, 40, .inl (fun _ => 0))), (q3, .inl (cI, 40, .inl (fun _ => 0))), (q4, .inl (cI, 40, .inl (fun _ => 0)))] H := hP
  replace hD : va_D A [(h, .inr (1, [.ref (q1), .ref (q2), .ref (q3), .null, .int 0])), (q1, .inl (cI, 40, .inl (fun _ => 0))), (q2, .inl (cI, 40, .inl (fun _ => 0))), (q3, .inl (cI, 40, .inl (fun _ => 0))), (q4, .inl (cI, 40, .inl (fun _ => 0)))] := hD
  refine va_putF (D := (dC, dI)) (ci := 1) (v := .ref (q4)) (ty := tyX1 3) (C := RX1) (T := TX1) (N := 5) hx hb hts hin tyX1 tyX1_ok nmX1 hown hK hP hD hS 0 rfl rfl 3 (by decide) fl21 (fun _ h9 => h9) rfl hin2 rfl (tyX1_ok 3 (by decide)) rfl rfl (Nat.le_of_ble_eq_true rfl) dX1_init_33 (fun H locs hP hD hS => ?_)
  replace hP : va_P (dC, dI) vwCl [(h, .inr (1, [.ref (q1), .ref (q2), .ref (q3), .ref (q4), .int 0])), (q1, .inl (cI, 40, .inl (fun _ => 0))), (q2, .inl (cI, 40, .inl (fun _ => 0))), (q3, .inl (cI, 40, .inl (fun _ => 0))), (q4, .inl (cI, 40, .inl (fun _ => 0)))] H := hP
  replace hD : va_D A [(h, .inr (1, [.ref (q1), .ref (q2), .ref (q3), .ref (q4), .int 0])), (q1, .inl (cI, 40, .inl (fun _ => 0))), (q2, .inl (cI, 40, .inl (fun _ => 0))), (q3, .inl (cI, 40, .inl (fun _ => 0))), (q4, .inl (cI, 40, .inl (fun _ => 0)))] := hD
  refine lv_aload_n hx hb dX1_init_36 rfl (lv_at hl 0 rfl) ?_
  refine lv_iconst (v := 0) hx hb dX1_init_37 (by decide) ?_
  refine va_put (D := (dC, dI)) (ci := 1) (v := .int 0) (ty := .int) (C := RX1) (T := TX1) (N := 5) hx hb hts hin tyX1 tyX1_ok nmX1 hown hK hP hD hS 0 rfl rfl 4 (by decide) fl24 (fun _ h9 => h9) rfl (tyX1_ok 4 (by decide)) rfl rfl (Nat.le_of_ble_eq_true rfl) dX1_init_38 (fun H locs hP hD hS => ?_)
  replace hP : va_P (dC, dI) vwCl [(h, .inr (1, [.ref (q1), .ref (q2), .ref (q3), .ref (q4), .int 0])), (q1, .inl (cI, 40, .inl (fun _ => 0))), (q2, .inl (cI, 40, .inl (fun _ => 0))), (q3, .inl (cI, 40, .inl (fun _ => 0))), (q4, .inl (cI, 40, .inl (fun _ => 0)))] H := hP
  replace hD : va_D A [(h, .inr (1, [.ref (q1), .ref (q2), .ref (q3), .ref (q4), .int 0])), (q1, .inl (cI, 40, .inl (fun _ => 0))), (q2, .inl (cI, 40, .inl (fun _ => 0))), (q3, .inl (cI, 40, .inl (fun _ => 0))), (q4, .inl (cI, 40, .inl (fun _ => 0)))] := hD
  obtain ⟨aa, haa⟩ : ∃ z : Nat → Nat, z = fun k => ([h, q1, q2, q3, q4] : List Nat).getD k 0 := ⟨_, rfl⟩
  have hP9 : va_P (dC, dI) vwCl (wPg aa cI cZ) H := by rw [haa]; exact hP
  have hD9 : va_D A (wPg aa cI cZ) := by rw [haa]; exact hD
  refine W.widen (k := 4) (n := 160) (Nat.le_of_ble_eq_true rfl) (Nat.le_of_ble_eq_true rfl) ?_
  exact W.vret hx hb hr (fun t ht hW => ⟨⟨aa, rfl, by rw [haa]; rfl, by rw [ht]; exact hP9, va_K.moved hW.alike hK, hD9⟩, hS.F ht⟩) hS.2.2 dX1_init_41

set_option maxRecDepth 100000 in
set_option maxHeartbeats 4000000 in
theorem c_X2_init (l : Launch) (dC : Nat → ClassId) (dI : Nat → Nat → Nat) (cI cZ : ClassId) (h sz : Nat) : Met l yX2_init wsX2_init ({ frames := 2, cells := 15, slots := 468, locals := 32 }) (va_Pc [.ref h] (fun U => U.heap.size = sz ∧ va_P (dC, dI) vwCl [(h, .inr (2, [.null, .null, .null, .int 0, .int 0]))] U.heap ∧ va_K (dC, dI) vwCl (tyW cI cZ) U ∧ va_D (fun _ => True) [(h, .inr (2, [.null, .null, .null, .int 0, .int 0]))] ∧ va_Nw (.methodLinkNest RX2 11 yX1_init RX2) U ∧ va_Nw (.methodLinkNest RX2 18 yX0_init RX2) U)) (va_Qv (fun (a : Nat → Nat) => a 14 = h) (fun (a : Nat → Nat) (t : State) => va_P (dC, dI) vwCl (wC a cI cZ uC0) t.heap ∧ va_K (dC, dI) vwCl (tyW cI cZ) t ∧ va_D (va_A [(h, .inr (2, [.null, .null, .null, .int 0, .int 0]))] sz) (wC a cI cZ uC0)) (va_A [(h, .inr (2, [.null, .null, .null, .int 0, .int 0]))] sz)) 15 468 (va_A [(h, .inr (2, [.null, .null, .null, .int 0, .int 0]))] sz) := by
  refine Met.ofW (cc := cX2_init) (maxL := 1) (ret := none) (by decide) rfl ?_
  intro p e s m args below meth c s₁ B hml hv
  obtain ⟨rfl, hsz, hP, hK, hD0, hn11, hn18⟩ := hv
  have hx := B.exec
  have hb := B.bytes
  have hr := B.returns
  have hts := atoms_spec (ws := wsX2_init) B.pre
  have hown : s.vm.findClass RX2 = some m.cls := findClass_of_methodNamed B.named
  have hlocks := B.notSynchronized
  have hin2 : meth.name = "<init>" := (name_of_methodNamed B.named B.method).1
  subst hsz
  have hD := hD0.self (sz := s.heap.size)
  have hA : ∀ q : Nat, s.heap.size ≤ q → (va_A [(h, .inr (2, [.null, .null, .null, .int 0, .int 0]))] s.heap.size) q := fun q h => Or.inr h
  generalize va_A [(h, .inr (2, [.null, .null, .null, .int 0, .int 0]))] s.heap.size = A at hD hA ⊢
  have hS : va_S A s.heap s.heap [] := va_S.rf
  have hP : va_P (dC, dI) vwCl [(h, .inr (2, [.null, .null, .null, .int 0, .int 0]))] s.heap := hP
  have hl := lv_entry ([.ref h]) (n := 1) (Nat.le_of_ble_eq_true rfl)
  rw [lg_entry_eq]
  generalize (lg_sl ([.ref h]) ++ List.replicate (1 - (lg_sl ([.ref h])).length) Slot.unset).toArray = ls at hl ⊢
  have hl : lv_has ls 1 [(0, .ref h)] := hl
  have hin : ∀ w ∈ u_ws RX2 TX2 5, w ∈ wsX2_init := by decide +kernel
  have fl12 := hts (.fieldLink RX2 12 "CountedHeap" "program" "LCountedHeap$Program;") (by decide +kernel)
  have fl19 := hts (.fieldLink RX2 19 "CountedHeap" "memory" "LCountedHeap$Memory;") (by decide +kernel)
  have fl23 := hts (.fieldLink RX2 23 "CountedHeap" "returnPlaces" "[I") (by decide +kernel)
  have fl27 := hts (.fieldLink RX2 27 "CountedHeap" "openCalls" "I") (by decide +kernel)
  have fl31 := hts (.fieldLink RX2 31 "CountedHeap" "nextPlace" "I") (by decide +kernel)
  refine lv_aload_n hx hb dX2_init_0 rfl (lv_at hl 0 rfl) ?_
  refine W.objInit hx hb hown (hts (.methodLink RX2 3 objectInit) (by decide +kernel)) (hts (.instanceMethod objectInit) (by decide +kernel)) (hts (.code objectInit ⟨#[0xb1]⟩ 1 none) (by decide +kernel)) rfl (by rw [hml]; exact hl.1) rfl dX2_init_1 (Nat.le_of_ble_eq_true rfl) (Nat.le_of_ble_eq_true rfl) ?_
  refine W.eq (g2 := F0 m 4 ls []) rfl ?_
  refine lv_aload_n hx hb dX2_init_4 rfl (lv_at hl 0 rfl) ?_
  refine va_new (ci := 1) (fs := [.null, .null, .null, .null, .int 0]) (C := RX1) (T := TX1) (N := 5) hx hb hts (by decide +kernel) tyX1 tyX1_ok hown (hts (.classLink RX2 9 RX1) (by decide +kernel)) (hts (.instantiable RX1 5) (by decide +kernel)) (hts (.initialized RX1) (by decide +kernel)) hK hP hD hS hA rfl (fun j hj => by rcases (show j = 0 ∨ j = 1 ∨ j = 2 ∨ j = 3 ∨ j = 4 by omega) with rfl | rfl | rfl | rfl | rfl <;> rfl) (Nat.le_of_ble_eq_true rfl) (Nat.le_of_ble_eq_true rfl) dX2_init_5 (fun q1 H hP hD hS => ?_)
  replace hP : va_P (dC, dI) vwCl [(h, .inr (2, [.null, .null, .null, .int 0, .int 0])), (q1, .inr (1, [.null, .null, .null, .null, .int 0]))] H := hP
  replace hD : va_D A [(h, .inr (2, [.null, .null, .null, .int 0, .int 0])), (q1, .inr (1, [.null, .null, .null, .null, .int 0]))] := hD
  refine lv_dup hx hb dX2_init_8 rfl ?_
  have hPc := hP.sub (ws' := [(q1, .inr (1, [.null, .null, .null, .null, .int 0]))]) [1] rfl
  have hDc := hD.sub (ws' := [(q1, .inr (1, [.null, .null, .null, .null, .int 0]))]) [1] (by decide) rfl
  have hFc := va_free (wc := [(q1, .inr (1, [.null, .null, .null, .null, .int 0]))]) hD hS hA [1] rfl
  refine va_callv (va_runIN (As := []) (rest := [.ref q1, .ref h]) ⟨hx, hb, hml, hown, hts⟩ (c_X1_init l dC dI cI cZ q1 H.size) ⟨va_cnB 0 hts gX2_init_X1_init_n11 rfl rfl rfl hn11 (hts (.initialized RX1) (by decide +kernel)) (by decide +kernel) ⟨Nat.le_of_ble_eq_true rfl, Nat.le_of_ble_eq_true rfl⟩, rfl, hts (.instanceMethod yX1_init) (by decide +kernel)⟩ ⟨fun a9 U g mk q => by obtain ⟨q0, q1, qP, qK, qD⟩ := q; exact ⟨q0, q1, qP, va_K.moved (u := U) (U := U.calling g mk a9) (Vm.Alike.refl U.vm) qK, qD⟩, fun U hU hW => ⟨rfl, by rw [hU], by rw [hU]; exact hPc, va_K.moved hW.alike hK, hDc.weaken (fun _ _ _ _ => trivial)⟩⟩ rfl rfl hl.1 rfl (lv_room (Nat.le_of_ble_eq_true rfl)) dX2_init_9 ⟨Nat.le_of_ble_eq_true rfl, Nat.le_of_ble_eq_true rfl⟩) hS (fun q _ h => hFc q h) hFc (fun a1 t H1 locs ht hvm hw hB hz1 hk1 hS => ?_)
  obtain ⟨hP1, hK1, hD1⟩ := hB
  rw [ht] at hP1
  obtain ⟨hPj, hDj⟩ := va_join (wr := [(h, .inr (2, [.null, .null, .null, .int 0, .int 0]))]) (w1 := wPg a1 cI cZ) hP hD [1] [0] rfl rfl (by decide) (by decide) hk1 hFc hP1 hD1
  generalize H1 = H at hPj hS ⊢
  clear hP hD hPc hDc hk1 hP1 hD1
  subst hw
  have hP := hPj
  have hD := hDj
  replace hP : va_P (dC, dI) vwCl [(h, .inr (2, [.null, .null, .null, .int 0, .int 0])), (a1 0, .inr (1, [.ref (a1 1), .ref (a1 2), .ref (a1 3), .ref (a1 4), .int 0])), (a1 1, .inl (cI, 40, .inl (fun _ => 0))), (a1 2, .inl (cI, 40, .inl (fun _ => 0))), (a1 3, .inl (cI, 40, .inl (fun _ => 0))), (a1 4, .inl (cI, 40, .inl (fun _ => 0)))] H := hP
  replace hD : va_D A [(h, .inr (2, [.null, .null, .null, .int 0, .int 0])), (a1 0, .inr (1, [.ref (a1 1), .ref (a1 2), .ref (a1 3), .ref (a1 4), .int 0])), (a1 1, .inl (cI, 40, .inl (fun _ => 0))), (a1 2, .inl (cI, 40, .inl (fun _ => 0))), (a1 3, .inl (cI, 40, .inl (fun _ => 0))), (a1 4, .inl (cI, 40, .inl (fun _ => 0)))] := hD
  refine va_putF (D := (dC, dI)) (ci := 2) (v := .ref (a1 0)) (ty := tyX2 0) (C := RX2) (T := TX2) (N := 5) hx hb hts hin tyX2 tyX2_ok nmX2 hown hK hP hD hS 0 rfl rfl 0 (by decide) fl12 (fun _ h9 => h9) rfl hin2 rfl (tyX2_ok 0 (by decide)) rfl rfl (Nat.le_of_ble_eq_true rfl) dX2_init_12 (fun H locs hP hD hS => ?_)
  replace hP : va_P (dC, dI) vwCl [(h, .inr (2, [.ref (a1 0), .null, .null, .int 0, .int 0])), (a1 0, .inr (1, [.ref (a1 1), .ref (a1 2), .ref (a1 3), .ref (a1 4), .int 0])), (a1 1, .inl (cI, 40, .inl (fun _ => 0))), (a1 2, .inl (cI, 40, .inl (fun _ => 0))), (a1 3, .inl (cI, 40, .inl (fun _ => 0))), (a1 4, .inl (cI, 40, .inl (fun _ => 0)))] H := hP
  replace hD : va_D A [(h, .inr (2, [.ref (a1 0), .null, .null, .int 0, .int 0])), (a1 0, .inr (1, [.ref (a1 1), .ref (a1 2), .ref (a1 3), .ref (a1 4), .int 0])), (a1 1, .inl (cI, 40, .inl (fun _ => 0))), (a1 2, .inl (cI, 40, .inl (fun _ => 0))), (a1 3, .inl (cI, 40, .inl (fun _ => 0))), (a1 4, .inl (cI, 40, .inl (fun _ => 0)))] := hD
  refine lv_aload_n hx hb dX2_init_15 rfl (lv_at hl 0 rfl) ?_
  refine va_new (ci := 0) (fs := [.null, .null, .null, .null, .null, .null, .null, .null, .int 0, .int 0, .int 0]) (C := RX0) (T := TX0) (N := 11) hx hb hts (by decide +kernel) tyX0 tyX0_ok hown (hts (.classLink RX2 16 RX0) (by decide +kernel)) (hts (.instantiable RX0 11) (by decide +kernel)) (hts (.initialized RX0) (by decide +kernel)) hK hP hD hS hA rfl (fun j hj => by rcases (show j = 0 ∨ j = 1 ∨ j = 2 ∨ j = 3 ∨ j = 4 ∨ j = 5 ∨ j = 6 ∨ j = 7 ∨ j = 8 ∨ j = 9 ∨ j = 10 by omega) with rfl | rfl | rfl | rfl | rfl | rfl | rfl | rfl | rfl | rfl | rfl <;> rfl) (Nat.le_of_ble_eq_true rfl) (Nat.le_of_ble_eq_true rfl) dX2_init_16 (fun q2 H hP hD hS => ?_)
  replace hP : va_P (dC, dI) vwCl [(h, .inr (2, [.ref (a1 0), .null, .null, .int 0, .int 0])), (a1 0, .inr (1, [.ref (a1 1), .ref (a1 2), .ref (a1 3), .ref (a1 4), .int 0])), (a1 1, .inl (cI, 40, .inl (fun _ => 0))), (a1 2, .inl (cI, 40, .inl (fun _ => 0))), (a1 3, .inl (cI, 40, .inl (fun _ => 0))), (a1 4, .inl (cI, 40, .inl (fun _ => 0))), (q2, .inr (0, [.null, .null, .null, .null, .null, .null, .null, .null, .int 0, .int 0, .int 0]))] H := hP
  replace hD : va_D A [(h, .inr (2, [.ref (a1 0), .null, .null, .int 0, .int 0])), (a1 0, .inr (1, [.ref (a1 1), .ref (a1 2), .ref (a1 3), .ref (a1 4), .int 0])), (a1 1, .inl (cI, 40, .inl (fun _ => 0))), (a1 2, .inl (cI, 40, .inl (fun _ => 0))), (a1 3, .inl (cI, 40, .inl (fun _ => 0))), (a1 4, .inl (cI, 40, .inl (fun _ => 0))), (q2, .inr (0, [.null, .null, .null, .null, .null, .null, .null, .null, .int 0, .int 0, .int 0]))] := hD
  refine lv_dup hx hb dX2_init_19 rfl ?_
  have hPc := hP.sub (ws' := [(q2, .inr (0, [.null, .null, .null, .null, .null, .null, .null, .null, .int 0, .int 0, .int 0]))]) [6] rfl
  have hDc := hD.sub (ws' := [(q2, .inr (0, [.null, .null, .null, .null, .null, .null, .null, .null, .int 0, .int 0, .int 0]))]) [6] (by decide) rfl
  have hFc := va_free (wc := [(q2, .inr (0, [.null, .null, .null, .null, .null, .null, .null, .null, .int 0, .int 0, .int 0]))]) hD hS hA [6] rfl
  refine va_callv (va_runIN (As := []) (rest := [.ref q2, .ref h]) ⟨hx, hb, hml, hown, hts⟩ (c_X0_init l dC dI cI cZ q2 H.size) ⟨va_cnB 0 hts gX2_init_X0_init_n18 rfl rfl rfl hn18 (hts (.initialized RX0) (by decide +kernel)) (by decide +kernel) ⟨Nat.le_of_ble_eq_true rfl, Nat.le_of_ble_eq_true rfl⟩, rfl, hts (.instanceMethod yX0_init) (by decide +kernel)⟩ ⟨fun a9 U g mk q => by obtain ⟨q0, q1, qP, qK, qD⟩ := q; exact ⟨q0, q1, qP, va_K.moved (u := U) (U := U.calling g mk a9) (Vm.Alike.refl U.vm) qK, qD⟩, fun U hU hW => ⟨rfl, by rw [hU], by rw [hU]; exact hPc, va_K.moved hW.alike hK, hDc.weaken (fun _ _ _ _ => trivial)⟩⟩ rfl rfl hl.1 rfl (lv_room (Nat.le_of_ble_eq_true rfl)) dX2_init_20 ⟨Nat.le_of_ble_eq_true rfl, Nat.le_of_ble_eq_true rfl⟩) hS (fun q _ h => hFc q h) hFc (fun a2 t H1 locs ht hvm hw hB hz1 hk1 hS => ?_)
  obtain ⟨hP1, hK1, hD1⟩ := hB
  rw [ht] at hP1
  obtain ⟨hPj, hDj⟩ := va_join (wr := [(h, .inr (2, [.ref (a1 0), .null, .null, .int 0, .int 0])), (a1 0, .inr (1, [.ref (a1 1), .ref (a1 2), .ref (a1 3), .ref (a1 4), .int 0])), (a1 1, .inl (cI, 40, .inl (fun _ => 0))), (a1 2, .inl (cI, 40, .inl (fun _ => 0))), (a1 3, .inl (cI, 40, .inl (fun _ => 0))), (a1 4, .inl (cI, 40, .inl (fun _ => 0)))]) (w1 := wM a2 cI cZ) hP hD [6] [0, 1, 2, 3, 4, 5] rfl rfl (by decide) (by decide) hk1 hFc hP1 hD1
  generalize H1 = H at hPj hS ⊢
  clear hP hD hPc hDc hk1 hP1 hD1
  subst hw
  have hP := hPj
  have hD := hDj
  replace hP : va_P (dC, dI) vwCl [(h, .inr (2, [.ref (a1 0), .null, .null, .int 0, .int 0])), (a1 0, .inr (1, [.ref (a1 1), .ref (a1 2), .ref (a1 3), .ref (a1 4), .int 0])), (a1 1, .inl (cI, 40, .inl (fun _ => 0))), (a1 2, .inl (cI, 40, .inl (fun _ => 0))), (a1 3, .inl (cI, 40, .inl (fun _ => 0))), (a1 4, .inl (cI, 40, .inl (fun _ => 0))), (a2 0, .inr (0, [.ref (a2 1), .ref (a2 2), .ref (a2 3), .ref (a2 4), .ref (a2 5), .ref (a2 6), .ref (a2 7), .ref (a2 8), .int 0, .int 0, .int 0])), (a2 1, .inl (cI, 4, .inl (uC0 1))), (a2 2, .inl (cI, 4, .inl (uC0 2))), (a2 3, .inl (cI, 152, .inl (uC0 3))), (a2 4, .inl (cZ, 25, .inl (uC0 4))), (a2 5, .inl (cI, 25, .inl (uC0 5))), (a2 6, .inl (cI, 25, .inl (uC0 6))), (a2 7, .inl (cZ, 25, .inl (uC0 7))), (a2 8, .inl (cI, 24, .inl (uC0 8)))] H := hP
  replace hD : va_D A [(h, .inr (2, [.ref (a1 0), .null, .null, .int 0, .int 0])), (a1 0, .inr (1, [.ref (a1 1), .ref (a1 2), .ref (a1 3), .ref (a1 4), .int 0])), (a1 1, .inl (cI, 40, .inl (fun _ => 0))), (a1 2, .inl (cI, 40, .inl (fun _ => 0))), (a1 3, .inl (cI, 40, .inl (fun _ => 0))), (a1 4, .inl (cI, 40, .inl (fun _ => 0))), (a2 0, .inr (0, [.ref (a2 1), .ref (a2 2), .ref (a2 3), .ref (a2 4), .ref (a2 5), .ref (a2 6), .ref (a2 7), .ref (a2 8), .int 0, .int 0, .int 0])), (a2 1, .inl (cI, 4, .inl (uC0 1))), (a2 2, .inl (cI, 4, .inl (uC0 2))), (a2 3, .inl (cI, 152, .inl (uC0 3))), (a2 4, .inl (cZ, 25, .inl (uC0 4))), (a2 5, .inl (cI, 25, .inl (uC0 5))), (a2 6, .inl (cI, 25, .inl (uC0 6))), (a2 7, .inl (cZ, 25, .inl (uC0 7))), (a2 8, .inl (cI, 24, .inl (uC0 8)))] := hD
  refine va_putF (D := (dC, dI)) (ci := 2) (v := .ref (a2 0)) (ty := tyX2 1) (C := RX2) (T := TX2) (N := 5) hx hb hts hin tyX2 tyX2_ok nmX2 hown hK hP hD hS 0 rfl rfl 1 (by decide) fl19 (fun _ h9 => h9) rfl hin2 rfl (tyX2_ok 1 (by decide)) rfl rfl (Nat.le_of_ble_eq_true rfl) dX2_init_23 (fun H locs hP hD hS => ?_)
  replace hP : va_P (dC, dI) vwCl [(h, .inr (2, [.ref (a1 0), .ref (a2 0), .null, .int 0, .int 0])), (a1 0, .inr (1, [.ref (a1 1), .ref (a1 2), .ref (a1 3), .ref (a1 4), .int 0])), (a1 1, .inl (cI, 40, .inl (fun _ => 0))), (a1 2, .inl (cI, 40, .inl (fun _ => 0))), (a1 3, .inl (cI, 40, .inl (fun _ => 0))), (a1 4, .inl (cI, 40, .inl (fun _ => 0))), (a2 0, .inr (0, [.ref (a2 1), .ref (a2 2), .ref (a2 3), .ref (a2 4), .ref (a2 5), .ref (a2 6), .ref (a2 7), .ref (a2 8), .int 0, .int 0, .int 0])), (a2 1, .inl (cI, 4, .inl (uC0 1))), (a2 2, .inl (cI, 4, .inl (uC0 2))), (a2 3, .inl (cI, 152, .inl (uC0 3))), (a2 4, .inl (cZ, 25, .inl (uC0 4))), (a2 5, .inl (cI, 25, .inl (uC0 5))), (a2 6, .inl (cI, 25, .inl (uC0 6))), (a2 7, .inl (cZ, 25, .inl (uC0 7))), (a2 8, .inl (cI, 24, .inl (uC0 8)))] H := hP
  replace hD : va_D A [(h, .inr (2, [.ref (a1 0), .ref (a2 0), .null, .int 0, .int 0])), (a1 0, .inr (1, [.ref (a1 1), .ref (a1 2), .ref (a1 3), .ref (a1 4), .int 0])), (a1 1, .inl (cI, 40, .inl (fun _ => 0))), (a1 2, .inl (cI, 40, .inl (fun _ => 0))), (a1 3, .inl (cI, 40, .inl (fun _ => 0))), (a1 4, .inl (cI, 40, .inl (fun _ => 0))), (a2 0, .inr (0, [.ref (a2 1), .ref (a2 2), .ref (a2 3), .ref (a2 4), .ref (a2 5), .ref (a2 6), .ref (a2 7), .ref (a2 8), .int 0, .int 0, .int 0])), (a2 1, .inl (cI, 4, .inl (uC0 1))), (a2 2, .inl (cI, 4, .inl (uC0 2))), (a2 3, .inl (cI, 152, .inl (uC0 3))), (a2 4, .inl (cZ, 25, .inl (uC0 4))), (a2 5, .inl (cI, 25, .inl (uC0 5))), (a2 6, .inl (cI, 25, .inl (uC0 6))), (a2 7, .inl (cZ, 25, .inl (uC0 7))), (a2 8, .inl (cI, 24, .inl (uC0 8)))] := hD
  refine lv_aload_n hx hb dX2_init_26 rfl (lv_at hl 0 rfl) ?_
  refine lv_bipush (v := 8) hx hb dX2_init_27 (by decide) ?_
  refine newI hx hb (hts (.arrayClass .int) (by decide +kernel)) hK hP hD hS hA (by decide) (N' := 8) (by decide) (by decide) (Nat.le_of_ble_eq_true rfl) (Nat.le_of_ble_eq_true rfl) dX2_init_29 (fun q3 H hP hD hS => ?_)
  replace hP : va_P (dC, dI) vwCl [(h, .inr (2, [.ref (a1 0), .ref (a2 0), .null, .int 0, .int 0])), (a1 0, .inr (1, [.ref (a1 1), .ref (a1 2), .ref (a1 3), .ref (a1 4), .int 0])), (a1 1, .inl (cI, 40, .inl (fun _ => 0))), (a1 2, .inl (cI, 40, .inl (fun _ => 0))), (a1 3, .inl (cI, 40, .inl (fun _ => 0))), (a1 4, .inl (cI, 40, .inl (fun _ => 0))), (a2 0, .inr (0, [.ref (a2 1), .ref (a2 2), .ref (a2 3), .ref (a2 4), .ref (a2 5), .ref (a2 6), .ref (a2 7), .ref (a2 8), .int 0, .int 0, .int 0])), (a2 1, .inl (cI, 4, .inl (uC0 1))), (a2 2, .inl (cI, 4, .inl (uC0 2))), (a2 3, .inl (cI, 152, .inl (uC0 3))), (a2 4, .inl (cZ, 25, .inl (uC0 4))), (a2 5, .inl (cI, 25, .inl (uC0 5))), (a2 6, .inl (cI, 25, .inl (uC0 6))), (a2 7, .inl (cZ, 25, .inl (uC0 7))), (a2 8, .inl (cI, 24, .inl (uC0 8))), (q3, .inl (cI, 8, .inl (fun _ => 0)))] H := hP
  replace hD : va_D A [(h, .inr (2, [.ref (a1 0), .ref (a2 0), .null, .int 0, .int 0])), (a1 0, .inr (1, [.ref (a1 1), .ref (a1 2), .ref (a1 3), .ref (a1 4), .int 0])), (a1 1, .inl (cI, 40, .inl (fun _ => 0))), (a1 2, .inl (cI, 40, .inl (fun _ => 0))), (a1 3, .inl (cI, 40, .inl (fun _ => 0))), (a1 4, .inl (cI, 40, .inl (fun _ => 0))), (a2 0, .inr (0, [.ref (a2 1), .ref (a2 2), .ref (a2 3), .ref (a2 4), .ref (a2 5), .ref (a2 6), .ref (a2 7), .ref (a2 8), .int 0, .int 0, .int 0])), (a2 1, .inl (cI, 4, .inl (uC0 1))), (a2 2, .inl (cI, 4, .inl (uC0 2))), (a2 3, .inl (cI, 152, .inl (uC0 3))), (a2 4, .inl (cZ, 25, .inl (uC0 4))), (a2 5, .inl (cI, 25, .inl (uC0 5))), (a2 6, .inl (cI, 25, .inl (uC0 6))), (a2 7, .inl (cZ, 25, .inl (uC0 7))), (a2 8, .inl (cI, 24, .inl (uC0 8))), (q3, .inl (cI, 8, .inl (fun _ => 0)))] := hD
  refine va_putF (D := (dC, dI)) (ci := 2) (v := .ref (q3)) (ty := tyX2 2) (C := RX2) (T := TX2) (N := 5) hx hb hts hin tyX2 tyX2_ok nmX2 hown hK hP hD hS 0 rfl rfl 2 (by decide) fl23 (fun _ h9 => h9) rfl hin2 rfl (tyX2_ok 2 (by decide)) rfl rfl (Nat.le_of_ble_eq_true rfl) dX2_init_31 (fun H locs hP hD hS => ?_)
  replace hP : va_P (dC, dI) vwCl [(h, .inr (2, [.ref (a1 0), .ref (a2 0), .ref (q3), .int 0, .int 0])), (a1 0, .inr (1, [.ref (a1 1), .ref (a1 2), .ref (a1 3), .ref (a1 4), .int 0])), (a1 1, .inl (cI, 40, .inl (fun _ => 0))), (a1 2, .inl (cI, 40, .inl (fun _ => 0))), (a1 3, .inl (cI, 40, .inl (fun _ => 0))), (a1 4, .inl (cI, 40, .inl (fun _ => 0))), (a2 0, .inr (0, [.ref (a2 1), .ref (a2 2), .ref (a2 3), .ref (a2 4), .ref (a2 5), .ref (a2 6), .ref (a2 7), .ref (a2 8), .int 0, .int 0, .int 0])), (a2 1, .inl (cI, 4, .inl (uC0 1))), (a2 2, .inl (cI, 4, .inl (uC0 2))), (a2 3, .inl (cI, 152, .inl (uC0 3))), (a2 4, .inl (cZ, 25, .inl (uC0 4))), (a2 5, .inl (cI, 25, .inl (uC0 5))), (a2 6, .inl (cI, 25, .inl (uC0 6))), (a2 7, .inl (cZ, 25, .inl (uC0 7))), (a2 8, .inl (cI, 24, .inl (uC0 8))), (q3, .inl (cI, 8, .inl (fun _ => 0)))] H := hP
  replace hD : va_D A [(h, .inr (2, [.ref (a1 0), .ref (a2 0), .ref (q3), .int 0, .int 0])), (a1 0, .inr (1, [.ref (a1 1), .ref (a1 2), .ref (a1 3), .ref (a1 4), .int 0])), (a1 1, .inl (cI, 40, .inl (fun _ => 0))), (a1 2, .inl (cI, 40, .inl (fun _ => 0))), (a1 3, .inl (cI, 40, .inl (fun _ => 0))), (a1 4, .inl (cI, 40, .inl (fun _ => 0))), (a2 0, .inr (0, [.ref (a2 1), .ref (a2 2), .ref (a2 3), .ref (a2 4), .ref (a2 5), .ref (a2 6), .ref (a2 7), .ref (a2 8), .int 0, .int 0, .int 0])), (a2 1, .inl (cI, 4, .inl (uC0 1))), (a2 2, .inl (cI, 4, .inl (uC0 2))), (a2 3, .inl (cI, 152, .inl (uC0 3))), (a2 4, .inl (cZ, 25, .inl (uC0 4))), (a2 5, .inl (cI, 25, .inl (uC0 5))), (a2 6, .inl (cI, 25, .inl (uC0 6))), (a2 7, .inl (cZ, 25, .inl (uC0 7))), (a2 8, .inl (cI, 24, .inl (uC0 8))), (q3, .inl (cI, 8, .inl (fun _ => 0)))] := hD
  refine lv_aload_n hx hb dX2_init_34 rfl (lv_at hl 0 rfl) ?_
  refine lv_iconst (v := 0) hx hb dX2_init_35 (by decide) ?_
  refine va_put (D := (dC, dI)) (ci := 2) (v := .int 0) (ty := .int) (C := RX2) (T := TX2) (N := 5) hx hb hts hin tyX2 tyX2_ok nmX2 hown hK hP hD hS 0 rfl rfl 3 (by decide) fl27 (fun _ h9 => h9) rfl (tyX2_ok 3 (by decide)) rfl rfl (Nat.le_of_ble_eq_true rfl) dX2_init_36 (fun H locs hP hD hS => ?_)
  replace hP : va_P (dC, dI) vwCl [(h, .inr (2, [.ref (a1 0), .ref (a2 0), .ref (q3), .int 0, .int 0])), (a1 0, .inr (1, [.ref (a1 1), .ref (a1 2), .ref (a1 3), .ref (a1 4), .int 0])), (a1 1, .inl (cI, 40, .inl (fun _ => 0))), (a1 2, .inl (cI, 40, .inl (fun _ => 0))), (a1 3, .inl (cI, 40, .inl (fun _ => 0))), (a1 4, .inl (cI, 40, .inl (fun _ => 0))), (a2 0, .inr (0, [.ref (a2 1), .ref (a2 2), .ref (a2 3), .ref (a2 4), .ref (a2 5), .ref (a2 6), .ref (a2 7), .ref (a2 8), .int 0, .int 0, .int 0])), (a2 1, .inl (cI, 4, .inl (uC0 1))), (a2 2, .inl (cI, 4, .inl (uC0 2))), (a2 3, .inl (cI, 152, .inl (uC0 3))), (a2 4, .inl (cZ, 25, .inl (uC0 4))), (a2 5, .inl (cI, 25, .inl (uC0 5))), (a2 6, .inl (cI, 25, .inl (uC0 6))), (a2 7, .inl (cZ, 25, .inl (uC0 7))), (a2 8, .inl (cI, 24, .inl (uC0 8))), (q3, .inl (cI, 8, .inl (fun _ => 0)))] H := hP
  replace hD : va_D A [(h, .inr (2, [.ref (a1 0), .ref (a2 0), .ref (q3), .int 0, .int 0])), (a1 0, .inr (1, [.ref (a1 1), .ref (a1 2), .ref (a1 3), .ref (a1 4), .int 0])), (a1 1, .inl (cI, 40, .inl (fun _ => 0))), (a1 2, .inl (cI, 40, .inl (fun _ => 0))), (a1 3, .inl (cI, 40, .inl (fun _ => 0))), (a1 4, .inl (cI, 40, .inl (fun _ => 0))), (a2 0, .inr (0, [.ref (a2 1), .ref (a2 2), .ref (a2 3), .ref (a2 4), .ref (a2 5), .ref (a2 6), .ref (a2 7), .ref (a2 8), .int 0, .int 0, .int 0])), (a2 1, .inl (cI, 4, .inl (uC0 1))), (a2 2, .inl (cI, 4, .inl (uC0 2))), (a2 3, .inl (cI, 152, .inl (uC0 3))), (a2 4, .inl (cZ, 25, .inl (uC0 4))), (a2 5, .inl (cI, 25, .inl (uC0 5))), (a2 6, .inl (cI, 25, .inl (uC0 6))), (a2 7, .inl (cZ, 25, .inl (uC0 7))), (a2 8, .inl (cI, 24, .inl (uC0 8))), (q3, .inl (cI, 8, .inl (fun _ => 0)))] := hD
  refine lv_aload_n hx hb dX2_init_39 rfl (lv_at hl 0 rfl) ?_
  refine lv_iconst (v := 0) hx hb dX2_init_40 (by decide) ?_
  refine va_put (D := (dC, dI)) (ci := 2) (v := .int 0) (ty := .int) (C := RX2) (T := TX2) (N := 5) hx hb hts hin tyX2 tyX2_ok nmX2 hown hK hP hD hS 0 rfl rfl 4 (by decide) fl31 (fun _ h9 => h9) rfl (tyX2_ok 4 (by decide)) rfl rfl (Nat.le_of_ble_eq_true rfl) dX2_init_41 (fun H locs hP hD hS => ?_)
  replace hP : va_P (dC, dI) vwCl [(h, .inr (2, [.ref (a1 0), .ref (a2 0), .ref (q3), .int 0, .int 0])), (a1 0, .inr (1, [.ref (a1 1), .ref (a1 2), .ref (a1 3), .ref (a1 4), .int 0])), (a1 1, .inl (cI, 40, .inl (fun _ => 0))), (a1 2, .inl (cI, 40, .inl (fun _ => 0))), (a1 3, .inl (cI, 40, .inl (fun _ => 0))), (a1 4, .inl (cI, 40, .inl (fun _ => 0))), (a2 0, .inr (0, [.ref (a2 1), .ref (a2 2), .ref (a2 3), .ref (a2 4), .ref (a2 5), .ref (a2 6), .ref (a2 7), .ref (a2 8), .int 0, .int 0, .int 0])), (a2 1, .inl (cI, 4, .inl (uC0 1))), (a2 2, .inl (cI, 4, .inl (uC0 2))), (a2 3, .inl (cI, 152, .inl (uC0 3))), (a2 4, .inl (cZ, 25, .inl (uC0 4))), (a2 5, .inl (cI, 25, .inl (uC0 5))), (a2 6, .inl (cI, 25, .inl (uC0 6))), (a2 7, .inl (cZ, 25, .inl (uC0 7))), (a2 8, .inl (cI, 24, .inl (uC0 8))), (q3, .inl (cI, 8, .inl (fun _ => 0)))] H := hP
  replace hD : va_D A [(h, .inr (2, [.ref (a1 0), .ref (a2 0), .ref (q3), .int 0, .int 0])), (a1 0, .inr (1, [.ref (a1 1), .ref (a1 2), .ref (a1 3), .ref (a1 4), .int 0])), (a1 1, .inl (cI, 40, .inl (fun _ => 0))), (a1 2, .inl (cI, 40, .inl (fun _ => 0))), (a1 3, .inl (cI, 40, .inl (fun _ => 0))), (a1 4, .inl (cI, 40, .inl (fun _ => 0))), (a2 0, .inr (0, [.ref (a2 1), .ref (a2 2), .ref (a2 3), .ref (a2 4), .ref (a2 5), .ref (a2 6), .ref (a2 7), .ref (a2 8), .int 0, .int 0, .int 0])), (a2 1, .inl (cI, 4, .inl (uC0 1))), (a2 2, .inl (cI, 4, .inl (uC0 2))), (a2 3, .inl (cI, 152, .inl (uC0 3))), (a2 4, .inl (cZ, 25, .inl (uC0 4))), (a2 5, .inl (cI, 25, .inl (uC0 5))), (a2 6, .inl (cI, 25, .inl (uC0 6))), (a2 7, .inl (cZ, 25, .inl (uC0 7))), (a2 8, .inl (cI, 24, .inl (uC0 8))), (q3, .inl (cI, 8, .inl (fun _ => 0)))] := hD
  obtain ⟨aa, haa⟩ : ∃ z : Nat → Nat, z = fun k => ([a2 0, a2 1, a2 2, a2 3, a2 4, a2 5, a2 6, a2 7, a2 8, a1 0, a1 1, a1 2, a1 3, a1 4, h, q3] : List Nat).getD k 0 := ⟨_, rfl⟩
  have hP9 : va_P (dC, dI) vwCl (wC aa cI cZ uC0) H := by rw [haa]; exact hP.sub [6, 7, 8, 9, 10, 11, 12, 13, 14, 1, 2, 3, 4, 5, 0, 15] rfl
  have hD9 : va_D A (wC aa cI cZ uC0) := by rw [haa]; exact hD.sub [6, 7, 8, 9, 10, 11, 12, 13, 14, 1, 2, 3, 4, 5, 0, 15] (by decide) rfl
  refine W.widen (k := 15) (n := 468) (Nat.le_of_ble_eq_true rfl) (Nat.le_of_ble_eq_true rfl) ?_
  exact W.vret hx hb hr (fun t ht hW => ⟨⟨aa, rfl, by rw [haa]; rfl, by rw [ht]; exact hP9, va_K.moved hW.alike hK, hD9⟩, hS.F ht⟩) hS.2.2 dX2_init_44

set_option maxRecDepth 100000 in
set_option maxHeartbeats 4000000 in
theorem c_X3_init (l : Launch) (dC : Nat → ClassId) (dI : Nat → Nat → Nat) (cI cZ : ClassId) (h sz : Nat) (o : Int32 × St) (hF : F_X3_init (fun _ _ => 0) = some o) : Met l yX3_init wsX3_init ({ frames := 1, cells := 10, slots := 409, locals := 12 }) (va_Pc [.ref h] (fun U => U.heap.size = sz ∧ va_P (dC, dI) vwCl [(h, .inr (3, [.null, .null, .null, .int 0, .int 0, .int 0, .int 0, .int 0, .null, .null, .null, .null, .null, .null, .null, .int 0, .int 0]))] U.heap ∧ va_K (dC, dI) vwCl (tyW cI cZ) U ∧ va_D (fun _ => True) [(h, .inr (3, [.null, .null, .null, .int 0, .int 0, .int 0, .int 0, .int 0, .null, .null, .null, .null, .null, .null, .null, .int 0, .int 0]))])) (va_Qv (fun (a : Nat → Nat) => a 0 = h) (fun (a : Nat → Nat) (t : State) => va_P (dC, dI) vwCl (wD a cI cZ o.2) t.heap ∧ va_K (dC, dI) vwCl (tyW cI cZ) t ∧ va_D (va_A [(h, .inr (3, [.null, .null, .null, .int 0, .int 0, .int 0, .int 0, .int 0, .null, .null, .null, .null, .null, .null, .null, .int 0, .int 0]))] sz) (wD a cI cZ o.2)) (va_A [(h, .inr (3, [.null, .null, .null, .int 0, .int 0, .int 0, .int 0, .int 0, .null, .null, .null, .null, .null, .null, .null, .int 0, .int 0]))] sz)) 10 409 (va_A [(h, .inr (3, [.null, .null, .null, .int 0, .int 0, .int 0, .int 0, .int 0, .null, .null, .null, .null, .null, .null, .null, .int 0, .int 0]))] sz) := by
  refine Met.ofW (cc := cX3_init) (maxL := 2) (ret := none) (by decide) rfl ?_
  intro p e s m args below meth c s₁ B hml hv
  obtain ⟨rfl, hsz, hP, hK, hD0⟩ := hv
  have hx := B.exec
  have hb := B.bytes
  have hr := B.returns
  have hts := atoms_spec (ws := wsX3_init) B.pre
  have hown : s.vm.findClass RX3 = some m.cls := findClass_of_methodNamed B.named
  have hlocks := B.notSynchronized
  have hin2 : meth.name = "<init>" := (name_of_methodNamed B.named B.method).1
  subst hsz
  have hD := hD0.self (sz := s.heap.size)
  have hA : ∀ q : Nat, s.heap.size ≤ q → (va_A [(h, .inr (3, [.null, .null, .null, .int 0, .int 0, .int 0, .int 0, .int 0, .null, .null, .null, .null, .null, .null, .null, .int 0, .int 0]))] s.heap.size) q := fun q h => Or.inr h
  generalize va_A [(h, .inr (3, [.null, .null, .null, .int 0, .int 0, .int 0, .int 0, .int 0, .null, .null, .null, .null, .null, .null, .null, .int 0, .int 0]))] s.heap.size = A at hD hA ⊢
  have hS : va_S A s.heap s.heap [] := va_S.rf
  have hP : va_P (dC, dI) vwCl [(h, .inr (3, [.null, .null, .null, .int 0, .int 0, .int 0, .int 0, .int 0, .null, .null, .null, .null, .null, .null, .null, .int 0, .int 0]))] s.heap := hP
  have hl := lv_entry ([.ref h]) (n := 2) (Nat.le_of_ble_eq_true rfl)
  rw [lg_entry_eq]
  generalize (lg_sl ([.ref h]) ++ List.replicate (2 - (lg_sl ([.ref h])).length) Slot.unset).toArray = ls at hl ⊢
  have hl : lv_has ls 2 [(0, .ref h)] := hl
  have hin : ∀ w ∈ u_ws RX3 TX3 17, w ∈ wsX3_init := by decide +kernel
  have fl7 := hts (.fieldLink RX3 7 "CountedHeapModel" "size" "[I") (by decide +kernel)
  have fl13 := hts (.fieldLink RX3 13 "CountedHeapModel" "map" "[I") (by decide +kernel)
  have fl16 := hts (.fieldLink RX3 16 "CountedHeapModel" "code" "[I") (by decide +kernel)
  have fl19 := hts (.fieldLink RX3 19 "CountedHeapModel" "stack" "[I") (by decide +kernel)
  have fl22 := hts (.fieldLink RX3 22 "CountedHeapModel" "ints" "[I") (by decide +kernel)
  have fl25 := hts (.fieldLink RX3 25 "CountedHeapModel" "roots" "[I") (by decide +kernel)
  have fl28 := hts (.fieldLink RX3 28 "CountedHeapModel" "kind" "[I") (by decide +kernel)
  have fl31 := hts (.fieldLink RX3 31 "CountedHeapModel" "words" "[I") (by decide +kernel)
  have fl34 := hts (.fieldLink RX3 34 "CountedHeapModel" "pointers" "[I") (by decide +kernel)
  have fl37 := hts (.fieldLink RX3 37 "CountedHeapModel" "seen" "[Z") (by decide +kernel)
  refine lv_aload_n hx hb dX3_init_0 rfl (lv_at hl 0 rfl) ?_
  refine W.objInit hx hb hown (hts (.methodLink RX3 1 objectInit) (by decide +kernel)) (hts (.instanceMethod objectInit) (by decide +kernel)) (hts (.code objectInit ⟨#[0xb1]⟩ 1 none) (by decide +kernel)) rfl (by rw [hml]; exact hl.1) rfl dX3_init_1 (Nat.le_of_ble_eq_true rfl) (Nat.le_of_ble_eq_true rfl) ?_
  refine W.eq (g2 := F0 m 4 ls []) rfl ?_
  refine lv_aload_n hx hb dX3_init_4 rfl (lv_at hl 0 rfl) ?_
  refine lv_iconst (v := 4) hx hb dX3_init_5 (by decide) ?_
  refine newI hx hb (hts (.arrayClass .int) (by decide +kernel)) hK hP hD hS hA (by decide) (N' := 4) (by decide) (by decide) (Nat.le_of_ble_eq_true rfl) (Nat.le_of_ble_eq_true rfl) dX3_init_6 (fun q1 H hP hD hS => ?_)
  replace hP : va_P (dC, dI) vwCl [(h, .inr (3, [.null, .null, .null, .int 0, .int 0, .int 0, .int 0, .int 0, .null, .null, .null, .null, .null, .null, .null, .int 0, .int 0])), (q1, .inl (cI, 4, .inl (fun _ => 0)))] H := hP
  replace hD : va_D A [(h, .inr (3, [.null, .null, .null, .int 0, .int 0, .int 0, .int 0, .int 0, .null, .null, .null, .null, .null, .null, .null, .int 0, .int 0])), (q1, .inl (cI, 4, .inl (fun _ => 0)))] := hD
  refine va_putF (D := (dC, dI)) (ci := 3) (v := .ref (q1)) (ty := tyX3 0) (C := RX3) (T := TX3) (N := 17) hx hb hts hin tyX3 tyX3_ok nmX3 hown hK hP hD hS 0 rfl rfl 0 (by decide) fl7 (fun _ h9 => h9) rfl hin2 rfl (tyX3_ok 0 (by decide)) rfl rfl (Nat.le_of_ble_eq_true rfl) dX3_init_8 (fun H locs hP hD hS => ?_)
  replace hP : va_P (dC, dI) vwCl [(h, .inr (3, [.ref (q1), .null, .null, .int 0, .int 0, .int 0, .int 0, .int 0, .null, .null, .null, .null, .null, .null, .null, .int 0, .int 0])), (q1, .inl (cI, 4, .inl (fun _ => 0)))] H := hP
  replace hD : va_D A [(h, .inr (3, [.ref (q1), .null, .null, .int 0, .int 0, .int 0, .int 0, .int 0, .null, .null, .null, .null, .null, .null, .null, .int 0, .int 0])), (q1, .inl (cI, 4, .inl (fun _ => 0)))] := hD
  refine lv_aload_n hx hb dX3_init_11 rfl (lv_at hl 0 rfl) ?_
  refine lv_iconst (v := 4) hx hb dX3_init_12 (by decide) ?_
  refine newI hx hb (hts (.arrayClass .int) (by decide +kernel)) hK hP hD hS hA (by decide) (N' := 4) (by decide) (by decide) (Nat.le_of_ble_eq_true rfl) (Nat.le_of_ble_eq_true rfl) dX3_init_13 (fun q2 H hP hD hS => ?_)
  replace hP : va_P (dC, dI) vwCl [(h, .inr (3, [.ref (q1), .null, .null, .int 0, .int 0, .int 0, .int 0, .int 0, .null, .null, .null, .null, .null, .null, .null, .int 0, .int 0])), (q1, .inl (cI, 4, .inl (fun _ => 0))), (q2, .inl (cI, 4, .inl (fun _ => 0)))] H := hP
  replace hD : va_D A [(h, .inr (3, [.ref (q1), .null, .null, .int 0, .int 0, .int 0, .int 0, .int 0, .null, .null, .null, .null, .null, .null, .null, .int 0, .int 0])), (q1, .inl (cI, 4, .inl (fun _ => 0))), (q2, .inl (cI, 4, .inl (fun _ => 0)))] := hD
  refine va_putF (D := (dC, dI)) (ci := 3) (v := .ref (q2)) (ty := tyX3 1) (C := RX3) (T := TX3) (N := 17) hx hb hts hin tyX3 tyX3_ok nmX3 hown hK hP hD hS 0 rfl rfl 1 (by decide) fl13 (fun _ h9 => h9) rfl hin2 rfl (tyX3_ok 1 (by decide)) rfl rfl (Nat.le_of_ble_eq_true rfl) dX3_init_15 (fun H locs hP hD hS => ?_)
  replace hP : va_P (dC, dI) vwCl [(h, .inr (3, [.ref (q1), .ref (q2), .null, .int 0, .int 0, .int 0, .int 0, .int 0, .null, .null, .null, .null, .null, .null, .null, .int 0, .int 0])), (q1, .inl (cI, 4, .inl (fun _ => 0))), (q2, .inl (cI, 4, .inl (fun _ => 0)))] H := hP
  replace hD : va_D A [(h, .inr (3, [.ref (q1), .ref (q2), .null, .int 0, .int 0, .int 0, .int 0, .int 0, .null, .null, .null, .null, .null, .null, .null, .int 0, .int 0])), (q1, .inl (cI, 4, .inl (fun _ => 0))), (q2, .inl (cI, 4, .inl (fun _ => 0)))] := hD
  refine lv_aload_n hx hb dX3_init_18 rfl (lv_at hl 0 rfl) ?_
  refine lv_sipush (v := 160) hx hb dX3_init_19 (by decide) ?_
  refine newI hx hb (hts (.arrayClass .int) (by decide +kernel)) hK hP hD hS hA (by decide) (N' := 160) (by decide) (by decide) (Nat.le_of_ble_eq_true rfl) (Nat.le_of_ble_eq_true rfl) dX3_init_22 (fun q3 H hP hD hS => ?_)
  replace hP : va_P (dC, dI) vwCl [(h, .inr (3, [.ref (q1), .ref (q2), .null, .int 0, .int 0, .int 0, .int 0, .int 0, .null, .null, .null, .null, .null, .null, .null, .int 0, .int 0])), (q1, .inl (cI, 4, .inl (fun _ => 0))), (q2, .inl (cI, 4, .inl (fun _ => 0))), (q3, .inl (cI, 160, .inl (fun _ => 0)))] H := hP
  replace hD : va_D A [(h, .inr (3, [.ref (q1), .ref (q2), .null, .int 0, .int 0, .int 0, .int 0, .int 0, .null, .null, .null, .null, .null, .null, .null, .int 0, .int 0])), (q1, .inl (cI, 4, .inl (fun _ => 0))), (q2, .inl (cI, 4, .inl (fun _ => 0))), (q3, .inl (cI, 160, .inl (fun _ => 0)))] := hD
  refine va_putF (D := (dC, dI)) (ci := 3) (v := .ref (q3)) (ty := tyX3 2) (C := RX3) (T := TX3) (N := 17) hx hb hts hin tyX3 tyX3_ok nmX3 hown hK hP hD hS 0 rfl rfl 2 (by decide) fl16 (fun _ h9 => h9) rfl hin2 rfl (tyX3_ok 2 (by decide)) rfl rfl (Nat.le_of_ble_eq_true rfl) dX3_init_24 (fun H locs hP hD hS => ?_)
  replace hP : va_P (dC, dI) vwCl [(h, .inr (3, [.ref (q1), .ref (q2), .ref (q3), .int 0, .int 0, .int 0, .int 0, .int 0, .null, .null, .null, .null, .null, .null, .null, .int 0, .int 0])), (q1, .inl (cI, 4, .inl (fun _ => 0))), (q2, .inl (cI, 4, .inl (fun _ => 0))), (q3, .inl (cI, 160, .inl (fun _ => 0)))] H := hP
  replace hD : va_D A [(h, .inr (3, [.ref (q1), .ref (q2), .ref (q3), .int 0, .int 0, .int 0, .int 0, .int 0, .null, .null, .null, .null, .null, .null, .null, .int 0, .int 0])), (q1, .inl (cI, 4, .inl (fun _ => 0))), (q2, .inl (cI, 4, .inl (fun _ => 0))), (q3, .inl (cI, 160, .inl (fun _ => 0)))] := hD
  refine lv_aload_n hx hb dX3_init_27 rfl (lv_at hl 0 rfl) ?_
  refine lv_bipush (v := 8) hx hb dX3_init_28 (by decide) ?_
  refine newI hx hb (hts (.arrayClass .int) (by decide +kernel)) hK hP hD hS hA (by decide) (N' := 8) (by decide) (by decide) (Nat.le_of_ble_eq_true rfl) (Nat.le_of_ble_eq_true rfl) dX3_init_30 (fun q4 H hP hD hS => ?_)
  replace hP : va_P (dC, dI) vwCl [(h, .inr (3, [.ref (q1), .ref (q2), .ref (q3), .int 0, .int 0, .int 0, .int 0, .int 0, .null, .null, .null, .null, .null, .null, .null, .int 0, .int 0])), (q1, .inl (cI, 4, .inl (fun _ => 0))), (q2, .inl (cI, 4, .inl (fun _ => 0))), (q3, .inl (cI, 160, .inl (fun _ => 0))), (q4, .inl (cI, 8, .inl (fun _ => 0)))] H := hP
  replace hD : va_D A [(h, .inr (3, [.ref (q1), .ref (q2), .ref (q3), .int 0, .int 0, .int 0, .int 0, .int 0, .null, .null, .null, .null, .null, .null, .null, .int 0, .int 0])), (q1, .inl (cI, 4, .inl (fun _ => 0))), (q2, .inl (cI, 4, .inl (fun _ => 0))), (q3, .inl (cI, 160, .inl (fun _ => 0))), (q4, .inl (cI, 8, .inl (fun _ => 0)))] := hD
  refine va_putF (D := (dC, dI)) (ci := 3) (v := .ref (q4)) (ty := tyX3 8) (C := RX3) (T := TX3) (N := 17) hx hb hts hin tyX3 tyX3_ok nmX3 hown hK hP hD hS 0 rfl rfl 8 (by decide) fl19 (fun _ h9 => h9) rfl hin2 rfl (tyX3_ok 8 (by decide)) rfl rfl (Nat.le_of_ble_eq_true rfl) dX3_init_32 (fun H locs hP hD hS => ?_)
  replace hP : va_P (dC, dI) vwCl [(h, .inr (3, [.ref (q1), .ref (q2), .ref (q3), .int 0, .int 0, .int 0, .int 0, .int 0, .ref (q4), .null, .null, .null, .null, .null, .null, .int 0, .int 0])), (q1, .inl (cI, 4, .inl (fun _ => 0))), (q2, .inl (cI, 4, .inl (fun _ => 0))), (q3, .inl (cI, 160, .inl (fun _ => 0))), (q4, .inl (cI, 8, .inl (fun _ => 0)))] H := hP
  replace hD : va_D A [(h, .inr (3, [.ref (q1), .ref (q2), .ref (q3), .int 0, .int 0, .int 0, .int 0, .int 0, .ref (q4), .null, .null, .null, .null, .null, .null, .int 0, .int 0])), (q1, .inl (cI, 4, .inl (fun _ => 0))), (q2, .inl (cI, 4, .inl (fun _ => 0))), (q3, .inl (cI, 160, .inl (fun _ => 0))), (q4, .inl (cI, 8, .inl (fun _ => 0)))] := hD
  refine lv_aload_n hx hb dX3_init_35 rfl (lv_at hl 0 rfl) ?_
  refine lv_iconst (v := 4) hx hb dX3_init_36 (by decide) ?_
  refine newI hx hb (hts (.arrayClass .int) (by decide +kernel)) hK hP hD hS hA (by decide) (N' := 4) (by decide) (by decide) (Nat.le_of_ble_eq_true rfl) (Nat.le_of_ble_eq_true rfl) dX3_init_37 (fun q5 H hP hD hS => ?_)
  replace hP : va_P (dC, dI) vwCl [(h, .inr (3, [.ref (q1), .ref (q2), .ref (q3), .int 0, .int 0, .int 0, .int 0, .int 0, .ref (q4), .null, .null, .null, .null, .null, .null, .int 0, .int 0])), (q1, .inl (cI, 4, .inl (fun _ => 0))), (q2, .inl (cI, 4, .inl (fun _ => 0))), (q3, .inl (cI, 160, .inl (fun _ => 0))), (q4, .inl (cI, 8, .inl (fun _ => 0))), (q5, .inl (cI, 4, .inl (fun _ => 0)))] H := hP
  replace hD : va_D A [(h, .inr (3, [.ref (q1), .ref (q2), .ref (q3), .int 0, .int 0, .int 0, .int 0, .int 0, .ref (q4), .null, .null, .null, .null, .null, .null, .int 0, .int 0])), (q1, .inl (cI, 4, .inl (fun _ => 0))), (q2, .inl (cI, 4, .inl (fun _ => 0))), (q3, .inl (cI, 160, .inl (fun _ => 0))), (q4, .inl (cI, 8, .inl (fun _ => 0))), (q5, .inl (cI, 4, .inl (fun _ => 0)))] := hD
  refine va_putF (D := (dC, dI)) (ci := 3) (v := .ref (q5)) (ty := tyX3 9) (C := RX3) (T := TX3) (N := 17) hx hb hts hin tyX3 tyX3_ok nmX3 hown hK hP hD hS 0 rfl rfl 9 (by decide) fl22 (fun _ h9 => h9) rfl hin2 rfl (tyX3_ok 9 (by decide)) rfl rfl (Nat.le_of_ble_eq_true rfl) dX3_init_39 (fun H locs hP hD hS => ?_)
  replace hP : va_P (dC, dI) vwCl [(h, .inr (3, [.ref (q1), .ref (q2), .ref (q3), .int 0, .int 0, .int 0, .int 0, .int 0, .ref (q4), .ref (q5), .null, .null, .null, .null, .null, .int 0, .int 0])), (q1, .inl (cI, 4, .inl (fun _ => 0))), (q2, .inl (cI, 4, .inl (fun _ => 0))), (q3, .inl (cI, 160, .inl (fun _ => 0))), (q4, .inl (cI, 8, .inl (fun _ => 0))), (q5, .inl (cI, 4, .inl (fun _ => 0)))] H := hP
  replace hD : va_D A [(h, .inr (3, [.ref (q1), .ref (q2), .ref (q3), .int 0, .int 0, .int 0, .int 0, .int 0, .ref (q4), .ref (q5), .null, .null, .null, .null, .null, .int 0, .int 0])), (q1, .inl (cI, 4, .inl (fun _ => 0))), (q2, .inl (cI, 4, .inl (fun _ => 0))), (q3, .inl (cI, 160, .inl (fun _ => 0))), (q4, .inl (cI, 8, .inl (fun _ => 0))), (q5, .inl (cI, 4, .inl (fun _ => 0)))] := hD
  refine lv_aload_n hx hb dX3_init_42 rfl (lv_at hl 0 rfl) ?_
  refine lv_iconst (v := 4) hx hb dX3_init_43 (by decide) ?_
  refine newI hx hb (hts (.arrayClass .int) (by decide +kernel)) hK hP hD hS hA (by decide) (N' := 4) (by decide) (by decide) (Nat.le_of_ble_eq_true rfl) (Nat.le_of_ble_eq_true rfl) dX3_init_44 (fun q6 H hP hD hS => ?_)
  replace hP : va_P (dC, dI) vwCl [(h, .inr (3, [.ref (q1), .ref (q2), .ref (q3), .int 0, .int 0, .int 0, .int 0, .int 0, .ref (q4), .ref (q5), .null, .null, .null, .null, .null, .int 0, .int 0])), (q1, .inl (cI, 4, .inl (fun _ => 0))), (q2, .inl (cI, 4, .inl (fun _ => 0))), (q3, .inl (cI, 160, .inl (fun _ => 0))), (q4, .inl (cI, 8, .inl (fun _ => 0))), (q5, .inl (cI, 4, .inl (fun _ => 0))), (q6, .inl (cI, 4, .inl (fun _ => 0)))] H := hP
  replace hD : va_D A [(h, .inr (3, [.ref (q1), .ref (q2), .ref (q3), .int 0, .int 0, .int 0, .int 0, .int 0, .ref (q4), .ref (q5), .null, .null, .null, .null, .null, .int 0, .int 0])), (q1, .inl (cI, 4, .inl (fun _ => 0))), (q2, .inl (cI, 4, .inl (fun _ => 0))), (q3, .inl (cI, 160, .inl (fun _ => 0))), (q4, .inl (cI, 8, .inl (fun _ => 0))), (q5, .inl (cI, 4, .inl (fun _ => 0))), (q6, .inl (cI, 4, .inl (fun _ => 0)))] := hD
  refine va_putF (D := (dC, dI)) (ci := 3) (v := .ref (q6)) (ty := tyX3 10) (C := RX3) (T := TX3) (N := 17) hx hb hts hin tyX3 tyX3_ok nmX3 hown hK hP hD hS 0 rfl rfl 10 (by decide) fl25 (fun _ h9 => h9) rfl hin2 rfl (tyX3_ok 10 (by decide)) rfl rfl (Nat.le_of_ble_eq_true rfl) dX3_init_46 (fun H locs hP hD hS => ?_)
  replace hP : va_P (dC, dI) vwCl [(h, .inr (3, [.ref (q1), .ref (q2), .ref (q3), .int 0, .int 0, .int 0, .int 0, .int 0, .ref (q4), .ref (q5), .ref (q6), .null, .null, .null, .null, .int 0, .int 0])), (q1, .inl (cI, 4, .inl (fun _ => 0))), (q2, .inl (cI, 4, .inl (fun _ => 0))), (q3, .inl (cI, 160, .inl (fun _ => 0))), (q4, .inl (cI, 8, .inl (fun _ => 0))), (q5, .inl (cI, 4, .inl (fun _ => 0))), (q6, .inl (cI, 4, .inl (fun _ => 0)))] H := hP
  replace hD : va_D A [(h, .inr (3, [.ref (q1), .ref (q2), .ref (q3), .int 0, .int 0, .int 0, .int 0, .int 0, .ref (q4), .ref (q5), .ref (q6), .null, .null, .null, .null, .int 0, .int 0])), (q1, .inl (cI, 4, .inl (fun _ => 0))), (q2, .inl (cI, 4, .inl (fun _ => 0))), (q3, .inl (cI, 160, .inl (fun _ => 0))), (q4, .inl (cI, 8, .inl (fun _ => 0))), (q5, .inl (cI, 4, .inl (fun _ => 0))), (q6, .inl (cI, 4, .inl (fun _ => 0)))] := hD
  refine lv_aload_n hx hb dX3_init_49 rfl (lv_at hl 0 rfl) ?_
  refine lv_bipush (v := 25) hx hb dX3_init_50 (by decide) ?_
  refine newI hx hb (hts (.arrayClass .int) (by decide +kernel)) hK hP hD hS hA (by decide) (N' := 25) (by decide) (by decide) (Nat.le_of_ble_eq_true rfl) (Nat.le_of_ble_eq_true rfl) dX3_init_52 (fun q7 H hP hD hS => ?_)
  replace hP : va_P (dC, dI) vwCl [(h, .inr (3, [.ref (q1), .ref (q2), .ref (q3), .int 0, .int 0, .int 0, .int 0, .int 0, .ref (q4), .ref (q5), .ref (q6), .null, .null, .null, .null, .int 0, .int 0])), (q1, .inl (cI, 4, .inl (fun _ => 0))), (q2, .inl (cI, 4, .inl (fun _ => 0))), (q3, .inl (cI, 160, .inl (fun _ => 0))), (q4, .inl (cI, 8, .inl (fun _ => 0))), (q5, .inl (cI, 4, .inl (fun _ => 0))), (q6, .inl (cI, 4, .inl (fun _ => 0))), (q7, .inl (cI, 25, .inl (fun _ => 0)))] H := hP
  replace hD : va_D A [(h, .inr (3, [.ref (q1), .ref (q2), .ref (q3), .int 0, .int 0, .int 0, .int 0, .int 0, .ref (q4), .ref (q5), .ref (q6), .null, .null, .null, .null, .int 0, .int 0])), (q1, .inl (cI, 4, .inl (fun _ => 0))), (q2, .inl (cI, 4, .inl (fun _ => 0))), (q3, .inl (cI, 160, .inl (fun _ => 0))), (q4, .inl (cI, 8, .inl (fun _ => 0))), (q5, .inl (cI, 4, .inl (fun _ => 0))), (q6, .inl (cI, 4, .inl (fun _ => 0))), (q7, .inl (cI, 25, .inl (fun _ => 0)))] := hD
  refine va_putF (D := (dC, dI)) (ci := 3) (v := .ref (q7)) (ty := tyX3 11) (C := RX3) (T := TX3) (N := 17) hx hb hts hin tyX3 tyX3_ok nmX3 hown hK hP hD hS 0 rfl rfl 11 (by decide) fl28 (fun _ h9 => h9) rfl hin2 rfl (tyX3_ok 11 (by decide)) rfl rfl (Nat.le_of_ble_eq_true rfl) dX3_init_54 (fun H locs hP hD hS => ?_)
  replace hP : va_P (dC, dI) vwCl [(h, .inr (3, [.ref (q1), .ref (q2), .ref (q3), .int 0, .int 0, .int 0, .int 0, .int 0, .ref (q4), .ref (q5), .ref (q6), .ref (q7), .null, .null, .null, .int 0, .int 0])), (q1, .inl (cI, 4, .inl (fun _ => 0))), (q2, .inl (cI, 4, .inl (fun _ => 0))), (q3, .inl (cI, 160, .inl (fun _ => 0))), (q4, .inl (cI, 8, .inl (fun _ => 0))), (q5, .inl (cI, 4, .inl (fun _ => 0))), (q6, .inl (cI, 4, .inl (fun _ => 0))), (q7, .inl (cI, 25, .inl (fun _ => 0)))] H := hP
  replace hD : va_D A [(h, .inr (3, [.ref (q1), .ref (q2), .ref (q3), .int 0, .int 0, .int 0, .int 0, .int 0, .ref (q4), .ref (q5), .ref (q6), .ref (q7), .null, .null, .null, .int 0, .int 0])), (q1, .inl (cI, 4, .inl (fun _ => 0))), (q2, .inl (cI, 4, .inl (fun _ => 0))), (q3, .inl (cI, 160, .inl (fun _ => 0))), (q4, .inl (cI, 8, .inl (fun _ => 0))), (q5, .inl (cI, 4, .inl (fun _ => 0))), (q6, .inl (cI, 4, .inl (fun _ => 0))), (q7, .inl (cI, 25, .inl (fun _ => 0)))] := hD
  refine lv_aload_n hx hb dX3_init_57 rfl (lv_at hl 0 rfl) ?_
  refine lv_sipush (v := 150) hx hb dX3_init_58 (by decide) ?_
  refine newI hx hb (hts (.arrayClass .int) (by decide +kernel)) hK hP hD hS hA (by decide) (N' := 150) (by decide) (by decide) (Nat.le_of_ble_eq_true rfl) (Nat.le_of_ble_eq_true rfl) dX3_init_61 (fun q8 H hP hD hS => ?_)
  replace hP : va_P (dC, dI) vwCl [(h, .inr (3, [.ref (q1), .ref (q2), .ref (q3), .int 0, .int 0, .int 0, .int 0, .int 0, .ref (q4), .ref (q5), .ref (q6), .ref (q7), .null, .null, .null, .int 0, .int 0])), (q1, .inl (cI, 4, .inl (fun _ => 0))), (q2, .inl (cI, 4, .inl (fun _ => 0))), (q3, .inl (cI, 160, .inl (fun _ => 0))), (q4, .inl (cI, 8, .inl (fun _ => 0))), (q5, .inl (cI, 4, .inl (fun _ => 0))), (q6, .inl (cI, 4, .inl (fun _ => 0))), (q7, .inl (cI, 25, .inl (fun _ => 0))), (q8, .inl (cI, 150, .inl (fun _ => 0)))] H := hP
  replace hD : va_D A [(h, .inr (3, [.ref (q1), .ref (q2), .ref (q3), .int 0, .int 0, .int 0, .int 0, .int 0, .ref (q4), .ref (q5), .ref (q6), .ref (q7), .null, .null, .null, .int 0, .int 0])), (q1, .inl (cI, 4, .inl (fun _ => 0))), (q2, .inl (cI, 4, .inl (fun _ => 0))), (q3, .inl (cI, 160, .inl (fun _ => 0))), (q4, .inl (cI, 8, .inl (fun _ => 0))), (q5, .inl (cI, 4, .inl (fun _ => 0))), (q6, .inl (cI, 4, .inl (fun _ => 0))), (q7, .inl (cI, 25, .inl (fun _ => 0))), (q8, .inl (cI, 150, .inl (fun _ => 0)))] := hD
  refine va_putF (D := (dC, dI)) (ci := 3) (v := .ref (q8)) (ty := tyX3 12) (C := RX3) (T := TX3) (N := 17) hx hb hts hin tyX3 tyX3_ok nmX3 hown hK hP hD hS 0 rfl rfl 12 (by decide) fl31 (fun _ h9 => h9) rfl hin2 rfl (tyX3_ok 12 (by decide)) rfl rfl (Nat.le_of_ble_eq_true rfl) dX3_init_63 (fun H locs hP hD hS => ?_)
  replace hP : va_P (dC, dI) vwCl [(h, .inr (3, [.ref (q1), .ref (q2), .ref (q3), .int 0, .int 0, .int 0, .int 0, .int 0, .ref (q4), .ref (q5), .ref (q6), .ref (q7), .ref (q8), .null, .null, .int 0, .int 0])), (q1, .inl (cI, 4, .inl (fun _ => 0))), (q2, .inl (cI, 4, .inl (fun _ => 0))), (q3, .inl (cI, 160, .inl (fun _ => 0))), (q4, .inl (cI, 8, .inl (fun _ => 0))), (q5, .inl (cI, 4, .inl (fun _ => 0))), (q6, .inl (cI, 4, .inl (fun _ => 0))), (q7, .inl (cI, 25, .inl (fun _ => 0))), (q8, .inl (cI, 150, .inl (fun _ => 0)))] H := hP
  replace hD : va_D A [(h, .inr (3, [.ref (q1), .ref (q2), .ref (q3), .int 0, .int 0, .int 0, .int 0, .int 0, .ref (q4), .ref (q5), .ref (q6), .ref (q7), .ref (q8), .null, .null, .int 0, .int 0])), (q1, .inl (cI, 4, .inl (fun _ => 0))), (q2, .inl (cI, 4, .inl (fun _ => 0))), (q3, .inl (cI, 160, .inl (fun _ => 0))), (q4, .inl (cI, 8, .inl (fun _ => 0))), (q5, .inl (cI, 4, .inl (fun _ => 0))), (q6, .inl (cI, 4, .inl (fun _ => 0))), (q7, .inl (cI, 25, .inl (fun _ => 0))), (q8, .inl (cI, 150, .inl (fun _ => 0)))] := hD
  refine lv_aload_n hx hb dX3_init_66 rfl (lv_at hl 0 rfl) ?_
  refine lv_bipush (v := 25) hx hb dX3_init_67 (by decide) ?_
  refine newI hx hb (hts (.arrayClass .int) (by decide +kernel)) hK hP hD hS hA (by decide) (N' := 25) (by decide) (by decide) (Nat.le_of_ble_eq_true rfl) (Nat.le_of_ble_eq_true rfl) dX3_init_69 (fun q9 H hP hD hS => ?_)
  replace hP : va_P (dC, dI) vwCl [(h, .inr (3, [.ref (q1), .ref (q2), .ref (q3), .int 0, .int 0, .int 0, .int 0, .int 0, .ref (q4), .ref (q5), .ref (q6), .ref (q7), .ref (q8), .null, .null, .int 0, .int 0])), (q1, .inl (cI, 4, .inl (fun _ => 0))), (q2, .inl (cI, 4, .inl (fun _ => 0))), (q3, .inl (cI, 160, .inl (fun _ => 0))), (q4, .inl (cI, 8, .inl (fun _ => 0))), (q5, .inl (cI, 4, .inl (fun _ => 0))), (q6, .inl (cI, 4, .inl (fun _ => 0))), (q7, .inl (cI, 25, .inl (fun _ => 0))), (q8, .inl (cI, 150, .inl (fun _ => 0))), (q9, .inl (cI, 25, .inl (fun _ => 0)))] H := hP
  replace hD : va_D A [(h, .inr (3, [.ref (q1), .ref (q2), .ref (q3), .int 0, .int 0, .int 0, .int 0, .int 0, .ref (q4), .ref (q5), .ref (q6), .ref (q7), .ref (q8), .null, .null, .int 0, .int 0])), (q1, .inl (cI, 4, .inl (fun _ => 0))), (q2, .inl (cI, 4, .inl (fun _ => 0))), (q3, .inl (cI, 160, .inl (fun _ => 0))), (q4, .inl (cI, 8, .inl (fun _ => 0))), (q5, .inl (cI, 4, .inl (fun _ => 0))), (q6, .inl (cI, 4, .inl (fun _ => 0))), (q7, .inl (cI, 25, .inl (fun _ => 0))), (q8, .inl (cI, 150, .inl (fun _ => 0))), (q9, .inl (cI, 25, .inl (fun _ => 0)))] := hD
  refine va_putF (D := (dC, dI)) (ci := 3) (v := .ref (q9)) (ty := tyX3 13) (C := RX3) (T := TX3) (N := 17) hx hb hts hin tyX3 tyX3_ok nmX3 hown hK hP hD hS 0 rfl rfl 13 (by decide) fl34 (fun _ h9 => h9) rfl hin2 rfl (tyX3_ok 13 (by decide)) rfl rfl (Nat.le_of_ble_eq_true rfl) dX3_init_71 (fun H locs hP hD hS => ?_)
  replace hP : va_P (dC, dI) vwCl [(h, .inr (3, [.ref (q1), .ref (q2), .ref (q3), .int 0, .int 0, .int 0, .int 0, .int 0, .ref (q4), .ref (q5), .ref (q6), .ref (q7), .ref (q8), .ref (q9), .null, .int 0, .int 0])), (q1, .inl (cI, 4, .inl (fun _ => 0))), (q2, .inl (cI, 4, .inl (fun _ => 0))), (q3, .inl (cI, 160, .inl (fun _ => 0))), (q4, .inl (cI, 8, .inl (fun _ => 0))), (q5, .inl (cI, 4, .inl (fun _ => 0))), (q6, .inl (cI, 4, .inl (fun _ => 0))), (q7, .inl (cI, 25, .inl (fun _ => 0))), (q8, .inl (cI, 150, .inl (fun _ => 0))), (q9, .inl (cI, 25, .inl (fun _ => 0)))] H := hP
  replace hD : va_D A [(h, .inr (3, [.ref (q1), .ref (q2), .ref (q3), .int 0, .int 0, .int 0, .int 0, .int 0, .ref (q4), .ref (q5), .ref (q6), .ref (q7), .ref (q8), .ref (q9), .null, .int 0, .int 0])), (q1, .inl (cI, 4, .inl (fun _ => 0))), (q2, .inl (cI, 4, .inl (fun _ => 0))), (q3, .inl (cI, 160, .inl (fun _ => 0))), (q4, .inl (cI, 8, .inl (fun _ => 0))), (q5, .inl (cI, 4, .inl (fun _ => 0))), (q6, .inl (cI, 4, .inl (fun _ => 0))), (q7, .inl (cI, 25, .inl (fun _ => 0))), (q8, .inl (cI, 150, .inl (fun _ => 0))), (q9, .inl (cI, 25, .inl (fun _ => 0)))] := hD
  refine lv_aload_n hx hb dX3_init_74 rfl (lv_at hl 0 rfl) ?_
  refine lv_bipush (v := 25) hx hb dX3_init_75 (by decide) ?_
  refine newZ hx hb (hts (.arrayClass .boolean) (by decide +kernel)) hK hP hD hS hA (by decide) (N' := 25) (by decide) (by decide) (Nat.le_of_ble_eq_true rfl) (Nat.le_of_ble_eq_true rfl) dX3_init_77 (fun q10 H hP hD hS => ?_)
  replace hP : va_P (dC, dI) vwCl [(h, .inr (3, [.ref (q1), .ref (q2), .ref (q3), .int 0, .int 0, .int 0, .int 0, .int 0, .ref (q4), .ref (q5), .ref (q6), .ref (q7), .ref (q8), .ref (q9), .null, .int 0, .int 0])), (q1, .inl (cI, 4, .inl (fun _ => 0))), (q2, .inl (cI, 4, .inl (fun _ => 0))), (q3, .inl (cI, 160, .inl (fun _ => 0))), (q4, .inl (cI, 8, .inl (fun _ => 0))), (q5, .inl (cI, 4, .inl (fun _ => 0))), (q6, .inl (cI, 4, .inl (fun _ => 0))), (q7, .inl (cI, 25, .inl (fun _ => 0))), (q8, .inl (cI, 150, .inl (fun _ => 0))), (q9, .inl (cI, 25, .inl (fun _ => 0))), (q10, .inl (cZ, 25, .inl (fun _ => 0)))] H := hP
  replace hD : va_D A [(h, .inr (3, [.ref (q1), .ref (q2), .ref (q3), .int 0, .int 0, .int 0, .int 0, .int 0, .ref (q4), .ref (q5), .ref (q6), .ref (q7), .ref (q8), .ref (q9), .null, .int 0, .int 0])), (q1, .inl (cI, 4, .inl (fun _ => 0))), (q2, .inl (cI, 4, .inl (fun _ => 0))), (q3, .inl (cI, 160, .inl (fun _ => 0))), (q4, .inl (cI, 8, .inl (fun _ => 0))), (q5, .inl (cI, 4, .inl (fun _ => 0))), (q6, .inl (cI, 4, .inl (fun _ => 0))), (q7, .inl (cI, 25, .inl (fun _ => 0))), (q8, .inl (cI, 150, .inl (fun _ => 0))), (q9, .inl (cI, 25, .inl (fun _ => 0))), (q10, .inl (cZ, 25, .inl (fun _ => 0)))] := hD
  refine va_putF (D := (dC, dI)) (ci := 3) (v := .ref (q10)) (ty := tyX3 14) (C := RX3) (T := TX3) (N := 17) hx hb hts hin tyX3 tyX3_ok nmX3 hown hK hP hD hS 0 rfl rfl 14 (by decide) fl37 (fun _ h9 => h9) rfl hin2 rfl (tyX3_ok 14 (by decide)) rfl rfl (Nat.le_of_ble_eq_true rfl) dX3_init_79 (fun H locs hP hD hS => ?_)
  replace hP : va_P (dC, dI) vwCl [(h, .inr (3, [.ref (q1), .ref (q2), .ref (q3), .int 0, .int 0, .int 0, .int 0, .int 0, .ref (q4), .ref (q5), .ref (q6), .ref (q7), .ref (q8), .ref (q9), .ref (q10), .int 0, .int 0])), (q1, .inl (cI, 4, .inl (fun _ => 0))), (q2, .inl (cI, 4, .inl (fun _ => 0))), (q3, .inl (cI, 160, .inl (fun _ => 0))), (q4, .inl (cI, 8, .inl (fun _ => 0))), (q5, .inl (cI, 4, .inl (fun _ => 0))), (q6, .inl (cI, 4, .inl (fun _ => 0))), (q7, .inl (cI, 25, .inl (fun _ => 0))), (q8, .inl (cI, 150, .inl (fun _ => 0))), (q9, .inl (cI, 25, .inl (fun _ => 0))), (q10, .inl (cZ, 25, .inl (fun _ => 0)))] H := hP
  replace hD : va_D A [(h, .inr (3, [.ref (q1), .ref (q2), .ref (q3), .int 0, .int 0, .int 0, .int 0, .int 0, .ref (q4), .ref (q5), .ref (q6), .ref (q7), .ref (q8), .ref (q9), .ref (q10), .int 0, .int 0])), (q1, .inl (cI, 4, .inl (fun _ => 0))), (q2, .inl (cI, 4, .inl (fun _ => 0))), (q3, .inl (cI, 160, .inl (fun _ => 0))), (q4, .inl (cI, 8, .inl (fun _ => 0))), (q5, .inl (cI, 4, .inl (fun _ => 0))), (q6, .inl (cI, 4, .inl (fun _ => 0))), (q7, .inl (cI, 25, .inl (fun _ => 0))), (q8, .inl (cI, 150, .inl (fun _ => 0))), (q9, .inl (cI, 25, .inl (fun _ => 0))), (q10, .inl (cZ, 25, .inl (fun _ => 0)))] := hD
  obtain ⟨aa, haa⟩ : ∃ z : Nat → Nat, z = fun k => ([h, q1, q2, q3, q4, q5, q6, q7, q8, q9, q10] : List Nat).getD k 0 := ⟨_, rfl⟩
  have hP9 : va_P (dC, dI) vwCl (wD aa cI cZ (fun _ _ => 0)) H := by rw [haa]; exact hP
  have hD9 : va_D A (wD aa cI cZ (fun _ _ => 0)) := by rw [haa]; exact hD
  have hl9 : lv_has ls 2 [(0, .ref (aa 0))] := by rw [haa]; exact hl
  refine W.widen (k := 10) (n := 409) (Nat.le_of_ble_eq_true rfl) (Nat.le_of_ble_eq_true rfl) ?_
  refine i_X3_init aa (fun _ _ => 0) o hF hx hb hts hown hK ?_ H _ ls hP9 hD9 hS hl9
  intro H locs ls pc v he hP hD hS hdg
  exact W.vret hx hb hr (fun t ht hW => ⟨⟨aa, rfl, by rw [haa]; rfl, by rw [ht, ← he]; exact hP, va_K.moved hW.alike hK, by rw [← he]; exact hD⟩, hS.F ht⟩) hS.2.2 hdg
