/-! the worlds: all cells of the class' object (wC), of the reference's object (wD); a state gives each cell's contents -/
abbrev St : Type := Nat → Nat → Int32
def su (u : St) (c k : Nat) (v : Int32) : St := fun i => bif Nat.beq i c then upd (u i) k v else u i
def fuel : Nat := 1000
def rmK (fr lo : Nat) : Room := { frames := fr, cells := 0, slots := 0, locals := lo }
abbrev tyW (cI cZ : ClassId) : List (ClassId × FieldType) := [(cI, .int), (cZ, .boolean)]
def wC (a : Nat → Nat) (cI cZ : ClassId) (u : St) : va_W := [(a 0, .inr (0, [.ref (a 1), .ref (a 2), .ref (a 3), .ref (a 4), .ref (a 5), .ref (a 6), .ref (a 7), .ref (a 8), .int (u 0 8), .int (u 0 9), .int (u 0 10)])),
  (a 1, .inl (cI, 4, .inl (u 1))),
  (a 2, .inl (cI, 4, .inl (u 2))),
  (a 3, .inl (cI, 152, .inl (u 3))),
  (a 4, .inl (cZ, 25, .inl (u 4))),
  (a 5, .inl (cI, 25, .inl (u 5))),
  (a 6, .inl (cI, 25, .inl (u 6))),
  (a 7, .inl (cZ, 25, .inl (u 7))),
  (a 8, .inl (cI, 24, .inl (u 8))),
  (a 9, .inr (1, [.ref (a 10), .ref (a 11), .ref (a 12), .ref (a 13), .int (u 9 4)])),
  (a 10, .inl (cI, 40, .inl (u 10))),
  (a 11, .inl (cI, 40, .inl (u 11))),
  (a 12, .inl (cI, 40, .inl (u 12))),
  (a 13, .inl (cI, 40, .inl (u 13))),
  (a 14, .inr (2, [.ref (a 9), .ref (a 0), .ref (a 15), .int (u 14 3), .int (u 14 4)])),
  (a 15, .inl (cI, 8, .inl (u 15)))]
def wD (a : Nat → Nat) (cI cZ : ClassId) (u : St) : va_W := [(a 0, .inr (3, [.ref (a 1), .ref (a 2), .ref (a 3), .int (u 0 3), .int (u 0 4), .int (u 0 5), .int (u 0 6), .int (u 0 7), .ref (a 4), .ref (a 5), .ref (a 6), .ref (a 7), .ref (a 8), .ref (a 9), .ref (a 10), .int (u 0 15), .int (u 0 16)])),
  (a 1, .inl (cI, 4, .inl (u 1))),
  (a 2, .inl (cI, 4, .inl (u 2))),
  (a 3, .inl (cI, 160, .inl (u 3))),
  (a 4, .inl (cI, 8, .inl (u 4))),
  (a 5, .inl (cI, 4, .inl (u 5))),
  (a 6, .inl (cI, 4, .inl (u 6))),
  (a 7, .inl (cI, 25, .inl (u 7))),
  (a 8, .inl (cI, 150, .inl (u 8))),
  (a 9, .inl (cI, 25, .inl (u 9))),
  (a 10, .inl (cZ, 25, .inl (u 10)))]
/-- the three tables of roles, outside of the world -/
def rlX (j : Nat) : Int32 := ([0, 1, 1, 1, 1, 1, 1, 3, 3, 2, 2, 2, 1, 3, 0] : List Int32).getD j 0
def rlY (j : Nat) : Int32 := ([0, 0, 1, 1, 1, 1, 1, 0, 1, 4, 2, 0, 2, 0, 0] : List Int32).getD j 0
def rlZ (j : Nat) : Int32 := ([0, 0, 0, 1, 1, 1, 1, 0, 0, 0, 0, 0, 2, 0, 0] : List Int32).getD j 0
def exn (k : Nat) : String := match k with
  | 1 => "java/lang/IllegalStateException"
  | 2 => "java/lang/IndexOutOfBoundsException"
  | 3 => "java/lang/IllegalArgumentException"
  | _ => "java/lang/UnsupportedOperationException"
def dcls : List MethodName := [Bundle.initS "java/lang/RuntimeException", Bundle.initS "java/lang/Exception", Bundle.initS Bundle.tN]
def strs : List (Nat × String) := [(79, "the number of instructions is not 0 .. 500"), (177, "the operand is of the other kind"), (181, "the operand's pointer is nil"), (186, "the block has no such word"), (192, "there are 24 blocks"), (195, "the stack is full"), (197, "the stack is empty")]
def zR (t : Nat → Nat) (A : Nat → Prop) (U : State) (H : Heap) : Prop :=
  (va_Z "CountedHeap" "ROLE_OF_X" "[I" (.ref (t 0)) A U H ∧ va_T .int (t 0) 15 (fun j => .int (rlX j)) A U H) ∧
  (va_Z "CountedHeap" "ROLE_OF_Y" "[I" (.ref (t 1)) A U H ∧ va_T .int (t 1) 15 (fun j => .int (rlY j)) A U H) ∧
  (va_Z "CountedHeap" "ROLE_OF_Z" "[I" (.ref (t 2)) A U H ∧ va_T .int (t 2) 15 (fun j => .int (rlZ j)) A U H) ∧
  (vx_Zq Bundle.tN "UNASSIGNED_STACK" Bundle.steD A U H ∧ vx_Zq Bundle.tN "SUPPRESSED_SENTINEL" Bundle.listD A U H) ∧ (∀ q ∈ strs, ∃ sa : Nat, vk_R RX2 q.1 q.2 sa U) ∧ (∀ y ∈ dcls, va_Nw (.declares y) U) ∧ ∀ k : Nat, k < 5 → va_Nw (.castable (exn k) (exn k)) U
def zP (z : Option (Nat → Nat)) (A : Nat → Prop) (U : State) (H : Heap) : Prop := match z with
  | none => True
  | some t => zR t A U H
theorem zP.of {z : Option (Nat → Nat)} {A B : Nat → Prop} {s U : State} {H H1 : Heap} (h : zP z A s H) (hvm : s.vm.Alike U.vm) (hs : ∀ {k : Nat} {tx : String} {sa : Nat}, vk_R RX2 k tx sa s → vk_R RX2 k tx sa U) (hd : ∀ {y : MethodName}, va_Nw (.declares y) s → va_Nw (.declares y) U) (hn : ∀ {X Y : String}, va_Nw (.castable X Y) s → va_Nw (.castable X Y) U) (hq : ∀ a : Nat, a < H.size → ¬ A a → H1[a]? = H[a]?) (hAB : ∀ q, B q → A q) : zP z B U H1 := by
  cases z with
  | none => trivial
  | some t =>
    obtain ⟨⟨a1, a2⟩, ⟨b1, b2⟩, ⟨c1, c2⟩, ⟨d1, d2⟩, hstr, hdc, hcs⟩ := h
    refine ⟨⟨((a1.moved hvm).kept hq).narrow hAB, ((a2.moved hvm).kept hq).narrow hAB⟩, ⟨((b1.moved hvm).kept hq).narrow hAB, ((b2.moved hvm).kept hq).narrow hAB⟩, ⟨((c1.moved hvm).kept hq).narrow hAB, ((c2.moved hvm).kept hq).narrow hAB⟩, ⟨((d1.moved hvm).kept hq).narrow hAB, ((d2.moved hvm).kept hq).narrow hAB⟩, fun q hq9 => ?_, fun y hy => hd (hdc y hy), fun k hk => hn (hcs k hk)⟩
    obtain ⟨sa, h9⟩ := hstr q hq9
    exact ⟨sa, hs h9⟩
def prW (z : Option (Nat → Nat)) (dC : Nat → ClassId) (dI : Nat → Nat → Nat) (cI cZ : ClassId) (w : va_W) (sz : Nat) (U : State) : Prop := U.heap.size = sz ∧ va_P (dC, dI) vwCl w U.heap ∧ va_K (dC, dI) vwCl (tyW cI cZ) U ∧ va_D (fun _ => True) w ∧ zP z (va_A w sz) U U.heap
def atW (dC : Nat → ClassId) (dI : Nat → Nat → Nat) (cI cZ : ClassId) (w : St → va_W) (A : Nat → Prop) (u : St) (t : State) : Prop := va_P (dC, dI) vwCl (w u) t.heap ∧ va_K (dC, dI) vwCl (tyW cI cZ) t ∧ va_D A (w u)
/-- a method that answers an int (a boolean), a long, nothing; it makes nothing -/
def MI (l : Launch) (y : MethodName) (ws : List Cond) (fr lo : Nat) (z : Option (Nat → Nat)) (dC : Nat → ClassId) (dI : Nat → Nat → Nat) (cI cZ : ClassId) (w : St → va_W) (av : List Value) (u : St) (o : Int32 × St) : Prop :=
  ∀ sz : Nat, Met l y ws (rmK fr lo) (va_Pc av (prW z dC dI cI cZ (w u) sz)) (va_Qi (fun (r : Int32) (v : St) => (r, v) = o) (atW dC dI cI cZ w (va_A (w u) sz)) (va_A (w u) sz)) 0 0 (va_A (w u) sz)
def ML (l : Launch) (y : MethodName) (ws : List Cond) (fr lo : Nat) (z : Option (Nat → Nat)) (dC : Nat → ClassId) (dI : Nat → Nat → Nat) (cI cZ : ClassId) (w : St → va_W) (av : List Value) (u : St) (o : Int64 × St) : Prop :=
  ∀ sz : Nat, Met l y ws (rmK fr lo) (va_Pc av (prW z dC dI cI cZ (w u) sz)) (va_Ql (fun (r : Int64) (v : St) => (r, v) = o) (atW dC dI cI cZ w (va_A (w u) sz)) (va_A (w u) sz)) 0 0 (va_A (w u) sz)
def MV (l : Launch) (y : MethodName) (ws : List Cond) (fr lo : Nat) (z : Option (Nat → Nat)) (dC : Nat → ClassId) (dI : Nat → Nat → Nat) (cI cZ : ClassId) (w : St → va_W) (av : List Value) (u : St) (o : Int32 × St) : Prop :=
  ∀ sz : Nat, Met l y ws (rmK fr lo) (va_Pc av (prW z dC dI cI cZ (w u) sz)) (va_Qv (fun (v : St) => ((0 : Int32), v) = o) (atW dC dI cI cZ w (va_A (w u) sz)) (va_A (w u) sz)) 0 0 (va_A (w u) sz)
theorem miOf {l : Launch} {y : MethodName} {ws ws' : List Cond} {fr lo : Nat} {z : Option (Nat → Nat)} {dC : Nat → ClassId} {dI : Nat → Nat → Nat} {cI cZ : ClassId} {w : St → va_W} {av : List Value} {u : St} {o : Int32 × St} {cc : ByteArray} {maxL : Nat} {ret : FieldType}
    (hy : plainName y.cls = true) (hw : ws = Cond.code y cc maxL (some ret) :: ws') (hmx : (lg_sl av).length ≤ maxL)
    (body : ∀ (p : Program) (e : Env) (s : State) (m : MethodId) (args : Array Value) (below : List Frame) (meth : Method) (c : Code) (A : Nat → Prop) (Q : State → Prop) (H : Heap) (locs : List Loc) (ls : Array Slot),
      p.tables.exec = Jvm.exec → c.code = cc → c.maxLocals = maxL → (∀ w ∈ ws, w.before args s = true) → s.vm.findClass y.cls = some m.cls → va_K (dC, dI) vwCl (tyW cI cZ) s → (∀ q : Nat, s.heap.size ≤ q → A q) → zP z A s s.heap →
      (∀ (H : Heap) (locs : List Loc) (ls : Array Slot) (pc : Nat) (r : Int32) (v : St), (r, v) = o → narrow ret (.int r) = .int r → va_P (dC, dI) vwCl (w v) H → va_D A (w v) → va_S A s.heap H locs → decode cc pc = .ok (.ireturn, 1) → W p l e (rmK fr lo) s m args below meth c H locs 0 0 Q (F0 m pc ls [.int r])) →
      va_P (dC, dI) vwCl (w u) H → va_D A (w u) → va_S A s.heap H locs → lv_has ls maxL (lv_args 0 av) → W p l e (rmK fr lo) s m args below meth c H locs 0 0 Q (F0 m 0 ls [])) : MI l y ws fr lo z dC dI cI cZ w av u o := by
  intro sz
  refine Met.ofW (cc := cc) (maxL := maxL) (ret := (some ret)) hy hw ?_
  intro p e s m args below meth c s₁ B hml hv
  obtain ⟨rfl, hsz, hP, hK, hD0, hz⟩ := hv
  subst hsz
  have hD := hD0.self (sz := s.heap.size)
  have hA : ∀ q : Nat, s.heap.size ≤ q → (va_A (w u) s.heap.size) q := fun q h => Or.inr h
  generalize va_A (w u) s.heap.size = A at hD hA hz ⊢
  have hl := lv_entry av (n := maxL) hmx
  rw [lg_entry_eq]
  generalize (lg_sl av ++ List.replicate (maxL - (lg_sl av).length) Slot.unset).toArray = ls at hl ⊢
  refine body p e s m _ below meth c A _ s.heap [] ls B.exec B.bytes hml (atoms_spec (ws := ws) B.pre) (findClass_of_methodNamed B.named) hK hA hz ?_ hP hD va_S.rf hl
  have hr := B.returns
  have hlocks := B.notSynchronized
  intro H locs ls pc r v he hn hP hD hS hdg
  exact W.zret B.exec B.bytes hr hn (fun t ht hW => ⟨⟨r, v, rfl, he, by rw [ht]; exact hP, va_K.moved hW.alike hK, hD⟩, hS.F ht⟩) hS.2.2 hdg
theorem mlOf {l : Launch} {y : MethodName} {ws ws' : List Cond} {fr lo : Nat} {z : Option (Nat → Nat)} {dC : Nat → ClassId} {dI : Nat → Nat → Nat} {cI cZ : ClassId} {w : St → va_W} {av : List Value} {u : St} {o : Int64 × St} {cc : ByteArray} {maxL : Nat}
    (hy : plainName y.cls = true) (hw : ws = Cond.code y cc maxL (some .long) :: ws') (hmx : (lg_sl av).length ≤ maxL)
    (body : ∀ (p : Program) (e : Env) (s : State) (m : MethodId) (args : Array Value) (below : List Frame) (meth : Method) (c : Code) (A : Nat → Prop) (Q : State → Prop) (H : Heap) (locs : List Loc) (ls : Array Slot),
      p.tables.exec = Jvm.exec → c.code = cc → c.maxLocals = maxL → (∀ w ∈ ws, w.before args s = true) → s.vm.findClass y.cls = some m.cls → va_K (dC, dI) vwCl (tyW cI cZ) s → (∀ q : Nat, s.heap.size ≤ q → A q) → zP z A s s.heap →
      (∀ (H : Heap) (locs : List Loc) (ls : Array Slot) (pc : Nat) (r : Int64) (v : St), (r, v) = o → va_P (dC, dI) vwCl (w v) H → va_D A (w v) → va_S A s.heap H locs → decode cc pc = .ok (.lreturn, 1) → W p l e (rmK fr lo) s m args below meth c H locs 0 0 Q (F0 m pc ls [.long r])) →
      va_P (dC, dI) vwCl (w u) H → va_D A (w u) → va_S A s.heap H locs → lv_has ls maxL (lv_args 0 av) → W p l e (rmK fr lo) s m args below meth c H locs 0 0 Q (F0 m 0 ls [])) : ML l y ws fr lo z dC dI cI cZ w av u o := by
  intro sz
  refine Met.ofW (cc := cc) (maxL := maxL) (ret := (some .long)) hy hw ?_
  intro p e s m args below meth c s₁ B hml hv
  obtain ⟨rfl, hsz, hP, hK, hD0, hz⟩ := hv
  subst hsz
  have hD := hD0.self (sz := s.heap.size)
  have hA : ∀ q : Nat, s.heap.size ≤ q → (va_A (w u) s.heap.size) q := fun q h => Or.inr h
  generalize va_A (w u) s.heap.size = A at hD hA hz ⊢
  have hl := lv_entry av (n := maxL) hmx
  rw [lg_entry_eq]
  generalize (lg_sl av ++ List.replicate (maxL - (lg_sl av).length) Slot.unset).toArray = ls at hl ⊢
  refine body p e s m _ below meth c A _ s.heap [] ls B.exec B.bytes hml (atoms_spec (ws := ws) B.pre) (findClass_of_methodNamed B.named) hK hA hz ?_ hP hD va_S.rf hl
  have hr := B.returns
  have hlocks := B.notSynchronized
  intro H locs ls pc r v he hP hD hS hdg
  exact W.lret B.exec B.bytes hr (fun t ht hW => ⟨⟨r, v, rfl, he, by rw [ht]; exact hP, va_K.moved hW.alike hK, hD⟩, hS.F ht⟩) hS.2.2 hdg
theorem mvOf {l : Launch} {y : MethodName} {ws ws' : List Cond} {fr lo : Nat} {z : Option (Nat → Nat)} {dC : Nat → ClassId} {dI : Nat → Nat → Nat} {cI cZ : ClassId} {w : St → va_W} {av : List Value} {u : St} {o : Int32 × St} {cc : ByteArray} {maxL : Nat}
    (hy : plainName y.cls = true) (hw : ws = Cond.code y cc maxL none :: ws') (hmx : (lg_sl av).length ≤ maxL)
    (body : ∀ (p : Program) (e : Env) (s : State) (m : MethodId) (args : Array Value) (below : List Frame) (meth : Method) (c : Code) (A : Nat → Prop) (Q : State → Prop) (H : Heap) (locs : List Loc) (ls : Array Slot),
      p.tables.exec = Jvm.exec → c.code = cc → c.maxLocals = maxL → (∀ w ∈ ws, w.before args s = true) → s.vm.findClass y.cls = some m.cls → va_K (dC, dI) vwCl (tyW cI cZ) s → (∀ q : Nat, s.heap.size ≤ q → A q) → zP z A s s.heap →
      (∀ (H : Heap) (locs : List Loc) (ls : Array Slot) (pc : Nat) (v : St), ((0 : Int32), v) = o → va_P (dC, dI) vwCl (w v) H → va_D A (w v) → va_S A s.heap H locs → decode cc pc = .ok (.return_, 1) → W p l e (rmK fr lo) s m args below meth c H locs 0 0 Q (F0 m pc ls [])) →
      va_P (dC, dI) vwCl (w u) H → va_D A (w u) → va_S A s.heap H locs → lv_has ls maxL (lv_args 0 av) → W p l e (rmK fr lo) s m args below meth c H locs 0 0 Q (F0 m 0 ls [])) : MV l y ws fr lo z dC dI cI cZ w av u o := by
  intro sz
  refine Met.ofW (cc := cc) (maxL := maxL) (ret := none) hy hw ?_
  intro p e s m args below meth c s₁ B hml hv
  obtain ⟨rfl, hsz, hP, hK, hD0, hz⟩ := hv
  subst hsz
  have hD := hD0.self (sz := s.heap.size)
  have hA : ∀ q : Nat, s.heap.size ≤ q → (va_A (w u) s.heap.size) q := fun q h => Or.inr h
  generalize va_A (w u) s.heap.size = A at hD hA hz ⊢
  have hl := lv_entry av (n := maxL) hmx
  rw [lg_entry_eq]
  generalize (lg_sl av ++ List.replicate (maxL - (lg_sl av).length) Slot.unset).toArray = ls at hl ⊢
  refine body p e s m _ below meth c A _ s.heap [] ls B.exec B.bytes hml (atoms_spec (ws := ws) B.pre) (findClass_of_methodNamed B.named) hK hA hz ?_ hP hD va_S.rf hl
  have hr := B.returns
  have hlocks := B.notSynchronized
  intro H locs ls pc v he hP hD hS hdg
  exact W.vret B.exec B.bytes hr (fun t ht hW => ⟨⟨v, rfl, he, by rw [ht]; exact hP, va_K.moved hW.alike hK, hD⟩, hS.F ht⟩) hS.2.2 hdg
theorem ck {P : Prop} [Decidable P] {α : Type} {x : Option α} {o : α} (h : (if P then none else x) = some o) : ¬ P ∧ x = some o := by
  by_cases hp : P
  · rw [if_pos hp] at h; cases h
  · rw [if_neg hp] at h; exact ⟨hp, h⟩
theorem ip {P : Prop} [Decidable P] {α : Type} {x y o : α} (hp : P) (h : (if P then x else y) = o) : x = o := by rw [if_pos hp] at h; exact h
theorem iq {P : Prop} [Decidable P] {α : Type} {x y o : α} (hp : ¬ P) (h : (if P then x else y) = o) : y = o := by rw [if_neg hp] at h; exact h
theorem bd {α β : Type} {x : Option α} {f : α → Option β} {o : β} (h : x.bind f = some o) : ∃ q, x = some q ∧ f q = some o := Option.bind_eq_some_iff.mp h
theorem nb01 {v : Int32} (h : ¬ ¬ (v = 0 ∨ v = 1)) : narrow .boolean (.int v) = .int v := by
  rcases Decidable.not_not.mp h with rfl | rfl <;> rfl
def sb {β : Type} (v : St) (f : St → Option β) : Option β := f v
theorem sbE {β : Type} {v : St} {f : St → Option β} {o : β} (h : sb v f = some o) : f v = some o := h
theorem nz0 : vp_nar .boolean 0 = 0 := by decide
theorem nz1 : vp_nar .boolean 1 = 1 := by decide
theorem sw_out {x : Int32} {lo hi : Int} (h : ∀ v : Int, lo ≤ v → v ≤ hi → ¬ x.toInt = v) : x.toInt < lo ∨ hi < x.toInt := by
  rcases Int.lt_or_le x.toInt lo with h1 | h1
  · exact Or.inl h1
  · rcases Int.lt_or_le hi x.toInt with h2 | h2
    · exact Or.inr h2
    · exact absurd rfl (h x.toInt h1 h2)
theorem va_freeW {A : Nat → Prop} {ws : va_W} {H0 H : Heap} {locs : List Loc} (hD : va_D A ws) (hS : va_S A H0 H locs) (hA : ∀ q : Nat, H0.size ≤ q → A q) : ∀ q, va_A ws H.size q → A q := fun q h => h.elim (fun ⟨k, e, h⟩ => hD.2 k (q, e) h) (fun h => hA q (Nat.le_trans hS.1 h))
section CALLS
variable {p : Program} {l : Launch} {e : Env} {R : Room} {s : State} {m : MethodId} {args : Array Value} {below : List Frame} {meth : Method} {c : Code} {H : Heap} {locs : List Loc} {Q : State → Prop} {cc : ByteArray} {nL pc index n maxL fr lo q0 ci b : Nat} {Ts ws ws' : List Cond} {own C : String} {y : MethodName} {bytes : ByteArray} {ret : Option FieldType} {z : Option (Nat → Nat)} {dC : Nat → ClassId} {dI : Nat → Nat → Nat} {cI cZ : ClassId} {w : St → va_W} {As rest st0 : List Value} {u : St} {A : Nat → Prop} {ls : Array Slot} {cq : vw_C} {fs : List Value}
theorem pre_blind {av : List Value} {wq : va_W} {sz : Nat} : FrameBlind (va_Pc av (prW z dC dI cI cZ wq sz)) := fun a U g mk q => by
  obtain ⟨q0, q1, qP, qK, qD, qz⟩ := q
  exact ⟨q0, q1, qP, va_K.moved (u := U) (U := U.calling g mk a) (Vm.Alike.refl U.vm) qK, qD, zP.of (s := U) (U := U.calling g mk a) qz (Vm.Alike.refl U.vm) (fun h => vk_R.same rfl h) (fun h => va_Nw.same rfl rfl h) (fun h => va_Nw.same rfl rfl h) (fun _ _ _ => rfl) (fun _ h => h)⟩
theorem pre_hold {av : List Value} (hz : zP z A s s.heap) (hK : va_K (dC, dI) vwCl (tyW cI cZ) s) (hP : va_P (dC, dI) vwCl (w u) H) (hD : va_D A (w u)) (hS : va_S A s.heap H locs) (hA : ∀ q : Nat, s.heap.size ≤ q → A q) (U : State) (hU : U.heap = H) (hW : s.WarmedH U.vm) : va_Pc av (prW z dC dI cI cZ (w u) H.size) av.toArray U := by
  refine ⟨rfl, by rw [hU], by rw [hU]; exact hP, va_K.moved hW.alike hK, hD.weaken (fun _ _ _ _ => trivial), ?_⟩
  rw [hU]
  exact zP.of hz hW.alike (fun h => vk_R.warm hW h) (fun h => va_Nw.warmD hW h) (fun h => va_Nw.warmC hW h) hS.2.1 (va_freeW hD hS hA)
theorem callVI {o : Int32 × St} (S : CallFix p m c cc nL s args Ts own) (hM : MI l y ws fr lo z dC dI cI cZ w (.ref b :: As) u o) (hG : GoodIn Ts (wsV own index C y ws)) (hw : ws = Cond.code y bytes maxL ret :: ws') (hd : y.cls = C ∧ y.cls ≠ "java/lang/invoke/MethodHandle" ∧ y.cls ≠ "java/lang/invoke/VarHandle" ∧ (parseMethodDescriptor y.desc).map (fun d => d.parameters.length) = some n) (hrc : vwCl[ci]? = some cq) (hq : cq.1 = C) (he : (w u)[q0]? = some (b, .inr (ci, fs))) (hR : fr + 1 ≤ R.frames ∧ 8 + (maxL + 11) + lo ≤ R.locals)
    (hz : zP z A s s.heap) (hK : va_K (dC, dI) vwCl (tyW cI cZ) s) (hP : va_P (dC, dI) vwCl (w u) H) (hD : va_D A (w u)) (hS : va_S A s.heap H locs) (hA : ∀ q : Nat, s.heap.size ≤ q → A q)
    (hn : As.length = n) (hsize : ls.size = nL) (hst : st0 = As.reverse ++ .ref b :: rest) (hlm : (rest.map fun v => v.category).sum ≤ 8) (hdg : decode cc pc = .ok (.invokevirtual index, 3))
    (kk : ∀ (H : Heap) (locs : List Loc), va_P (dC, dI) vwCl (w o.2) H → va_D A (w o.2) → va_S A s.heap H locs → W p l e R s m args below meth c H locs 0 0 Q (F0 m (pc + 3) ls (.int o.1 :: rest))) : W p l e R s m args below meth c H locs 0 0 Q (F0 m pc ls st0) := by
  have hFc := va_freeW hD hS hA
  refine va_calli (va_runV (As := As) (rest := rest) (g := F0 m pc ls st0) S (hM H.size) (cwV n S.2.2.2.2 hG hw rfl rfl hd hR) ⟨pre_blind, by rw [← hq]; exact va_recv hK hP hrc he, pre_hold hz hK hP hD hS hA⟩ rfl hn hsize hst (lv_room hlm) hdg ⟨Nat.zero_le _, Nat.zero_le _⟩) hS (fun q _ h => hFc q h) hFc (fun r_ v t H1 locs1 ht hvm hw9 hB hz1 hk1 hS => ?_)
  obtain ⟨hP1, hK1, hD1⟩ := hB
  rw [ht] at hP1
  cases hw9
  exact kk H1 locs1 hP1 (hD1.weaken (fun k q _ h => hFc q.1 h)) hS
theorem callSI {o : Int32 × St} (S : CallFix p m c cc nL s args Ts own) (hM : MI l y ws fr lo z dC dI cI cZ w As u o) (hG : GoodIn Ts (va_wsS own index y ws)) (hw : ws = Cond.code y bytes maxL ret :: ws') (hd : y.cls ≠ "java/lang/invoke/MethodHandle" ∧ y.cls ≠ "java/lang/invoke/VarHandle" ∧ (parseMethodDescriptor y.desc).map (fun d => d.parameters.length) = some n) (hR : fr + 1 ≤ R.frames ∧ 8 + (maxL + 11) + lo ≤ R.locals)
    (hz : zP z A s s.heap) (hK : va_K (dC, dI) vwCl (tyW cI cZ) s) (hP : va_P (dC, dI) vwCl (w u) H) (hD : va_D A (w u)) (hS : va_S A s.heap H locs) (hA : ∀ q : Nat, s.heap.size ≤ q → A q)
    (hn : As.length = n) (hsize : ls.size = nL) (hst : st0 = As.reverse ++ rest) (hlm : (rest.map fun v => v.category).sum ≤ 8) (hdg : decode cc pc = .ok (.invokestatic index, 3))
    (kk : ∀ (H : Heap) (locs : List Loc), va_P (dC, dI) vwCl (w o.2) H → va_D A (w o.2) → va_S A s.heap H locs → W p l e R s m args below meth c H locs 0 0 Q (F0 m (pc + 3) ls (.int o.1 :: rest))) : W p l e R s m args below meth c H locs 0 0 Q (F0 m pc ls st0) := by
  have hFc := va_freeW hD hS hA
  refine va_calli (va_runS (As := As) (rest := rest) (g := F0 m pc ls st0) S (hM H.size) (va_cwS n S.2.2.2.2 hG hw rfl rfl hd hR) ⟨pre_blind, pre_hold hz hK hP hD hS hA⟩ rfl hn hsize hst (lv_room hlm) hdg ⟨Nat.zero_le _, Nat.zero_le _⟩) hS (fun q _ h => hFc q h) hFc (fun r_ v t H1 locs1 ht hvm hw9 hB hz1 hk1 hS => ?_)
  obtain ⟨hP1, hK1, hD1⟩ := hB
  rw [ht] at hP1
  cases hw9
  exact kk H1 locs1 hP1 (hD1.weaken (fun k q _ h => hFc q.1 h)) hS
theorem callVL {o : Int64 × St} (S : CallFix p m c cc nL s args Ts own) (hM : ML l y ws fr lo z dC dI cI cZ w (.ref b :: As) u o) (hG : GoodIn Ts (wsV own index C y ws)) (hw : ws = Cond.code y bytes maxL ret :: ws') (hd : y.cls = C ∧ y.cls ≠ "java/lang/invoke/MethodHandle" ∧ y.cls ≠ "java/lang/invoke/VarHandle" ∧ (parseMethodDescriptor y.desc).map (fun d => d.parameters.length) = some n) (hrc : vwCl[ci]? = some cq) (hq : cq.1 = C) (he : (w u)[q0]? = some (b, .inr (ci, fs))) (hR : fr + 1 ≤ R.frames ∧ 8 + (maxL + 11) + lo ≤ R.locals)
    (hz : zP z A s s.heap) (hK : va_K (dC, dI) vwCl (tyW cI cZ) s) (hP : va_P (dC, dI) vwCl (w u) H) (hD : va_D A (w u)) (hS : va_S A s.heap H locs) (hA : ∀ q : Nat, s.heap.size ≤ q → A q)
    (hn : As.length = n) (hsize : ls.size = nL) (hst : st0 = As.reverse ++ .ref b :: rest) (hlm : (rest.map fun v => v.category).sum ≤ 8) (hdg : decode cc pc = .ok (.invokevirtual index, 3))
    (kk : ∀ (H : Heap) (locs : List Loc), va_P (dC, dI) vwCl (w o.2) H → va_D A (w o.2) → va_S A s.heap H locs → W p l e R s m args below meth c H locs 0 0 Q (F0 m (pc + 3) ls (.long o.1 :: rest))) : W p l e R s m args below meth c H locs 0 0 Q (F0 m pc ls st0) := by
  have hFc := va_freeW hD hS hA
  refine va_calll (va_runV (As := As) (rest := rest) (g := F0 m pc ls st0) S (hM H.size) (cwV n S.2.2.2.2 hG hw rfl rfl hd hR) ⟨pre_blind, by rw [← hq]; exact va_recv hK hP hrc he, pre_hold hz hK hP hD hS hA⟩ rfl hn hsize hst (lv_room hlm) hdg ⟨Nat.zero_le _, Nat.zero_le _⟩) hS (fun q _ h => hFc q h) hFc (fun r_ v t H1 locs1 ht hvm hw9 hB hz1 hk1 hS => ?_)
  obtain ⟨hP1, hK1, hD1⟩ := hB
  rw [ht] at hP1
  cases hw9
  exact kk H1 locs1 hP1 (hD1.weaken (fun k q _ h => hFc q.1 h)) hS
theorem callVV {o : Int32 × St} (S : CallFix p m c cc nL s args Ts own) (hM : MV l y ws fr lo z dC dI cI cZ w (.ref b :: As) u o) (hG : GoodIn Ts (wsV own index C y ws)) (hw : ws = Cond.code y bytes maxL ret :: ws') (hd : y.cls = C ∧ y.cls ≠ "java/lang/invoke/MethodHandle" ∧ y.cls ≠ "java/lang/invoke/VarHandle" ∧ (parseMethodDescriptor y.desc).map (fun d => d.parameters.length) = some n) (hrc : vwCl[ci]? = some cq) (hq : cq.1 = C) (he : (w u)[q0]? = some (b, .inr (ci, fs))) (hR : fr + 1 ≤ R.frames ∧ 8 + (maxL + 11) + lo ≤ R.locals)
    (hz : zP z A s s.heap) (hK : va_K (dC, dI) vwCl (tyW cI cZ) s) (hP : va_P (dC, dI) vwCl (w u) H) (hD : va_D A (w u)) (hS : va_S A s.heap H locs) (hA : ∀ q : Nat, s.heap.size ≤ q → A q)
    (hn : As.length = n) (hsize : ls.size = nL) (hst : st0 = As.reverse ++ .ref b :: rest) (hlm : (rest.map fun v => v.category).sum ≤ 8) (hdg : decode cc pc = .ok (.invokevirtual index, 3))
    (kk : ∀ (H : Heap) (locs : List Loc), va_P (dC, dI) vwCl (w o.2) H → va_D A (w o.2) → va_S A s.heap H locs → W p l e R s m args below meth c H locs 0 0 Q (F0 m (pc + 3) ls rest)) : W p l e R s m args below meth c H locs 0 0 Q (F0 m pc ls st0) := by
  have hFc := va_freeW hD hS hA
  refine va_callv (va_runV (As := As) (rest := rest) (g := F0 m pc ls st0) S (hM H.size) (cwV n S.2.2.2.2 hG hw rfl rfl hd hR) ⟨pre_blind, by rw [← hq]; exact va_recv hK hP hrc he, pre_hold hz hK hP hD hS hA⟩ rfl hn hsize hst (lv_room hlm) hdg ⟨Nat.zero_le _, Nat.zero_le _⟩) hS (fun q _ h => hFc q h) hFc (fun v t H1 locs1 ht hvm hw9 hB hz1 hk1 hS => ?_)
  obtain ⟨hP1, hK1, hD1⟩ := hB
  rw [ht] at hP1
  cases hw9
  exact kk H1 locs1 hP1 (hD1.weaken (fun k q _ h => hFc q.1 h)) hS
end CALLS
/-- from here, with these locals and this stack, in every heap that holds u, the machine comes to Q -/
abbrev GW (p : Program) (l : Launch) (e : Env) (R : Room) (s : State) (m : MethodId) (args : Array Value) (below : List Frame) (meth : Method) (c : Code) (Q : State → Prop) (dC : Nat → ClassId) (dI : Nat → Nat → Nat) (w : St → va_W) (A : Nat → Prop) (nL pc : Nat) (lv : List (Nat × Value)) (st : List Value) (u : St) : Prop :=
  ∀ (H : Heap) (locs : List Loc) (ls : Array Slot), va_P (dC, dI) vwCl (w u) H → va_D A (w u) → va_S A s.heap H locs → lv_has ls nL lv → W p l e R s m args below meth c H locs 0 0 Q (F0 m pc ls st)

/-! methods that throw -/
def rmX (fr lo : Nat) : Room := { frames := fr, cells := 1, slots := 6, locals := lo }
abbrev nmX : List String := ["java/lang/RuntimeException", "java/lang/Exception"]
def MX (l : Launch) (y : MethodName) (ws : List Cond) (fr lo : Nat) (z : Option (Nat → Nat)) (dC : Nat → ClassId) (dI : Nat → Nat → Nat) (cI cZ : ClassId) (w : St → va_W) (av : List Value) (u : St) (k : Nat) (vo : St) : Prop :=
  ∀ sz : Nat, vx_Met l y ws (rmX fr lo) (va_Pc av (prW z dC dI cI cZ (w u) sz)) (va_Qv (fun _ : St => False) (atW dC dI cI cZ w (va_A (w u) sz)) (va_A (w u) sz)) (vx_X (fun v : St => v = vo) (fun (E : String) (v : St) (t : State) => E = exn k ∧ atW dC dI cI cZ w (va_A (w u) sz) v t) (va_A (w u) sz)) 1 6 (va_A (w u) sz)
theorem hzB {t : Nat → Nat} {A : Nat → Prop} {s : State} {args : Array Value} (hz : zP (some t) A s s.heap) (k : Nat) (hk : k < 5) : ∀ w ∈ dcls.map Cond.declares ++ [.castable (exn k) (exn k)], w.before args s = true := by
  intro w hw
  rcases List.mem_append.mp hw with h | h
  · obtain ⟨y, hy, rfl⟩ := List.mem_map.mp h
    exact va_Nw.use (A := args) rfl (hz.2.2.2.2.2.1 y hy)
  · rw [List.mem_singleton.mp h]
    exact va_Nw.use (A := args) rfl (hz.2.2.2.2.2.2 k hk)
theorem mxOf {l : Launch} {y : MethodName} {ws ws' : List Cond} {fr lo : Nat} {tz : Nat → Nat} {dC : Nat → ClassId} {dI : Nat → Nat → Nat} {cI cZ : ClassId} {w : St → va_W} {av : List Value} {u : St} {k : Nat} {o : Int32 × St} {cc : ByteArray} {maxL : Nat} {ret : Option FieldType}
    (hy : plainName y.cls = true) (hw : ws = Cond.code y cc maxL ret :: ws') (hmx : (lg_sl av).length ≤ maxL) (hnt : l.stackTraces = false) (hfr : 6 ≤ fr) (hlo : 82 ≤ lo)
    (body : ∀ (p : Program) (e : Env) (s : State) (m : MethodId) (args : Array Value) (below : List Frame) (meth : Method) (c : Code) (A : Nat → Prop) (Q : State → Prop) (H : Heap) (locs : List Loc) (ls : Array Slot),
      p.tables.exec = Jvm.exec → c.code = cc → c.maxLocals = maxL → (∀ w ∈ ws, w.before args s = true) → s.vm.findClass y.cls = some m.cls → va_K (dC, dI) vwCl (tyW cI cZ) s → (∀ q : Nat, s.heap.size ≤ q → A q) → zP (some tz) A s s.heap →
      (∀ (H : Heap) (locs : List Loc) (ls : Array Slot) (pc ik iz ic sa : Nat) (cls text : String) (v : St), cls = exn k → ((0 : Int32), v) = o → Bundle.fit cls = true → (Cond.classLink y.cls ik cls).before args s = true → (Cond.initialized cls).before args s = true → vk_R y.cls iz text sa s → (∀ w ∈ vx_atS y.cls ic cls nmX, w.before args s = true) → (∀ w ∈ Cond.classLink y.cls ik cls :: Cond.initialized cls :: vx_atS y.cls ic cls nmX, vx_ot w = true) →
        decode cc pc = .ok (.new ik, 3) → decode cc (pc + 3) = .ok (.dup, 1) → decode cc (pc + 4) = .ok (.ldc iz, 2) → decode cc (pc + 6) = .ok (.invokespecial ic, 3) → decode cc (pc + 9) = .ok (.athrow, 1) → va_P (dC, dI) vwCl (w v) H → va_D A (w v) → va_S A s.heap H locs → ls.size = maxL → W p l e (rmX fr lo) s m args below meth c H locs 0 0 Q (F0 m pc ls [])) →
      (∀ (H : Heap) (locs : List Loc) (ls : Array Slot) (rest : List Value) (pc : Nat) (q9 : Addr) (ce : Cell) (v : St), ((0 : Int32), v) = o → va_P (dC, dI) vwCl (w v) H → va_D A (w v) → va_S A s.heap H locs → H[q9]? = some ce → ce.vm = .none → s.vm.findClass (exn k) = some ce.cls → vx_W p l e (rmX fr lo) s m args below meth c H locs 1 6 Q (F0 m pc ls rest) q9) →
      va_P (dC, dI) vwCl (w u) H → va_D A (w u) → va_S A s.heap H locs → lv_has ls maxL (lv_args 0 av) → W p l e (rmX fr lo) s m args below meth c H locs 0 0 Q (F0 m 0 ls [])) : MX l y ws fr lo (some tz) dC dI cI cZ w av u k o.2 := by
  intro sz
  refine vx_ofW (cc := cc) (maxL := maxL) (ret := ret) hy hw ?_
  intro p e s m args below meth c s₁ B hml hno hv
  obtain ⟨rfl, hsz, hP, hK, hD0, hz⟩ := hv
  subst hsz
  have hD := hD0.self (sz := s.heap.size)
  have hA : ∀ q : Nat, s.heap.size ≤ q → (va_A (w u) s.heap.size) q := fun q h => Or.inr h
  generalize va_A (w u) s.heap.size = A at hD hA hz ⊢
  have hl := lv_entry av (n := maxL) hmx
  rw [lg_entry_eq]
  generalize (lg_sl av ++ List.replicate (maxL - (lg_sl av).length) Slot.unset).toArray = ls at hl ⊢
  have hlocks := B.notSynchronized
  have hown : s.vm.findClass y.cls = some m.cls := findClass_of_methodNamed B.named
  refine body p e s m _ below meth c A _ s.heap [] ls B.exec B.bytes hml (atoms_spec (ws := ws) B.pre) hown hK hA hz ?_ ?_ hP hD va_S.rf hl
  · intro H locs ls pc ik iz ic sa cls text v hc hv hfit hk hini hstr hat hgood d0 d3 d4 d6 d9 hP hD hS hsz
    refine vx_throwS (A := A) (names := nmX) B.exec B.bytes hnt hown hfit (by decide) hk hini hstr hat hgood hz.2.2.2.1.1 hz.2.2.2.1.2 hS (hsz.trans hml.symm) d0 d3 d4 d6 d9 (fun x hx => (hno x hx).elim) (show 2 + 3 < fr by omega) (show 0 + (13 * (2 + 1) + 43) ≤ lo by omega) (Nat.le_refl _) (Nat.le_refl _) hlocks (fun t hvm h1 h2 => ⟨v, by rw [← hv], ⟨hc, hP.kept (fun k q hq => h2 q.1 (hP k q hq).lt), va_K.moved hvm hK, hD⟩, Nat.le_trans hS.1 h1, fun q g1 g2 => (h2 q (Nat.lt_of_lt_of_le g1 hS.1)).trans (hS.2.1 q g1 g2)⟩) hS.2.2 (Nat.le_refl _) (Nat.le_refl _)
  · intro H locs ls rest pc q9 ce v hv hP hD hS h1 h2 h3
    exact vx_out (fun x hx => (hno x hx).elim) hlocks h1 h2 h3 (fun t ht hvm => ⟨v, by rw [← hv], ⟨rfl, by rw [ht]; exact hP, va_K.moved hvm hK, hD⟩, hS.F ht⟩) hS.2.2 (Nat.le_refl _) (Nat.le_refl _)
theorem callVX {p : Program} {l : Launch} {e : Env} {R : Room} {s : State} {m : MethodId} {args : Array Value} {below : List Frame} {meth : Method} {c : Code} {H : Heap} {locs : List Loc} {Q : State → Prop} {cc : ByteArray} {nL pc index n maxL fr lo q0 ci b : Nat} {Ts ws ws' : List Cond} {own C : String} {y : MethodName} {bytes : ByteArray} {ret : Option FieldType} {z : Option (Nat → Nat)} {dC : Nat → ClassId} {dI : Nat → Nat → Nat} {cI cZ : ClassId} {w : St → va_W} {As rest st0 : List Value} {u : St} {A : Nat → Prop} {ls : Array Slot} {cq : vw_C} {fs : List Value} {k : Nat} {vo : St}
    (S : CallFix p m c cc nL s args Ts own) (hM : MX l y ws fr lo z dC dI cI cZ w (.ref b :: As) u k vo) (hG : GoodIn Ts (wsV own index C y ws)) (hw : ws = Cond.code y bytes maxL ret :: ws') (hd : y.cls = C ∧ y.cls ≠ "java/lang/invoke/MethodHandle" ∧ y.cls ≠ "java/lang/invoke/VarHandle" ∧ (parseMethodDescriptor y.desc).map (fun d => d.parameters.length) = some n) (hrc : vwCl[ci]? = some cq) (hq : cq.1 = C) (he : (w u)[q0]? = some (b, .inr (ci, fs))) (hR : fr + 1 ≤ R.frames ∧ 8 + (maxL + 11) + lo ≤ R.locals) (hR2 : 1 ≤ R.cells ∧ 6 ≤ R.slots)
    (hz : zP z A s s.heap) (hK : va_K (dC, dI) vwCl (tyW cI cZ) s) (hP : va_P (dC, dI) vwCl (w u) H) (hD : va_D A (w u)) (hS : va_S A s.heap H locs) (hA : ∀ q : Nat, s.heap.size ≤ q → A q)
    (hn : As.length = n) (hsize : ls.size = nL) (hst : st0 = As.reverse ++ .ref b :: rest) (hlm : (rest.map fun v => v.category).sum ≤ 8) (hdg : decode cc pc = .ok (.invokevirtual index, 3))
    (kx : ∀ (H : Heap) (locs : List Loc) (q9 : Addr) (ce : Cell), va_P (dC, dI) vwCl (w vo) H → va_D A (w vo) → va_S A s.heap H locs → H[q9]? = some ce → ce.vm = .none → s.vm.findClass (exn k) = some ce.cls → vx_W p l e R s m args below meth c H locs 1 6 Q (F0 m pc ls rest) q9) : W p l e R s m args below meth c H locs 0 0 Q (F0 m pc ls st0) := by
  have hFc := va_freeW hD hS hA
  refine vx_callv (vx_runV (As := As) (rest := rest) (g := F0 m pc ls st0) S (hM H.size) (cwV n S.2.2.2.2 hG hw rfl rfl hd hR) ⟨pre_blind, by rw [← hq]; exact va_recv hK hP hrc he, pre_hold hz hK hP hD hS hA⟩ rfl hn hsize hst (lv_room hlm) hdg ⟨(by rw [Nat.zero_add]; exact hR2.1), (by rw [Nat.zero_add]; exact hR2.2)⟩) hS (fun q _ h => hFc q h) hFc (fun q _ h => hFc q h) (fun E ce q9 v t H1 locs1 ht hvm hw9 hB hz1 hk1 hS h1 h2 h3 => ?_) (fun v t H1 locs1 ht hvm hw9 => hw9.elim)
  obtain ⟨rfl, hP1, hK1, hD1⟩ := hB
  rw [ht] at hP1
  subst hw9
  exact kx H1 locs1 q9 ce hP1 (hD1.weaken (fun k q _ h => hFc q.1 h)) hS h1 h2 h3
theorem probe_atS : (vx_atS RX2 183 "java/lang/IllegalStateException" nmX).filter (fun w => !goodWord w) = dcls.map Cond.declares ++ [.castable "java/lang/IllegalStateException" "java/lang/IllegalStateException"] := by decide +kernel
theorem wC_p0_8 {D : va_G} {cl : List vw_C} {a : Nat → Nat} {cI cZ : ClassId} {u : St} {v : Int32} {H : Heap} (h : va_P D cl ((wC a cI cZ u).set 0 (a 0, .inr (0, ([.ref (a 1), .ref (a 2), .ref (a 3), .ref (a 4), .ref (a 5), .ref (a 6), .ref (a 7), .ref (a 8), .int (u 0 8), .int (u 0 9), .int (u 0 10)] : List Value).set 8 (.int v)))) H) : va_P D cl (wC a cI cZ (su u 0 8 v)) H := h
theorem wC_d0_8 {A : Nat → Prop} {a : Nat → Nat} {cI cZ : ClassId} {u : St} {v : Int32} (h : va_D A ((wC a cI cZ u).set 0 (a 0, .inr (0, ([.ref (a 1), .ref (a 2), .ref (a 3), .ref (a 4), .ref (a 5), .ref (a 6), .ref (a 7), .ref (a 8), .int (u 0 8), .int (u 0 9), .int (u 0 10)] : List Value).set 8 (.int v))))) : va_D A (wC a cI cZ (su u 0 8 v)) := h
theorem wC_p0_9 {D : va_G} {cl : List vw_C} {a : Nat → Nat} {cI cZ : ClassId} {u : St} {v : Int32} {H : Heap} (h : va_P D cl ((wC a cI cZ u).set 0 (a 0, .inr (0, ([.ref (a 1), .ref (a 2), .ref (a 3), .ref (a 4), .ref (a 5), .ref (a 6), .ref (a 7), .ref (a 8), .int (u 0 8), .int (u 0 9), .int (u 0 10)] : List Value).set 9 (.int v)))) H) : va_P D cl (wC a cI cZ (su u 0 9 v)) H := h
theorem wC_d0_9 {A : Nat → Prop} {a : Nat → Nat} {cI cZ : ClassId} {u : St} {v : Int32} (h : va_D A ((wC a cI cZ u).set 0 (a 0, .inr (0, ([.ref (a 1), .ref (a 2), .ref (a 3), .ref (a 4), .ref (a 5), .ref (a 6), .ref (a 7), .ref (a 8), .int (u 0 8), .int (u 0 9), .int (u 0 10)] : List Value).set 9 (.int v))))) : va_D A (wC a cI cZ (su u 0 9 v)) := h
theorem wC_p0_10 {D : va_G} {cl : List vw_C} {a : Nat → Nat} {cI cZ : ClassId} {u : St} {v : Int32} {H : Heap} (h : va_P D cl ((wC a cI cZ u).set 0 (a 0, .inr (0, ([.ref (a 1), .ref (a 2), .ref (a 3), .ref (a 4), .ref (a 5), .ref (a 6), .ref (a 7), .ref (a 8), .int (u 0 8), .int (u 0 9), .int (u 0 10)] : List Value).set 10 (.int v)))) H) : va_P D cl (wC a cI cZ (su u 0 10 v)) H := h
theorem wC_d0_10 {A : Nat → Prop} {a : Nat → Nat} {cI cZ : ClassId} {u : St} {v : Int32} (h : va_D A ((wC a cI cZ u).set 0 (a 0, .inr (0, ([.ref (a 1), .ref (a 2), .ref (a 3), .ref (a 4), .ref (a 5), .ref (a 6), .ref (a 7), .ref (a 8), .int (u 0 8), .int (u 0 9), .int (u 0 10)] : List Value).set 10 (.int v))))) : va_D A (wC a cI cZ (su u 0 10 v)) := h
theorem wC_p1 {D : va_G} {cl : List vw_C} {a : Nat → Nat} {cI cZ : ClassId} {u : St} {j : Nat} {v : Int32} {H : Heap} (h : va_P D cl ((wC a cI cZ u).set 1 (a 1, .inl (cI, 4, .inl (upd (u 1) j v)))) H) : va_P D cl (wC a cI cZ (su u 1 j v)) H := h
theorem wC_d1 {A : Nat → Prop} {a : Nat → Nat} {cI cZ : ClassId} {u : St} {j : Nat} {v : Int32} (h : va_D A ((wC a cI cZ u).set 1 (a 1, .inl (cI, 4, .inl (upd (u 1) j v))))) : va_D A (wC a cI cZ (su u 1 j v)) := h
theorem wC_p2 {D : va_G} {cl : List vw_C} {a : Nat → Nat} {cI cZ : ClassId} {u : St} {j : Nat} {v : Int32} {H : Heap} (h : va_P D cl ((wC a cI cZ u).set 2 (a 2, .inl (cI, 4, .inl (upd (u 2) j v)))) H) : va_P D cl (wC a cI cZ (su u 2 j v)) H := h
theorem wC_d2 {A : Nat → Prop} {a : Nat → Nat} {cI cZ : ClassId} {u : St} {j : Nat} {v : Int32} (h : va_D A ((wC a cI cZ u).set 2 (a 2, .inl (cI, 4, .inl (upd (u 2) j v))))) : va_D A (wC a cI cZ (su u 2 j v)) := h
theorem wC_p3 {D : va_G} {cl : List vw_C} {a : Nat → Nat} {cI cZ : ClassId} {u : St} {j : Nat} {v : Int32} {H : Heap} (h : va_P D cl ((wC a cI cZ u).set 3 (a 3, .inl (cI, 152, .inl (upd (u 3) j v)))) H) : va_P D cl (wC a cI cZ (su u 3 j v)) H := h
theorem wC_d3 {A : Nat → Prop} {a : Nat → Nat} {cI cZ : ClassId} {u : St} {j : Nat} {v : Int32} (h : va_D A ((wC a cI cZ u).set 3 (a 3, .inl (cI, 152, .inl (upd (u 3) j v))))) : va_D A (wC a cI cZ (su u 3 j v)) := h
theorem wC_p4 {D : va_G} {cl : List vw_C} {a : Nat → Nat} {cI cZ : ClassId} {u : St} {j : Nat} {v : Int32} {H : Heap} (h : va_P D cl ((wC a cI cZ u).set 4 (a 4, .inl (cZ, 25, .inl (upd (u 4) j v)))) H) : va_P D cl (wC a cI cZ (su u 4 j v)) H := h
theorem wC_d4 {A : Nat → Prop} {a : Nat → Nat} {cI cZ : ClassId} {u : St} {j : Nat} {v : Int32} (h : va_D A ((wC a cI cZ u).set 4 (a 4, .inl (cZ, 25, .inl (upd (u 4) j v))))) : va_D A (wC a cI cZ (su u 4 j v)) := h
theorem wC_p5 {D : va_G} {cl : List vw_C} {a : Nat → Nat} {cI cZ : ClassId} {u : St} {j : Nat} {v : Int32} {H : Heap} (h : va_P D cl ((wC a cI cZ u).set 5 (a 5, .inl (cI, 25, .inl (upd (u 5) j v)))) H) : va_P D cl (wC a cI cZ (su u 5 j v)) H := h
theorem wC_d5 {A : Nat → Prop} {a : Nat → Nat} {cI cZ : ClassId} {u : St} {j : Nat} {v : Int32} (h : va_D A ((wC a cI cZ u).set 5 (a 5, .inl (cI, 25, .inl (upd (u 5) j v))))) : va_D A (wC a cI cZ (su u 5 j v)) := h
theorem wC_p6 {D : va_G} {cl : List vw_C} {a : Nat → Nat} {cI cZ : ClassId} {u : St} {j : Nat} {v : Int32} {H : Heap} (h : va_P D cl ((wC a cI cZ u).set 6 (a 6, .inl (cI, 25, .inl (upd (u 6) j v)))) H) : va_P D cl (wC a cI cZ (su u 6 j v)) H := h
theorem wC_d6 {A : Nat → Prop} {a : Nat → Nat} {cI cZ : ClassId} {u : St} {j : Nat} {v : Int32} (h : va_D A ((wC a cI cZ u).set 6 (a 6, .inl (cI, 25, .inl (upd (u 6) j v))))) : va_D A (wC a cI cZ (su u 6 j v)) := h
theorem wC_p7 {D : va_G} {cl : List vw_C} {a : Nat → Nat} {cI cZ : ClassId} {u : St} {j : Nat} {v : Int32} {H : Heap} (h : va_P D cl ((wC a cI cZ u).set 7 (a 7, .inl (cZ, 25, .inl (upd (u 7) j v)))) H) : va_P D cl (wC a cI cZ (su u 7 j v)) H := h
theorem wC_d7 {A : Nat → Prop} {a : Nat → Nat} {cI cZ : ClassId} {u : St} {j : Nat} {v : Int32} (h : va_D A ((wC a cI cZ u).set 7 (a 7, .inl (cZ, 25, .inl (upd (u 7) j v))))) : va_D A (wC a cI cZ (su u 7 j v)) := h
theorem wC_p8 {D : va_G} {cl : List vw_C} {a : Nat → Nat} {cI cZ : ClassId} {u : St} {j : Nat} {v : Int32} {H : Heap} (h : va_P D cl ((wC a cI cZ u).set 8 (a 8, .inl (cI, 24, .inl (upd (u 8) j v)))) H) : va_P D cl (wC a cI cZ (su u 8 j v)) H := h
theorem wC_d8 {A : Nat → Prop} {a : Nat → Nat} {cI cZ : ClassId} {u : St} {j : Nat} {v : Int32} (h : va_D A ((wC a cI cZ u).set 8 (a 8, .inl (cI, 24, .inl (upd (u 8) j v))))) : va_D A (wC a cI cZ (su u 8 j v)) := h
theorem wC_p9_4 {D : va_G} {cl : List vw_C} {a : Nat → Nat} {cI cZ : ClassId} {u : St} {v : Int32} {H : Heap} (h : va_P D cl ((wC a cI cZ u).set 9 (a 9, .inr (1, ([.ref (a 10), .ref (a 11), .ref (a 12), .ref (a 13), .int (u 9 4)] : List Value).set 4 (.int v)))) H) : va_P D cl (wC a cI cZ (su u 9 4 v)) H := h
theorem wC_d9_4 {A : Nat → Prop} {a : Nat → Nat} {cI cZ : ClassId} {u : St} {v : Int32} (h : va_D A ((wC a cI cZ u).set 9 (a 9, .inr (1, ([.ref (a 10), .ref (a 11), .ref (a 12), .ref (a 13), .int (u 9 4)] : List Value).set 4 (.int v))))) : va_D A (wC a cI cZ (su u 9 4 v)) := h
theorem wC_p10 {D : va_G} {cl : List vw_C} {a : Nat → Nat} {cI cZ : ClassId} {u : St} {j : Nat} {v : Int32} {H : Heap} (h : va_P D cl ((wC a cI cZ u).set 10 (a 10, .inl (cI, 40, .inl (upd (u 10) j v)))) H) : va_P D cl (wC a cI cZ (su u 10 j v)) H := h
theorem wC_d10 {A : Nat → Prop} {a : Nat → Nat} {cI cZ : ClassId} {u : St} {j : Nat} {v : Int32} (h : va_D A ((wC a cI cZ u).set 10 (a 10, .inl (cI, 40, .inl (upd (u 10) j v))))) : va_D A (wC a cI cZ (su u 10 j v)) := h
theorem wC_p11 {D : va_G} {cl : List vw_C} {a : Nat → Nat} {cI cZ : ClassId} {u : St} {j : Nat} {v : Int32} {H : Heap} (h : va_P D cl ((wC a cI cZ u).set 11 (a 11, .inl (cI, 40, .inl (upd (u 11) j v)))) H) : va_P D cl (wC a cI cZ (su u 11 j v)) H := h
theorem wC_d11 {A : Nat → Prop} {a : Nat → Nat} {cI cZ : ClassId} {u : St} {j : Nat} {v : Int32} (h : va_D A ((wC a cI cZ u).set 11 (a 11, .inl (cI, 40, .inl (upd (u 11) j v))))) : va_D A (wC a cI cZ (su u 11 j v)) := h
theorem wC_p12 {D : va_G} {cl : List vw_C} {a : Nat → Nat} {cI cZ : ClassId} {u : St} {j : Nat} {v : Int32} {H : Heap} (h : va_P D cl ((wC a cI cZ u).set 12 (a 12, .inl (cI, 40, .inl (upd (u 12) j v)))) H) : va_P D cl (wC a cI cZ (su u 12 j v)) H := h
theorem wC_d12 {A : Nat → Prop} {a : Nat → Nat} {cI cZ : ClassId} {u : St} {j : Nat} {v : Int32} (h : va_D A ((wC a cI cZ u).set 12 (a 12, .inl (cI, 40, .inl (upd (u 12) j v))))) : va_D A (wC a cI cZ (su u 12 j v)) := h
theorem wC_p13 {D : va_G} {cl : List vw_C} {a : Nat → Nat} {cI cZ : ClassId} {u : St} {j : Nat} {v : Int32} {H : Heap} (h : va_P D cl ((wC a cI cZ u).set 13 (a 13, .inl (cI, 40, .inl (upd (u 13) j v)))) H) : va_P D cl (wC a cI cZ (su u 13 j v)) H := h
theorem wC_d13 {A : Nat → Prop} {a : Nat → Nat} {cI cZ : ClassId} {u : St} {j : Nat} {v : Int32} (h : va_D A ((wC a cI cZ u).set 13 (a 13, .inl (cI, 40, .inl (upd (u 13) j v))))) : va_D A (wC a cI cZ (su u 13 j v)) := h
theorem wC_p14_3 {D : va_G} {cl : List vw_C} {a : Nat → Nat} {cI cZ : ClassId} {u : St} {v : Int32} {H : Heap} (h : va_P D cl ((wC a cI cZ u).set 14 (a 14, .inr (2, ([.ref (a 9), .ref (a 0), .ref (a 15), .int (u 14 3), .int (u 14 4)] : List Value).set 3 (.int v)))) H) : va_P D cl (wC a cI cZ (su u 14 3 v)) H := h
theorem wC_d14_3 {A : Nat → Prop} {a : Nat → Nat} {cI cZ : ClassId} {u : St} {v : Int32} (h : va_D A ((wC a cI cZ u).set 14 (a 14, .inr (2, ([.ref (a 9), .ref (a 0), .ref (a 15), .int (u 14 3), .int (u 14 4)] : List Value).set 3 (.int v))))) : va_D A (wC a cI cZ (su u 14 3 v)) := h
theorem wC_p14_4 {D : va_G} {cl : List vw_C} {a : Nat → Nat} {cI cZ : ClassId} {u : St} {v : Int32} {H : Heap} (h : va_P D cl ((wC a cI cZ u).set 14 (a 14, .inr (2, ([.ref (a 9), .ref (a 0), .ref (a 15), .int (u 14 3), .int (u 14 4)] : List Value).set 4 (.int v)))) H) : va_P D cl (wC a cI cZ (su u 14 4 v)) H := h
theorem wC_d14_4 {A : Nat → Prop} {a : Nat → Nat} {cI cZ : ClassId} {u : St} {v : Int32} (h : va_D A ((wC a cI cZ u).set 14 (a 14, .inr (2, ([.ref (a 9), .ref (a 0), .ref (a 15), .int (u 14 3), .int (u 14 4)] : List Value).set 4 (.int v))))) : va_D A (wC a cI cZ (su u 14 4 v)) := h
theorem wC_p15 {D : va_G} {cl : List vw_C} {a : Nat → Nat} {cI cZ : ClassId} {u : St} {j : Nat} {v : Int32} {H : Heap} (h : va_P D cl ((wC a cI cZ u).set 15 (a 15, .inl (cI, 8, .inl (upd (u 15) j v)))) H) : va_P D cl (wC a cI cZ (su u 15 j v)) H := h
theorem wC_d15 {A : Nat → Prop} {a : Nat → Nat} {cI cZ : ClassId} {u : St} {j : Nat} {v : Int32} (h : va_D A ((wC a cI cZ u).set 15 (a 15, .inl (cI, 8, .inl (upd (u 15) j v))))) : va_D A (wC a cI cZ (su u 15 j v)) := h
theorem wD_p0_3 {D : va_G} {cl : List vw_C} {a : Nat → Nat} {cI cZ : ClassId} {u : St} {v : Int32} {H : Heap} (h : va_P D cl ((wD a cI cZ u).set 0 (a 0, .inr (3, ([.ref (a 1), .ref (a 2), .ref (a 3), .int (u 0 3), .int (u 0 4), .int (u 0 5), .int (u 0 6), .int (u 0 7), .ref (a 4), .ref (a 5), .ref (a 6), .ref (a 7), .ref (a 8), .ref (a 9), .ref (a 10), .int (u 0 15), .int (u 0 16)] : List Value).set 3 (.int v)))) H) : va_P D cl (wD a cI cZ (su u 0 3 v)) H := h
theorem wD_d0_3 {A : Nat → Prop} {a : Nat → Nat} {cI cZ : ClassId} {u : St} {v : Int32} (h : va_D A ((wD a cI cZ u).set 0 (a 0, .inr (3, ([.ref (a 1), .ref (a 2), .ref (a 3), .int (u 0 3), .int (u 0 4), .int (u 0 5), .int (u 0 6), .int (u 0 7), .ref (a 4), .ref (a 5), .ref (a 6), .ref (a 7), .ref (a 8), .ref (a 9), .ref (a 10), .int (u 0 15), .int (u 0 16)] : List Value).set 3 (.int v))))) : va_D A (wD a cI cZ (su u 0 3 v)) := h
theorem wD_p0_4 {D : va_G} {cl : List vw_C} {a : Nat → Nat} {cI cZ : ClassId} {u : St} {v : Int32} {H : Heap} (h : va_P D cl ((wD a cI cZ u).set 0 (a 0, .inr (3, ([.ref (a 1), .ref (a 2), .ref (a 3), .int (u 0 3), .int (u 0 4), .int (u 0 5), .int (u 0 6), .int (u 0 7), .ref (a 4), .ref (a 5), .ref (a 6), .ref (a 7), .ref (a 8), .ref (a 9), .ref (a 10), .int (u 0 15), .int (u 0 16)] : List Value).set 4 (.int v)))) H) : va_P D cl (wD a cI cZ (su u 0 4 v)) H := h
theorem wD_d0_4 {A : Nat → Prop} {a : Nat → Nat} {cI cZ : ClassId} {u : St} {v : Int32} (h : va_D A ((wD a cI cZ u).set 0 (a 0, .inr (3, ([.ref (a 1), .ref (a 2), .ref (a 3), .int (u 0 3), .int (u 0 4), .int (u 0 5), .int (u 0 6), .int (u 0 7), .ref (a 4), .ref (a 5), .ref (a 6), .ref (a 7), .ref (a 8), .ref (a 9), .ref (a 10), .int (u 0 15), .int (u 0 16)] : List Value).set 4 (.int v))))) : va_D A (wD a cI cZ (su u 0 4 v)) := h
theorem wD_p0_5 {D : va_G} {cl : List vw_C} {a : Nat → Nat} {cI cZ : ClassId} {u : St} {v : Int32} {H : Heap} (h : va_P D cl ((wD a cI cZ u).set 0 (a 0, .inr (3, ([.ref (a 1), .ref (a 2), .ref (a 3), .int (u 0 3), .int (u 0 4), .int (u 0 5), .int (u 0 6), .int (u 0 7), .ref (a 4), .ref (a 5), .ref (a 6), .ref (a 7), .ref (a 8), .ref (a 9), .ref (a 10), .int (u 0 15), .int (u 0 16)] : List Value).set 5 (.int v)))) H) : va_P D cl (wD a cI cZ (su u 0 5 v)) H := h
theorem wD_d0_5 {A : Nat → Prop} {a : Nat → Nat} {cI cZ : ClassId} {u : St} {v : Int32} (h : va_D A ((wD a cI cZ u).set 0 (a 0, .inr (3, ([.ref (a 1), .ref (a 2), .ref (a 3), .int (u 0 3), .int (u 0 4), .int (u 0 5), .int (u 0 6), .int (u 0 7), .ref (a 4), .ref (a 5), .ref (a 6), .ref (a 7), .ref (a 8), .ref (a 9), .ref (a 10), .int (u 0 15), .int (u 0 16)] : List Value).set 5 (.int v))))) : va_D A (wD a cI cZ (su u 0 5 v)) := h
theorem wD_p0_6 {D : va_G} {cl : List vw_C} {a : Nat → Nat} {cI cZ : ClassId} {u : St} {v : Int32} {H : Heap} (h : va_P D cl ((wD a cI cZ u).set 0 (a 0, .inr (3, ([.ref (a 1), .ref (a 2), .ref (a 3), .int (u 0 3), .int (u 0 4), .int (u 0 5), .int (u 0 6), .int (u 0 7), .ref (a 4), .ref (a 5), .ref (a 6), .ref (a 7), .ref (a 8), .ref (a 9), .ref (a 10), .int (u 0 15), .int (u 0 16)] : List Value).set 6 (.int v)))) H) : va_P D cl (wD a cI cZ (su u 0 6 v)) H := h
theorem wD_d0_6 {A : Nat → Prop} {a : Nat → Nat} {cI cZ : ClassId} {u : St} {v : Int32} (h : va_D A ((wD a cI cZ u).set 0 (a 0, .inr (3, ([.ref (a 1), .ref (a 2), .ref (a 3), .int (u 0 3), .int (u 0 4), .int (u 0 5), .int (u 0 6), .int (u 0 7), .ref (a 4), .ref (a 5), .ref (a 6), .ref (a 7), .ref (a 8), .ref (a 9), .ref (a 10), .int (u 0 15), .int (u 0 16)] : List Value).set 6 (.int v))))) : va_D A (wD a cI cZ (su u 0 6 v)) := h
theorem wD_p0_7 {D : va_G} {cl : List vw_C} {a : Nat → Nat} {cI cZ : ClassId} {u : St} {v : Int32} {H : Heap} (h : va_P D cl ((wD a cI cZ u).set 0 (a 0, .inr (3, ([.ref (a 1), .ref (a 2), .ref (a 3), .int (u 0 3), .int (u 0 4), .int (u 0 5), .int (u 0 6), .int (u 0 7), .ref (a 4), .ref (a 5), .ref (a 6), .ref (a 7), .ref (a 8), .ref (a 9), .ref (a 10), .int (u 0 15), .int (u 0 16)] : List Value).set 7 (.int v)))) H) : va_P D cl (wD a cI cZ (su u 0 7 v)) H := h
theorem wD_d0_7 {A : Nat → Prop} {a : Nat → Nat} {cI cZ : ClassId} {u : St} {v : Int32} (h : va_D A ((wD a cI cZ u).set 0 (a 0, .inr (3, ([.ref (a 1), .ref (a 2), .ref (a 3), .int (u 0 3), .int (u 0 4), .int (u 0 5), .int (u 0 6), .int (u 0 7), .ref (a 4), .ref (a 5), .ref (a 6), .ref (a 7), .ref (a 8), .ref (a 9), .ref (a 10), .int (u 0 15), .int (u 0 16)] : List Value).set 7 (.int v))))) : va_D A (wD a cI cZ (su u 0 7 v)) := h
theorem wD_p0_15 {D : va_G} {cl : List vw_C} {a : Nat → Nat} {cI cZ : ClassId} {u : St} {v : Int32} {H : Heap} (h : va_P D cl ((wD a cI cZ u).set 0 (a 0, .inr (3, ([.ref (a 1), .ref (a 2), .ref (a 3), .int (u 0 3), .int (u 0 4), .int (u 0 5), .int (u 0 6), .int (u 0 7), .ref (a 4), .ref (a 5), .ref (a 6), .ref (a 7), .ref (a 8), .ref (a 9), .ref (a 10), .int (u 0 15), .int (u 0 16)] : List Value).set 15 (.int v)))) H) : va_P D cl (wD a cI cZ (su u 0 15 v)) H := h
theorem wD_d0_15 {A : Nat → Prop} {a : Nat → Nat} {cI cZ : ClassId} {u : St} {v : Int32} (h : va_D A ((wD a cI cZ u).set 0 (a 0, .inr (3, ([.ref (a 1), .ref (a 2), .ref (a 3), .int (u 0 3), .int (u 0 4), .int (u 0 5), .int (u 0 6), .int (u 0 7), .ref (a 4), .ref (a 5), .ref (a 6), .ref (a 7), .ref (a 8), .ref (a 9), .ref (a 10), .int (u 0 15), .int (u 0 16)] : List Value).set 15 (.int v))))) : va_D A (wD a cI cZ (su u 0 15 v)) := h
theorem wD_p0_16 {D : va_G} {cl : List vw_C} {a : Nat → Nat} {cI cZ : ClassId} {u : St} {v : Int32} {H : Heap} (h : va_P D cl ((wD a cI cZ u).set 0 (a 0, .inr (3, ([.ref (a 1), .ref (a 2), .ref (a 3), .int (u 0 3), .int (u 0 4), .int (u 0 5), .int (u 0 6), .int (u 0 7), .ref (a 4), .ref (a 5), .ref (a 6), .ref (a 7), .ref (a 8), .ref (a 9), .ref (a 10), .int (u 0 15), .int (u 0 16)] : List Value).set 16 (.int v)))) H) : va_P D cl (wD a cI cZ (su u 0 16 v)) H := h
theorem wD_d0_16 {A : Nat → Prop} {a : Nat → Nat} {cI cZ : ClassId} {u : St} {v : Int32} (h : va_D A ((wD a cI cZ u).set 0 (a 0, .inr (3, ([.ref (a 1), .ref (a 2), .ref (a 3), .int (u 0 3), .int (u 0 4), .int (u 0 5), .int (u 0 6), .int (u 0 7), .ref (a 4), .ref (a 5), .ref (a 6), .ref (a 7), .ref (a 8), .ref (a 9), .ref (a 10), .int (u 0 15), .int (u 0 16)] : List Value).set 16 (.int v))))) : va_D A (wD a cI cZ (su u 0 16 v)) := h
theorem wD_p1 {D : va_G} {cl : List vw_C} {a : Nat → Nat} {cI cZ : ClassId} {u : St} {j : Nat} {v : Int32} {H : Heap} (h : va_P D cl ((wD a cI cZ u).set 1 (a 1, .inl (cI, 4, .inl (upd (u 1) j v)))) H) : va_P D cl (wD a cI cZ (su u 1 j v)) H := h
theorem wD_d1 {A : Nat → Prop} {a : Nat → Nat} {cI cZ : ClassId} {u : St} {j : Nat} {v : Int32} (h : va_D A ((wD a cI cZ u).set 1 (a 1, .inl (cI, 4, .inl (upd (u 1) j v))))) : va_D A (wD a cI cZ (su u 1 j v)) := h
theorem wD_p2 {D : va_G} {cl : List vw_C} {a : Nat → Nat} {cI cZ : ClassId} {u : St} {j : Nat} {v : Int32} {H : Heap} (h : va_P D cl ((wD a cI cZ u).set 2 (a 2, .inl (cI, 4, .inl (upd (u 2) j v)))) H) : va_P D cl (wD a cI cZ (su u 2 j v)) H := h
theorem wD_d2 {A : Nat → Prop} {a : Nat → Nat} {cI cZ : ClassId} {u : St} {j : Nat} {v : Int32} (h : va_D A ((wD a cI cZ u).set 2 (a 2, .inl (cI, 4, .inl (upd (u 2) j v))))) : va_D A (wD a cI cZ (su u 2 j v)) := h
theorem wD_p3 {D : va_G} {cl : List vw_C} {a : Nat → Nat} {cI cZ : ClassId} {u : St} {j : Nat} {v : Int32} {H : Heap} (h : va_P D cl ((wD a cI cZ u).set 3 (a 3, .inl (cI, 160, .inl (upd (u 3) j v)))) H) : va_P D cl (wD a cI cZ (su u 3 j v)) H := h
theorem wD_d3 {A : Nat → Prop} {a : Nat → Nat} {cI cZ : ClassId} {u : St} {j : Nat} {v : Int32} (h : va_D A ((wD a cI cZ u).set 3 (a 3, .inl (cI, 160, .inl (upd (u 3) j v))))) : va_D A (wD a cI cZ (su u 3 j v)) := h
theorem wD_p4 {D : va_G} {cl : List vw_C} {a : Nat → Nat} {cI cZ : ClassId} {u : St} {j : Nat} {v : Int32} {H : Heap} (h : va_P D cl ((wD a cI cZ u).set 4 (a 4, .inl (cI, 8, .inl (upd (u 4) j v)))) H) : va_P D cl (wD a cI cZ (su u 4 j v)) H := h
theorem wD_d4 {A : Nat → Prop} {a : Nat → Nat} {cI cZ : ClassId} {u : St} {j : Nat} {v : Int32} (h : va_D A ((wD a cI cZ u).set 4 (a 4, .inl (cI, 8, .inl (upd (u 4) j v))))) : va_D A (wD a cI cZ (su u 4 j v)) := h
theorem wD_p5 {D : va_G} {cl : List vw_C} {a : Nat → Nat} {cI cZ : ClassId} {u : St} {j : Nat} {v : Int32} {H : Heap} (h : va_P D cl ((wD a cI cZ u).set 5 (a 5, .inl (cI, 4, .inl (upd (u 5) j v)))) H) : va_P D cl (wD a cI cZ (su u 5 j v)) H := h
theorem wD_d5 {A : Nat → Prop} {a : Nat → Nat} {cI cZ : ClassId} {u : St} {j : Nat} {v : Int32} (h : va_D A ((wD a cI cZ u).set 5 (a 5, .inl (cI, 4, .inl (upd (u 5) j v))))) : va_D A (wD a cI cZ (su u 5 j v)) := h
theorem wD_p6 {D : va_G} {cl : List vw_C} {a : Nat → Nat} {cI cZ : ClassId} {u : St} {j : Nat} {v : Int32} {H : Heap} (h : va_P D cl ((wD a cI cZ u).set 6 (a 6, .inl (cI, 4, .inl (upd (u 6) j v)))) H) : va_P D cl (wD a cI cZ (su u 6 j v)) H := h
theorem wD_d6 {A : Nat → Prop} {a : Nat → Nat} {cI cZ : ClassId} {u : St} {j : Nat} {v : Int32} (h : va_D A ((wD a cI cZ u).set 6 (a 6, .inl (cI, 4, .inl (upd (u 6) j v))))) : va_D A (wD a cI cZ (su u 6 j v)) := h
theorem wD_p7 {D : va_G} {cl : List vw_C} {a : Nat → Nat} {cI cZ : ClassId} {u : St} {j : Nat} {v : Int32} {H : Heap} (h : va_P D cl ((wD a cI cZ u).set 7 (a 7, .inl (cI, 25, .inl (upd (u 7) j v)))) H) : va_P D cl (wD a cI cZ (su u 7 j v)) H := h
theorem wD_d7 {A : Nat → Prop} {a : Nat → Nat} {cI cZ : ClassId} {u : St} {j : Nat} {v : Int32} (h : va_D A ((wD a cI cZ u).set 7 (a 7, .inl (cI, 25, .inl (upd (u 7) j v))))) : va_D A (wD a cI cZ (su u 7 j v)) := h
theorem wD_p8 {D : va_G} {cl : List vw_C} {a : Nat → Nat} {cI cZ : ClassId} {u : St} {j : Nat} {v : Int32} {H : Heap} (h : va_P D cl ((wD a cI cZ u).set 8 (a 8, .inl (cI, 150, .inl (upd (u 8) j v)))) H) : va_P D cl (wD a cI cZ (su u 8 j v)) H := h
theorem wD_d8 {A : Nat → Prop} {a : Nat → Nat} {cI cZ : ClassId} {u : St} {j : Nat} {v : Int32} (h : va_D A ((wD a cI cZ u).set 8 (a 8, .inl (cI, 150, .inl (upd (u 8) j v))))) : va_D A (wD a cI cZ (su u 8 j v)) := h
theorem wD_p9 {D : va_G} {cl : List vw_C} {a : Nat → Nat} {cI cZ : ClassId} {u : St} {j : Nat} {v : Int32} {H : Heap} (h : va_P D cl ((wD a cI cZ u).set 9 (a 9, .inl (cI, 25, .inl (upd (u 9) j v)))) H) : va_P D cl (wD a cI cZ (su u 9 j v)) H := h
theorem wD_d9 {A : Nat → Prop} {a : Nat → Nat} {cI cZ : ClassId} {u : St} {j : Nat} {v : Int32} (h : va_D A ((wD a cI cZ u).set 9 (a 9, .inl (cI, 25, .inl (upd (u 9) j v))))) : va_D A (wD a cI cZ (su u 9 j v)) := h
theorem wD_p10 {D : va_G} {cl : List vw_C} {a : Nat → Nat} {cI cZ : ClassId} {u : St} {j : Nat} {v : Int32} {H : Heap} (h : va_P D cl ((wD a cI cZ u).set 10 (a 10, .inl (cZ, 25, .inl (upd (u 10) j v)))) H) : va_P D cl (wD a cI cZ (su u 10 j v)) H := h
theorem wD_d10 {A : Nat → Prop} {a : Nat → Nat} {cI cZ : ClassId} {u : St} {j : Nat} {v : Int32} (h : va_D A ((wD a cI cZ u).set 10 (a 10, .inl (cZ, 25, .inl (upd (u 10) j v))))) : va_D A (wD a cI cZ (su u 10 j v)) := h
