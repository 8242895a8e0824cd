section
-- ===== PART A: goes FIRST, ahead of the names: the tables' words, and 'selects' of the private methods out of them =====
/-- a private method of a class that the tables say can be made, by its rows of tables_1 -/
def lw_okq (q : MethodName × Nat) : Prop := (q.1.cls ≠ "java/lang/invoke/MethodHandle" ∧ q.1.cls ≠ "java/lang/invoke/VarHandle") ∧ Cond.instantiable q.1.cls q.2 ∈ tables_1 ∧ Cond.privateMethod q.1 ∈ tables_1 ∧ Cond.instanceMethod q.1 ∈ tables_1
theorem lw_p0 : lw_okq (⟨"CountedHeap", "goTo", "(I)V"⟩, 5) := ⟨⟨by decide +kernel, by decide +kernel⟩, List.mem_of_getElem? (i := 13) (by decide +kernel), List.mem_of_getElem? (i := 147) (by decide +kernel), List.mem_of_getElem? (i := 148) (by decide +kernel)⟩
theorem lw_p1 : lw_okq (⟨"CountedHeap$Memory", "reach", "(I)V"⟩, 11) := ⟨⟨by decide +kernel, by decide +kernel⟩, List.mem_of_getElem? (i := 44) (by decide +kernel), List.mem_of_getElem? (i := 246) (by decide +kernel), List.mem_of_getElem? (i := 247) (by decide +kernel)⟩
theorem lw_p2 : lw_okq (⟨"CountedHeap$Memory", "enqueue", "(I)V"⟩, 11) := ⟨⟨by decide +kernel, by decide +kernel⟩, List.mem_of_getElem? (i := 44) (by decide +kernel), List.mem_of_getElem? (i := 250) (by decide +kernel), List.mem_of_getElem? (i := 251) (by decide +kernel)⟩
theorem lw_p3 : lw_okq (⟨"CountedHeap$Memory", "reachPointersOf", "(I)V"⟩, 11) := ⟨⟨by decide +kernel, by decide +kernel⟩, List.mem_of_getElem? (i := 44) (by decide +kernel), List.mem_of_getElem? (i := 254) (by decide +kernel), List.mem_of_getElem? (i := 255) (by decide +kernel)⟩
theorem lw_p4 : lw_okq (⟨"CountedHeap$Memory", "takeOffCountsOf", "(I)V"⟩, 11) := ⟨⟨by decide +kernel, by decide +kernel⟩, List.mem_of_getElem? (i := 44) (by decide +kernel), List.mem_of_getElem? (i := 273) (by decide +kernel), List.mem_of_getElem? (i := 274) (by decide +kernel)⟩
theorem lw_p5 : lw_okq (⟨"CountedHeap$Memory", "giveBack", "(I)V"⟩, 11) := ⟨⟨by decide +kernel, by decide +kernel⟩, List.mem_of_getElem? (i := 44) (by decide +kernel), List.mem_of_getElem? (i := 277) (by decide +kernel), List.mem_of_getElem? (i := 278) (by decide +kernel)⟩
theorem lw_p6 : lw_okq (⟨"java/lang/Throwable", "fillInStackTrace", "(I)Ljava/lang/Throwable;"⟩, 6) := ⟨⟨by decide +kernel, by decide +kernel⟩, List.mem_of_getElem? (i := 331) (by decide +kernel), List.mem_of_getElem? (i := 329) (by decide +kernel), List.mem_of_getElem? (i := 330) (by decide +kernel)⟩
theorem lw_p7 : lw_okq (⟨"CountedHeap", "doInstruction", "(I)V"⟩, 5) := ⟨⟨by decide +kernel, by decide +kernel⟩, List.mem_of_getElem? (i := 13) (by decide +kernel), List.mem_of_getElem? (i := 369) (by decide +kernel), List.mem_of_getElem? (i := 370) (by decide +kernel)⟩
theorem lw_p8 : lw_okq (⟨"CountedHeap", "checkOperand", "(II)V"⟩, 5) := ⟨⟨by decide +kernel, by decide +kernel⟩, List.mem_of_getElem? (i := 13) (by decide +kernel), List.mem_of_getElem? (i := 385) (by decide +kernel), List.mem_of_getElem? (i := 386) (by decide +kernel)⟩
theorem lw_p9 : lw_okq (⟨"CountedHeap", "checkWord", "(II)V"⟩, 5) := ⟨⟨by decide +kernel, by decide +kernel⟩, List.mem_of_getElem? (i := 13) (by decide +kernel), List.mem_of_getElem? (i := 396) (by decide +kernel), List.mem_of_getElem? (i := 397) (by decide +kernel)⟩
theorem lw_p10 : lw_okq (⟨"CountedHeap", "checkRoom", "(I)V"⟩, 5) := ⟨⟨by decide +kernel, by decide +kernel⟩, List.mem_of_getElem? (i := 13) (by decide +kernel), List.mem_of_getElem? (i := 439) (by decide +kernel), List.mem_of_getElem? (i := 440) (by decide +kernel)⟩
theorem lw_p11 : lw_okq (⟨"CountedHeap", "intResult", "(III)I"⟩, 5) := ⟨⟨by decide +kernel, by decide +kernel⟩, List.mem_of_getElem? (i := 13) (by decide +kernel), List.mem_of_getElem? (i := 469) (by decide +kernel), List.mem_of_getElem? (i := 470) (by decide +kernel)⟩
theorem lw_p12 : lw_okq (⟨"CountedHeap", "valueOf", "(I)I"⟩, 5) := ⟨⟨by decide +kernel, by decide +kernel⟩, List.mem_of_getElem? (i := 13) (by decide +kernel), List.mem_of_getElem? (i := 473) (by decide +kernel), List.mem_of_getElem? (i := 474) (by decide +kernel)⟩
theorem lw_p13 : lw_okq (⟨"CountedHeap", "pointerResult", "(II)I"⟩, 5) := ⟨⟨by decide +kernel, by decide +kernel⟩, List.mem_of_getElem? (i := 13) (by decide +kernel), List.mem_of_getElem? (i := 477) (by decide +kernel), List.mem_of_getElem? (i := 478) (by decide +kernel)⟩
theorem lw_p14 : lw_okq (⟨"CountedHeap$Memory", "emptyWords", "(I)V"⟩, 11) := ⟨⟨by decide +kernel, by decide +kernel⟩, List.mem_of_getElem? (i := 44) (by decide +kernel), List.mem_of_getElem? (i := 485) (by decide +kernel), List.mem_of_getElem? (i := 486) (by decide +kernel)⟩
theorem lw_p15 : lw_okq (⟨"CountedHeap$Memory", "dropPointer", "(I)V"⟩, 11) := ⟨⟨by decide +kernel, by decide +kernel⟩, List.mem_of_getElem? (i := 44) (by decide +kernel), List.mem_of_getElem? (i := 493) (by decide +kernel), List.mem_of_getElem? (i := 494) (by decide +kernel)⟩
def lw_privs_1 : List (MethodName × Nat) := [(⟨"CountedHeap", "goTo", "(I)V"⟩, 5), (⟨"CountedHeap$Memory", "reach", "(I)V"⟩, 11), (⟨"CountedHeap$Memory", "enqueue", "(I)V"⟩, 11), (⟨"CountedHeap$Memory", "reachPointersOf", "(I)V"⟩, 11), (⟨"CountedHeap$Memory", "takeOffCountsOf", "(I)V"⟩, 11), (⟨"CountedHeap$Memory", "giveBack", "(I)V"⟩, 11), (⟨"java/lang/Throwable", "fillInStackTrace", "(I)Ljava/lang/Throwable;"⟩, 6), (⟨"CountedHeap", "doInstruction", "(I)V"⟩, 5), (⟨"CountedHeap", "checkOperand", "(II)V"⟩, 5), (⟨"CountedHeap", "checkWord", "(II)V"⟩, 5), (⟨"CountedHeap", "checkRoom", "(I)V"⟩, 5), (⟨"CountedHeap", "intResult", "(III)I"⟩, 5), (⟨"CountedHeap", "valueOf", "(I)I"⟩, 5), (⟨"CountedHeap", "pointerResult", "(II)I"⟩, 5), (⟨"CountedHeap$Memory", "emptyWords", "(I)V"⟩, 11), (⟨"CountedHeap$Memory", "dropPointer", "(I)V"⟩, 11)]
theorem lw_r1 : ∀ q ∈ lw_privs_1, lw_okq q := List.forall_mem_cons.mpr ⟨lw_p0, List.forall_mem_cons.mpr ⟨lw_p1, List.forall_mem_cons.mpr ⟨lw_p2, List.forall_mem_cons.mpr ⟨lw_p3, List.forall_mem_cons.mpr ⟨lw_p4, List.forall_mem_cons.mpr ⟨lw_p5, List.forall_mem_cons.mpr ⟨lw_p6, List.forall_mem_cons.mpr ⟨lw_p7, List.forall_mem_cons.mpr ⟨lw_p8, List.forall_mem_cons.mpr ⟨lw_p9, List.forall_mem_cons.mpr ⟨lw_p10, List.forall_mem_cons.mpr ⟨lw_p11, List.forall_mem_cons.mpr ⟨lw_p12, List.forall_mem_cons.mpr ⟨lw_p13, List.forall_mem_cons.mpr ⟨lw_p14, List.forall_mem_cons.mpr ⟨lw_p15, fun _ h => absurd h List.not_mem_nil⟩⟩⟩⟩⟩⟩⟩⟩⟩⟩⟩⟩⟩⟩⟩⟩
theorem lw_p16 : lw_okq (⟨"CountedHeap$Memory", "countLess", "(I)V"⟩, 11) := ⟨⟨by decide +kernel, by decide +kernel⟩, List.mem_of_getElem? (i := 44) (by decide +kernel), List.mem_of_getElem? (i := 497) (by decide +kernel), List.mem_of_getElem? (i := 498) (by decide +kernel)⟩
theorem lw_p17 : lw_okq (⟨"CountedHeap$Memory", "dropPointersOf", "(I)V"⟩, 11) := ⟨⟨by decide +kernel, by decide +kernel⟩, List.mem_of_getElem? (i := 44) (by decide +kernel), List.mem_of_getElem? (i := 501) (by decide +kernel), List.mem_of_getElem? (i := 502) (by decide +kernel)⟩
theorem lw_p18 : lw_okq (⟨"CountedHeap", "placeAfter", "(IIII)I"⟩, 5) := ⟨⟨by decide +kernel, by decide +kernel⟩, List.mem_of_getElem? (i := 13) (by decide +kernel), List.mem_of_getElem? (i := 505) (by decide +kernel), List.mem_of_getElem? (i := 506) (by decide +kernel)⟩
theorem lw_p19 : lw_okq (⟨"CountedHeapModel", "fault", "(I)I"⟩, 17) := ⟨⟨by decide +kernel, by decide +kernel⟩, List.mem_of_getElem? (i := 509) (by decide +kernel), List.mem_of_getElem? (i := 603) (by decide +kernel), List.mem_of_getElem? (i := 604) (by decide +kernel)⟩
theorem lw_p20 : lw_okq (⟨"CountedHeapModel", "find", "(II)I"⟩, 17) := ⟨⟨by decide +kernel, by decide +kernel⟩, List.mem_of_getElem? (i := 509) (by decide +kernel), List.mem_of_getElem? (i := 607) (by decide +kernel), List.mem_of_getElem? (i := 608) (by decide +kernel)⟩
theorem lw_p21 : lw_okq (⟨"CountedHeapModel", "isPointer", "(II)Z"⟩, 17) := ⟨⟨by decide +kernel, by decide +kernel⟩, List.mem_of_getElem? (i := 509) (by decide +kernel), List.mem_of_getElem? (i := 611) (by decide +kernel), List.mem_of_getElem? (i := 612) (by decide +kernel)⟩
theorem lw_p22 : lw_okq (⟨"CountedHeapModel", "free", "()I"⟩, 17) := ⟨⟨by decide +kernel, by decide +kernel⟩, List.mem_of_getElem? (i := 509) (by decide +kernel), List.mem_of_getElem? (i := 615) (by decide +kernel), List.mem_of_getElem? (i := 616) (by decide +kernel)⟩
theorem lw_p23 : lw_okq (⟨"CountedHeapModel", "act", "(I)V"⟩, 17) := ⟨⟨by decide +kernel, by decide +kernel⟩, List.mem_of_getElem? (i := 509) (by decide +kernel), List.mem_of_getElem? (i := 619) (by decide +kernel), List.mem_of_getElem? (i := 620) (by decide +kernel)⟩
theorem lw_p24 : lw_okq (⟨"CountedHeapModel", "write", "(II)V"⟩, 17) := ⟨⟨by decide +kernel, by decide +kernel⟩, List.mem_of_getElem? (i := 509) (by decide +kernel), List.mem_of_getElem? (i := 623) (by decide +kernel), List.mem_of_getElem? (i := 624) (by decide +kernel)⟩
theorem lw_p25 : lw_okq (⟨"CountedHeapModel", "read", "(I)I"⟩, 17) := ⟨⟨by decide +kernel, by decide +kernel⟩, List.mem_of_getElem? (i := 509) (by decide +kernel), List.mem_of_getElem? (i := 627) (by decide +kernel), List.mem_of_getElem? (i := 628) (by decide +kernel)⟩
theorem lw_p26 : lw_okq (⟨"CountedHeapModel", "giveBack", "()V"⟩, 17) := ⟨⟨by decide +kernel, by decide +kernel⟩, List.mem_of_getElem? (i := 509) (by decide +kernel), List.mem_of_getElem? (i := 634) (by decide +kernel), List.mem_of_getElem? (i := 635) (by decide +kernel)⟩
theorem lw_p27 : lw_okq (⟨"CountedHeapModel", "countAll", "()V"⟩, 17) := ⟨⟨by decide +kernel, by decide +kernel⟩, List.mem_of_getElem? (i := 509) (by decide +kernel), List.mem_of_getElem? (i := 638) (by decide +kernel), List.mem_of_getElem? (i := 639) (by decide +kernel)⟩
theorem lw_p28 : lw_okq (⟨"CountedHeapModel", "isBlock", "(I)Z"⟩, 17) := ⟨⟨by decide +kernel, by decide +kernel⟩, List.mem_of_getElem? (i := 509) (by decide +kernel), List.mem_of_getElem? (i := 670) (by decide +kernel), List.mem_of_getElem? (i := 671) (by decide +kernel)⟩
theorem lw_p29 : lw_okq (⟨"CountedHeapModel", "reach", "()V"⟩, 17) := ⟨⟨by decide +kernel, by decide +kernel⟩, List.mem_of_getElem? (i := 509) (by decide +kernel), List.mem_of_getElem? (i := 691) (by decide +kernel), List.mem_of_getElem? (i := 692) (by decide +kernel)⟩
def lw_privs_2 : List (MethodName × Nat) := [(⟨"CountedHeap$Memory", "countLess", "(I)V"⟩, 11), (⟨"CountedHeap$Memory", "dropPointersOf", "(I)V"⟩, 11), (⟨"CountedHeap", "placeAfter", "(IIII)I"⟩, 5), (⟨"CountedHeapModel", "fault", "(I)I"⟩, 17), (⟨"CountedHeapModel", "find", "(II)I"⟩, 17), (⟨"CountedHeapModel", "isPointer", "(II)Z"⟩, 17), (⟨"CountedHeapModel", "free", "()I"⟩, 17), (⟨"CountedHeapModel", "act", "(I)V"⟩, 17), (⟨"CountedHeapModel", "write", "(II)V"⟩, 17), (⟨"CountedHeapModel", "read", "(I)I"⟩, 17), (⟨"CountedHeapModel", "giveBack", "()V"⟩, 17), (⟨"CountedHeapModel", "countAll", "()V"⟩, 17), (⟨"CountedHeapModel", "isBlock", "(I)Z"⟩, 17), (⟨"CountedHeapModel", "reach", "()V"⟩, 17)]
theorem lw_r2 : ∀ q ∈ lw_privs_2, lw_okq q := List.forall_mem_cons.mpr ⟨lw_p16, List.forall_mem_cons.mpr ⟨lw_p17, List.forall_mem_cons.mpr ⟨lw_p18, List.forall_mem_cons.mpr ⟨lw_p19, List.forall_mem_cons.mpr ⟨lw_p20, List.forall_mem_cons.mpr ⟨lw_p21, List.forall_mem_cons.mpr ⟨lw_p22, List.forall_mem_cons.mpr ⟨lw_p23, List.forall_mem_cons.mpr ⟨lw_p24, List.forall_mem_cons.mpr ⟨lw_p25, List.forall_mem_cons.mpr ⟨lw_p26, List.forall_mem_cons.mpr ⟨lw_p27, List.forall_mem_cons.mpr ⟨lw_p28, List.forall_mem_cons.mpr ⟨lw_p29, fun _ h => absurd h List.not_mem_nil⟩⟩⟩⟩⟩⟩⟩⟩⟩⟩⟩⟩⟩⟩
def lw_privs : List (MethodName × Nat) := lw_privs_1 ++ (lw_privs_2)
def lw_tbl : List Cond := k2_sels lw_privs ++ tables_1
theorem lw_privs_ok : ∀ q ∈ lw_privs, lw_okq q := by
  show ∀ q ∈ lw_privs_1 ++ (lw_privs_2), lw_okq q
  exact List.forall_mem_append.mpr ⟨lw_r1, lw_r2⟩
end
section
theorem zz_wide {p : Program} : True := by
  have := @Jvm.Stand.thenCaughtThrough
  trivial
end
section
/-! ===== BEGIN words of one list among another's, by their places ===== -/
theorem goodIn_r {big : List Cond} (ws : List Cond) (ps : List Nat) (hp : ws = ps.filterMap (fun i => big[i]?)) (h : ws.all goodWord = true) : GoodIn big ws := by
  intro w hw
  have h1 := List.all_eq_true.mp h w hw
  rw [hp] at hw
  obtain ⟨i, -, hi⟩ := List.mem_filterMap.mp hw
  have hm : w ∈ big := by first | exact List.mem_of_getElem? hi | exact List.getElem?_mem hi
  exact ⟨hm, good_of_word h1⟩
theorem goodIn_app {big a b : List Cond} (ha : GoodIn big a) (hb : GoodIn big b) : GoodIn big (a ++ b) := fun w h => (List.mem_append.mp h).elim (ha w) (hb w)
theorem goodIn_ca {big a b : List Cond} {c : Cond} (ha : GoodIn big (c :: a)) (hb : GoodIn big b) : GoodIn big (c :: (a ++ b)) := fun w h => (List.mem_cons.mp h).elim (fun e => ha w (List.mem_cons.mpr (Or.inl e))) (fun h => (List.mem_append.mp h).elim (fun h => ha w (List.mem_cons.mpr (Or.inr h))) (hb w))
theorem goodIn_sub {big ws : List Cond} (hm : ∀ w ∈ ws, w ∈ big) (h : ws.all goodWord = true) : GoodIn big ws := fun w hw => ⟨hm w hw, good_of_word (List.all_eq_true.mp h w hw)⟩
/-! ===== END ===== -/

/-! ===== BEGIN exceptions that leave a method, and their catching by the caller (launches without stack traces) ===== -/
section VXA
/-! The laws vx_back, vx_callV, vx_callS, vx_callSW, vx_throw0, vx_throwS follow proofs of the library, with one case more: JvmDerived/Free/Laws.lean (Back.of_free), Shelf42/LK1.lean (callV, callS), Shelf/KitTraced.lean (throwNew0V, throwNewS). -/
/-- where a method has thrown q: the class by its name, the cell, what was written, the world -/
def vx_T (XC : String → State → State → Prop) (st : State) (q : Addr) (t : State) (mc ms : Nat) (free : Addr → Prop) : Prop :=
  ∃ (E : String) (ce : Cell) (L : List Loc), XC E st t ∧ t.heap[q]? = some ce ∧ ce.vm = .none ∧ st.vm.findClass E = some ce.cls ∧ st.WarmedH t.vm ∧ st.sameButNew ({ t with vm := st.vm } : State) L mc ms ∧ ∀ z ∈ L, free z.base
def vx_Q (Qc : Array Value → State → Outcome → State → Prop) (XC : String → State → State → Prop) (mc ms : Nat) (free : Addr → Prop) : Array Value → State → Outcome → State → Prop := fun a st o t =>
  (Qc a st o t ∧ ∃ L, FrameEnd st o t L mc ms ∧ ∀ q ∈ L, free q.base) ∨ ∃ q, o = .threw q ∧ vx_T XC st q t mc ms free
/-- a callee that returns or throws -/
def vx_Met (l : Launch) (y : MethodName) (ws : List Cond) (rm : Room) (Pc : Array Value → State → Prop) (Qc : Array Value → State → Outcome → State → Prop) (XC : String → State → State → Prop) (mc ms : Nat) (free : Addr → Prop) : Prop :=
  MetFree l y (headSpec ws rm) Pc (fun _ _ _ _ _ => True) (vx_Q Qc XC mc ms free)
def vx_Post (XC : String → State → State → Prop) (mc ms : Nat) (free : Addr → Prop) : Pt → Array Value → Addr → Pt → Prop := fun A a q B =>
  ∃ (g : JFrame) (mk : MethodId) (t : State) (L : List Loc) (E : String) (ce : Cell), B.U.heap = t.heap ∧ B.U.vm = t.vm ∧ XC E (A.U.calling g mk a) t ∧ t.heap[q]? = some ce ∧ ce.vm = .none ∧ A.U.vm.findClass E = some ce.cls ∧ B.locs = A.locs ++ L ∧ (∀ z ∈ L, free z.base) ∧ B.cells = A.cells + mc ∧ B.slots = A.slots + ms
def vx_Back (l : Launch) (R : Room) (p : Program) (e : Env) (below : List Frame) (s : State) (sargs : Array Value) (y : MethodName) (len W9 : Nat)
    (Pre : Pt → Array Value → Prop) (Post : Pt → Array Value → Option Value → Pt → Prop) (PostX : Pt → Array Value → Addr → Pt → Prop) : Prop :=
  ∀ (m : MethodId) (meth : Method) (c : Code) (A : Pt) (g : JFrame) (ig : Instr) (mk : MethodId) (a : Array Value),
    Stand p l e R s m sargs below meth c A.U A.locs A.cells A.slots → g.method = m → g.locals.size = c.maxLocals → decode c.code g.pc = .ok (ig, len) →
    2 * g.monitorRoom + (g.stack.map fun v => v.category).sum ≤ W9 → A.U.methodNamed? y = some mk → Pre A a →
    (∃ (v : Option Value) (B : Pt), Stand p l e R s m sargs below meth c B.U B.locs B.cells B.slots ∧ Post A a v B ∧
      Steps p.tables e below (doInvoke e (A.U.setTop g) [] mk a).1 (B.U.setTop { g with pc := g.pc + len, stack := v.toList ++ g.stack })) ∨
    (∃ (q : Addr) (B : Pt), Stand p l e R s m sargs below meth c B.U B.locs B.cells B.slots ∧ PostX A a q B ∧
      Steps p.tables e below (doInvoke e (A.U.setTop g) [] mk a).1 ((B.U.setTop g).pushFrame (.throwing q)))
section Payer
variable {l : Launch} {R : Room} {p : Program} {e : Env} {below : List Frame} {s : State} {sargs : Array Value} {y : MethodName} {len W9 : Nat}
theorem vx_back {ws : List Cond} {rm : Room} {Pc : Array Value → State → Prop} {Qc : Array Value → State → Outcome → State → Prop} {XC : String → State → State → Prop} {mc ms : Nat} {free : Addr → Prop} {bytes : ByteArray} {maxL : Nat} {ret : Option FieldType}
    (hM : vx_Met l y ws rm Pc Qc XC mc ms free) (hblind : FrameBlind Pc) (hrc : rm.cells = mc) (hrs : rm.slots = ms)
    (hframes : rm.frames + 1 ≤ R.frames) (hlocals : W9 + (maxL + 11) + rm.locals ≤ R.locals)
    (hws : ∀ w ∈ ws, ∀ a' U, s.WarmedH U.vm → w.before a' U = true) (hcode : Cond.code y bytes maxL ret ∈ ws) (hinit : ∀ a' U, s.WarmedH U.vm → (Cond.initialized y.cls).before a' U = true) :
    vx_Back l R p e below s sargs y len W9 (PreOf R mc ms Pc) (PostOf Qc mc ms free) (vx_Post XC mc ms free) := by
  intro m meth c A g ig mk a X hg hsize hdg hW hn hp
  have h1 : (headSpec ws rm).pre.before a A.U = true := atoms_intro fun w hw => hws w hw _ _ X.warmed
  have h2 : (Cond.code y bytes maxL ret).before a A.U = true := hws _ hcode _ _ X.warmed
  have h3 : (Cond.initialized y.cls).before a A.U = true := hinit _ _ X.warmed
  have h4 : A.cells + (headSpec ws rm).room.cells ≤ R.cells := by rw [show (headSpec ws rm).room.cells = mc from hrc]; exact hp.1
  have h5 : A.slots + (headSpec ws rm).room.slots ≤ R.slots := by rw [show (headSpec ws rm).room.slots = ms from hrs]; exact hp.2.1
  have hPc : Pc a (A.U.calling g mk a) := hblind _ _ _ _ hp.2.2
  obtain ⟨U, Ls, c0, s0⟩ := A
  dsimp only [Pt.U, Pt.locs, Pt.cells, Pt.slots] at h1 h2 h3 h4 h5 X hn hPc ⊢
  obtain ⟨methY, cY, hmY, hcY, -, hlY, -, -, -, -⟩ := Cond.code_spec hn h2
  obtain ⟨kY, hkY, -⟩ := className_of_methodNamed hn
  have hinitY : kY.init = .initialized := Cond.initialized_spec (findClass_of_methodNamed hn) hkY h3
  have h : At U g.method c below := by rw [hg]; exact X.here
  have hlocals9 : W9 + (maxL + 11) + (headSpec ws rm).room.locals ≤ R.locals := hlocals
  have happ : (headSpec ws rm).appliesLoose y e.platform (U.calling g mk a) = true :=
    Spec.appliesLoose_calling (g := g) h hdg hn hkY hinitY
      (X.room_calling (g := g) (R' := (headSpec ws rm).room) hsize hmY hcY hframes (by rw [hlY]; omega) h4 h5) h1
  obtain ⟨mid, hmid⟩ := h.above
  have hfr : (U.setTop g).frames = (.java g :: mid) ++ below := by rw [State.frames_setTop' g h.top, hmid]; rfl
  obtain ⟨o, s₂, hsteps, -, hend, hq⟩ := Steps.callFree hM p X.admits X.cas X.clock (acts := []) hfr happ hPc trivial
  have hq' : vx_Q Qc XC mc ms free a (U.calling g mk a) o s₂ := hq
  rw [State.frames_setTop' g h.top] at hend
  obtain ⟨g₀, hg0⟩ := Option.isSome_iff_exists.mp h.top
  obtain ⟨r, hr⟩ := State.topJava?_eq_some.mp hg0
  have hr' : (({ U with heap := s₂.heap, slotsUsed := s₂.slotsUsed } : State).setVm s₂.vm).frames = .java g₀ :: r := hr
  rcases hq' with ⟨hqc, L, hfe, hL⟩ | ⟨q, rfl, E, ce, L, hx, hce, hcv, hcl, hW₂, hsm, hL⟩
  · obtain ⟨⟨v, rfl⟩, hW₂, e2, q2, q3, q4, q5, q6⟩ := id hfe
    have e3 : s₂ = ({ (U.calling g mk a).setFrames s₂.frames with heap := s₂.heap, slotsUsed := s₂.slotsUsed } : State).setVm s₂.vm := by
      have : s₂ = ({ s₂ with vm := (U.calling g mk a).vm } : State).setVm s₂.vm := rfl
      rw [e2] at this
      exact this
    obtain ⟨c₂, i₂, len₂, hc₂, hd₂, hf₂⟩ := hend
    have hW' : U.WarmedH s₂.vm := hW₂
    have hcc : c₂ = c := by
      have h1 : s₂.code? g.method = U.code? g.method := by
        rw [State.code?_eq, State.code?_eq, hW'.alike.method?]
      exact Option.some.inj (hc₂.symm.trans (h1.trans h.code))
    subst hcc
    have hlen : len₂ = len := by rw [hdg] at hd₂; cases hd₂; rfl
    subst hlen
    have hs₂ : s₂ = (({ U with heap := s₂.heap, slotsUsed := s₂.slotsUsed } : State).setVm s₂.vm).setTop { g with pc := g.pc + len₂, stack := v.toList ++ g.stack } := by
      refine e3.trans ?_
      rw [hf₂, State.calling_eq h.top, State.setFrames_setFrames, State.setTop_of_frames _ hr', hr]
      rfl
    have hsame : U.sameButNew ({ U with heap := s₂.heap, slotsUsed := s₂.slotsUsed } : State) L mc ms := by
      refine ⟨?_, q2, q3, q4, q5, q6⟩
      obtain ⟨t, ht, -⟩ := State.frames_cons hr
      show ({ U with heap := s₂.heap, slotsUsed := s₂.slotsUsed } : State) = { U.setFrames U.frames with heap := s₂.heap, slotsUsed := s₂.slotsUsed }
      rw [State.setFrames_self ht]
    subst hg
    refine Or.inl ⟨v, ⟨(({ U with heap := s₂.heap, slotsUsed := s₂.slotsUsed } : State).setVm s₂.vm), Ls ++ L, c0 + mc, s0 + ms⟩,
      ⟨X.admits, X.cas, X.clock, X.frames, X.room, X.hears, X.method, X.code, (X.here.setHeapUsed s₂.heap s₂.slotsUsed).setVm hW'.alike, X.tail, State.WarmedH.trans X.warmed hW', X.limits, X.bytes, X.same.trans (hsame.setVm s.vm)⟩,
      ⟨g, mk, s₂, L, rfl, rfl, hqc, rfl, hL, rfl, rfl⟩, ?_⟩
    show Steps p.tables e below _ ((({ U with heap := s₂.heap, slotsUsed := s₂.slotsUsed } : State).setVm s₂.vm).setTop { g with pc := g.pc + len₂, stack := v.toList ++ g.stack })
    rw [← hs₂]
    exact hsteps
  · obtain ⟨e2, q2, q3, q4, q5, q6⟩ := id hsm
    have e3 : s₂ = ({ (U.calling g mk a).setFrames s₂.frames with heap := s₂.heap, slotsUsed := s₂.slotsUsed } : State).setVm s₂.vm := by
      have : s₂ = ({ s₂ with vm := (U.calling g mk a).vm } : State).setVm s₂.vm := rfl
      rw [e2] at this
      exact this
    have hf₂ : s₂.frames = .throwing q :: .java g :: U.frames.tail := hend
    have hW' : U.WarmedH s₂.vm := hW₂
    have hs₂ : s₂ = ((({ U with heap := s₂.heap, slotsUsed := s₂.slotsUsed } : State).setVm s₂.vm).setTop g).pushFrame (.throwing q) := by
      refine e3.trans ?_
      rw [hf₂, State.calling_eq h.top, State.setFrames_setFrames, State.pushFrame, State.frames_setTop _ hr', State.setTop_of_frames _ hr', State.setFrames_setFrames, hr]
      rfl
    have hsame : U.sameButNew ({ U with heap := s₂.heap, slotsUsed := s₂.slotsUsed } : State) L mc ms := by
      refine ⟨?_, q2, q3, q4, q5, q6⟩
      obtain ⟨t, ht, -⟩ := State.frames_cons hr
      show ({ U with heap := s₂.heap, slotsUsed := s₂.slotsUsed } : State) = { U.setFrames U.frames with heap := s₂.heap, slotsUsed := s₂.slotsUsed }
      rw [State.setFrames_self ht]
    subst hg
    refine Or.inr ⟨q, ⟨(({ U with heap := s₂.heap, slotsUsed := s₂.slotsUsed } : State).setVm s₂.vm), Ls ++ L, c0 + mc, s0 + ms⟩,
      ⟨X.admits, X.cas, X.clock, X.frames, X.room, X.hears, X.method, X.code, (X.here.setHeapUsed s₂.heap s₂.slotsUsed).setVm hW'.alike, X.tail, State.WarmedH.trans X.warmed hW', X.limits, X.bytes, X.same.trans (hsame.setVm s.vm)⟩,
      ⟨g, mk, s₂, L, E, ce, rfl, rfl, hx, hce, hcv, hcl, rfl, hL, rfl, rfl⟩, ?_⟩
    show Steps p.tables e below _ (((({ U with heap := s₂.heap, slotsUsed := s₂.slotsUsed } : State).setVm s₂.vm).setTop g).pushFrame (.throwing q))
    rw [← hs₂]
    exact hsteps
end Payer
section Calls
variable {p : Program} {l : Launch} {e : Env} {R : Room} {s : State} {m : MethodId} {args : Array Value} {below : List Frame} {meth : Method} {c : Code} {T : State} {locs : List Loc} {cells slots : Nat}
theorem vx_callV (X : Stand p l e R s m args below meth c T locs cells slots) (hexec : p.tables.exec = Jvm.exec) {own C : String} {index : Nat} {y : MethodName} {bytes : ByteArray} {maxL : Nat} {ret : Option FieldType}
    (hown : s.vm.findClass own = some m.cls) (hlink : (Cond.methodLink own index y).before args s = true) (hinst : (Cond.instanceMethod y).before args s = true) (hsel : (Cond.selects C y y).before args s = true)
    (hcode : (Cond.code y bytes maxL ret).before args s = true) (hy : y.cls ≠ "java/lang/invoke/MethodHandle" ∧ y.cls ≠ "java/lang/invoke/VarHandle")
    {W9 : Nat} {Pre : Pt → Array Value → Prop} {Post : Pt → Array Value → Option Value → Pt → Prop} {PostX : Pt → Array Value → Addr → Pt → Prop} (hK : vx_Back l R p e below s args y 3 W9 Pre Post PostX)
    {b : Addr} {cellB : Cell} (hcell : T.heap[b]? = some cellB) (hobj : cellB.vm.isStatics = false) (hcls : s.vm.findClass C = some cellB.cls)
    {g : JFrame} (hg : g.method = m) (hsize : g.locals.size = c.maxLocals) {argsL rest : List Value} (hlen : ∀ sig, parseMethodDescriptor y.desc = some sig → argsL.length = sig.parameters.length)
    (hstack : g.stack = argsL.reverse ++ .ref b :: rest) (hW : 2 * g.monitorRoom + (rest.map fun v => v.category).sum ≤ W9) (hdg : decode c.code g.pc = .ok (.invokevirtual index, 3))
    (hpre : ∀ vm₁, s.WarmedH vm₁ → Pre ⟨T.setVm vm₁, locs, cells, slots⟩ (Value.ref b :: argsL).toArray) :
    (∃ (v : Option Value) (vm₁ : Vm) (B : Pt), s.WarmedH vm₁ ∧ Stand p l e R s m args below meth c B.U B.locs B.cells B.slots ∧ Post ⟨T.setVm vm₁, locs, cells, slots⟩ (Value.ref b :: argsL).toArray v B ∧
      ∀ target, Steps p.tables e below (B.U.setTop { g with pc := g.pc + 3, stack := v.toList ++ rest }) target → Steps p.tables e below (T.setTop g) target) ∨
    (∃ (q : Addr) (vm₁ : Vm) (B : Pt), s.WarmedH vm₁ ∧ Stand p l e R s m args below meth c B.U B.locs B.cells B.slots ∧ PostX ⟨T.setVm vm₁, locs, cells, slots⟩ (Value.ref b :: argsL).toArray q B ∧
      Steps p.tables e below (T.setTop g) ((B.U.setTop { g with stack := rest }).pushFrame (.throwing q))) := by
  obtain ⟨mk, methM, hnamed, hmethM, hstM, habM⟩ := Cond.instanceMethod_spec hinst
  obtain ⟨methM', cM, hmethM', -, -, -, -, -, -, hsigM⟩ := Cond.code_spec hnamed hcode
  cases hmethM.symm.trans hmethM'
  obtain ⟨c2, r2, m2, q1, q2, q3, q4, kP, hkP, hkPi⟩ := Cond.selects_spec hsel
  cases hcls.symm.trans q1
  cases (State.methodFound?_of_named hnamed hy).symm.trans q2
  cases hnamed.symm.trans q3
  have hselP : selectMethod e.platform s.vm cellB.cls mk = .method mk := by rw [Launch.admits_selectMethod X.admits]; exact q4
  obtain ⟨vm₁, X₁, hstep₁⟩ := X.invokevirtual hexec hown hlink hnamed hmethM hstM hkP hkPi hy (a := b) (cell := cellB) hcell
    (fun z h => by rw [h] at hobj; cases hobj) hselP hmethM habM hkP hkPi (g := g) hg (argsL := argsL) (rest := rest) (hlen _ hsigM) hstack hdg
  rcases hK m meth c ⟨T.setVm vm₁, locs, cells, slots⟩ { g with stack := rest } (.invokevirtual index) mk (Value.ref b :: argsL).toArray X₁ hg hsize hdg hW (X₁.named hnamed) (hpre vm₁ X₁.warmed) with ⟨v, B, X', hpost, hsteps⟩ | ⟨q, B, X', hpost, hsteps⟩
  · exact Or.inl ⟨v, vm₁, B, X₁.warmed, X', hpost, fun target h => hstep₁ _ fun acts => by rw [doInvoke_state]; exact hsteps.trans h⟩
  · exact Or.inr ⟨q, vm₁, B, X₁.warmed, X', hpost, hstep₁ _ fun acts => by rw [doInvoke_state]; exact hsteps⟩
theorem vx_callS (X : Stand p l e R s m args below meth c T locs cells slots) (hexec : p.tables.exec = Jvm.exec) {own : String} {index : Nat} {y : MethodName} {bytes : ByteArray} {maxL : Nat} {ret : Option FieldType}
    (hown : s.vm.findClass own = some m.cls) (hlink : (Cond.methodLink own index y).before args s = true) (hstat : (Cond.static y).before args s = true) (hinit : (Cond.initialized y.cls).before args s = true)
    (hcode : (Cond.code y bytes maxL ret).before args s = true) (hy : y.cls ≠ "java/lang/invoke/MethodHandle" ∧ y.cls ≠ "java/lang/invoke/VarHandle")
    {W9 : Nat} {Pre : Pt → Array Value → Prop} {Post : Pt → Array Value → Option Value → Pt → Prop} {PostX : Pt → Array Value → Addr → Pt → Prop} (hK : vx_Back l R p e below s args y 3 W9 Pre Post PostX)
    {g : JFrame} (hg : g.method = m) (hsize : g.locals.size = c.maxLocals) {argsL rest : List Value} (hlen : ∀ sig, parseMethodDescriptor y.desc = some sig → argsL.length = sig.parameters.length)
    (hstack : g.stack = argsL.reverse ++ rest) (hW : 2 * g.monitorRoom + (rest.map fun v => v.category).sum ≤ W9) (hdg : decode c.code g.pc = .ok (.invokestatic index, 3))
    (hpre : ∀ vm₁, s.WarmedH vm₁ → Pre ⟨T.setVm vm₁, locs, cells, slots⟩ argsL.toArray) :
    (∃ (v : Option Value) (vm₁ : Vm) (B : Pt), s.WarmedH vm₁ ∧ Stand p l e R s m args below meth c B.U B.locs B.cells B.slots ∧ Post ⟨T.setVm vm₁, locs, cells, slots⟩ argsL.toArray v B ∧
      ∀ target, Steps p.tables e below (B.U.setTop { g with pc := g.pc + 3, stack := v.toList ++ rest }) target → Steps p.tables e below (T.setTop g) target) ∨
    (∃ (q : Addr) (vm₁ : Vm) (B : Pt), s.WarmedH vm₁ ∧ Stand p l e R s m args below meth c B.U B.locs B.cells B.slots ∧ PostX ⟨T.setVm vm₁, locs, cells, slots⟩ argsL.toArray q B ∧
      Steps p.tables e below (T.setTop g) ((B.U.setTop { g with stack := rest }).pushFrame (.throwing q))) := by
  obtain ⟨mk, hnamed⟩ := Cond.code_named hcode
  obtain ⟨methM, cM, hmethM, -, -, -, -, -, -, hsigM⟩ := Cond.code_spec hnamed hcode
  have hstatic : methM.isStatic = true := Cond.static_spec hnamed hmethM hstat
  obtain ⟨kP, hkP, -⟩ := className_of_methodNamed hnamed
  have hinitP : kP.init = .initialized := Cond.initialized_spec (findClass_of_methodNamed hnamed) hkP hinit
  obtain ⟨vm₁, X₁, hstep₁⟩ := X.invokestatic hexec hown hlink hnamed hmethM hstatic hkP hinitP hy (g := g) hg (argsL := argsL) (rest := rest) (hlen _ hsigM) hstack hdg
  rcases hK m meth c ⟨T.setVm vm₁, locs, cells, slots⟩ { g with stack := rest } (.invokestatic index) mk argsL.toArray X₁ hg hsize hdg hW (X₁.named hnamed) (hpre vm₁ X₁.warmed) with ⟨v, B, X', hpost, hsteps⟩ | ⟨q, B, X', hpost, hsteps⟩
  · exact Or.inl ⟨v, vm₁, B, X₁.warmed, X', hpost, fun target h => hstep₁ _ fun acts => by rw [doInvoke_state]; exact hsteps.trans h⟩
  · exact Or.inr ⟨q, vm₁, B, X₁.warmed, X', hpost, hstep₁ _ fun acts => by rw [doInvoke_state]; exact hsteps⟩
end Calls
theorem vx_cls {s : State} {T : State} {vm₁ : Vm} {E : String} {k : ClassId} (hW : s.WarmedH vm₁) (h : (T.setVm vm₁).vm.findClass E = some k) : s.vm.findClass E = some k := by
  have h1 : vm₁.findClass E = some k := h
  rw [hW.alike.findClass] at h1
  exact h1
/-- the method's frame g, with q thrown over it -/
def vx_W (p : Program) (l : Launch) (e : Env) (R : Room) (s : State) (m : MethodId) (args : Array Value) (below : List Frame) (meth : Method) (c : Code) (H : Heap) (locs : List Loc) (cells slots : Nat) (Q : State → Prop) (g : JFrame) (q : Addr) : Prop :=
  ∀ T : State, T.heap = H → Stand p l e R s m args below meth c T locs cells slots → ∃ t, Steps p.tables e below ((T.setTop g).pushFrame (.throwing q)) t ∧ Q t
def vx_Run (p : Program) (l : Launch) (e : Env) (R : Room) (s : State) (m : MethodId) (args : Array Value) (below : List Frame) (meth : Method) (c : Code) (H : Heap) (locs : List Loc) (cells slots mc ms : Nat) (g : JFrame) (rest : List Value) (Qa : State → Outcome → State → Prop) (XC : String → State → State → Prop) (free : Addr → Prop) : Prop :=
  ∀ T : State, T.heap = H → Stand p l e R s m args below meth c T locs cells slots →
    (∃ (v : Option Value) (st₀ t T' : State) (L : List Loc), st₀.heap = H ∧ Stand p l e R s m args below meth c T' (locs ++ L) (cells + mc) (slots + ms) ∧ (∀ q ∈ L, free q.base) ∧ T'.heap = t.heap ∧ T'.vm = t.vm ∧ Qa st₀ (.returned v) t ∧
      Goes p e below T g T' { g with pc := g.pc + 3, stack := v.toList ++ rest }) ∨
    (∃ (q : Addr) (st₀ t T' : State) (L : List Loc) (E : String) (ce : Cell), st₀.heap = H ∧ Stand p l e R s m args below meth c T' (locs ++ L) (cells + mc) (slots + ms) ∧ (∀ z ∈ L, free z.base) ∧ T'.heap = t.heap ∧ T'.vm = t.vm ∧ XC E st₀ t ∧ t.heap[q]? = some ce ∧ ce.vm = .none ∧ s.vm.findClass E = some ce.cls ∧
      Steps p.tables e below (T.setTop g) ((T'.setTop { g with stack := rest }).pushFrame (.throwing q)))
def vx_X {S : Type} (px : S → Prop) (B : String → S → State → Prop) (A : Nat → Prop) : String → State → State → Prop := fun E st t => ∃ u : S, px u ∧ B E u t ∧ va_F A st t
section Runs
variable {p : Program} {l : Launch} {e : Env} {R : Room} {s : State} {m : MethodId} {args : Array Value} {below : List Frame} {meth : Method} {c : Code} {H : Heap} {locs : List Loc} {cells slots : Nat}
variable {y : MethodName} {bytes cc : ByteArray} {maxL nL mc ms n index : Nat} {ret : Option FieldType} {ws : List Cond} {rm : Room} {Pc : Array Value → State → Prop} {Qc : Array Value → State → Outcome → State → Prop} {XC : String → State → State → Prop} {free : Addr → Prop} {Ts : List Cond} {own C : String} {b : Addr} {As rest : List Value} {g : JFrame}
theorem vx_callBack (cb : CallB R s args own index y bytes maxL ret ws rm mc ms n) (hM : vx_Met l y ws rm Pc Qc XC mc ms free) (hbl : FrameBlind Pc) : vx_Back l R p e below s args y 3 8 (PreOf R mc ms Pc) (PostOf Qc mc ms free) (vx_Post XC mc ms free) := by
  obtain ⟨hrc, hrs, hfr, hlo, hws, hcw, -, hini, -⟩ := cb
  exact vx_back (bytes := bytes) (maxL := maxL) (ret := ret) hM hbl hrc hrs hfr hlo hws hcw (fun a' U hW => word_at hW (Or.inl (by first | rfl | simp [Cond.onTables, Cond.keeps, Cond.steady])) hini)
theorem vx_runV (S : CallFix p m c cc nL s args Ts own) (hM : vx_Met l y ws rm Pc Qc XC mc ms free) (cw : CallW R s args own C index y bytes maxL ret ws rm mc ms n) (hp : PreV s H C b Pc As)
    (hg : g.method = m) (hn : As.length = n) (hsize : g.locals.size = nL) (hstack : g.stack = As.reverse ++ .ref b :: rest) (hW : 2 * g.monitorRoom + (rest.map fun v => v.category).sum ≤ 8) (hdg : decode cc g.pc = .ok (.invokevirtual index, 3)) (hf : cells + mc ≤ R.cells ∧ slots + ms ≤ R.slots) :
    vx_Run p l e R s m args below meth c H locs cells slots mc ms g rest (Qc (Value.ref b :: As).toArray) XC free := by
  have hK : vx_Back l R p e below s args y 3 8 (PreOf R mc ms Pc) (PostOf Qc mc ms free) (vx_Post XC mc ms free) := vx_callBack cw.1 hM hp.1
  obtain ⟨⟨-, -, -, -, -, -, hcode, -, hy, hlen, hl⟩, hin, hse⟩ := cw
  obtain ⟨hx, hb, hml, ho, -⟩ := S
  obtain ⟨-, ⟨cellB, hcB, hoB, hclB⟩, hPc⟩ := hp
  intro T hT X
  rcases vx_callV X hx (C := C) (bytes := bytes) (maxL := maxL) (ret := ret) ho hl hin hse hcode hy hK (by rw [hT]; exact hcB) hoB hclB hg (hsize.trans hml.symm) (argsL := As) (rest := rest) (fun sig h => hn.trans (hlen sig h)) hstack hW (by rw [hb]; exact hdg)
    (fun vm₁ hW₁ => ⟨hf.1, hf.2, hPc (T.setVm vm₁) hT hW₁⟩) with ⟨v, vm₁, ⟨U', l2, c2, s2⟩, hW₁, X', ⟨g', mk, t, L, e1, e2, hq, h1, hL, h2, h3⟩, st⟩ | ⟨q, vm₁, ⟨U', l2, c2, s2⟩, hW₁, X', ⟨g', mk, t, L, E, ce, e1, e2, hq, hce, hcv, hcl, h1, hL, h2, h3⟩, st⟩
  · dsimp only [Pt.U, Pt.locs, Pt.cells, Pt.slots] at X' e1 e2 h1 h2 h3 st
    subst h1; subst h2; subst h3
    exact Or.inl ⟨v, (T.setVm vm₁).calling g' mk (Value.ref b :: As).toArray, t, U', L, hT, X', hL, e1, e2, hq, st⟩
  · dsimp only [Pt.U, Pt.locs, Pt.cells, Pt.slots] at X' e1 e2 h1 h2 h3 st hcl
    subst h1; subst h2; subst h3
    exact Or.inr ⟨q, (T.setVm vm₁).calling g' mk (Value.ref b :: As).toArray, t, U', L, E, ce, hT, X', hL, e1, e2, hq, hce, hcv, vx_cls hW₁ hcl, st⟩
theorem vx_runS (S : CallFix p m c cc nL s args Ts own) (hM : vx_Met l y ws rm Pc Qc XC mc ms free) (cw : CallB R s args own index y bytes maxL ret ws rm mc ms n ∧ (Cond.static y).before args s = true) (hp : PreS s H Pc As)
    (hg : g.method = m) (hn : As.length = n) (hsize : g.locals.size = nL) (hstack : g.stack = As.reverse ++ rest) (hW : 2 * g.monitorRoom + (rest.map fun v => v.category).sum ≤ 8) (hdg : decode cc g.pc = .ok (.invokestatic index, 3)) (hf : cells + mc ≤ R.cells ∧ slots + ms ≤ R.slots) :
    vx_Run p l e R s m args below meth c H locs cells slots mc ms g rest (Qc As.toArray) XC free := by
  have hK : vx_Back l R p e below s args y 3 8 (PreOf R mc ms Pc) (PostOf Qc mc ms free) (vx_Post XC mc ms free) := vx_callBack cw.1 hM hp.1
  obtain ⟨⟨-, -, -, -, -, -, hcode, hini, hy, hlen, hl⟩, hstt⟩ := cw
  obtain ⟨hx, hb, hml, ho, -⟩ := S
  intro T hT X
  rcases vx_callS X hx (bytes := bytes) (maxL := maxL) (ret := ret) ho hl hstt hini hcode hy hK hg (hsize.trans hml.symm) (argsL := As) (rest := rest) (fun sig h => hn.trans (hlen sig h)) hstack hW (by rw [hb]; exact hdg)
    (fun vm₁ hW₁ => ⟨hf.1, hf.2, hp.2 (T.setVm vm₁) hT hW₁⟩) with ⟨v, vm₁, ⟨U', l2, c2, s2⟩, hW₁, X', ⟨g', mk, t, L, e1, e2, hq, h1, hL, h2, h3⟩, st⟩ | ⟨q, vm₁, ⟨U', l2, c2, s2⟩, hW₁, X', ⟨g', mk, t, L, E, ce, e1, e2, hq, hce, hcv, hcl, h1, hL, h2, h3⟩, st⟩
  · dsimp only [Pt.U, Pt.locs, Pt.cells, Pt.slots] at X' e1 e2 h1 h2 h3 st
    subst h1; subst h2; subst h3
    exact Or.inl ⟨v, (T.setVm vm₁).calling g' mk As.toArray, t, U', L, hT, X', hL, e1, e2, hq, st⟩
  · dsimp only [Pt.U, Pt.locs, Pt.cells, Pt.slots] at X' e1 e2 h1 h2 h3 st hcl
    subst h1; subst h2; subst h3
    exact Or.inr ⟨q, (T.setVm vm₁).calling g' mk As.toArray, t, U', L, E, ce, hT, X', hL, e1, e2, hq, hce, hcv, vx_cls hW₁ hcl, st⟩
end Runs
section Rows
variable {p : Program} {l : Launch} {e : Env} {R : Room} {s : State} {m : MethodId} {args : Array Value} {below : List Frame} {meth : Method} {c : Code} {H : Heap} {locs : List Loc} {cells slots : Nat} {Q : State → Prop}
variable {mc ms : Nat} {free : Addr → Prop} {A0 A1 : Nat → Prop} {H0 : Heap} {a : Array Value} {pc : Nat} {ls : Array Slot} {st0 rest : List Value}
theorem vx_keep {st₀ t T' : State} {L : List Loc} (h0 : st₀.heap = H) (e1 : T'.heap = t.heap) (hS : va_S A0 H0 H locs) (hA : ∀ q, q < H.size → A1 q → A0 q) (hf : ∀ q, free q → A0 q) (hL : ∀ q ∈ L, free q.base) (hF : va_F A1 st₀ t) :
    H.size ≤ T'.heap.size ∧ (∀ q : Nat, q < H.size → ¬ A1 q → T'.heap[q]? = H[q]?) ∧ va_S A0 H0 T'.heap (locs ++ L) := by
  obtain ⟨hz, hk⟩ := hF
  rw [h0] at hz hk
  exact ⟨by rw [e1]; exact hz, fun q h1 h2 => by rw [e1]; exact hk q h1 h2,
    ⟨Nat.le_trans hS.1 (by rw [e1]; exact hz), fun q h1 h2 => by rw [e1, hk q (Nat.lt_of_lt_of_le h1 hS.1) (fun z => h2 (hA q (Nat.lt_of_lt_of_le h1 hS.1) z))]; exact hS.2.1 q h1 h2, fun q hq => by
      rcases List.mem_append.mp hq with h | h
      · exact hS.2.2 q h
      · exact hf _ (hL q h)⟩⟩
theorem vx_calli {S SX : Type} {post : Int32 → S → Prop} {px : SX → Prop} {B : S → State → Prop} {BX : String → SX → State → Prop} {AX : Nat → Prop} (hr : vx_Run p l e R s m args below meth c H locs cells slots mc ms (F0 m pc ls st0) rest (va_Qi post B A1 a) (vx_X px BX AX) free) (hS : va_S A0 H0 H locs) (hA : ∀ q, q < H.size → A1 q → A0 q) (hf : ∀ q, free q → A0 q) (hAX : ∀ q, q < H.size → AX q → A0 q)
    (kx : ∀ (E : String) (ce : Cell) (q9 : Addr) (u : SX) (t : State) (H1 : Heap) (locs1 : List Loc), t.heap = H1 → s.vm.Alike t.vm → px u → BX E u t → H.size ≤ H1.size → (∀ q : Nat, q < H.size → ¬ AX q → H1[q]? = H[q]?) → va_S A0 H0 H1 locs1 → H1[q9]? = some ce → ce.vm = .none → s.vm.findClass E = some ce.cls → vx_W p l e R s m args below meth c H1 locs1 (cells + mc) (slots + ms) Q (F0 m pc ls rest) q9)
    (kk : ∀ (r : Int32) (u : S) (t : State) (H1 : Heap) (locs1 : List Loc), t.heap = H1 → s.vm.Alike t.vm → post r u → B u t → H.size ≤ H1.size → (∀ q : Nat, q < H.size → ¬ A1 q → H1[q]? = H[q]?) → va_S A0 H0 H1 locs1 → W p l e R s m args below meth c H1 locs1 (cells + mc) (slots + ms) Q (F0 m (pc + 3) ls (.int r :: rest))) : W p l e R s m args below meth c H locs cells slots Q (F0 m pc ls st0) := by
  intro T hT X
  rcases hr T hT X with ⟨v, st₀, t, T', L, h0, X', hL, e1, e2, ⟨⟨r, u, hv, hp, hb⟩, hF⟩, st⟩ | ⟨q, st₀, t, T', L, E, ce, h0, X', hL, e1, e2, ⟨u, hp, hb, hF⟩, hce, hcv, hcl, st⟩
  · cases hv
    obtain ⟨k1, k2, k3⟩ := vx_keep h0 e1 hS hA hf hL hF
    obtain ⟨t2, a1, b1⟩ := kk r u t T'.heap (locs ++ L) e1.symm (by rw [← e2]; exact X'.warmed.alike) hp hb k1 k2 k3 T' rfl X'
    exact ⟨t2, st t2 a1, b1⟩
  · obtain ⟨k1, k2, k3⟩ := vx_keep h0 e1 hS hAX hf hL hF
    obtain ⟨t2, a1, b1⟩ := kx E ce q u t T'.heap (locs ++ L) e1.symm (by rw [← e2]; exact X'.warmed.alike) hp hb k1 k2 k3 (by rw [e1]; exact hce) hcv hcl T' rfl X'
    exact ⟨t2, st.trans a1, b1⟩
theorem vx_calll {S SX : Type} {post : Int64 → S → Prop} {px : SX → Prop} {B : S → State → Prop} {BX : String → SX → State → Prop} {AX : Nat → Prop} (hr : vx_Run p l e R s m args below meth c H locs cells slots mc ms (F0 m pc ls st0) rest (va_Ql post B A1 a) (vx_X px BX AX) free) (hS : va_S A0 H0 H locs) (hA : ∀ q, q < H.size → A1 q → A0 q) (hf : ∀ q, free q → A0 q) (hAX : ∀ q, q < H.size → AX q → A0 q)
    (kx : ∀ (E : String) (ce : Cell) (q9 : Addr) (u : SX) (t : State) (H1 : Heap) (locs1 : List Loc), t.heap = H1 → s.vm.Alike t.vm → px u → BX E u t → H.size ≤ H1.size → (∀ q : Nat, q < H.size → ¬ AX q → H1[q]? = H[q]?) → va_S A0 H0 H1 locs1 → H1[q9]? = some ce → ce.vm = .none → s.vm.findClass E = some ce.cls → vx_W p l e R s m args below meth c H1 locs1 (cells + mc) (slots + ms) Q (F0 m pc ls rest) q9)
    (kk : ∀ (r : Int64) (u : S) (t : State) (H1 : Heap) (locs1 : List Loc), t.heap = H1 → s.vm.Alike t.vm → post r u → B u t → H.size ≤ H1.size → (∀ q : Nat, q < H.size → ¬ A1 q → H1[q]? = H[q]?) → va_S A0 H0 H1 locs1 → W p l e R s m args below meth c H1 locs1 (cells + mc) (slots + ms) Q (F0 m (pc + 3) ls (.long r :: rest))) : W p l e R s m args below meth c H locs cells slots Q (F0 m pc ls st0) := by
  intro T hT X
  rcases hr T hT X with ⟨v, st₀, t, T', L, h0, X', hL, e1, e2, ⟨⟨r, u, hv, hp, hb⟩, hF⟩, st⟩ | ⟨q, st₀, t, T', L, E, ce, h0, X', hL, e1, e2, ⟨u, hp, hb, hF⟩, hce, hcv, hcl, st⟩
  · cases hv
    obtain ⟨k1, k2, k3⟩ := vx_keep h0 e1 hS hA hf hL hF
    obtain ⟨t2, a1, b1⟩ := kk r u t T'.heap (locs ++ L) e1.symm (by rw [← e2]; exact X'.warmed.alike) hp hb k1 k2 k3 T' rfl X'
    exact ⟨t2, st t2 a1, b1⟩
  · obtain ⟨k1, k2, k3⟩ := vx_keep h0 e1 hS hAX hf hL hF
    obtain ⟨t2, a1, b1⟩ := kx E ce q u t T'.heap (locs ++ L) e1.symm (by rw [← e2]; exact X'.warmed.alike) hp hb k1 k2 k3 (by rw [e1]; exact hce) hcv hcl T' rfl X'
    exact ⟨t2, st.trans a1, b1⟩
theorem vx_callf {S SX : Type} {post : UInt32 → S → Prop} {px : SX → Prop} {B : S → State → Prop} {BX : String → SX → State → Prop} {AX : Nat → Prop} (hr : vx_Run p l e R s m args below meth c H locs cells slots mc ms (F0 m pc ls st0) rest (va_Qf post B A1 a) (vx_X px BX AX) free) (hS : va_S A0 H0 H locs) (hA : ∀ q, q < H.size → A1 q → A0 q) (hf : ∀ q, free q → A0 q) (hAX : ∀ q, q < H.size → AX q → A0 q)
    (kx : ∀ (E : String) (ce : Cell) (q9 : Addr) (u : SX) (t : State) (H1 : Heap) (locs1 : List Loc), t.heap = H1 → s.vm.Alike t.vm → px u → BX E u t → H.size ≤ H1.size → (∀ q : Nat, q < H.size → ¬ AX q → H1[q]? = H[q]?) → va_S A0 H0 H1 locs1 → H1[q9]? = some ce → ce.vm = .none → s.vm.findClass E = some ce.cls → vx_W p l e R s m args below meth c H1 locs1 (cells + mc) (slots + ms) Q (F0 m pc ls rest) q9)
    (kk : ∀ (r : UInt32) (u : S) (t : State) (H1 : Heap) (locs1 : List Loc), t.heap = H1 → s.vm.Alike t.vm → post r u → B u t → H.size ≤ H1.size → (∀ q : Nat, q < H.size → ¬ A1 q → H1[q]? = H[q]?) → va_S A0 H0 H1 locs1 → W p l e R s m args below meth c H1 locs1 (cells + mc) (slots + ms) Q (F0 m (pc + 3) ls (.float r :: rest))) : W p l e R s m args below meth c H locs cells slots Q (F0 m pc ls st0) := by
  intro T hT X
  rcases hr T hT X with ⟨v, st₀, t, T', L, h0, X', hL, e1, e2, ⟨⟨r, u, hv, hp, hb⟩, hF⟩, st⟩ | ⟨q, st₀, t, T', L, E, ce, h0, X', hL, e1, e2, ⟨u, hp, hb, hF⟩, hce, hcv, hcl, st⟩
  · cases hv
    obtain ⟨k1, k2, k3⟩ := vx_keep h0 e1 hS hA hf hL hF
    obtain ⟨t2, a1, b1⟩ := kk r u t T'.heap (locs ++ L) e1.symm (by rw [← e2]; exact X'.warmed.alike) hp hb k1 k2 k3 T' rfl X'
    exact ⟨t2, st t2 a1, b1⟩
  · obtain ⟨k1, k2, k3⟩ := vx_keep h0 e1 hS hAX hf hL hF
    obtain ⟨t2, a1, b1⟩ := kx E ce q u t T'.heap (locs ++ L) e1.symm (by rw [← e2]; exact X'.warmed.alike) hp hb k1 k2 k3 (by rw [e1]; exact hce) hcv hcl T' rfl X'
    exact ⟨t2, st.trans a1, b1⟩
theorem vx_calld {S SX : Type} {post : UInt64 → S → Prop} {px : SX → Prop} {B : S → State → Prop} {BX : String → SX → State → Prop} {AX : Nat → Prop} (hr : vx_Run p l e R s m args below meth c H locs cells slots mc ms (F0 m pc ls st0) rest (va_Qd post B A1 a) (vx_X px BX AX) free) (hS : va_S A0 H0 H locs) (hA : ∀ q, q < H.size → A1 q → A0 q) (hf : ∀ q, free q → A0 q) (hAX : ∀ q, q < H.size → AX q → A0 q)
    (kx : ∀ (E : String) (ce : Cell) (q9 : Addr) (u : SX) (t : State) (H1 : Heap) (locs1 : List Loc), t.heap = H1 → s.vm.Alike t.vm → px u → BX E u t → H.size ≤ H1.size → (∀ q : Nat, q < H.size → ¬ AX q → H1[q]? = H[q]?) → va_S A0 H0 H1 locs1 → H1[q9]? = some ce → ce.vm = .none → s.vm.findClass E = some ce.cls → vx_W p l e R s m args below meth c H1 locs1 (cells + mc) (slots + ms) Q (F0 m pc ls rest) q9)
    (kk : ∀ (r : UInt64) (u : S) (t : State) (H1 : Heap) (locs1 : List Loc), t.heap = H1 → s.vm.Alike t.vm → post r u → B u t → H.size ≤ H1.size → (∀ q : Nat, q < H.size → ¬ A1 q → H1[q]? = H[q]?) → va_S A0 H0 H1 locs1 → W p l e R s m args below meth c H1 locs1 (cells + mc) (slots + ms) Q (F0 m (pc + 3) ls (.double r :: rest))) : W p l e R s m args below meth c H locs cells slots Q (F0 m pc ls st0) := by
  intro T hT X
  rcases hr T hT X with ⟨v, st₀, t, T', L, h0, X', hL, e1, e2, ⟨⟨r, u, hv, hp, hb⟩, hF⟩, st⟩ | ⟨q, st₀, t, T', L, E, ce, h0, X', hL, e1, e2, ⟨u, hp, hb, hF⟩, hce, hcv, hcl, st⟩
  · cases hv
    obtain ⟨k1, k2, k3⟩ := vx_keep h0 e1 hS hA hf hL hF
    obtain ⟨t2, a1, b1⟩ := kk r u t T'.heap (locs ++ L) e1.symm (by rw [← e2]; exact X'.warmed.alike) hp hb k1 k2 k3 T' rfl X'
    exact ⟨t2, st t2 a1, b1⟩
  · obtain ⟨k1, k2, k3⟩ := vx_keep h0 e1 hS hAX hf hL hF
    obtain ⟨t2, a1, b1⟩ := kx E ce q u t T'.heap (locs ++ L) e1.symm (by rw [← e2]; exact X'.warmed.alike) hp hb k1 k2 k3 (by rw [e1]; exact hce) hcv hcl T' rfl X'
    exact ⟨t2, st.trans a1, b1⟩
theorem vx_callv {S SX : Type} {post : S → Prop} {px : SX → Prop} {B : S → State → Prop} {BX : String → SX → State → Prop} {AX : Nat → Prop} (hr : vx_Run p l e R s m args below meth c H locs cells slots mc ms (F0 m pc ls st0) rest (va_Qv post B A1 a) (vx_X px BX AX) free) (hS : va_S A0 H0 H locs) (hA : ∀ q, q < H.size → A1 q → A0 q) (hf : ∀ q, free q → A0 q) (hAX : ∀ q, q < H.size → AX q → A0 q)
    (kx : ∀ (E : String) (ce : Cell) (q9 : Addr) (u : SX) (t : State) (H1 : Heap) (locs1 : List Loc), t.heap = H1 → s.vm.Alike t.vm → px u → BX E u t → H.size ≤ H1.size → (∀ q : Nat, q < H.size → ¬ AX q → H1[q]? = H[q]?) → va_S A0 H0 H1 locs1 → H1[q9]? = some ce → ce.vm = .none → s.vm.findClass E = some ce.cls → vx_W p l e R s m args below meth c H1 locs1 (cells + mc) (slots + ms) Q (F0 m pc ls rest) q9)
    (kk : ∀ (u : S) (t : State) (H1 : Heap) (locs1 : List Loc), t.heap = H1 → s.vm.Alike t.vm → post u → B u t → H.size ≤ H1.size → (∀ q : Nat, q < H.size → ¬ A1 q → H1[q]? = H[q]?) → va_S A0 H0 H1 locs1 → W p l e R s m args below meth c H1 locs1 (cells + mc) (slots + ms) Q (F0 m (pc + 3) ls (rest))) : W p l e R s m args below meth c H locs cells slots Q (F0 m pc ls st0) := by
  intro T hT X
  rcases hr T hT X with ⟨v, st₀, t, T', L, h0, X', hL, e1, e2, ⟨⟨u, hv, hp, hb⟩, hF⟩, st⟩ | ⟨q, st₀, t, T', L, E, ce, h0, X', hL, e1, e2, ⟨u, hp, hb, hF⟩, hce, hcv, hcl, st⟩
  · cases hv
    obtain ⟨k1, k2, k3⟩ := vx_keep h0 e1 hS hA hf hL hF
    obtain ⟨t2, a1, b1⟩ := kk u t T'.heap (locs ++ L) e1.symm (by rw [← e2]; exact X'.warmed.alike) hp hb k1 k2 k3 T' rfl X'
    exact ⟨t2, st t2 a1, b1⟩
  · obtain ⟨k1, k2, k3⟩ := vx_keep h0 e1 hS hAX hf hL hF
    obtain ⟨t2, a1, b1⟩ := kx E ce q u t T'.heap (locs ++ L) e1.symm (by rw [← e2]; exact X'.warmed.alike) hp hb k1 k2 k3 (by rw [e1]; exact hce) hcv hcl T' rfl X'
    exact ⟨t2, st.trans a1, b1⟩
/-- caught by the row x of this method's table; the rows ahead don't take it -/
theorem vx_catch {own name : String} {E : String} {ce : Cell} {q : Addr} (hown : s.vm.findClass own = some m.cls) (pre : List ExceptionTableEntry) (x : ExceptionTableEntry) (suf : List ExceptionTableEntry) (hsplit : c.exceptionTable.toList = pre ++ x :: suf)
    (hpass : ∀ z ∈ pre, covers z pc = false ∨ (z.catchType ≠ 0 ∧ ∃ nm : String, (Cond.classLink own z.catchType nm).before args s = true ∧ va_Nc E nm s)) (hx : covers x pc = true) (h0 : x.catchType ≠ 0)
    (hlink : (Cond.classLink own x.catchType name).before args s = true) (hcast : (Cond.castable E name).before args s = true) (hcell : H[q]? = some ce) (hv : ce.vm = .none) (hcl : s.vm.findClass E = some ce.cls)
    (kk : W p l e R s m args below meth c H locs cells slots Q (F0 m x.handlerPc ls [.ref q])) : vx_W p l e R s m args below meth c H locs cells slots Q (F0 m pc ls rest) q := by
  intro T hT X
  have hpl : e.platform.magicAccessors = ({} : Platform).magicAccessors := by rw [X.admits.platform]
  obtain ⟨c3, c4, hc3, hc4, hasg⟩ := Cond.castable_spec hcast
  cases Option.some.inj (hc3.symm.trans hcl)
  obtain ⟨c5, hc5, hcl5⟩ := Cond.classLink_spec hown hlink e.platform hpl
  cases Option.some.inj (hc4.symm.trans hc5)
  obtain ⟨vm', X', st⟩ := X.thenCaughtThrough q (g := F0 m pc ls rest) rfl (Steps.refl _) (by rw [hT]; exact hcell) (by rw [hv]; rfl) (by obtain ⟨k9, h9, -⟩ := Vm.findClass_spec hcl; exact ⟨k9, h9⟩) pre x suf hsplit
    (fun z hz => by
      rcases hpass z hz with h | ⟨hz0, nm, hl1, hn1⟩
      · exact Or.inl h
      · obtain ⟨c6, hc6, hcl6⟩ := Cond.classLink_spec hown hl1 e.platform hpl
        obtain ⟨a8, b8, h1, h2, h3⟩ := hn1
        cases Option.some.inj (h1.symm.trans hcl)
        cases Option.some.inj (h2.symm.trans hc6)
        exact Or.inr ⟨hz0, _, hcl6, h3⟩) hx (Or.inr ⟨h0, c4, hcl5, hasg⟩)
  obtain ⟨t, a1, b1⟩ := kk (T.setVm vm') hT X'
  exact ⟨t, st.trans a1, b1⟩
end Rows
section Ends
variable {p : Program} {l : Launch} {e : Env} {R : Room} {s : State} {m : MethodId} {args : Array Value} {below : List Frame} {meth : Method} {c : Code} {H : Heap} {locs : List Loc} {cells slots : Nat} {Q : State → Prop}
variable {mc ms : Nat} {free : Addr → Prop} {A0 A1 : Nat → Prop} {H0 : Heap} {a : Array Value} {ls : Array Slot} {st0 rest : List Value}
variable {Qc : Array Value → State → Outcome → State → Prop} {XC : String → State → State → Prop}
/-- what a body that may throw owes at its end -/
def vx_MQ (below : List Frame) (Qc : Array Value → State → Outcome → State → Prop) (XC : String → State → State → Prop) (a : Array Value) (s : State) (mc ms : Nat) (free : Addr → Prop) : State → Prop := fun t =>
  ∃ o, t.status = .running ∧ Ended t below o ∧ vx_Q Qc XC mc ms free a s o t
theorem vx_ret {g : JFrame} {mc ms : Nat} (k : W p l e R s m args below meth c H locs cells slots (MQ below Qc args s mc ms free) g) : W p l e R s m args below meth c H locs cells slots (vx_MQ below Qc XC args s mc ms free) g := by
  intro T hT X
  obtain ⟨t, a1, o, b1, b2, b3, b4⟩ := k T hT X
  exact ⟨t, a1, o, b1, b2, Or.inl ⟨b3, b4⟩⟩
/-- not caught here: it goes on to the caller -/
theorem vx_widen {g : JFrame} {q : Addr} {k n : Nat} (h1 : cells ≤ k) (h2 : slots ≤ n) (kk : vx_W p l e R s m args below meth c H locs k n Q g q) : vx_W p l e R s m args below meth c H locs cells slots Q g q := fun T hT X => kk T hT (stand_widen X h1 h2)
theorem vx_out {pc : Nat} {E : String} {ce : Cell} {q : Addr} {mc ms : Nat} (hout : ∀ x ∈ c.exceptionTable.toList, covers x pc = false) (hlocks : meth.locks = false) (hcell : H[q]? = some ce) (hv : ce.vm = .none) (hcl : s.vm.findClass E = some ce.cls)
    (hx : ∀ t : State, t.heap = H → s.vm.Alike t.vm → XC E s t) (hf : ∀ z ∈ locs, free z.base) (hc : cells ≤ mc) (hs : slots ≤ ms) :
    vx_W p l e R s m args below meth c H locs cells slots (vx_MQ below Qc XC args s mc ms free) (F0 m pc ls rest) q := by
  intro T hT X
  obtain ⟨st1, hrun, hend, hW, hsm⟩ := X.leaveThrown q (g := F0 m pc ls rest) rfl rfl rfl hout hlocks
  have hcell9 : (T.setFrames (.throwing q :: below)).heap[q]? = some ce := by
    show T.heap[q]? = some ce
    rw [hT]; exact hcell
  exact ⟨_, st1, .threw q, hrun, hend, Or.inr ⟨q, rfl, E, ce, locs, hx _ hT hW.alike, hcell9, hv, hcl, hW, hsm.mono hc hs, hf⟩⟩
theorem vx_frame {U : State} {k n : Nat} (h : s.sameButNew ({ U with vm := s.vm } : State) locs k n) : s.heap.size ≤ U.heap.size ∧ ∀ q : Nat, q < s.heap.size → (∀ z ∈ locs, z.base ≠ q) → U.heap[q]? = s.heap[q]? := by
  obtain ⟨-, h2, -, -, -, h6⟩ := h
  refine ⟨h2, fun q hq hz => ?_⟩
  obtain ⟨c9, e1, e2, e3, e4⟩ := h6 q _ (Array.getElem?_eq_getElem hq)
  have hs : c9.slots = (s.heap[q]).slots := Array.ext_getElem? fun i => e4 i fun hm => hz _ hm rfl
  have h9 : c9 = s.heap[q] := by
    rw [hs] at e2
    exact e2
  have e5 : U.heap[q]? = some c9 := e1
  rw [e5, h9, Array.getElem?_eq_getElem hq]
/-- the words of a throw but the four that speak of the heap -/
def vx_no (w : Cond) : Bool := decide (w ≠ .isRef (.static Bundle.tN "UNASSIGNED_STACK" Bundle.steD)) && decide (w ≠ .isRef (.static Bundle.tN "SUPPRESSED_SENTINEL" Bundle.listD)) && decide (w ≠ .laysStatic Bundle.tN "UNASSIGNED_STACK" Bundle.steD) && decide (w ≠ .laysStatic Bundle.tN "SUPPRESSED_SENTINEL" Bundle.listD)
def vx_at0 (own : String) (ic : Nat) (X : String) (names : List String) : List Cond := (Bundle.ownAtoms0 own ic X names).filter vx_no
def vx_atS (own : String) (ic : Nat) (X : String) (names : List String) : List Cond := (Bundle.ownAtoms own ic X names).filter vx_no
/-- a word that the tables alone decide, or a good one -/
def vx_ot (w : Cond) : Bool := w.onTables || goodWord w
theorem vx_ot_at {args a' : Array Value} {s U : State} {w : Cond} (hW : s.WarmedH U.vm) (hvm : s.vm = U.vm) (hg : vx_ot w = true) (h : w.before args s = true) : w.before a' U = true := by
  simp only [vx_ot, Bool.or_eq_true] at hg
  rcases hg with hg | hg
  · exact va_tabs hg hvm h
  · exact word_at hW (good_of_word hg) h
/-- a list's words: the good ones out of the method's own list, the others by premises of their own -/
theorem vx_hat {args : Array Value} {s : State} {L B : List Cond} (h1 : ∀ w ∈ L.filter goodWord, w.before args s = true) (h2 : ∀ w ∈ L.filter (fun w => !goodWord w), w ∈ B) (h3 : ∀ w ∈ B, w.before args s = true) : ∀ w ∈ L, w.before args s = true := by
  intro w hw
  by_cases g : goodWord w = true
  · exact h1 w (List.mem_filter.mpr ⟨hw, g⟩)
  · refine h3 w (h2 w (List.mem_filter.mpr ⟨hw, ?_⟩))
    show (!goodWord w) = true
    cases hgw : goodWord w
    · rfl
    · exact absurd hgw g
theorem vx_c {args : Array Value} {s : State} {w : Cond} {B : List Cond} (h : w.before args s = true) (t : ∀ w ∈ B, w.before args s = true) : ∀ w' ∈ w :: B, w'.before args s = true := fun w' h' => (List.mem_cons.mp h').elim (fun e => by rw [e]; exact h) (t w')
theorem vx_n {args : Array Value} {s : State} : ∀ w ∈ ([] : List Cond), w.before args s = true := fun _ h => nomatch h
theorem vx_own {args : Array Value} {s : State} {L : List Cond} (h1 : ∀ w ∈ L.filter vx_no, w.before args s = true)
    (hU : (Cond.isRef (.static Bundle.tN "UNASSIGNED_STACK" Bundle.steD)).before args s = true) (hN : (Cond.isRef (.static Bundle.tN "SUPPRESSED_SENTINEL" Bundle.listD)).before args s = true)
    (lU : (Cond.laysStatic Bundle.tN "UNASSIGNED_STACK" Bundle.steD).before args s = true) (lN : (Cond.laysStatic Bundle.tN "SUPPRESSED_SENTINEL" Bundle.listD).before args s = true) : ∀ w ∈ L, w.before args s = true := by
  intro w hw
  by_cases e1 : w = .isRef (.static Bundle.tN "UNASSIGNED_STACK" Bundle.steD)
  · rw [e1]; exact hU
  · by_cases e2 : w = .isRef (.static Bundle.tN "SUPPRESSED_SENTINEL" Bundle.listD)
    · rw [e2]; exact hN
    · by_cases e3 : w = .laysStatic Bundle.tN "UNASSIGNED_STACK" Bundle.steD
      · rw [e3]; exact lU
      · by_cases e4 : w = .laysStatic Bundle.tN "SUPPRESSED_SENTINEL" Bundle.listD
        · rw [e4]; exact lN
        · exact h1 w (List.mem_filter.mpr ⟨hw, by unfold vx_no; rw [decide_eq_true e1, decide_eq_true e2, decide_eq_true e3, decide_eq_true e4]; rfl⟩)
/-- where a static field lies, its class's statics cell in H -/
def vx_L (C n d : String) (A : Nat → Prop) (U : State) (H : Heap) : Prop := ∃ (c : ClassId) (k : Class) (i : Nat) (f : Field) (a : Nat) (cell : Cell), U.vm.findClass C = some c ∧ U.fieldFound? C n d = some (c, k, i, f) ∧ f.isStatic = true ∧ k.statics = some a ∧ H[a]? = some cell ∧ cell.vm.isStatics = true ∧ cell.cls = c ∧ f.slot < cell.slots.size ∧ k.staticTypes[f.slot]? = some f.type ∧ ¬ A a
theorem vx_L.moved {C n d : String} {A : Nat → Prop} {u U : State} {H : Heap} (hvm : u.vm.Alike U.vm) (h : vx_L C n d A u H) : vx_L C n d A U H := by
  obtain ⟨c, k, i, f, a, cell, h1, h2, h3, h4, h5, h6, h7, h8, h9, h10⟩ := h
  obtain ⟨k', hi', he⟩ := State.fieldFound?_setVm hvm h2
  exact ⟨c, k', i, f, a, cell, by rw [hvm.findClass]; exact h1, hi', h3, by rw [he]; exact h4, h5, h6, h7, h8, by rw [he]; exact h9, h10⟩
theorem vx_L.kept {C n d : String} {A : Nat → Prop} {U : State} {H H1 : Heap} (h : vx_L C n d A U H) (hq : ∀ a : Nat, a < H.size → ¬ A a → H1[a]? = H[a]?) : vx_L C n d A U H1 := by
  obtain ⟨c, k, i, f, a, cell, h1, h2, h3, h4, h5, h6, h7, h8, h9, h10⟩ := h
  exact ⟨c, k, i, f, a, cell, h1, h2, h3, h4, by rw [hq a (Array.getElem?_eq_some_iff.mp h5).1 h10]; exact h5, h6, h7, h8, h9, h10⟩
theorem vx_L.narrow {C n d : String} {A B : Nat → Prop} {U : State} {H : Heap} (h : vx_L C n d A U H) (hAB : ∀ q, B q → A q) : vx_L C n d B U H := by
  obtain ⟨c, k, i, f, a, cell, h1, h2, h3, h4, h5, h6, h7, h8, h9, h10⟩ := h
  exact ⟨c, k, i, f, a, cell, h1, h2, h3, h4, h5, h6, h7, h8, h9, fun z => h10 (hAB _ z)⟩
theorem vx_L.word {C n d : String} {A : Nat → Prop} {s : State} {args : Array Value} (h : vx_L C n d A s s.heap) : (Cond.laysStatic C n d).before args s = true := by
  obtain ⟨c, k, i, f, a, cell, h1, h2, h3, h4, h5, h6, h7, h8, h9, -⟩ := h
  show (Cond.laysStatic C n d).holds args s none s [] = true
  exact Cond.laysStatic_of h1 h2 h3 h4 h5 h6 h7 h8 h9
/-- .. and what it holds: null or some reference -/
def vx_Zq (C n d : String) (A : Nat → Prop) (U : State) (H : Heap) : Prop := va_Zq C n d A U H ∧ vx_L C n d A U H
theorem vx_Zq.moved {C n d : String} {A : Nat → Prop} {u U : State} {H : Heap} (hvm : u.vm.Alike U.vm) (h : vx_Zq C n d A u H) : vx_Zq C n d A U H := ⟨va_Zq.moved hvm h.1, vx_L.moved hvm h.2⟩
theorem vx_Zq.kept {C n d : String} {A : Nat → Prop} {U : State} {H H1 : Heap} (h : vx_Zq C n d A U H) (hq : ∀ a : Nat, a < H.size → ¬ A a → H1[a]? = H[a]?) : vx_Zq C n d A U H1 := ⟨va_Zq.kept h.1 hq, vx_L.kept h.2 hq⟩
theorem vx_Zq.narrow {C n d : String} {A B : Nat → Prop} {U : State} {H : Heap} (h : vx_Zq C n d A U H) (hAB : ∀ q, B q → A q) : vx_Zq C n d B U H := ⟨va_Zq.narrow h.1 hAB, vx_L.narrow h.2 hAB⟩
theorem vx_Zqof {args : Array Value} {s : State} {C n d : String} {A : Nat → Prop} (hl : (Cond.laysStatic C n d).before args s = true) (hini : (Cond.initialized C).before args s = true) (h : (Cond.isRef (.static C n d)).before args s = true) (hA : ∀ a : Nat, a < s.heap.size → ¬ A a) : vx_Zq C n d A s s.heap := by
  refine ⟨va_Zqof hl hini h hA, ?_⟩
  obtain ⟨c, k, i, f, a, cell, h1, h2, h3, h4, h5, h6, h7, h8, h9⟩ := Cond.laysStatic_spec hl
  exact ⟨c, k, i, f, a, cell, h1, h2, h3, h4, h5, h6, h7, h8, h9, hA a (Array.getElem?_eq_some_iff.mp h5).1⟩
theorem vx_isRef {C n d : String} {v : Value} {A : Nat → Prop} {s : State} {args : Array Value} (h : va_Z C n d v A s s.heap) (hv : v.isRef = true) : (Cond.isRef (.static C n d)).before args s = true := by
  obtain ⟨cf, kf, fi, f, a, cell, h1, h2, h3, h4, h5, h6, h7, -⟩ := h
  have he : (Term.static C n d).eval args s none [] s = some v := by
    simp [Term.eval, State.fieldNamed?, h1, h2, h4, h5, h6, h7]
  simp only [Cond.before, Cond.holds, Cond.value, he]
  cases v <;> simp_all [Value.isRef]
theorem vx_isRefq {C n d : String} {A : Nat → Prop} {s : State} {args : Array Value} (h : va_Zq C n d A s s.heap) : (Cond.isRef (.static C n d)).before args s = true := by
  rcases h with h | ⟨t, h⟩
  · exact vx_isRef h rfl
  · exact vx_isRef h rfl
/-- the same frame, seen from here: as if the method were called anew in this heap -/
theorem vx_rebase {T : State} (X : Stand p l e R s m args below meth c T locs cells slots) {R' : Room} (hf : R'.frames ≤ R.frames) (hl : R'.locals ≤ R.locals) (hc : cells + R'.cells ≤ R.cells) (hs : slots + R'.slots ≤ R.slots) :
    Stand p l e R' ((T.setVm s.vm).setFrames (.invoking m args :: below)) m args below meth c T [] 0 0 := by
  have htop : (T.setVm s.vm).topJava?.isSome := X.here.top
  have hF : ((T.setVm s.vm).setFrames (.invoking m args :: below)).frames = .invoking m args :: below := State.frames_setFrames _ (State.cur_lt_of_top htop)
  obtain ⟨g₀, hg0⟩ := Option.isSome_iff_exists.mp htop
  obtain ⟨r, hr⟩ := State.topJava?_eq_some.mp hg0
  have hl9 : e.platform.stackLimits (T.setVm s.vm).me = e.platform.stackLimits s.me := X.limits
  have hb9 : (T.setVm s.vm).me.stackBytes = s.me.stackBytes := X.bytes
  refine ⟨X.admits, X.cas, X.clock, hF, ?_, X.hears, X.method, X.code, X.here, X.tail, X.warmed, ?_, ?_, ?_⟩
  · have h := X.room
    have hU : ((T.setVm s.vm).setFrames (.invoking m args :: below)).localsInUse = s.localsInUse := by
      rw [State.localsInUse_invoking hF (meth := meth) (c := c) X.method X.code, State.localsInUse_invoking X.frames X.method X.code]
    simp only [State.hasRoom, Bool.and_eq_true, decide_eq_true_eq] at h ⊢
    obtain ⟨⟨⟨⟨h1, h2, h3, h4, h5, h6⟩, h7⟩, h8⟩, h9⟩ := h
    rw [X.frames, List.length_cons] at h2 h3
    have q1 := X.heapSize
    have q2 := X.used
    simp only [hF, hU, List.length_cons, State.stackLimits_setFrames, State.stackBytes_setFrames, hl9, hb9]
    refine ⟨⟨⟨⟨by omega, by omega, by omega, by omega, by omega, h6⟩, ?_⟩, ?_⟩, X.book⟩
    · show T.heap.size + R'.cells ≤ e.platform.maxCells
      omega
    · show T.slotsUsed + R'.slots ≤ e.platform.maxSlots
      omega
  · rw [State.stackLimits_setFrames]; rfl
  · rw [State.stackBytes_setFrames]; rfl
  · refine ⟨?_, Nat.le_refl _, Nat.le_refl _, ?_, ?_, fun a c9 h9 => ⟨c9, h9, rfl, rfl, fun _ _ => rfl⟩⟩
    · obtain ⟨t, ht, -⟩ := State.frames_cons hr
      show T.setVm s.vm = { ((T.setVm s.vm).setFrames (.invoking m args :: below)).setFrames (T.setVm s.vm).frames with heap := T.heap, slotsUsed := T.slotsUsed }
      rw [State.setFrames_setFrames, State.setFrames_self ht]
      rfl
    · show T.slotsUsed = T.slotsUsed + ((T.heap.toList.drop T.heap.size).map (·.slots.size)).sum
      rw [List.drop_eq_nil_of_le (Nat.le_of_eq Array.length_toList)]
      rfl
    · show ((T.heap.toList.drop T.heap.size).map (·.slots.size)).sum ≤ 0
      rw [List.drop_eq_nil_of_le (Nat.le_of_eq Array.length_toList)]
      exact Nat.le_refl _
/-- 'throw new E()': new; dup; invokespecial; athrow -/
theorem vx_throw0 {cc : ByteArray} {pc : Nat} (hexec : p.tables.exec = Jvm.exec) (hb : c.code = cc) (hl : l.stackTraces = false) {own cls : String} {names : List String} {ik ic mc ms : Nat} {A : Nat → Prop}
    (hown : s.vm.findClass own = some m.cls) (hcls : Bundle.fit cls = true) (hnames : ∀ n ∈ names, Bundle.fit n = true)
    (hk : (Cond.classLink own ik cls).before args s = true) (hini : (Cond.initialized cls).before args s = true) (hat : ∀ w ∈ vx_at0 own ic cls names, w.before args s = true)
    (hgood : ∀ w ∈ Cond.classLink own ik cls :: Cond.initialized cls :: vx_at0 own ic cls names, vx_ot w = true)
    (hU : vx_Zq Bundle.tN "UNASSIGNED_STACK" Bundle.steD A s s.heap) (hN : vx_Zq Bundle.tN "SUPPRESSED_SENTINEL" Bundle.listD A s s.heap) (hS : va_S A s.heap H locs) (hsize : ls.size = c.maxLocals)
    (d0 : decode cc pc = .ok (.new ik, 3)) (d3 : decode cc (pc + 3) = .ok (.dup, 1)) (d4 : decode cc (pc + 4) = .ok (.invokespecial ic, 3)) (d7 : decode cc (pc + 7) = .ok (.athrow, 1))
    (hout : ∀ x ∈ c.exceptionTable.toList, covers x (pc + 7) = false)
    (hRframes : names.length + 3 < R.frames) (hRlocals : (rest.map fun v => v.category).sum + (13 * (names.length + 1) + 42) ≤ R.locals) (hRcells : cells + 1 ≤ R.cells) (hRslots : slots + 6 ≤ R.slots) (hlocks : meth.locks = false)
    (hx : ∀ t : State, s.vm.Alike t.vm → H.size ≤ t.heap.size → (∀ q : Nat, q < H.size → t.heap[q]? = H[q]?) → XC cls s t)
    (hf : ∀ z ∈ locs, free z.base) (hc : cells + 1 ≤ mc) (hs : slots + 6 ≤ ms) :
    W p l e R s m args below meth c H locs cells slots (vx_MQ below Qc XC args s mc ms free) (F0 m pc ls rest) := by
  intro T hT X
  have htr : e.platform.stackTraces = false := (show e.platform.stackTraces = l.stackTraces by rw [X.admits.platform]).trans hl
  have Y := vx_rebase X (R' := { frames := R.frames, locals := R.locals, cells := 1, slots := 6 }) (Nat.le_refl _) (Nat.le_refl _) hRcells hRslots
  obtain ⟨s', hA⟩ : ∃ z, z = (T.setVm s.vm).setFrames (.invoking m args :: below) := ⟨_, rfl⟩
  rw [← hA] at Y
  have hvm : s'.vm = s.vm := by rw [hA]; rfl
  have hhp : s'.heap = H := by rw [hA]; exact hT
  have hW0 : s.WarmedH s'.vm := by rw [hvm]; exact State.WarmedH.refl s
  have hat' : ∀ w ∈ vx_at0 own ic cls names, w.before args s' = true := fun w hw => vx_ot_at hW0 hvm.symm (hgood w (List.mem_cons_of_mem _ (List.mem_cons_of_mem _ hw))) (hat w hw)
  have hk' : (Cond.classLink own ik cls).before args s' = true := vx_ot_at hW0 hvm.symm (hgood _ List.mem_cons_self) hk
  have hini' : (Cond.initialized cls).before args s' = true := vx_ot_at hW0 hvm.symm (hgood _ (List.mem_cons_of_mem _ List.mem_cons_self)) hini
  have hU' : vx_Zq Bundle.tN "UNASSIGNED_STACK" Bundle.steD A s' s'.heap := by rw [hhp]; exact vx_Zq.moved hW0.alike (hU.kept hS.2.1)
  have hN' : vx_Zq Bundle.tN "SUPPRESSED_SENTINEL" Bundle.listD A s' s'.heap := by rw [hhp]; exact vx_Zq.moved hW0.alike (hN.kept hS.2.1)
  have h : ∀ w ∈ Bundle.ownAtoms0 own ic cls names, w.before args s' = true := vx_own hat' (vx_isRefq hU'.1) (vx_isRefq hN'.1) hU'.2.word hN'.2.word
  have hown' : s'.vm.findClass own = some m.cls := by rw [hvm]; exact hown
  have hins : (Cond.instantiable cls 6).before args s' = true := h _ (by simp [Bundle.ownAtoms0])
  obtain ⟨vm₁, cX, kX, hfX, hkX, -, -, X₁, st1⟩ := Y.newCold hexec (own := own) (C := cls) (index := ik) (n := 6) hown' hk' hins hini'
    (g := F0 m pc ls rest) rfl (by rw [hb]; exact d0) (Nat.le_refl _) (Nat.le_refl _)
  generalize hT1 : (T.setVm vm₁).pushCell { cls := cX, slots := kX.instanceTypes.map defaultValue, vm := .none } = T1 at X₁ st1
  have hcat : (Value.ref T.heap.size).category = 1 := rfl
  have hcellA : T1.heap[T.heap.size]? = some (freshCell cX kX) := by rw [← hT1]; exact State.heap_pushCell_size _ _
  have d3' : decode c.code (pc + 3) = .ok (.dup, 1) := by rw [hb]; exact d3
  obtain ⟨U, hsteps, hrun, hend, hW, hsame, ce, hce, hO⟩ := X₁.ctorThrow0 hexec htr (own := own) (cls := cls) (names := names) (ic := ic) hown' hcls hnames h (fun x hx => nomatch hx) hfX hkX hcellA (by rw [hhp, hT]; exact Nat.le_refl _)
    (g := { method := m, pc := pc + 4, locals := ls, stack := .ref T.heap.size :: .ref T.heap.size :: rest, locked := none }) rfl hsize rfl rfl (rest := rest) rfl
    (by rw [hb]; exact d4) (by rw [hb]; exact d7) hout hRframes (by simp only [List.map_cons, List.sum_cons, hcat]; omega) hlocks
  obtain ⟨f1, f2⟩ := vx_frame hsame
  rw [hhp] at f1 f2
  have hWs : s.WarmedH U.vm := State.WarmedH.trans hW0 hW
  have hcl : s.vm.findClass cls = some ce.cls := by
    have h9 := hO.cls
    rw [hvm] at h9
    exact h9
  have hall : s.sameButNew ({ U with vm := s.vm } : State) locs mc ms := by
    subst hA
    obtain ⟨e1, e2⟩ := hsame
    rw [State.setFrames_setFrames] at e1
    have h2 : (T.setVm s.vm).sameButNew ({ U with vm := s.vm } : State) [] (0 + 1) (0 + 6) := ⟨e1, e2⟩
    have h3 := X.same.trans h2
    rw [List.append_nil] at h3
    exact h3.mono hc hs
  refine ⟨U, ?_, .threw T.heap.size, hrun, hend, Or.inr ⟨T.heap.size, rfl, cls, ce, locs, hx U hWs.alike f1 (fun q hq => f2 q hq (fun z hz => nomatch hz)), hce, hO.vm, hcl, hWs, hall, hf⟩⟩
  refine st1 _ ?_
  show Steps p.tables e below (T1.setTop { method := m, pc := pc + 3, locals := ls, stack := .ref T.heap.size :: rest, locked := none }) _
  jvm_step X₁.here [X₁.here.top, hexec, d3', Value.category]
  exact hsteps
/-- 'throw new E("text")': new; dup; ldc; invokespecial; athrow -/
theorem vx_throwS {cc : ByteArray} {pc : Nat} (hexec : p.tables.exec = Jvm.exec) (hb : c.code = cc) (hl : l.stackTraces = false) {own cls text : String} {names : List String} {ik is ic mc ms sa : Nat} {A : Nat → Prop}
    (hown : s.vm.findClass own = some m.cls) (hcls : Bundle.fit cls = true) (hnames : ∀ n ∈ names, Bundle.fit n = true)
    (hk : (Cond.classLink own ik cls).before args s = true) (hini : (Cond.initialized cls).before args s = true) (hstr : vk_R own is text sa s) (hat : ∀ w ∈ vx_atS own ic cls names, w.before args s = true)
    (hgood : ∀ w ∈ Cond.classLink own ik cls :: Cond.initialized cls :: vx_atS own ic cls names, vx_ot w = true)
    (hU : vx_Zq Bundle.tN "UNASSIGNED_STACK" Bundle.steD A s s.heap) (hN : vx_Zq Bundle.tN "SUPPRESSED_SENTINEL" Bundle.listD A s s.heap) (hS : va_S A s.heap H locs) (hsize : ls.size = c.maxLocals)
    (d0 : decode cc pc = .ok (.new ik, 3)) (d3 : decode cc (pc + 3) = .ok (.dup, 1)) (d4 : decode cc (pc + 4) = .ok (.ldc is, 2)) (d6 : decode cc (pc + 6) = .ok (.invokespecial ic, 3)) (d9 : decode cc (pc + 9) = .ok (.athrow, 1))
    (hout : ∀ x ∈ c.exceptionTable.toList, covers x (pc + 9) = false)
    (hRframes : names.length + 3 < R.frames) (hRlocals : (rest.map fun v => v.category).sum + (13 * (names.length + 1) + 43) ≤ R.locals) (hRcells : cells + 1 ≤ R.cells) (hRslots : slots + 6 ≤ R.slots) (hlocks : meth.locks = false)
    (hx : ∀ t : State, s.vm.Alike t.vm → H.size ≤ t.heap.size → (∀ q : Nat, q < H.size → t.heap[q]? = H[q]?) → XC cls s t)
    (hf : ∀ z ∈ locs, free z.base) (hc : cells + 1 ≤ mc) (hs : slots + 6 ≤ ms) :
    W p l e R s m args below meth c H locs cells slots (vx_MQ below Qc XC args s mc ms free) (F0 m pc ls rest) := by
  intro T hT X
  have htr : e.platform.stackTraces = false := (show e.platform.stackTraces = l.stackTraces by rw [X.admits.platform]).trans hl
  have Y := vx_rebase X (R' := { frames := R.frames, locals := R.locals, cells := 1, slots := 6 }) (Nat.le_refl _) (Nat.le_refl _) hRcells hRslots
  obtain ⟨s', hA⟩ : ∃ z, z = (T.setVm s.vm).setFrames (.invoking m args :: below) := ⟨_, rfl⟩
  rw [← hA] at Y
  have hvm : s'.vm = s.vm := by rw [hA]; rfl
  have hhp : s'.heap = H := by rw [hA]; exact hT
  have hW0 : s.WarmedH s'.vm := by rw [hvm]; exact State.WarmedH.refl s
  have hat' : ∀ w ∈ vx_atS own ic cls names, w.before args s' = true := fun w hw => vx_ot_at hW0 hvm.symm (hgood w (List.mem_cons_of_mem _ (List.mem_cons_of_mem _ hw))) (hat w hw)
  have hk' : (Cond.classLink own ik cls).before args s' = true := vx_ot_at hW0 hvm.symm (hgood _ List.mem_cons_self) hk
  have hini' : (Cond.initialized cls).before args s' = true := vx_ot_at hW0 hvm.symm (hgood _ (List.mem_cons_of_mem _ List.mem_cons_self)) hini
  have hU' : vx_Zq Bundle.tN "UNASSIGNED_STACK" Bundle.steD A s' s'.heap := by rw [hhp]; exact vx_Zq.moved hW0.alike (hU.kept hS.2.1)
  have hN' : vx_Zq Bundle.tN "SUPPRESSED_SENTINEL" Bundle.listD A s' s'.heap := by rw [hhp]; exact vx_Zq.moved hW0.alike (hN.kept hS.2.1)
  have h : ∀ w ∈ Bundle.ownAtoms own ic cls names, w.before args s' = true := vx_own hat' (vx_isRefq hU'.1) (vx_isRefq hN'.1) hU'.2.word hN'.2.word
  have hown' : s'.vm.findClass own = some m.cls := by rw [hvm]; exact hown
  have hins : (Cond.instantiable cls 6).before args s' = true := h _ (by simp [Bundle.ownAtoms])
  obtain ⟨vm₁, cX, kX, hfX, hkX, -, -, X₁, st1⟩ := Y.newCold hexec (own := own) (C := cls) (index := ik) (n := 6) hown' hk' hins hini'
    (g := F0 m pc ls rest) rfl (by rw [hb]; exact d0) (Nat.le_refl _) (Nat.le_refl _)
  generalize hT1 : (T.setVm vm₁).pushCell { cls := cX, slots := kX.instanceTypes.map defaultValue, vm := .none } = T1 at X₁ st1
  have hcat : (Value.ref T.heap.size).category = 1 := rfl
  have hcellA : T1.heap[T.heap.size]? = some (freshCell cX kX) := by rw [← hT1]; exact State.heap_pushCell_size _ _
  have d3' : decode c.code (pc + 3) = .ok (.dup, 1) := by rw [hb]; exact d3
  have d4' : decode c.code (pc + 4) = .ok (.ldc is, 2) := by rw [hb]; exact d4
  have hstr' : vk_R own is text sa s' := vk_R.warm hW0 hstr
  obtain ⟨U, hsteps, hrun, hend, hW, hsame, ce, hce, hO⟩ := X₁.ctorThrowS hexec htr (own := own) (cls := cls) (names := names) (ic := ic) hown' hcls hnames h (fun x hx => nomatch hx) hfX hkX hcellA (by rw [hhp, hT]; exact Nat.le_refl _) (msg := .ref sa) rfl
    (g := { method := m, pc := pc + 6, locals := ls, stack := .ref sa :: .ref T.heap.size :: .ref T.heap.size :: rest, locked := none }) rfl hsize rfl rfl (rest := rest) rfl
    (by rw [hb]; exact d6) (by rw [hb]; exact d9) hout hRframes (by simp only [List.map_cons, List.sum_cons, hcat]; omega) hlocks
  obtain ⟨f1, f2⟩ := vx_frame hsame
  rw [hhp] at f1 f2
  have hWs : s.WarmedH U.vm := State.WarmedH.trans hW0 hW
  have hcl : s.vm.findClass cls = some ce.cls := by
    have h9 := hO.cls
    rw [hvm] at h9
    exact h9
  have hall : s.sameButNew ({ U with vm := s.vm } : State) locs mc ms := by
    subst hA
    obtain ⟨e1, e2⟩ := hsame
    rw [State.setFrames_setFrames] at e1
    have h2 : (T.setVm s.vm).sameButNew ({ U with vm := s.vm } : State) [] (0 + 1) (0 + 6) := ⟨e1, e2⟩
    have h3 := X.same.trans h2
    rw [List.append_nil] at h3
    exact h3.mono hc hs
  refine ⟨U, ?_, .threw T.heap.size, hrun, hend, Or.inr ⟨T.heap.size, rfl, cls, ce, locs, hx U hWs.alike f1 (fun q hq => f2 q hq (fun z hz => nomatch hz)), hce, hO.vm, hcl, hWs, hall, hf⟩⟩
  refine st1 _ ?_
  show Steps p.tables e below (T1.setTop { method := m, pc := pc + 3, locals := ls, stack := .ref T.heap.size :: rest, locked := none }) _
  jvm_step X₁.here [X₁.here.top, hexec, d3', Value.category]
  exact X₁.ldcString hexec (own := own) (text := text) (index := is) (a := sa) hown' hstr'.1 hstr'.2
    (g := { method := m, pc := pc + 4, locals := ls, stack := .ref T.heap.size :: .ref T.heap.size :: rest, locked := none }) rfl d4' _ hsteps
/-- 'throw new E("text")', the text by a wide index -/
theorem vx_throwSW {cc : ByteArray} {pc : Nat} (hexec : p.tables.exec = Jvm.exec) (hb : c.code = cc) (hl : l.stackTraces = false) {own cls text : String} {names : List String} {ik is ic mc ms sa : Nat} {A : Nat → Prop}
    (hown : s.vm.findClass own = some m.cls) (hcls : Bundle.fit cls = true) (hnames : ∀ n ∈ names, Bundle.fit n = true)
    (hk : (Cond.classLink own ik cls).before args s = true) (hini : (Cond.initialized cls).before args s = true) (hstr : vk_R own is text sa s) (hat : ∀ w ∈ vx_atS own ic cls names, w.before args s = true)
    (hgood : ∀ w ∈ Cond.classLink own ik cls :: Cond.initialized cls :: vx_atS own ic cls names, vx_ot w = true)
    (hU : vx_Zq Bundle.tN "UNASSIGNED_STACK" Bundle.steD A s s.heap) (hN : vx_Zq Bundle.tN "SUPPRESSED_SENTINEL" Bundle.listD A s s.heap) (hS : va_S A s.heap H locs) (hsize : ls.size = c.maxLocals)
    (d0 : decode cc pc = .ok (.new ik, 3)) (d3 : decode cc (pc + 3) = .ok (.dup, 1)) (d4 : decode cc (pc + 4) = .ok (.ldc_w is, 3)) (d7 : decode cc (pc + 7) = .ok (.invokespecial ic, 3)) (d10 : decode cc (pc + 10) = .ok (.athrow, 1))
    (hout : ∀ x ∈ c.exceptionTable.toList, covers x (pc + 10) = false)
    (hRframes : names.length + 3 < R.frames) (hRlocals : (rest.map fun v => v.category).sum + (13 * (names.length + 1) + 43) ≤ R.locals) (hRcells : cells + 1 ≤ R.cells) (hRslots : slots + 6 ≤ R.slots) (hlocks : meth.locks = false)
    (hx : ∀ t : State, s.vm.Alike t.vm → H.size ≤ t.heap.size → (∀ q : Nat, q < H.size → t.heap[q]? = H[q]?) → XC cls s t)
    (hf : ∀ z ∈ locs, free z.base) (hc : cells + 1 ≤ mc) (hs : slots + 6 ≤ ms) :
    W p l e R s m args below meth c H locs cells slots (vx_MQ below Qc XC args s mc ms free) (F0 m pc ls rest) := by
  intro T hT X
  have htr : e.platform.stackTraces = false := (show e.platform.stackTraces = l.stackTraces by rw [X.admits.platform]).trans hl
  have Y := vx_rebase X (R' := { frames := R.frames, locals := R.locals, cells := 1, slots := 6 }) (Nat.le_refl _) (Nat.le_refl _) hRcells hRslots
  obtain ⟨s', hA⟩ : ∃ z, z = (T.setVm s.vm).setFrames (.invoking m args :: below) := ⟨_, rfl⟩
  rw [← hA] at Y
  have hvm : s'.vm = s.vm := by rw [hA]; rfl
  have hhp : s'.heap = H := by rw [hA]; exact hT
  have hW0 : s.WarmedH s'.vm := by rw [hvm]; exact State.WarmedH.refl s
  have hat' : ∀ w ∈ vx_atS own ic cls names, w.before args s' = true := fun w hw => vx_ot_at hW0 hvm.symm (hgood w (List.mem_cons_of_mem _ (List.mem_cons_of_mem _ hw))) (hat w hw)
  have hk' : (Cond.classLink own ik cls).before args s' = true := vx_ot_at hW0 hvm.symm (hgood _ List.mem_cons_self) hk
  have hini' : (Cond.initialized cls).before args s' = true := vx_ot_at hW0 hvm.symm (hgood _ (List.mem_cons_of_mem _ List.mem_cons_self)) hini
  have hU' : vx_Zq Bundle.tN "UNASSIGNED_STACK" Bundle.steD A s' s'.heap := by rw [hhp]; exact vx_Zq.moved hW0.alike (hU.kept hS.2.1)
  have hN' : vx_Zq Bundle.tN "SUPPRESSED_SENTINEL" Bundle.listD A s' s'.heap := by rw [hhp]; exact vx_Zq.moved hW0.alike (hN.kept hS.2.1)
  have h : ∀ w ∈ Bundle.ownAtoms own ic cls names, w.before args s' = true := vx_own hat' (vx_isRefq hU'.1) (vx_isRefq hN'.1) hU'.2.word hN'.2.word
  have hown' : s'.vm.findClass own = some m.cls := by rw [hvm]; exact hown
  have hins : (Cond.instantiable cls 6).before args s' = true := h _ (by simp [Bundle.ownAtoms])
  obtain ⟨vm₁, cX, kX, hfX, hkX, -, -, X₁, st1⟩ := Y.newCold hexec (own := own) (C := cls) (index := ik) (n := 6) hown' hk' hins hini'
    (g := F0 m pc ls rest) rfl (by rw [hb]; exact d0) (Nat.le_refl _) (Nat.le_refl _)
  generalize hT1 : (T.setVm vm₁).pushCell { cls := cX, slots := kX.instanceTypes.map defaultValue, vm := .none } = T1 at X₁ st1
  have hcat : (Value.ref T.heap.size).category = 1 := rfl
  have hcellA : T1.heap[T.heap.size]? = some (freshCell cX kX) := by rw [← hT1]; exact State.heap_pushCell_size _ _
  have d3' : decode c.code (pc + 3) = .ok (.dup, 1) := by rw [hb]; exact d3
  have d4' : decode c.code (pc + 4) = .ok (.ldc_w is, 3) := by rw [hb]; exact d4
  have hstr' : vk_R own is text sa s' := vk_R.warm hW0 hstr
  obtain ⟨U, hsteps, hrun, hend, hW, hsame, ce, hce, hO⟩ := X₁.ctorThrowS hexec htr (own := own) (cls := cls) (names := names) (ic := ic) hown' hcls hnames h (fun x hx => nomatch hx) hfX hkX hcellA (by rw [hhp, hT]; exact Nat.le_refl _) (msg := .ref sa) rfl
    (g := { method := m, pc := pc + 7, locals := ls, stack := .ref sa :: .ref T.heap.size :: .ref T.heap.size :: rest, locked := none }) rfl hsize rfl rfl (rest := rest) rfl
    (by rw [hb]; exact d7) (by rw [hb]; exact d10) hout hRframes (by simp only [List.map_cons, List.sum_cons, hcat]; omega) hlocks
  obtain ⟨f1, f2⟩ := vx_frame hsame
  rw [hhp] at f1 f2
  have hWs : s.WarmedH U.vm := State.WarmedH.trans hW0 hW
  have hcl : s.vm.findClass cls = some ce.cls := by
    have h9 := hO.cls
    rw [hvm] at h9
    exact h9
  have hall : s.sameButNew ({ U with vm := s.vm } : State) locs mc ms := by
    subst hA
    obtain ⟨e1, e2⟩ := hsame
    rw [State.setFrames_setFrames] at e1
    have h2 : (T.setVm s.vm).sameButNew ({ U with vm := s.vm } : State) [] (0 + 1) (0 + 6) := ⟨e1, e2⟩
    have h3 := X.same.trans h2
    rw [List.append_nil] at h3
    exact h3.mono hc hs
  refine ⟨U, ?_, .threw T.heap.size, hrun, hend, Or.inr ⟨T.heap.size, rfl, cls, ce, locs, hx U hWs.alike f1 (fun q hq => f2 q hq (fun z hz => nomatch hz)), hce, hO.vm, hcl, hWs, hall, hf⟩⟩
  refine st1 _ ?_
  show Steps p.tables e below (T1.setTop { method := m, pc := pc + 3, locals := ls, stack := .ref T.heap.size :: rest, locked := none }) _
  jvm_step X₁.here [X₁.here.top, hexec, d3', Value.category]
  exact X₁.ldcStringW hexec (own := own) (text := text) (index := is) (a := sa) hown' hstr'.1 hstr'.2
    (g := { method := m, pc := pc + 4, locals := ls, stack := .ref T.heap.size :: .ref T.heap.size :: rest, locked := none }) rfl d4' _ hsteps
end Ends
section Bodies
variable {l : Launch}
theorem vx_ofW {y : MethodName} {ws ws' : List Cond} {rm : Room} {Pc : Array Value → State → Prop} {Qc : Array Value → State → Outcome → State → Prop} {XC : String → State → State → Prop} {mc ms : Nat} {free : Addr → Prop} {cc : ByteArray} {maxL : Nat} {ret : Option FieldType}
    (hy : plainName y.cls = true) (hw : ws = Cond.code y cc maxL ret :: ws')
    (body : ∀ p e s m args below meth c s₁, BodyLoose p l y (headSpec ws rm) cc maxL ret e s m args below meth c s₁ → c.maxLocals = maxL → (∀ x ∈ c.exceptionTable.toList, False) → Pc args s →
      W p l e (headSpec ws rm).room s m args below meth c s.heap [] 0 0 (vx_MQ below Qc XC args s mc ms free) (entryFrame m args maxL)) : vx_Met l y ws rm Pc Qc XC mc ms free := by
  refine MetFree.of_bodyS (code := cc) (maxLocals := maxL) (ret := ret) hy ?_ ?_
  · intro args s m h hn
    obtain ⟨meth, c, h1, h2, h3, h4, h5, h6, -, -⟩ := Cond.code_spec hn (atoms_spec (ws := ws) h _ (by rw [hw]; exact List.mem_cons_self))
    exact ⟨meth, c, h1, h2, h3, h4, h5, h6⟩
  · intro p e s m args below meth c s₁ B hml hP _
    have hh0 : s₁.heap = s.heap := by rw [B.state]; rfl
    have ht : ∀ x ∈ c.exceptionTable.toList, False := by
      obtain ⟨meth9, c9, h1, h2, -, -, -, -, h7, -⟩ := Cond.code_spec B.named (atoms_spec (ws := ws) B.pre _ (by rw [hw]; exact List.mem_cons_self))
      cases Option.some.inj (h1.symm.trans B.method)
      cases Option.some.inj (h2.symm.trans (Stand.of_body B).code)
      intro x hx
      rw [Array.isEmpty_iff.mp h7] at hx
      cases hx
    obtain ⟨t, a1, o, b1, b2, b3⟩ := body p e s m args below meth c s₁ B hml ht hP s₁ hh0 (Stand.of_body B)
    exact ⟨t, o, a1, b1, b2, b3⟩
/-- the table of a body with handlers -/
theorem vx_table {p : Program} {x y : MethodName} {S : Spec} {cc bytes : ByteArray} {maxL maxL' : Nat} {ret ret' : Option FieldType} {e : Env} {s s₁ : State} {m : MethodId} {args : Array Value} {below : List Frame} {meth : Method} {c : Code} {hh : List (Nat × Nat × Nat × Nat)}
    (B : BodyLoose p l y S cc maxL ret e s m args below meth c s₁) (h : (Cond.codeWith y bytes maxL' ret' hh).before args s = true) : c.exceptionTable.toList = tableOf hh := by
  obtain ⟨m9, meth9, c9, hn9, h1, h2, -, -, h6, -⟩ := Cond.codeWith_spec h
  cases Option.some.inj (hn9.symm.trans B.named)
  cases Option.some.inj (h1.symm.trans B.method)
  cases Option.some.inj (h2.symm.trans (Stand.of_body B).code)
  rw [← h6, table_eq]
end Bodies
end VXA
/-! ===== END ===== -/
/-! ===== BEGIN a static call of a method with an exception table ===== -/
section VXS
variable {p : Program} {l : Launch} {e : Env} {R : Room} {s : State} {m : MethodId} {args : Array Value} {below : List Frame} {meth : Method} {c : Code} {T : State} {H : Heap} {locs : List Loc} {cells slots : Nat}
abbrev vx_CSW (R : Room) (s : State) (args : Array Value) (own : String) (index : Nat) (y : MethodName) (bytes : ByteArray) (maxL : Nat) (ret : Option FieldType) (hh : List (Nat × Nat × Nat × Nat)) (ws : List Cond) (rm : Room) (mc ms n : Nat) : Prop :=
  (rm.cells = mc ∧ rm.slots = ms ∧ rm.frames + 1 ≤ R.frames ∧ 8 + (maxL + 11) + rm.locals ≤ R.locals ∧ (∀ w ∈ ws, ∀ (a' : Array Value) (U : State), s.WarmedH U.vm → w.before a' U = true) ∧ Cond.codeWith y bytes maxL ret hh ∈ ws) ∧
  (Cond.codeWith y bytes maxL ret hh).before args s = true ∧ (Cond.initialized y.cls).before args s = true ∧ (y.cls ≠ "java/lang/invoke/MethodHandle" ∧ y.cls ≠ "java/lang/invoke/VarHandle") ∧
  (∀ sig, parseMethodDescriptor y.desc = some sig → n = sig.parameters.length) ∧ (Cond.methodLink own index y).before args s = true ∧ (Cond.static y).before args s = true
theorem vx_cwSW {own : String} {index maxL mc ms : Nat} {y : MethodName} {bytes : ByteArray} {ret : Option FieldType} {hh : List (Nat × Nat × Nat × Nat)} {Ts ws ws' : List Cond} {rm : Room} (n : Nat) (ht : ∀ w ∈ Ts, w.before args s = true) (hT : GoodIn Ts (va_wsS own index y ws)) (hw : ws = Cond.codeWith y bytes maxL ret hh :: ws') (hrc : rm.cells = mc) (hrs : rm.slots = ms)
    (hd : y.cls ≠ "java/lang/invoke/MethodHandle" ∧ y.cls ≠ "java/lang/invoke/VarHandle" ∧ (parseMethodDescriptor y.desc).map (fun d => d.parameters.length) = some n) (hR : rm.frames + 1 ≤ R.frames ∧ 8 + (maxL + 11) + rm.locals ≤ R.locals) :
    vx_CSW R s args own index y bytes maxL ret hh ws rm mc ms n := by
  have ok : ∀ w ∈ va_wsS own index y ws, w.before args s = true := fun w h => ht w (hT w h).1
  have hG : GoodIn Ts ws := fun w h => hT w (by unfold va_wsS; exact List.mem_append_right _ h)
  have hc : Cond.codeWith y bytes maxL ret hh ∈ ws := by rw [hw]; exact List.mem_cons_self
  refine ⟨⟨hrc, hrs, hR.1, hR.2, pay_in ht hG, hc⟩, ht _ (hG _ hc).1, ok _ (by simp [va_wsS]), ⟨hd.1, hd.2.1⟩, fun sig h => ?_, ok _ (by simp [va_wsS]), ok _ (by simp [va_wsS])⟩
  have h2 := hd.2.2
  rw [h] at h2
  exact (Option.some.inj h2).symm
theorem vx_callSW (X : Stand p l e R s m args below meth c T locs cells slots) (hexec : p.tables.exec = Jvm.exec) {own : String} {index : Nat} {y : MethodName} {bytes : ByteArray} {maxL : Nat} {ret : Option FieldType} {hh : List (Nat × Nat × Nat × Nat)}
    (hown : s.vm.findClass own = some m.cls) (hlink : (Cond.methodLink own index y).before args s = true) (hstat : (Cond.static y).before args s = true) (hinit : (Cond.initialized y.cls).before args s = true)
    (hcode : (Cond.codeWith y bytes maxL ret hh).before args s = true) (hy : y.cls ≠ "java/lang/invoke/MethodHandle" ∧ y.cls ≠ "java/lang/invoke/VarHandle")
    {W9 : Nat} {Pre : Pt → Array Value → Prop} {Post : Pt → Array Value → Option Value → Pt → Prop} (hK : Back l R p e below s args y 3 W9 Pre Post)
    {g : JFrame} (hg : g.method = m) (hsize : g.locals.size = c.maxLocals) {argsL rest : List Value} (hlen : ∀ sig, parseMethodDescriptor y.desc = some sig → argsL.length = sig.parameters.length)
    (hstack : g.stack = argsL.reverse ++ rest) (hW : 2 * g.monitorRoom + (rest.map fun v => v.category).sum ≤ W9) (hdg : decode c.code g.pc = .ok (.invokestatic index, 3))
    (hpre : ∀ vm₁, s.WarmedH vm₁ → Pre ⟨T.setVm vm₁, locs, cells, slots⟩ argsL.toArray) :
    ∃ (v : Option Value) (vm₁ : Vm) (B : Pt), s.WarmedH vm₁ ∧ Stand p l e R s m args below meth c B.U B.locs B.cells B.slots ∧ Post ⟨T.setVm vm₁, locs, cells, slots⟩ argsL.toArray v B ∧
      ∀ target, Steps p.tables e below (B.U.setTop { g with pc := g.pc + 3, stack := v.toList ++ rest }) target → Steps p.tables e below (T.setTop g) target := by
  obtain ⟨mk, methM, cM, hnamed, hmethM, -, -, -, -, -, -, hsigM⟩ := Cond.codeWith_spec hcode
  have hstatic : methM.isStatic = true := Cond.static_spec hnamed hmethM hstat
  obtain ⟨kP, hkP, -⟩ := className_of_methodNamed hnamed
  have hinitP : kP.init = .initialized := Cond.initialized_spec (findClass_of_methodNamed hnamed) hkP hinit
  obtain ⟨vm₁, X₁, hstep₁⟩ := X.invokestatic hexec hown hlink hnamed hmethM hstatic hkP hinitP hy (g := g) hg (argsL := argsL) (rest := rest) (hlen _ hsigM) hstack hdg
  obtain ⟨v, B, X', hpost, hsteps⟩ := hK m meth c ⟨T.setVm vm₁, locs, cells, slots⟩ { g with stack := rest } (.invokestatic index) mk argsL.toArray X₁ hg hsize hdg hW (X₁.named hnamed) (hpre vm₁ X₁.warmed)
  exact ⟨v, vm₁, B, X₁.warmed, X', hpost, fun target h => hstep₁ _ fun acts => by rw [doInvoke_state]; exact hsteps.trans h⟩
theorem vx_runSW {y : MethodName} {bytes cc : ByteArray} {maxL nL mc ms n index : Nat} {ret : Option FieldType} {hh : List (Nat × Nat × Nat × Nat)} {ws : List Cond} {rm : Room} {Pc : Array Value → State → Prop} {Qc : Array Value → State → Outcome → State → Prop} {free : Addr → Prop} {Ts : List Cond} {own : String} {As rest : List Value} {g : JFrame}
    (S : CallFix p m c cc nL s args Ts own) (hM : Met l y ws rm Pc Qc mc ms free) (cw : vx_CSW R s args own index y bytes maxL ret hh ws rm mc ms n) (hp : PreS s H Pc As)
    (hg : g.method = m) (hn : As.length = n) (hsize : g.locals.size = nL) (hstack : g.stack = As.reverse ++ rest) (hW : 2 * g.monitorRoom + (rest.map fun v => v.category).sum ≤ 8) (hdg : decode cc g.pc = .ok (.invokestatic index, 3)) (hf : cells + mc ≤ R.cells ∧ slots + ms ≤ R.slots) :
    va_Run p l e R s m args below meth c H locs cells slots mc ms g rest (Qc As.toArray) (free) := by
  obtain ⟨⟨hrc, hrs, hfr, hlo, hws, hcw⟩, hcode, hini, hy, hlen, hl, hstt⟩ := cw
  have hK : Back l R p e below s args y 3 8 (PreOf R mc ms Pc) (PostOf Qc mc ms free) := va_backW (hh := hh) (bytes := bytes) (maxL := maxL) (ret := ret) hM hp.1 hrc hrs hfr hlo hws hcw (fun a' U hW => word_at hW (Or.inl (by first | rfl | simp [Cond.onTables, Cond.keeps, Cond.steady])) hini)
  obtain ⟨hx, hb, hml, ho, -⟩ := S
  intro T hT X
  obtain ⟨v, vm₁, ⟨U', l2, c2, s2⟩, hW₁, X', ⟨g', mk, t, L, e1, e2, hq, h1, hL, h2, h3⟩, st⟩ := vx_callSW X hx (hh := hh) (bytes := bytes) (maxL := maxL) (ret := ret) ho hl hstt hini hcode hy hK hg (hsize.trans hml.symm) (argsL := As) (rest := rest) (fun sig h => hn.trans (hlen sig h)) hstack hW (by rw [hb]; exact hdg)
    (fun vm₁ hW₁ => ⟨hf.1, hf.2, hp.2 (T.setVm vm₁) hT hW₁⟩)
  dsimp only [Pt.U, Pt.locs, Pt.cells, Pt.slots] at X' e1 e2 h1 h2 h3 st
  subst h1; subst h2; subst h3
  exact ⟨v, (T.setVm vm₁).calling g' mk As.toArray, t, U', L, hT, X', hL, e1, e2, hq, st⟩
/-- not caught here, past rows that name other classes: it goes on to the caller -/
theorem vx_outP {p : Program} {l : Launch} {e : Env} {R : Room} {s : State} {m : MethodId} {args : Array Value} {below : List Frame} {meth : Method} {c : Code} {H : Heap} {locs : List Loc} {cells slots : Nat} {free : Addr → Prop} {ls : Array Slot} {rest : List Value} {Qc : Array Value → State → Outcome → State → Prop} {XC : String → State → State → Prop}
    {pc : Nat} {own E : String} {ce : Cell} {q : Addr} {mc ms : Nat} (hown : s.vm.findClass own = some m.cls) (hlocks : meth.locks = false)
    (hpass : ∀ z ∈ c.exceptionTable.toList, covers z pc = false ∨ (z.catchType ≠ 0 ∧ ∃ nm : String, (Cond.classLink own z.catchType nm).before args s = true ∧ va_Nc E nm s)) (hcell : H[q]? = some ce) (hv : ce.vm = .none) (hcl : s.vm.findClass E = some ce.cls)
    (hx : ∀ t : State, t.heap = H → s.vm.Alike t.vm → XC E s t) (hf : ∀ z ∈ locs, free z.base) (hc : cells ≤ mc) (hs : slots ≤ ms) :
    vx_W p l e R s m args below meth c H locs cells slots (vx_MQ below Qc XC args s mc ms free) (F0 m pc ls rest) q := by
  intro T hT X
  have hpl : e.platform.magicAccessors = ({} : Platform).magicAccessors := by rw [X.admits.platform]
  obtain ⟨vm', hW', X', st⟩ := X.outThrough hlocks q (g := F0 m pc ls rest) rfl rfl rfl (cell := ce) (by rw [hT]; exact hcell) (by rw [hv]; rfl)
    (by obtain ⟨k9, h9, -⟩ := Vm.findClass_spec hcl; exact ⟨k9, h9⟩) (fun z hz => by
      rcases hpass z hz with h | ⟨hz0, nm, hl1, hn1⟩
      · exact Or.inl h
      · obtain ⟨c6, hc6, hcl6⟩ := Cond.classLink_spec hown hl1 e.platform hpl
        obtain ⟨a8, b8, h1, h2, h3⟩ := hn1
        cases Option.some.inj (h1.symm.trans hcl)
        cases Option.some.inj (h2.symm.trans hc6)
        exact Or.inr ⟨hz0, _, hcl6, h3⟩)
  obtain ⟨g₀, hfr⟩ := X'.frames_eq
  have hcell9 : ((T.setVm vm').setFrames (.throwing q :: below)).heap[q]? = some ce := by
    show T.heap[q]? = some ce
    rw [hT]; exact hcell
  have hend : Ended ((T.setVm vm').setFrames (.throwing q :: below)) below (.threw q) := State.frames_setFrames _ (State.cur_lt_of_frames hfr)
  refine ⟨(T.setVm vm').setFrames (.throwing q :: below), ?_, .threw q, X'.here.running, hend, Or.inr ⟨q, rfl, E, ce, locs, hx _ hT (X'.ends _).1.alike, hcell9, hv, hcl, (X'.ends _).1, (X'.ends _).2.mono hc hs, hf⟩⟩
  rw [X.pushThrowing_eq]
  exact st
/-- a thing of a world lies in the heap -/
theorem vx_lt {D : va_G} {cl : List vw_C} {ws : va_W} {H1 : Heap} (h : va_P D cl ws H1) {k : Nat} {q : Nat × va_E} (hk : ws[k]? = some q) : q.1 < H1.size := (h k q hk).lt
end VXS
/-! ===== END ===== -/
/-! ===== BEGIN methods with a table of their own: called by a name, returning or throwing ===== -/
section VXH
/-! vx_backW, vx_callVX, vx_callSX, vx_callVW, vx_runVW, vx_runVX, vx_runSX, vx_ofWH follow the same proofs as their sisters above (Free/Laws.lean, Shelf42/LK1.lean); vx_outP calls Shelf42/NT130.lean (outThrough). -/
section
variable {l : Launch} {R : Room} {p : Program} {e : Env} {below : List Frame} {s : State} {sargs : Array Value} {y : MethodName} {len W9 : Nat}
theorem vx_backW {ws : List Cond} {rm : Room} {Pc : Array Value → State → Prop} {Qc : Array Value → State → Outcome → State → Prop} {XC : String → State → State → Prop} {mc ms : Nat} {free : Addr → Prop} {bytes : ByteArray} {maxL : Nat} {ret : Option FieldType} {hh : List (Nat × Nat × Nat × Nat)}
    (hM : vx_Met l y ws rm Pc Qc XC mc ms free) (hblind : FrameBlind Pc) (hrc : rm.cells = mc) (hrs : rm.slots = ms)
    (hframes : rm.frames + 1 ≤ R.frames) (hlocals : W9 + (maxL + 11) + rm.locals ≤ R.locals)
    (hws : ∀ w ∈ ws, ∀ a' U, s.WarmedH U.vm → w.before a' U = true) (hcode : Cond.codeWith y bytes maxL ret hh ∈ ws) (hinit : ∀ a' U, s.WarmedH U.vm → (Cond.initialized y.cls).before a' U = true) :
    vx_Back l R p e below s sargs y len W9 (PreOf R mc ms Pc) (PostOf Qc mc ms free) (vx_Post XC mc ms free) := by
  intro m meth c A g ig mk a X hg hsize hdg hW hn hp
  have h1 : (headSpec ws rm).pre.before a A.U = true := atoms_intro fun w hw => hws w hw _ _ X.warmed
  have h2 : (Cond.codeWith y bytes maxL ret hh).before a A.U = true := hws _ hcode _ _ X.warmed
  have h3 : (Cond.initialized y.cls).before a A.U = true := hinit _ _ X.warmed
  have h4 : A.cells + (headSpec ws rm).room.cells ≤ R.cells := by rw [show (headSpec ws rm).room.cells = mc from hrc]; exact hp.1
  have h5 : A.slots + (headSpec ws rm).room.slots ≤ R.slots := by rw [show (headSpec ws rm).room.slots = ms from hrs]; exact hp.2.1
  have hPc : Pc a (A.U.calling g mk a) := hblind _ _ _ _ hp.2.2
  obtain ⟨U, Ls, c0, s0⟩ := A
  dsimp only [Pt.U, Pt.locs, Pt.cells, Pt.slots] at h1 h2 h3 h4 h5 X hn hPc ⊢
  obtain ⟨m9, methY, cY, hn9, hmY, hcY, -, hlY, -⟩ := Cond.codeWith_spec h2
  cases Option.some.inj (hn9.symm.trans hn)
  obtain ⟨kY, hkY, -⟩ := className_of_methodNamed hn
  have hinitY : kY.init = .initialized := Cond.initialized_spec (findClass_of_methodNamed hn) hkY h3
  have h : At U g.method c below := by rw [hg]; exact X.here
  have hlocals9 : W9 + (maxL + 11) + (headSpec ws rm).room.locals ≤ R.locals := hlocals
  have happ : (headSpec ws rm).appliesLoose y e.platform (U.calling g mk a) = true :=
    Spec.appliesLoose_calling (g := g) h hdg hn hkY hinitY
      (X.room_calling (g := g) (R' := (headSpec ws rm).room) hsize hmY hcY hframes (by rw [hlY]; omega) h4 h5) h1
  obtain ⟨mid, hmid⟩ := h.above
  have hfr : (U.setTop g).frames = (.java g :: mid) ++ below := by rw [State.frames_setTop' g h.top, hmid]; rfl
  obtain ⟨o, s₂, hsteps, -, hend, hq⟩ := Steps.callFree hM p X.admits X.cas X.clock (acts := []) hfr happ hPc trivial
  have hq' : vx_Q Qc XC mc ms free a (U.calling g mk a) o s₂ := hq
  rw [State.frames_setTop' g h.top] at hend
  obtain ⟨g₀, hg0⟩ := Option.isSome_iff_exists.mp h.top
  obtain ⟨r, hr⟩ := State.topJava?_eq_some.mp hg0
  have hr' : (({ U with heap := s₂.heap, slotsUsed := s₂.slotsUsed } : State).setVm s₂.vm).frames = .java g₀ :: r := hr
  rcases hq' with ⟨hqc, L, hfe, hL⟩ | ⟨q, rfl, E, ce, L, hx, hce, hcv, hcl, hW₂, hsm, hL⟩
  · obtain ⟨⟨v, rfl⟩, hW₂, e2, q2, q3, q4, q5, q6⟩ := id hfe
    have e3 : s₂ = ({ (U.calling g mk a).setFrames s₂.frames with heap := s₂.heap, slotsUsed := s₂.slotsUsed } : State).setVm s₂.vm := by
      have : s₂ = ({ s₂ with vm := (U.calling g mk a).vm } : State).setVm s₂.vm := rfl
      rw [e2] at this
      exact this
    obtain ⟨c₂, i₂, len₂, hc₂, hd₂, hf₂⟩ := hend
    have hW' : U.WarmedH s₂.vm := hW₂
    have hcc : c₂ = c := by
      have h1 : s₂.code? g.method = U.code? g.method := by
        rw [State.code?_eq, State.code?_eq, hW'.alike.method?]
      exact Option.some.inj (hc₂.symm.trans (h1.trans h.code))
    subst hcc
    have hlen : len₂ = len := by rw [hdg] at hd₂; cases hd₂; rfl
    subst hlen
    have hs₂ : s₂ = (({ U with heap := s₂.heap, slotsUsed := s₂.slotsUsed } : State).setVm s₂.vm).setTop { g with pc := g.pc + len₂, stack := v.toList ++ g.stack } := by
      refine e3.trans ?_
      rw [hf₂, State.calling_eq h.top, State.setFrames_setFrames, State.setTop_of_frames _ hr', hr]
      rfl
    have hsame : U.sameButNew ({ U with heap := s₂.heap, slotsUsed := s₂.slotsUsed } : State) L mc ms := by
      refine ⟨?_, q2, q3, q4, q5, q6⟩
      obtain ⟨t, ht, -⟩ := State.frames_cons hr
      show ({ U with heap := s₂.heap, slotsUsed := s₂.slotsUsed } : State) = { U.setFrames U.frames with heap := s₂.heap, slotsUsed := s₂.slotsUsed }
      rw [State.setFrames_self ht]
    subst hg
    refine Or.inl ⟨v, ⟨(({ U with heap := s₂.heap, slotsUsed := s₂.slotsUsed } : State).setVm s₂.vm), Ls ++ L, c0 + mc, s0 + ms⟩,
      ⟨X.admits, X.cas, X.clock, X.frames, X.room, X.hears, X.method, X.code, (X.here.setHeapUsed s₂.heap s₂.slotsUsed).setVm hW'.alike, X.tail, State.WarmedH.trans X.warmed hW', X.limits, X.bytes, X.same.trans (hsame.setVm s.vm)⟩,
      ⟨g, mk, s₂, L, rfl, rfl, hqc, rfl, hL, rfl, rfl⟩, ?_⟩
    show Steps p.tables e below _ ((({ U with heap := s₂.heap, slotsUsed := s₂.slotsUsed } : State).setVm s₂.vm).setTop { g with pc := g.pc + len₂, stack := v.toList ++ g.stack })
    rw [← hs₂]
    exact hsteps
  · obtain ⟨e2, q2, q3, q4, q5, q6⟩ := id hsm
    have e3 : s₂ = ({ (U.calling g mk a).setFrames s₂.frames with heap := s₂.heap, slotsUsed := s₂.slotsUsed } : State).setVm s₂.vm := by
      have : s₂ = ({ s₂ with vm := (U.calling g mk a).vm } : State).setVm s₂.vm := rfl
      rw [e2] at this
      exact this
    have hf₂ : s₂.frames = .throwing q :: .java g :: U.frames.tail := hend
    have hW' : U.WarmedH s₂.vm := hW₂
    have hs₂ : s₂ = ((({ U with heap := s₂.heap, slotsUsed := s₂.slotsUsed } : State).setVm s₂.vm).setTop g).pushFrame (.throwing q) := by
      refine e3.trans ?_
      rw [hf₂, State.calling_eq h.top, State.setFrames_setFrames, State.pushFrame, State.frames_setTop _ hr', State.setTop_of_frames _ hr', State.setFrames_setFrames, hr]
      rfl
    have hsame : U.sameButNew ({ U with heap := s₂.heap, slotsUsed := s₂.slotsUsed } : State) L mc ms := by
      refine ⟨?_, q2, q3, q4, q5, q6⟩
      obtain ⟨t, ht, -⟩ := State.frames_cons hr
      show ({ U with heap := s₂.heap, slotsUsed := s₂.slotsUsed } : State) = { U.setFrames U.frames with heap := s₂.heap, slotsUsed := s₂.slotsUsed }
      rw [State.setFrames_self ht]
    subst hg
    refine Or.inr ⟨q, ⟨(({ U with heap := s₂.heap, slotsUsed := s₂.slotsUsed } : State).setVm s₂.vm), Ls ++ L, c0 + mc, s0 + ms⟩,
      ⟨X.admits, X.cas, X.clock, X.frames, X.room, X.hears, X.method, X.code, (X.here.setHeapUsed s₂.heap s₂.slotsUsed).setVm hW'.alike, X.tail, State.WarmedH.trans X.warmed hW', X.limits, X.bytes, X.same.trans (hsame.setVm s.vm)⟩,
      ⟨g, mk, s₂, L, E, ce, rfl, rfl, hx, hce, hcv, hcl, rfl, hL, rfl, rfl⟩, ?_⟩
    show Steps p.tables e below _ (((({ U with heap := s₂.heap, slotsUsed := s₂.slotsUsed } : State).setVm s₂.vm).setTop g).pushFrame (.throwing q))
    rw [← hs₂]
    exact hsteps
end
variable {p : Program} {l : Launch} {e : Env} {R : Room} {s : State} {m : MethodId} {args : Array Value} {below : List Frame} {meth : Method} {c : Code} {T : State} {H : Heap} {locs : List Loc} {cells slots : Nat}
theorem vx_callVX (X : Stand p l e R s m args below meth c T locs cells slots) (hexec : p.tables.exec = Jvm.exec) {own C : String} {index : Nat} {y : MethodName} {bytes : ByteArray} {maxL : Nat} {ret : Option FieldType} {hh : List (Nat × Nat × Nat × Nat)}
    (hown : s.vm.findClass own = some m.cls) (hlink : (Cond.methodLink own index y).before args s = true) (hinst : (Cond.instanceMethod y).before args s = true) (hsel : (Cond.selects C y y).before args s = true)
    (hcode : (Cond.codeWith y bytes maxL ret hh).before args s = true) (hy : y.cls ≠ "java/lang/invoke/MethodHandle" ∧ y.cls ≠ "java/lang/invoke/VarHandle")
    {W9 : Nat} {Pre : Pt → Array Value → Prop} {Post : Pt → Array Value → Option Value → Pt → Prop} {PostX : Pt → Array Value → Addr → Pt → Prop} (hK : vx_Back l R p e below s args y 3 W9 Pre Post PostX)
    {b : Addr} {cellB : Cell} (hcell : T.heap[b]? = some cellB) (hobj : cellB.vm.isStatics = false) (hcls : s.vm.findClass C = some cellB.cls)
    {g : JFrame} (hg : g.method = m) (hsize : g.locals.size = c.maxLocals) {argsL rest : List Value} (hlen : ∀ sig, parseMethodDescriptor y.desc = some sig → argsL.length = sig.parameters.length)
    (hstack : g.stack = argsL.reverse ++ .ref b :: rest) (hW : 2 * g.monitorRoom + (rest.map fun v => v.category).sum ≤ W9) (hdg : decode c.code g.pc = .ok (.invokevirtual index, 3))
    (hpre : ∀ vm₁, s.WarmedH vm₁ → Pre ⟨T.setVm vm₁, locs, cells, slots⟩ (Value.ref b :: argsL).toArray) :
    (∃ (v : Option Value) (vm₁ : Vm) (B : Pt), s.WarmedH vm₁ ∧ Stand p l e R s m args below meth c B.U B.locs B.cells B.slots ∧ Post ⟨T.setVm vm₁, locs, cells, slots⟩ (Value.ref b :: argsL).toArray v B ∧
      ∀ target, Steps p.tables e below (B.U.setTop { g with pc := g.pc + 3, stack := v.toList ++ rest }) target → Steps p.tables e below (T.setTop g) target) ∨
    (∃ (q : Addr) (vm₁ : Vm) (B : Pt), s.WarmedH vm₁ ∧ Stand p l e R s m args below meth c B.U B.locs B.cells B.slots ∧ PostX ⟨T.setVm vm₁, locs, cells, slots⟩ (Value.ref b :: argsL).toArray q B ∧
      Steps p.tables e below (T.setTop g) ((B.U.setTop { g with stack := rest }).pushFrame (.throwing q))) := by
  obtain ⟨mk, methM, hnamed, hmethM, hstM, habM⟩ := Cond.instanceMethod_spec hinst
  obtain ⟨m8, methM', cM, hn8, hmethM', -, -, -, -, -, -, hsigM⟩ := Cond.codeWith_spec hcode
  cases Option.some.inj (hn8.symm.trans hnamed)
  cases hmethM.symm.trans hmethM'
  obtain ⟨c2, r2, m2, q1, q2, q3, q4, kP, hkP, hkPi⟩ := Cond.selects_spec hsel
  cases hcls.symm.trans q1
  cases (State.methodFound?_of_named hnamed hy).symm.trans q2
  cases hnamed.symm.trans q3
  have hselP : selectMethod e.platform s.vm cellB.cls mk = .method mk := by rw [Launch.admits_selectMethod X.admits]; exact q4
  obtain ⟨vm₁, X₁, hstep₁⟩ := X.invokevirtual hexec hown hlink hnamed hmethM hstM hkP hkPi hy (a := b) (cell := cellB) hcell
    (fun z h => by rw [h] at hobj; cases hobj) hselP hmethM habM hkP hkPi (g := g) hg (argsL := argsL) (rest := rest) (hlen _ hsigM) hstack hdg
  rcases hK m meth c ⟨T.setVm vm₁, locs, cells, slots⟩ { g with stack := rest } (.invokevirtual index) mk (Value.ref b :: argsL).toArray X₁ hg hsize hdg hW (X₁.named hnamed) (hpre vm₁ X₁.warmed) with ⟨v, B, X', hpost, hsteps⟩ | ⟨q, B, X', hpost, hsteps⟩
  · exact Or.inl ⟨v, vm₁, B, X₁.warmed, X', hpost, fun target h => hstep₁ _ fun acts => by rw [doInvoke_state]; exact hsteps.trans h⟩
  · exact Or.inr ⟨q, vm₁, B, X₁.warmed, X', hpost, hstep₁ _ fun acts => by rw [doInvoke_state]; exact hsteps⟩
theorem vx_callSX (X : Stand p l e R s m args below meth c T locs cells slots) (hexec : p.tables.exec = Jvm.exec) {own : String} {index : Nat} {y : MethodName} {bytes : ByteArray} {maxL : Nat} {ret : Option FieldType} {hh : List (Nat × Nat × Nat × Nat)}
    (hown : s.vm.findClass own = some m.cls) (hlink : (Cond.methodLink own index y).before args s = true) (hstat : (Cond.static y).before args s = true) (hinit : (Cond.initialized y.cls).before args s = true)
    (hcode : (Cond.codeWith y bytes maxL ret hh).before args s = true) (hy : y.cls ≠ "java/lang/invoke/MethodHandle" ∧ y.cls ≠ "java/lang/invoke/VarHandle")
    {W9 : Nat} {Pre : Pt → Array Value → Prop} {Post : Pt → Array Value → Option Value → Pt → Prop} {PostX : Pt → Array Value → Addr → Pt → Prop} (hK : vx_Back l R p e below s args y 3 W9 Pre Post PostX)
    {g : JFrame} (hg : g.method = m) (hsize : g.locals.size = c.maxLocals) {argsL rest : List Value} (hlen : ∀ sig, parseMethodDescriptor y.desc = some sig → argsL.length = sig.parameters.length)
    (hstack : g.stack = argsL.reverse ++ rest) (hW : 2 * g.monitorRoom + (rest.map fun v => v.category).sum ≤ W9) (hdg : decode c.code g.pc = .ok (.invokestatic index, 3))
    (hpre : ∀ vm₁, s.WarmedH vm₁ → Pre ⟨T.setVm vm₁, locs, cells, slots⟩ argsL.toArray) :
    (∃ (v : Option Value) (vm₁ : Vm) (B : Pt), s.WarmedH vm₁ ∧ Stand p l e R s m args below meth c B.U B.locs B.cells B.slots ∧ Post ⟨T.setVm vm₁, locs, cells, slots⟩ argsL.toArray v B ∧
      ∀ target, Steps p.tables e below (B.U.setTop { g with pc := g.pc + 3, stack := v.toList ++ rest }) target → Steps p.tables e below (T.setTop g) target) ∨
    (∃ (q : Addr) (vm₁ : Vm) (B : Pt), s.WarmedH vm₁ ∧ Stand p l e R s m args below meth c B.U B.locs B.cells B.slots ∧ PostX ⟨T.setVm vm₁, locs, cells, slots⟩ argsL.toArray q B ∧
      Steps p.tables e below (T.setTop g) ((B.U.setTop { g with stack := rest }).pushFrame (.throwing q))) := by
  obtain ⟨mk, methM, cM, hnamed, hmethM, -, -, -, -, -, -, hsigM⟩ := Cond.codeWith_spec hcode
  have hstatic : methM.isStatic = true := Cond.static_spec hnamed hmethM hstat
  obtain ⟨kP, hkP, -⟩ := className_of_methodNamed hnamed
  have hinitP : kP.init = .initialized := Cond.initialized_spec (findClass_of_methodNamed hnamed) hkP hinit
  obtain ⟨vm₁, X₁, hstep₁⟩ := X.invokestatic hexec hown hlink hnamed hmethM hstatic hkP hinitP hy (g := g) hg (argsL := argsL) (rest := rest) (hlen _ hsigM) hstack hdg
  rcases hK m meth c ⟨T.setVm vm₁, locs, cells, slots⟩ { g with stack := rest } (.invokestatic index) mk argsL.toArray X₁ hg hsize hdg hW (X₁.named hnamed) (hpre vm₁ X₁.warmed) with ⟨v, B, X', hpost, hsteps⟩ | ⟨q, B, X', hpost, hsteps⟩
  · exact Or.inl ⟨v, vm₁, B, X₁.warmed, X', hpost, fun target h => hstep₁ _ fun acts => by rw [doInvoke_state]; exact hsteps.trans h⟩
  · exact Or.inr ⟨q, vm₁, B, X₁.warmed, X', hpost, hstep₁ _ fun acts => by rw [doInvoke_state]; exact hsteps⟩
theorem vx_callVW (X : Stand p l e R s m args below meth c T locs cells slots) (hexec : p.tables.exec = Jvm.exec) {own C : String} {index : Nat} {y : MethodName} {bytes : ByteArray} {maxL : Nat} {ret : Option FieldType} {hh : List (Nat × Nat × Nat × Nat)}
    (hown : s.vm.findClass own = some m.cls) (hlink : (Cond.methodLink own index y).before args s = true) (hinst : (Cond.instanceMethod y).before args s = true) (hsel : (Cond.selects C y y).before args s = true)
    (hcode : (Cond.codeWith y bytes maxL ret hh).before args s = true) (hy : y.cls ≠ "java/lang/invoke/MethodHandle" ∧ y.cls ≠ "java/lang/invoke/VarHandle")
    {W9 : Nat} {Pre : Pt → Array Value → Prop} {Post : Pt → Array Value → Option Value → Pt → Prop} (hK : Back l R p e below s args y 3 W9 Pre Post)
    {b : Addr} {cellB : Cell} (hcell : T.heap[b]? = some cellB) (hobj : cellB.vm.isStatics = false) (hcls : s.vm.findClass C = some cellB.cls)
    {g : JFrame} (hg : g.method = m) (hsize : g.locals.size = c.maxLocals) {argsL rest : List Value} (hlen : ∀ sig, parseMethodDescriptor y.desc = some sig → argsL.length = sig.parameters.length)
    (hstack : g.stack = argsL.reverse ++ .ref b :: rest) (hW : 2 * g.monitorRoom + (rest.map fun v => v.category).sum ≤ W9) (hdg : decode c.code g.pc = .ok (.invokevirtual index, 3))
    (hpre : ∀ vm₁, s.WarmedH vm₁ → Pre ⟨T.setVm vm₁, locs, cells, slots⟩ (Value.ref b :: argsL).toArray) :
    ∃ (v : Option Value) (vm₁ : Vm) (B : Pt), s.WarmedH vm₁ ∧ Stand p l e R s m args below meth c B.U B.locs B.cells B.slots ∧ Post ⟨T.setVm vm₁, locs, cells, slots⟩ (Value.ref b :: argsL).toArray v B ∧
      ∀ target, Steps p.tables e below (B.U.setTop { g with pc := g.pc + 3, stack := v.toList ++ rest }) target → Steps p.tables e below (T.setTop g) target := by
  obtain ⟨mk, methM, hnamed, hmethM, hstM, habM⟩ := Cond.instanceMethod_spec hinst
  obtain ⟨m8, methM', cM, hn8, hmethM', -, -, -, -, -, -, hsigM⟩ := Cond.codeWith_spec hcode
  cases Option.some.inj (hn8.symm.trans hnamed)
  cases hmethM.symm.trans hmethM'
  obtain ⟨c2, r2, m2, q1, q2, q3, q4, kP, hkP, hkPi⟩ := Cond.selects_spec hsel
  cases hcls.symm.trans q1
  cases (State.methodFound?_of_named hnamed hy).symm.trans q2
  cases hnamed.symm.trans q3
  have hselP : selectMethod e.platform s.vm cellB.cls mk = .method mk := by rw [Launch.admits_selectMethod X.admits]; exact q4
  obtain ⟨vm₁, X₁, hstep₁⟩ := X.invokevirtual hexec hown hlink hnamed hmethM hstM hkP hkPi hy (a := b) (cell := cellB) hcell
    (fun z h => by rw [h] at hobj; cases hobj) hselP hmethM habM hkP hkPi (g := g) hg (argsL := argsL) (rest := rest) (hlen _ hsigM) hstack hdg
  obtain ⟨v, B, X', hpost, hsteps⟩ := hK m meth c ⟨T.setVm vm₁, locs, cells, slots⟩ { g with stack := rest } (.invokevirtual index) mk (Value.ref b :: argsL).toArray X₁ hg hsize hdg hW (X₁.named hnamed) (hpre vm₁ X₁.warmed)
  exact ⟨v, vm₁, B, X₁.warmed, X', hpost, fun target h => hstep₁ _ fun acts => by rw [doInvoke_state]; exact hsteps.trans h⟩
abbrev vx_CVW (R : Room) (s : State) (args : Array Value) (own C : String) (index : Nat) (y : MethodName) (bytes : ByteArray) (maxL : Nat) (ret : Option FieldType) (hh : List (Nat × Nat × Nat × Nat)) (ws : List Cond) (rm : Room) (mc ms n : Nat) : Prop :=
  (rm.cells = mc ∧ rm.slots = ms ∧ rm.frames + 1 ≤ R.frames ∧ 8 + (maxL + 11) + rm.locals ≤ R.locals ∧ (∀ w ∈ ws, ∀ (a' : Array Value) (U : State), s.WarmedH U.vm → w.before a' U = true) ∧ Cond.codeWith y bytes maxL ret hh ∈ ws) ∧
  (Cond.codeWith y bytes maxL ret hh).before args s = true ∧ (Cond.initialized y.cls).before args s = true ∧ (y.cls ≠ "java/lang/invoke/MethodHandle" ∧ y.cls ≠ "java/lang/invoke/VarHandle") ∧
  (∀ sig, parseMethodDescriptor y.desc = some sig → n = sig.parameters.length) ∧ (Cond.methodLink own index y).before args s = true ∧ (Cond.instanceMethod y).before args s = true ∧ (Cond.selects C y y).before args s = true
theorem vx_cwVW {own C : String} {index maxL mc ms : Nat} {y : MethodName} {bytes : ByteArray} {ret : Option FieldType} {hh : List (Nat × Nat × Nat × Nat)} {Ts ws ws' : List Cond} {rm : Room} (n : Nat) (ht : ∀ w ∈ Ts, w.before args s = true) (hT : GoodIn Ts (wsV own index C y ws)) (hw : ws = Cond.codeWith y bytes maxL ret hh :: ws') (hrc : rm.cells = mc) (hrs : rm.slots = ms)
    (hd : y.cls = C ∧ y.cls ≠ "java/lang/invoke/MethodHandle" ∧ y.cls ≠ "java/lang/invoke/VarHandle" ∧ (parseMethodDescriptor y.desc).map (fun d => d.parameters.length) = some n) (hR : rm.frames + 1 ≤ R.frames ∧ 8 + (maxL + 11) + rm.locals ≤ R.locals) :
    vx_CVW R s args own C index y bytes maxL ret hh ws rm mc ms n := by
  obtain ⟨hC, hd⟩ := hd
  subst hC
  have ok : ∀ w ∈ wsV own index y.cls y ws, w.before args s = true := fun w h => ht w (hT w h).1
  have hG : GoodIn Ts ws := fun w h => hT w (by unfold wsV; exact List.mem_append_right _ h)
  have hc : Cond.codeWith y bytes maxL ret hh ∈ ws := by rw [hw]; exact List.mem_cons_self
  refine ⟨⟨hrc, hrs, hR.1, hR.2, pay_in ht hG, hc⟩, ht _ (hG _ hc).1, ok _ (by simp [wsV]), ⟨hd.1, hd.2.1⟩, fun sig h => ?_, ok _ (by simp [wsV]), ok _ (by simp [wsV]), ok _ (by simp [wsV])⟩
  have h2 := hd.2.2
  rw [h] at h2
  exact (Option.some.inj h2).symm
theorem vx_runVW {y : MethodName} {bytes cc : ByteArray} {maxL nL mc ms n index : Nat} {ret : Option FieldType} {hh : List (Nat × Nat × Nat × Nat)} {ws : List Cond} {rm : Room} {Pc : Array Value → State → Prop} {Qc : Array Value → State → Outcome → State → Prop} {free : Addr → Prop} {Ts : List Cond} {own C : String} {b : Addr} {As rest : List Value} {g : JFrame}
    (S : CallFix p m c cc nL s args Ts own) (hM : Met l y ws rm Pc Qc mc ms free) (cw : vx_CVW R s args own C index y bytes maxL ret hh ws rm mc ms n) (hp : PreV s H C b Pc As)
    (hg : g.method = m) (hn : As.length = n) (hsize : g.locals.size = nL) (hstack : g.stack = As.reverse ++ .ref b :: rest) (hW : 2 * g.monitorRoom + (rest.map fun v => v.category).sum ≤ 8) (hdg : decode cc g.pc = .ok (.invokevirtual index, 3)) (hf : cells + mc ≤ R.cells ∧ slots + ms ≤ R.slots) :
    va_Run p l e R s m args below meth c H locs cells slots mc ms g rest (Qc (Value.ref b :: As).toArray) free := by
  obtain ⟨⟨hrc, hrs, hfr, hlo, hws, hcw⟩, hcode, hini, hy, hlen, hl, hin, hse⟩ := cw
  have hK : Back l R p e below s args y 3 8 (PreOf R mc ms Pc) (PostOf Qc mc ms free) := va_backW (hh := hh) (bytes := bytes) (maxL := maxL) (ret := ret) hM hp.1 hrc hrs hfr hlo hws hcw (fun a' U hW => word_at hW (Or.inl (by first | rfl | simp [Cond.onTables, Cond.keeps, Cond.steady])) hini)
  obtain ⟨hx, hb, hml, ho, -⟩ := S
  obtain ⟨-, ⟨cellB, hcB, hoB, hclB⟩, hPc⟩ := hp
  intro T hT X
  obtain ⟨v, vm₁, ⟨U', l2, c2, s2⟩, hW₁, X', ⟨g', mk, t, L, e1, e2, hq, h1, hL, h2, h3⟩, st⟩ := vx_callVW X hx (C := C) (hh := hh) (bytes := bytes) (maxL := maxL) (ret := ret) ho hl hin hse hcode hy hK (by rw [hT]; exact hcB) hoB hclB hg (hsize.trans hml.symm) (argsL := As) (rest := rest) (fun sig h => hn.trans (hlen sig h)) hstack hW (by rw [hb]; exact hdg)
    (fun vm₁ hW₁ => ⟨hf.1, hf.2, hPc (T.setVm vm₁) hT hW₁⟩)
  dsimp only [Pt.U, Pt.locs, Pt.cells, Pt.slots] at X' e1 e2 h1 h2 h3 st
  subst h1; subst h2; subst h3
  exact ⟨v, (T.setVm vm₁).calling g' mk (Value.ref b :: As).toArray, t, U', L, hT, X', hL, e1, e2, hq, st⟩
section
variable {y : MethodName} {bytes cc : ByteArray} {maxL nL mc ms n index : Nat} {ret : Option FieldType} {ws : List Cond} {rm : Room} {Pc : Array Value → State → Prop} {Qc : Array Value → State → Outcome → State → Prop} {XC : String → State → State → Prop} {free : Addr → Prop} {Ts : List Cond} {own C : String} {b : Addr} {As rest : List Value} {g : JFrame}
theorem vx_runVX {hh : List (Nat × Nat × Nat × Nat)} (S : CallFix p m c cc nL s args Ts own) (hM : vx_Met l y ws rm Pc Qc XC mc ms free) (cw : vx_CVW R s args own C index y bytes maxL ret hh ws rm mc ms n) (hp : PreV s H C b Pc As)
    (hg : g.method = m) (hn : As.length = n) (hsize : g.locals.size = nL) (hstack : g.stack = As.reverse ++ .ref b :: rest) (hW : 2 * g.monitorRoom + (rest.map fun v => v.category).sum ≤ 8) (hdg : decode cc g.pc = .ok (.invokevirtual index, 3)) (hf : cells + mc ≤ R.cells ∧ slots + ms ≤ R.slots) :
    vx_Run p l e R s m args below meth c H locs cells slots mc ms g rest (Qc (Value.ref b :: As).toArray) XC free := by
  obtain ⟨⟨hrc, hrs, hfr, hlo, hws, hcw⟩, hcode, hini, hy, hlen, hl, hin, hse⟩ := cw
  have hK : vx_Back l R p e below s args y 3 8 (PreOf R mc ms Pc) (PostOf Qc mc ms free) (vx_Post XC mc ms free) := vx_backW (hh := hh) (bytes := bytes) (maxL := maxL) (ret := ret) hM hp.1 hrc hrs hfr hlo hws hcw (fun a' U hW => word_at hW (Or.inl (by first | rfl | simp [Cond.onTables, Cond.keeps, Cond.steady])) hini)
  obtain ⟨hx, hb, hml, ho, -⟩ := S
  obtain ⟨-, ⟨cellB, hcB, hoB, hclB⟩, hPc⟩ := hp
  intro T hT X
  rcases vx_callVX X hx (C := C) (hh := hh) (bytes := bytes) (maxL := maxL) (ret := ret) ho hl hin hse hcode hy hK (by rw [hT]; exact hcB) hoB hclB hg (hsize.trans hml.symm) (argsL := As) (rest := rest) (fun sig h => hn.trans (hlen sig h)) hstack hW (by rw [hb]; exact hdg)
    (fun vm₁ hW₁ => ⟨hf.1, hf.2, hPc (T.setVm vm₁) hT hW₁⟩) with ⟨v, vm₁, ⟨U', l2, c2, s2⟩, hW₁, X', ⟨g', mk, t, L, e1, e2, hq, h1, hL, h2, h3⟩, st⟩ | ⟨q, vm₁, ⟨U', l2, c2, s2⟩, hW₁, X', ⟨g', mk, t, L, E, ce, e1, e2, hq, hce, hcv, hcl, h1, hL, h2, h3⟩, st⟩
  · dsimp only [Pt.U, Pt.locs, Pt.cells, Pt.slots] at X' e1 e2 h1 h2 h3 st
    subst h1; subst h2; subst h3
    exact Or.inl ⟨v, (T.setVm vm₁).calling g' mk (Value.ref b :: As).toArray, t, U', L, hT, X', hL, e1, e2, hq, st⟩
  · dsimp only [Pt.U, Pt.locs, Pt.cells, Pt.slots] at X' e1 e2 h1 h2 h3 st hcl
    subst h1; subst h2; subst h3
    exact Or.inr ⟨q, (T.setVm vm₁).calling g' mk (Value.ref b :: As).toArray, t, U', L, E, ce, hT, X', hL, e1, e2, hq, hce, hcv, vx_cls hW₁ hcl, st⟩
theorem vx_runSX {hh : List (Nat × Nat × Nat × Nat)} (S : CallFix p m c cc nL s args Ts own) (hM : vx_Met l y ws rm Pc Qc XC mc ms free) (cw : vx_CSW R s args own index y bytes maxL ret hh ws rm mc ms n) (hp : PreS s H Pc As)
    (hg : g.method = m) (hn : As.length = n) (hsize : g.locals.size = nL) (hstack : g.stack = As.reverse ++ rest) (hW : 2 * g.monitorRoom + (rest.map fun v => v.category).sum ≤ 8) (hdg : decode cc g.pc = .ok (.invokestatic index, 3)) (hf : cells + mc ≤ R.cells ∧ slots + ms ≤ R.slots) :
    vx_Run p l e R s m args below meth c H locs cells slots mc ms g rest (Qc As.toArray) XC free := by
  obtain ⟨⟨hrc, hrs, hfr, hlo, hws, hcw⟩, hcode, hini, hy, hlen, hl, hstt⟩ := cw
  have hK : vx_Back l R p e below s args y 3 8 (PreOf R mc ms Pc) (PostOf Qc mc ms free) (vx_Post XC mc ms free) := vx_backW (hh := hh) (bytes := bytes) (maxL := maxL) (ret := ret) hM hp.1 hrc hrs hfr hlo hws hcw (fun a' U hW => word_at hW (Or.inl (by first | rfl | simp [Cond.onTables, Cond.keeps, Cond.steady])) hini)
  obtain ⟨hx, hb, hml, ho, -⟩ := S
  intro T hT X
  rcases vx_callSX X hx (hh := hh) (bytes := bytes) (maxL := maxL) (ret := ret) ho hl hstt hini hcode hy hK hg (hsize.trans hml.symm) (argsL := As) (rest := rest) (fun sig h => hn.trans (hlen sig h)) hstack hW (by rw [hb]; exact hdg)
    (fun vm₁ hW₁ => ⟨hf.1, hf.2, hp.2 (T.setVm vm₁) hT hW₁⟩) with ⟨v, vm₁, ⟨U', l2, c2, s2⟩, hW₁, X', ⟨g', mk, t, L, e1, e2, hq, h1, hL, h2, h3⟩, st⟩ | ⟨q, vm₁, ⟨U', l2, c2, s2⟩, hW₁, X', ⟨g', mk, t, L, E, ce, e1, e2, hq, hce, hcv, hcl, h1, hL, h2, h3⟩, st⟩
  · dsimp only [Pt.U, Pt.locs, Pt.cells, Pt.slots] at X' e1 e2 h1 h2 h3 st
    subst h1; subst h2; subst h3
    exact Or.inl ⟨v, (T.setVm vm₁).calling g' mk As.toArray, t, U', L, hT, X', hL, e1, e2, hq, st⟩
  · dsimp only [Pt.U, Pt.locs, Pt.cells, Pt.slots] at X' e1 e2 h1 h2 h3 st hcl
    subst h1; subst h2; subst h3
    exact Or.inr ⟨q, (T.setVm vm₁).calling g' mk As.toArray, t, U', L, E, ce, hT, X', hL, e1, e2, hq, hce, hcv, vx_cls hW₁ hcl, st⟩
end
end VXH
theorem vx_ofWH {l : Launch} {y : MethodName} {ws ws' : List Cond} {rm : Room} {Pc : Array Value → State → Prop} {Qc : Array Value → State → Outcome → State → Prop} {XC : String → State → State → Prop} {mc ms : Nat} {free : Addr → Prop} {cc : ByteArray} {maxL : Nat} {ret : Option FieldType} {hh : List (Nat × Nat × Nat × Nat)}
    (hy : plainName y.cls = true) (hw : ws = Cond.codeWith y cc maxL ret hh :: ws')
    (body : ∀ p e s m args below meth c s₁, BodyLoose p l y (headSpec ws rm) cc maxL ret e s m args below meth c s₁ → c.maxLocals = maxL → Pc args s →
      W p l e (headSpec ws rm).room s m args below meth c s.heap [] 0 0 (vx_MQ below Qc XC args s mc ms free) (entryFrame m args maxL)) : vx_Met l y ws rm Pc Qc XC mc ms free := by
  refine MetFree.of_bodyS (code := cc) (maxLocals := maxL) (ret := ret) hy ?_ ?_
  · intro args s m h hn
    obtain ⟨m9, meth, c, hn9, h1, h2, h3, h4, -, h5, h6, -⟩ := Cond.codeWith_spec (atoms_spec (ws := ws) h _ (by rw [hw]; exact List.mem_cons_self))
    cases hn.symm.trans hn9
    exact ⟨meth, c, h1, h2, h3, h4, h5, h6⟩
  · intro p e s m args below meth c s₁ B hml hP _
    have hh0 : s₁.heap = s.heap := by rw [B.state]; rfl
    obtain ⟨t, a1, o, b1, b2, b3⟩ := body p e s m args below meth c s₁ B hml hP s₁ hh0 (Stand.of_body B)
    exact ⟨t, o, a1, b1, b2, b3⟩
/-! ===== END ===== -/
end
section
/-! ===== BEGIN printed: names, fields, word lists, decode rows ===== -/
def RX0 : String := "CountedHeap$Memory"
def TX0 : u_T := fun k => match k with
  | 0 => ("CountedHeap$Memory", "sizes", "[I", true)
  | 1 => ("CountedHeap$Memory", "maps", "[I", true)
  | 2 => ("CountedHeap$Memory", "cells", "[I", true)
  | 3 => ("CountedHeap$Memory", "used", "[Z", true)
  | 4 => ("CountedHeap$Memory", "types", "[I", true)
  | 5 => ("CountedHeap$Memory", "counts", "[I", true)
  | 6 => ("CountedHeap$Memory", "reached", "[Z", true)
  | 7 => ("CountedHeap$Memory", "queue", "[I", true)
  | 8 => ("CountedHeap$Memory", "queued", "I", false)
  | 9 => ("CountedHeap$Memory", "usedTotal", "I", false)
  | _ => ("CountedHeap$Memory", "givenBack", "I", false)
def tyX0 : Nat → FieldType := fun k => match k with
  | 0 => .array .int
  | 1 => .array .int
  | 2 => .array .int
  | 3 => .array .boolean
  | 4 => .array .int
  | 5 => .array .int
  | 6 => .array .boolean
  | 7 => .array .int
  | 8 => .int
  | 9 => .int
  | _ => .int
abbrev wsX00 : List Cond := u_ws RX0 TX0 11
theorem nmX0 : ∀ a, a < 11 → ∀ b, b < 11 → a ≠ b → (TX0 a).2.1 ≠ (TX0 b).2.1 := by decide +kernel
theorem tyX0_ok : ∀ k, k < 11 → parseFieldDescriptor (TX0 k).2.2.1 = some (tyX0 k) := by decide +kernel
abbrev cX0_init : ByteArray := prog_2_method_1_code
def yX0_init : MethodName := ⟨RX0, "<init>", "()V"⟩
abbrev cX0_wordOf : ByteArray := prog_2_method_2_code
def yX0_wordOf : MethodName := ⟨RX0, "wordOf", "(I)I"⟩
abbrev cX0_cellOfWord : ByteArray := prog_2_method_3_code
def yX0_cellOfWord : MethodName := ⟨RX0, "cellOfWord", "(II)I"⟩
abbrev cX0_blockOf : ByteArray := prog_2_method_4_code
def yX0_blockOf : MethodName := ⟨RX0, "blockOf", "(I)I"⟩
abbrev cX0_cellOf : ByteArray := prog_2_method_5_code
def yX0_cellOf : MethodName := ⟨RX0, "cellOf", "(I)I"⟩
abbrev cX0_holdsPointer : ByteArray := prog_2_method_6_code
def yX0_holdsPointer : MethodName := ⟨RX0, "holdsPointer", "(I)Z"⟩
abbrev cX0_isBlock : ByteArray := prog_2_method_7_code
def yX0_isBlock : MethodName := ⟨RX0, "isBlock", "(I)Z"⟩
abbrev cX0_hasWord : ByteArray := prog_2_method_8_code
def yX0_hasWord : MethodName := ⟨RX0, "hasWord", "(II)Z"⟩
abbrev cX0_isPointerWord : ByteArray := prog_2_method_9_code
def yX0_isPointerWord : MethodName := ⟨RX0, "isPointerWord", "(II)Z"⟩
abbrev cX0_isFull : ByteArray := prog_2_method_10_code
def yX0_isFull : MethodName := ⟨RX0, "isFull", "()Z"⟩
abbrev cX0_blockTotal : ByteArray := prog_2_method_11_code
def yX0_blockTotal : MethodName := ⟨RX0, "blockTotal", "()I"⟩
abbrev cX0_givenTotal : ByteArray := prog_2_method_12_code
def yX0_givenTotal : MethodName := ⟨RX0, "givenTotal", "()I"⟩
abbrev cX0_countOf : ByteArray := prog_2_method_13_code
def yX0_countOf : MethodName := ⟨RX0, "countOf", "(I)I"⟩
abbrev cX0_blockType : ByteArray := prog_2_method_14_code
def yX0_blockType : MethodName := ⟨RX0, "blockType", "(I)I"⟩
abbrev cX0_hasBlockOfType : ByteArray := prog_2_method_15_code
def yX0_hasBlockOfType : MethodName := ⟨RX0, "hasBlockOfType", "(I)Z"⟩
abbrev cX0_changeType : ByteArray := prog_2_method_16_code
def yX0_changeType : MethodName := ⟨RX0, "changeType", "(III)V"⟩
abbrev cX0_read : ByteArray := prog_2_method_17_code
def yX0_read : MethodName := ⟨RX0, "read", "(I)I"⟩
abbrev cX0_writeInt : ByteArray := prog_2_method_18_code
def yX0_writeInt : MethodName := ⟨RX0, "writeInt", "(II)V"⟩
abbrev cX0_writePointer : ByteArray := prog_2_method_19_code
def yX0_writePointer : MethodName := ⟨RX0, "writePointer", "(II)V"⟩
abbrev cX0_makeBlock : ByteArray := prog_2_method_20_code
def yX0_makeBlock : MethodName := ⟨RX0, "makeBlock", "(I)I"⟩
abbrev cX0_emptyWords : ByteArray := prog_2_method_21_code
def yX0_emptyWords : MethodName := ⟨RX0, "emptyWords", "(I)V"⟩
abbrev cX0_dropPointer : ByteArray := prog_2_method_22_code
def yX0_dropPointer : MethodName := ⟨RX0, "dropPointer", "(I)V"⟩
abbrev cX0_dropPointersOf : ByteArray := prog_2_method_23_code
def yX0_dropPointersOf : MethodName := ⟨RX0, "dropPointersOf", "(I)V"⟩
abbrev cX0_countLess : ByteArray := prog_2_method_24_code
def yX0_countLess : MethodName := ⟨RX0, "countLess", "(I)V"⟩
abbrev cX0_giveBack : ByteArray := prog_2_method_25_code
def yX0_giveBack : MethodName := ⟨RX0, "giveBack", "(I)V"⟩
abbrev cX0_enqueue : ByteArray := prog_2_method_26_code
def yX0_enqueue : MethodName := ⟨RX0, "enqueue", "(I)V"⟩
abbrev cX0_findLost : ByteArray := prog_2_method_27_code
def yX0_findLost : MethodName := ⟨RX0, "findLost", "()I"⟩
abbrev cX0_reachPointersOf : ByteArray := prog_2_method_28_code
def yX0_reachPointersOf : MethodName := ⟨RX0, "reachPointersOf", "(I)V"⟩
abbrev cX0_reach : ByteArray := prog_2_method_29_code
def yX0_reach : MethodName := ⟨RX0, "reach", "(I)V"⟩
abbrev cX0_giveBackLost : ByteArray := prog_2_method_30_code
def yX0_giveBackLost : MethodName := ⟨RX0, "giveBackLost", "()I"⟩
abbrev cX0_takeOffCountsOf : ByteArray := prog_2_method_31_code
def yX0_takeOffCountsOf : MethodName := ⟨RX0, "takeOffCountsOf", "(I)V"⟩
def RX1 : String := "CountedHeap$Program"
def TX1 : u_T := fun k => match k with
  | 0 => ("CountedHeap$Program", "ops", "[I", true)
  | 1 => ("CountedHeap$Program", "xs", "[I", true)
  | 2 => ("CountedHeap$Program", "ys", "[I", true)
  | 3 => ("CountedHeap$Program", "zs", "[I", true)
  | _ => ("CountedHeap$Program", "length", "I", false)
def tyX1 : Nat → FieldType := fun k => match k with
  | 0 => .array .int
  | 1 => .array .int
  | 2 => .array .int
  | 3 => .array .int
  | _ => .int
abbrev wsX10 : List Cond := u_ws RX1 TX1 5
theorem nmX1 : ∀ a, a < 5 → ∀ b, b < 5 → a ≠ b → (TX1 a).2.1 ≠ (TX1 b).2.1 := by decide +kernel
theorem tyX1_ok : ∀ k, k < 5 → parseFieldDescriptor (TX1 k).2.2.1 = some (tyX1 k) := by decide +kernel
abbrev cX1_init : ByteArray := prog_3_method_1_code
def yX1_init : MethodName := ⟨RX1, "<init>", "()V"⟩
abbrev cX1_isFull : ByteArray := prog_3_method_2_code
def yX1_isFull : MethodName := ⟨RX1, "isFull", "()Z"⟩
abbrev cX1_has : ByteArray := prog_3_method_3_code
def yX1_has : MethodName := ⟨RX1, "has", "(I)Z"⟩
abbrev cX1_append : ByteArray := prog_3_method_4_code
def yX1_append : MethodName := ⟨RX1, "append", "(IIII)I"⟩
abbrev cX1_removeAll : ByteArray := prog_3_method_5_code
def yX1_removeAll : MethodName := ⟨RX1, "removeAll", "()I"⟩
abbrev cX1_opAt : ByteArray := prog_3_method_6_code
def yX1_opAt : MethodName := ⟨RX1, "opAt", "(I)I"⟩
abbrev cX1_xAt : ByteArray := prog_3_method_7_code
def yX1_xAt : MethodName := ⟨RX1, "xAt", "(I)I"⟩
abbrev cX1_yAt : ByteArray := prog_3_method_8_code
def yX1_yAt : MethodName := ⟨RX1, "yAt", "(I)I"⟩
abbrev cX1_zAt : ByteArray := prog_3_method_9_code
def yX1_zAt : MethodName := ⟨RX1, "zAt", "(I)I"⟩
def RX2 : String := "CountedHeap"
def TX2 : u_T := fun k => match k with
  | 0 => ("CountedHeap", "program", "LCountedHeap$Program;", true)
  | 1 => ("CountedHeap", "memory", "LCountedHeap$Memory;", true)
  | 2 => ("CountedHeap", "returnPlaces", "[I", true)
  | 3 => ("CountedHeap", "openCalls", "I", false)
  | _ => ("CountedHeap", "nextPlace", "I", false)
def tyX2 : Nat → FieldType := fun k => match k with
  | 0 => .object "CountedHeap$Program"
  | 1 => .object "CountedHeap$Memory"
  | 2 => .array .int
  | 3 => .int
  | _ => .int
abbrev wsX20 : List Cond := u_ws RX2 TX2 5
theorem nmX2 : ∀ a, a < 5 → ∀ b, b < 5 → a ≠ b → (TX2 a).2.1 ≠ (TX2 b).2.1 := by decide +kernel
theorem tyX2_ok : ∀ k, k < 5 → parseFieldDescriptor (TX2 k).2.2.1 = some (tyX2 k) := by decide +kernel
abbrev cX2_init : ByteArray := prog_1_method_1_code
def yX2_init : MethodName := ⟨RX2, "<init>", "()V"⟩
abbrev cX2_type : ByteArray := prog_1_method_2_code
def yX2_type : MethodName := ⟨RX2, "type", "(III)Z"⟩
abbrev cX2_add : ByteArray := prog_1_method_3_code
def yX2_add : MethodName := ⟨RX2, "add", "(IIII)I"⟩
abbrev cX2_clear : ByteArray := prog_1_method_4_code
def yX2_clear : MethodName := ⟨RX2, "clear", "()I"⟩
abbrev cX2_start : ByteArray := prog_1_method_5_code
def yX2_start : MethodName := ⟨RX2, "start", "(I)Z"⟩
abbrev cX2_run : ByteArray := prog_1_method_6_code
def yX2_run : MethodName := ⟨RX2, "run", "(I)I"⟩
abbrev cX2_next : ByteArray := prog_1_method_7_code
def yX2_next : MethodName := ⟨RX2, "next", "()I"⟩
abbrev cX2_open : ByteArray := prog_1_method_8_code
def yX2_open : MethodName := ⟨RX2, "open", "()I"⟩
abbrev cX2_frame : ByteArray := prog_1_method_9_code
def yX2_frame : MethodName := ⟨RX2, "frame", "(I)I"⟩
abbrev cX2_set : ByteArray := prog_1_method_10_code
def yX2_set : MethodName := ⟨RX2, "set", "(II)Z"⟩
abbrev cX2_root : ByteArray := prog_1_method_11_code
def yX2_root : MethodName := ⟨RX2, "root", "(I)I"⟩
abbrev cX2_blocks : ByteArray := prog_1_method_12_code
def yX2_blocks : MethodName := ⟨RX2, "blocks", "()I"⟩
abbrev cX2_count : ByteArray := prog_1_method_13_code
def yX2_count : MethodName := ⟨RX2, "count", "(I)I"⟩
abbrev cX2_typeOf : ByteArray := prog_1_method_14_code
def yX2_typeOf : MethodName := ⟨RX2, "typeOf", "(I)I"⟩
abbrev cX2_word : ByteArray := prog_1_method_15_code
def yX2_word : MethodName := ⟨RX2, "word", "(II)J"⟩
abbrev cX2_given : ByteArray := prog_1_method_16_code
def yX2_given : MethodName := ⟨RX2, "given", "()I"⟩
abbrev cX2_lost : ByteArray := prog_1_method_17_code
def yX2_lost : MethodName := ⟨RX2, "lost", "()I"⟩
abbrev cX2_collect : ByteArray := prog_1_method_18_code
def yX2_collect : MethodName := ⟨RX2, "collect", "()I"⟩
abbrev cX2_isType : ByteArray := prog_1_method_19_code
def yX2_isType : MethodName := ⟨RX2, "isType", "(I)Z"⟩
abbrev cX2_isPlace : ByteArray := prog_1_method_20_code
def yX2_isPlace : MethodName := ⟨RX2, "isPlace", "(I)Z"⟩
abbrev cX2_isFrameInt : ByteArray := prog_1_method_21_code
def yX2_isFrameInt : MethodName := ⟨RX2, "isFrameInt", "(I)Z"⟩
abbrev cX2_isOperand : ByteArray := prog_1_method_22_code
def yX2_isOperand : MethodName := ⟨RX2, "isOperand", "(I)Z"⟩
abbrev cX2_fits : ByteArray := prog_1_method_23_code
def yX2_fits : MethodName := ⟨RX2, "fits", "(II)Z"⟩
abbrev cX2_goTo : ByteArray := prog_1_method_24_code
def yX2_goTo : MethodName := ⟨RX2, "goTo", "(I)V"⟩
abbrev cX2_doInstruction : ByteArray := prog_1_method_25_code
def yX2_doInstruction : MethodName := ⟨RX2, "doInstruction", "(I)V"⟩
abbrev cX2_checkOperand : ByteArray := prog_1_method_26_code
def yX2_checkOperand : MethodName := ⟨RX2, "checkOperand", "(II)V"⟩
abbrev cX2_checkWord : ByteArray := prog_1_method_27_code
def yX2_checkWord : MethodName := ⟨RX2, "checkWord", "(II)V"⟩
abbrev cX2_checkRoom : ByteArray := prog_1_method_28_code
def yX2_checkRoom : MethodName := ⟨RX2, "checkRoom", "(I)V"⟩
abbrev cX2_intResult : ByteArray := prog_1_method_29_code
def yX2_intResult : MethodName := ⟨RX2, "intResult", "(III)I"⟩
abbrev cX2_pointerResult : ByteArray := prog_1_method_30_code
def yX2_pointerResult : MethodName := ⟨RX2, "pointerResult", "(II)I"⟩
abbrev cX2_valueOf : ByteArray := prog_1_method_31_code
def yX2_valueOf : MethodName := ⟨RX2, "valueOf", "(I)I"⟩
abbrev cX2_placeAfter : ByteArray := prog_1_method_32_code
def yX2_placeAfter : MethodName := ⟨RX2, "placeAfter", "(IIII)I"⟩
def RX3 : String := "CountedHeapModel"
def TX3 : u_T := fun k => match k with
  | 0 => ("CountedHeapModel", "size", "[I", true)
  | 1 => ("CountedHeapModel", "map", "[I", true)
  | 2 => ("CountedHeapModel", "code", "[I", true)
  | 3 => ("CountedHeapModel", "length", "I", false)
  | 4 => ("CountedHeapModel", "next", "I", false)
  | 5 => ("CountedHeapModel", "depth", "I", false)
  | 6 => ("CountedHeapModel", "given", "I", false)
  | 7 => ("CountedHeapModel", "thrown", "I", false)
  | 8 => ("CountedHeapModel", "stack", "[I", true)
  | 9 => ("CountedHeapModel", "ints", "[I", true)
  | 10 => ("CountedHeapModel", "roots", "[I", true)
  | 11 => ("CountedHeapModel", "kind", "[I", true)
  | 12 => ("CountedHeapModel", "words", "[I", true)
  | 13 => ("CountedHeapModel", "pointers", "[I", true)
  | 14 => ("CountedHeapModel", "seen", "[Z", true)
  | 15 => ("CountedHeapModel", "block", "I", false)
  | _ => ("CountedHeapModel", "word", "I", false)
def tyX3 : Nat → FieldType := fun k => match k with
  | 0 => .array .int
  | 1 => .array .int
  | 2 => .array .int
  | 3 => .int
  | 4 => .int
  | 5 => .int
  | 6 => .int
  | 7 => .int
  | 8 => .array .int
  | 9 => .array .int
  | 10 => .array .int
  | 11 => .array .int
  | 12 => .array .int
  | 13 => .array .int
  | 14 => .array .boolean
  | 15 => .int
  | _ => .int
abbrev wsX30 : List Cond := u_ws RX3 TX3 17
theorem nmX3 : ∀ a, a < 17 → ∀ b, b < 17 → a ≠ b → (TX3 a).2.1 ≠ (TX3 b).2.1 := by decide +kernel
theorem tyX3_ok : ∀ k, k < 17 → parseFieldDescriptor (TX3 k).2.2.1 = some (tyX3 k) := by decide +kernel
abbrev cX3_init : ByteArray := prog_5_method_1_code
def yX3_init : MethodName := ⟨RX3, "<init>", "()V"⟩
abbrev cX3_thrown : ByteArray := prog_5_method_2_code
def yX3_thrown : MethodName := ⟨RX3, "thrown", "()I"⟩
abbrev cX3_within : ByteArray := prog_5_method_3_code
def yX3_within : MethodName := ⟨RX3, "within", "(III)Z"⟩
abbrev cX3_type : ByteArray := prog_5_method_4_code
def yX3_type : MethodName := ⟨RX3, "type", "(III)Z"⟩
abbrev cX3_isOperand : ByteArray := prog_5_method_5_code
def yX3_isOperand : MethodName := ⟨RX3, "isOperand", "(I)Z"⟩
abbrev cX3_takes : ByteArray := prog_5_method_6_code
def yX3_takes : MethodName := ⟨RX3, "takes", "(II)I"⟩
abbrev cX3_isRight : ByteArray := prog_5_method_7_code
def yX3_isRight : MethodName := ⟨RX3, "isRight", "(III)Z"⟩
abbrev cX3_add : ByteArray := prog_5_method_8_code
def yX3_add : MethodName := ⟨RX3, "add", "(IIII)I"⟩
abbrev cX3_clear : ByteArray := prog_5_method_9_code
def yX3_clear : MethodName := ⟨RX3, "clear", "()I"⟩
abbrev cX3_start : ByteArray := prog_5_method_10_code
def yX3_start : MethodName := ⟨RX3, "start", "(I)Z"⟩
abbrev cX3_isBlock : ByteArray := prog_5_method_11_code
def yX3_isBlock : MethodName := ⟨RX3, "isBlock", "(I)Z"⟩
abbrev cX3_isPointer : ByteArray := prog_5_method_12_code
def yX3_isPointer : MethodName := ⟨RX3, "isPointer", "(II)Z"⟩
abbrev cX3_countAll : ByteArray := prog_5_method_13_code
def yX3_countAll : MethodName := ⟨RX3, "countAll", "()V"⟩
abbrev cX3_giveBack : ByteArray := prog_5_method_14_code
def yX3_giveBack : MethodName := ⟨RX3, "giveBack", "()V"⟩
abbrev cX3_reach : ByteArray := prog_5_method_15_code
def yX3_reach : MethodName := ⟨RX3, "reach", "()V"⟩
abbrev cX3_find : ByteArray := prog_5_method_16_code
def yX3_find : MethodName := ⟨RX3, "find", "(II)I"⟩
abbrev cX3_read : ByteArray := prog_5_method_17_code
def yX3_read : MethodName := ⟨RX3, "read", "(I)I"⟩
abbrev cX3_write : ByteArray := prog_5_method_18_code
def yX3_write : MethodName := ⟨RX3, "write", "(II)V"⟩
abbrev cX3_fault : ByteArray := prog_5_method_19_code
def yX3_fault : MethodName := ⟨RX3, "fault", "(I)I"⟩
abbrev cX3_free : ByteArray := prog_5_method_20_code
def yX3_free : MethodName := ⟨RX3, "free", "()I"⟩
abbrev cX3_value : ByteArray := prog_5_method_21_code
def yX3_value : MethodName := ⟨RX3, "value", "(III)I"⟩
abbrev cX3_act : ByteArray := prog_5_method_22_code
def yX3_act : MethodName := ⟨RX3, "act", "(I)V"⟩
abbrev cX3_run : ByteArray := prog_5_method_23_code
def yX3_run : MethodName := ⟨RX3, "run", "(I)I"⟩
abbrev cX3_next : ByteArray := prog_5_method_24_code
def yX3_next : MethodName := ⟨RX3, "next", "()I"⟩
abbrev cX3_open : ByteArray := prog_5_method_25_code
def yX3_open : MethodName := ⟨RX3, "open", "()I"⟩
abbrev cX3_frame : ByteArray := prog_5_method_26_code
def yX3_frame : MethodName := ⟨RX3, "frame", "(I)I"⟩
abbrev cX3_set : ByteArray := prog_5_method_27_code
def yX3_set : MethodName := ⟨RX3, "set", "(II)Z"⟩
abbrev cX3_root : ByteArray := prog_5_method_28_code
def yX3_root : MethodName := ⟨RX3, "root", "(I)I"⟩
abbrev cX3_blocks : ByteArray := prog_5_method_29_code
def yX3_blocks : MethodName := ⟨RX3, "blocks", "()I"⟩
abbrev cX3_count : ByteArray := prog_5_method_30_code
def yX3_count : MethodName := ⟨RX3, "count", "(I)I"⟩
abbrev cX3_typeOf : ByteArray := prog_5_method_31_code
def yX3_typeOf : MethodName := ⟨RX3, "typeOf", "(I)I"⟩
abbrev cX3_word : ByteArray := prog_5_method_32_code
def yX3_word : MethodName := ⟨RX3, "word", "(II)J"⟩
abbrev cX3_given : ByteArray := prog_5_method_33_code
def yX3_given : MethodName := ⟨RX3, "given", "()I"⟩
abbrev cX3_lost : ByteArray := prog_5_method_34_code
def yX3_lost : MethodName := ⟨RX3, "lost", "()I"⟩
abbrev cX3_collect : ByteArray := prog_5_method_35_code
def yX3_collect : MethodName := ⟨RX3, "collect", "()I"⟩
def RJ0 : String := "java/lang/String"
def TJ0 : u_T := fun k => match k with
  | _ => ("", "", "", false)
def tyJ0 : Nat → FieldType := fun k => match k with
  | _ => .int
abbrev wsJ00 : List Cond := u_ws RJ0 TJ0 0
theorem nmJ0 : ∀ a, a < 0 → ∀ b, b < 0 → a ≠ b → (TJ0 a).2.1 ≠ (TJ0 b).2.1 := by decide +kernel
theorem tyJ0_ok : ∀ k, k < 0 → parseFieldDescriptor (TJ0 k).2.2.1 = some (tyJ0 k) := by decide +kernel
def RL : String := "CountedHeapLaw"
abbrev cL_run : ByteArray := method_3_code
def yL_run : MethodName := ⟨RL, "run", "(LCountedHeap;I[J)I"⟩
abbrev cL_law : ByteArray := code
def yL_law : MethodName := ⟨RL, "law", "([I)Z"⟩
def wsX0_init : List Cond := .code yX0_init cX0_init 1 none :: ([.methodLink RX0 3 objectInit, .instanceMethod objectInit, .code objectInit ⟨#[0xb1]⟩ 1 none, .arrayClass .int, .fieldLink RX0 9 "CountedHeap$Memory" "sizes" "[I", .fieldLink RX0 15 "CountedHeap$Memory" "maps" "[I", .fieldLink RX0 18 "CountedHeap$Memory" "cells" "[I", .arrayClass .boolean, .fieldLink RX0 21 "CountedHeap$Memory" "used" "[Z", .fieldLink RX0 25 "CountedHeap$Memory" "types" "[I", .fieldLink RX0 28 "CountedHeap$Memory" "counts" "[I", .fieldLink RX0 31 "CountedHeap$Memory" "reached" "[Z", .fieldLink RX0 34 "CountedHeap$Memory" "queue" "[I", .fieldLink RX0 37 "CountedHeap$Memory" "queued" "I", .fieldLink RX0 41 "CountedHeap$Memory" "usedTotal" "I", .fieldLink RX0 44 "CountedHeap$Memory" "givenBack" "I"] ++ wsX00)
def wsX0_wordOf : List Cond := .code yX0_wordOf cX0_wordOf 1 (some .int) :: ([])
def wsX0_cellOfWord : List Cond := .code yX0_cellOfWord cX0_cellOfWord 2 (some .int) :: ([])
def wsX0_blockOf : List Cond := .code yX0_blockOf cX0_blockOf 2 (some .int) :: ([.fieldLink RX0 18 "CountedHeap$Memory" "cells" "[I"] ++ wsX00)
def wsX0_cellOf : List Cond := .code yX0_cellOf cX0_cellOf 2 (some .int) :: ([.methodLink RX0 47 yX0_blockOf, .instanceMethod yX0_blockOf, .selects RX0 yX0_blockOf yX0_blockOf, .initialized RX0, .code yX0_blockOf cX0_blockOf 2 (some .int), .fieldLink RX0 18 "CountedHeap$Memory" "cells" "[I", .methodLink RX0 51 yX0_wordOf, .static yX0_wordOf, .code yX0_wordOf cX0_wordOf 1 (some .int), .methodLink RX0 54 yX0_cellOfWord, .static yX0_cellOfWord, .code yX0_cellOfWord cX0_cellOfWord 2 (some .int)] ++ wsX00)
def wsX0_isBlock : List Cond := .code yX0_isBlock cX0_isBlock 2 (some .boolean) :: ([.fieldLink RX0 21 "CountedHeap$Memory" "used" "[Z"] ++ wsX00)
def wsX0_hasWord : List Cond := .code yX0_hasWord cX0_hasWord 3 (some .boolean) :: ([.fieldLink RX0 9 "CountedHeap$Memory" "sizes" "[I", .fieldLink RX0 25 "CountedHeap$Memory" "types" "[I", .methodLink RX0 62 yX0_isBlock, .instanceMethod yX0_isBlock, .selects RX0 yX0_isBlock yX0_isBlock, .initialized RX0, .code yX0_isBlock cX0_isBlock 2 (some .boolean), .fieldLink RX0 21 "CountedHeap$Memory" "used" "[Z"] ++ wsX00)
def wsX0_isPointerWord : List Cond := .code yX0_isPointerWord cX0_isPointerWord 3 (some .boolean) :: ([.fieldLink RX0 15 "CountedHeap$Memory" "maps" "[I", .fieldLink RX0 25 "CountedHeap$Memory" "types" "[I", .methodLink RX0 66 yX0_hasWord, .instanceMethod yX0_hasWord, .selects RX0 yX0_hasWord yX0_hasWord, .initialized RX0, .code yX0_hasWord cX0_hasWord 3 (some .boolean), .fieldLink RX0 9 "CountedHeap$Memory" "sizes" "[I", .methodLink RX0 62 yX0_isBlock, .instanceMethod yX0_isBlock, .selects RX0 yX0_isBlock yX0_isBlock, .code yX0_isBlock cX0_isBlock 2 (some .boolean), .fieldLink RX0 21 "CountedHeap$Memory" "used" "[Z"] ++ wsX00)
def wsX0_holdsPointer_r1 : List Cond := [Cond.methodLink RX0 47 yX0_blockOf, Cond.instanceMethod yX0_blockOf, Cond.selects RX0 yX0_blockOf yX0_blockOf, Cond.initialized RX0, Cond.code yX0_blockOf cX0_blockOf 2 (some .int), Cond.fieldLink RX0 18 "CountedHeap$Memory" "cells" "[I", Cond.methodLink RX0 51 yX0_wordOf, Cond.static yX0_wordOf, Cond.code yX0_wordOf cX0_wordOf 1 (some .int), Cond.methodLink RX0 58 yX0_isPointerWord, Cond.instanceMethod yX0_isPointerWord, Cond.selects RX0 yX0_isPointerWord yX0_isPointerWord, Cond.code yX0_isPointerWord cX0_isPointerWord 3 (some .boolean), Cond.fieldLink RX0 15 "CountedHeap$Memory" "maps" "[I", Cond.fieldLink RX0 25 "CountedHeap$Memory" "types" "[I", Cond.methodLink RX0 66 yX0_hasWord, Cond.instanceMethod yX0_hasWord, Cond.selects RX0 yX0_hasWord yX0_hasWord, Cond.code yX0_hasWord cX0_hasWord 3 (some .boolean), Cond.fieldLink RX0 9 "CountedHeap$Memory" "sizes" "[I", Cond.methodLink RX0 62 yX0_isBlock, Cond.instanceMethod yX0_isBlock, Cond.selects RX0 yX0_isBlock yX0_isBlock, Cond.code yX0_isBlock cX0_isBlock 2 (some .boolean)]
def wsX0_holdsPointer_r2 : List Cond := [Cond.fieldLink RX0 21 "CountedHeap$Memory" "used" "[Z"]
def wsX0_holdsPointer : List Cond := .code yX0_holdsPointer cX0_holdsPointer 2 (some .boolean) :: ((wsX0_holdsPointer_r1 ++ wsX0_holdsPointer_r2) ++ wsX00)
def wsX0_isFull : List Cond := .code yX0_isFull cX0_isFull 1 (some .boolean) :: ([.fieldLink RX0 41 "CountedHeap$Memory" "usedTotal" "I"] ++ wsX00)
def wsX0_blockTotal : List Cond := .code yX0_blockTotal cX0_blockTotal 1 (some .int) :: ([.fieldLink RX0 41 "CountedHeap$Memory" "usedTotal" "I"] ++ wsX00)
def wsX0_givenTotal : List Cond := .code yX0_givenTotal cX0_givenTotal 1 (some .int) :: ([.fieldLink RX0 44 "CountedHeap$Memory" "givenBack" "I"] ++ wsX00)
def wsX0_countOf : List Cond := .code yX0_countOf cX0_countOf 2 (some .int) :: ([.fieldLink RX0 28 "CountedHeap$Memory" "counts" "[I", .methodLink RX0 62 yX0_isBlock, .instanceMethod yX0_isBlock, .selects RX0 yX0_isBlock yX0_isBlock, .initialized RX0, .code yX0_isBlock cX0_isBlock 2 (some .boolean), .fieldLink RX0 21 "CountedHeap$Memory" "used" "[Z"] ++ wsX00)
def wsX0_blockType : List Cond := .code yX0_blockType cX0_blockType 2 (some .int) :: ([.fieldLink RX0 25 "CountedHeap$Memory" "types" "[I", .methodLink RX0 62 yX0_isBlock, .instanceMethod yX0_isBlock, .selects RX0 yX0_isBlock yX0_isBlock, .initialized RX0, .code yX0_isBlock cX0_isBlock 2 (some .boolean), .fieldLink RX0 21 "CountedHeap$Memory" "used" "[Z"] ++ wsX00)
def wsX0_hasBlockOfType : List Cond := .code yX0_hasBlockOfType cX0_hasBlockOfType 3 (some .boolean) :: ([.fieldLink RX0 21 "CountedHeap$Memory" "used" "[Z", .fieldLink RX0 25 "CountedHeap$Memory" "types" "[I"] ++ wsX00)
def wsX0_changeType : List Cond := .code yX0_changeType cX0_changeType 4 none :: ([.fieldLink RX0 9 "CountedHeap$Memory" "sizes" "[I", .fieldLink RX0 15 "CountedHeap$Memory" "maps" "[I"] ++ wsX00)
def wsX0_read : List Cond := .code yX0_read cX0_read 2 (some .int) :: ([.fieldLink RX0 18 "CountedHeap$Memory" "cells" "[I"] ++ wsX00)
def wsX0_writeInt : List Cond := .code yX0_writeInt cX0_writeInt 3 none :: ([.fieldLink RX0 18 "CountedHeap$Memory" "cells" "[I"] ++ wsX00)
def wsX0_giveBack : List Cond := .code yX0_giveBack cX0_giveBack 2 none :: ([.fieldLink RX0 21 "CountedHeap$Memory" "used" "[Z", .fieldLink RX0 41 "CountedHeap$Memory" "usedTotal" "I", .fieldLink RX0 44 "CountedHeap$Memory" "givenBack" "I"] ++ wsX00)
def wsX0_enqueue : List Cond := .code yX0_enqueue cX0_enqueue 2 none :: ([.fieldLink RX0 37 "CountedHeap$Memory" "queued" "I", .fieldLink RX0 34 "CountedHeap$Memory" "queue" "[I"] ++ wsX00)
def wsX0_countLess : List Cond := .code yX0_countLess cX0_countLess 2 none :: ([.fieldLink RX0 28 "CountedHeap$Memory" "counts" "[I", .methodLink RX0 62 yX0_isBlock, .instanceMethod yX0_isBlock, .selects RX0 yX0_isBlock yX0_isBlock, .initialized RX0, .code yX0_isBlock cX0_isBlock 2 (some .boolean), .fieldLink RX0 21 "CountedHeap$Memory" "used" "[Z", .methodLink RX0 82 yX0_giveBack, .instanceMethod yX0_giveBack, .selects RX0 yX0_giveBack yX0_giveBack, .code yX0_giveBack cX0_giveBack 2 none, .fieldLink RX0 41 "CountedHeap$Memory" "usedTotal" "I", .fieldLink RX0 44 "CountedHeap$Memory" "givenBack" "I", .methodLink RX0 85 yX0_enqueue, .instanceMethod yX0_enqueue, .selects RX0 yX0_enqueue yX0_enqueue, .code yX0_enqueue cX0_enqueue 2 none, .fieldLink RX0 37 "CountedHeap$Memory" "queued" "I", .fieldLink RX0 34 "CountedHeap$Memory" "queue" "[I"] ++ wsX00)
def wsX0_dropPointersOf_r1 : List Cond := [Cond.fieldLink RX0 9 "CountedHeap$Memory" "sizes" "[I", Cond.fieldLink RX0 25 "CountedHeap$Memory" "types" "[I", Cond.fieldLink RX0 15 "CountedHeap$Memory" "maps" "[I", Cond.fieldLink RX0 18 "CountedHeap$Memory" "cells" "[I", Cond.methodLink RX0 54 yX0_cellOfWord, Cond.static yX0_cellOfWord, Cond.initialized RX0, Cond.code yX0_cellOfWord cX0_cellOfWord 2 (some .int), Cond.methodLink RX0 76 yX0_countLess, Cond.instanceMethod yX0_countLess, Cond.selects RX0 yX0_countLess yX0_countLess, Cond.code yX0_countLess cX0_countLess 2 none, Cond.fieldLink RX0 28 "CountedHeap$Memory" "counts" "[I", Cond.methodLink RX0 62 yX0_isBlock, Cond.instanceMethod yX0_isBlock, Cond.selects RX0 yX0_isBlock yX0_isBlock, Cond.code yX0_isBlock cX0_isBlock 2 (some .boolean), Cond.fieldLink RX0 21 "CountedHeap$Memory" "used" "[Z", Cond.methodLink RX0 82 yX0_giveBack, Cond.instanceMethod yX0_giveBack, Cond.selects RX0 yX0_giveBack yX0_giveBack, Cond.code yX0_giveBack cX0_giveBack 2 none, Cond.fieldLink RX0 41 "CountedHeap$Memory" "usedTotal" "I", Cond.fieldLink RX0 44 "CountedHeap$Memory" "givenBack" "I"]
def wsX0_dropPointersOf_r2 : List Cond := [Cond.methodLink RX0 85 yX0_enqueue, Cond.instanceMethod yX0_enqueue, Cond.selects RX0 yX0_enqueue yX0_enqueue, Cond.code yX0_enqueue cX0_enqueue 2 none, Cond.fieldLink RX0 37 "CountedHeap$Memory" "queued" "I", Cond.fieldLink RX0 34 "CountedHeap$Memory" "queue" "[I"]
def wsX0_dropPointersOf : List Cond := .code yX0_dropPointersOf cX0_dropPointersOf 3 none :: ((wsX0_dropPointersOf_r1 ++ wsX0_dropPointersOf_r2) ++ wsX00)
def wsX0_dropPointer_r1 : List Cond := [Cond.fieldLink RX0 37 "CountedHeap$Memory" "queued" "I", Cond.fieldLink RX0 34 "CountedHeap$Memory" "queue" "[I", Cond.methodLink RX0 76 yX0_countLess, Cond.instanceMethod yX0_countLess, Cond.selects RX0 yX0_countLess yX0_countLess, Cond.initialized RX0, Cond.code yX0_countLess cX0_countLess 2 none, Cond.fieldLink RX0 28 "CountedHeap$Memory" "counts" "[I", Cond.methodLink RX0 62 yX0_isBlock, Cond.instanceMethod yX0_isBlock, Cond.selects RX0 yX0_isBlock yX0_isBlock, Cond.code yX0_isBlock cX0_isBlock 2 (some .boolean), Cond.fieldLink RX0 21 "CountedHeap$Memory" "used" "[Z", Cond.methodLink RX0 82 yX0_giveBack, Cond.instanceMethod yX0_giveBack, Cond.selects RX0 yX0_giveBack yX0_giveBack, Cond.code yX0_giveBack cX0_giveBack 2 none, Cond.fieldLink RX0 41 "CountedHeap$Memory" "usedTotal" "I", Cond.fieldLink RX0 44 "CountedHeap$Memory" "givenBack" "I", Cond.methodLink RX0 85 yX0_enqueue, Cond.instanceMethod yX0_enqueue, Cond.selects RX0 yX0_enqueue yX0_enqueue, Cond.code yX0_enqueue cX0_enqueue 2 none, Cond.methodLink RX0 79 yX0_dropPointersOf]
def wsX0_dropPointer_r2 : List Cond := [Cond.instanceMethod yX0_dropPointersOf, Cond.selects RX0 yX0_dropPointersOf yX0_dropPointersOf, Cond.code yX0_dropPointersOf cX0_dropPointersOf 3 none, Cond.fieldLink RX0 9 "CountedHeap$Memory" "sizes" "[I", Cond.fieldLink RX0 25 "CountedHeap$Memory" "types" "[I", Cond.fieldLink RX0 15 "CountedHeap$Memory" "maps" "[I", Cond.fieldLink RX0 18 "CountedHeap$Memory" "cells" "[I", Cond.methodLink RX0 54 yX0_cellOfWord, Cond.static yX0_cellOfWord, Cond.code yX0_cellOfWord cX0_cellOfWord 2 (some .int)]
def wsX0_dropPointer : List Cond := .code yX0_dropPointer cX0_dropPointer 3 none :: ((wsX0_dropPointer_r1 ++ wsX0_dropPointer_r2) ++ wsX00)
def wsX0_writePointer_r1 : List Cond := [Cond.fieldLink RX0 18 "CountedHeap$Memory" "cells" "[I", Cond.fieldLink RX0 28 "CountedHeap$Memory" "counts" "[I", Cond.methodLink RX0 62 yX0_isBlock, Cond.instanceMethod yX0_isBlock, Cond.selects RX0 yX0_isBlock yX0_isBlock, Cond.initialized RX0, Cond.code yX0_isBlock cX0_isBlock 2 (some .boolean), Cond.fieldLink RX0 21 "CountedHeap$Memory" "used" "[Z", Cond.methodLink RX0 69 yX0_dropPointer, Cond.instanceMethod yX0_dropPointer, Cond.selects RX0 yX0_dropPointer yX0_dropPointer, Cond.code yX0_dropPointer cX0_dropPointer 3 none, Cond.fieldLink RX0 37 "CountedHeap$Memory" "queued" "I", Cond.fieldLink RX0 34 "CountedHeap$Memory" "queue" "[I", Cond.methodLink RX0 76 yX0_countLess, Cond.instanceMethod yX0_countLess, Cond.selects RX0 yX0_countLess yX0_countLess, Cond.code yX0_countLess cX0_countLess 2 none, Cond.methodLink RX0 82 yX0_giveBack, Cond.instanceMethod yX0_giveBack, Cond.selects RX0 yX0_giveBack yX0_giveBack, Cond.code yX0_giveBack cX0_giveBack 2 none, Cond.fieldLink RX0 41 "CountedHeap$Memory" "usedTotal" "I", Cond.fieldLink RX0 44 "CountedHeap$Memory" "givenBack" "I"]
def wsX0_writePointer_r2 : List Cond := [Cond.methodLink RX0 85 yX0_enqueue, Cond.instanceMethod yX0_enqueue, Cond.selects RX0 yX0_enqueue yX0_enqueue, Cond.code yX0_enqueue cX0_enqueue 2 none, Cond.methodLink RX0 79 yX0_dropPointersOf, Cond.instanceMethod yX0_dropPointersOf, Cond.selects RX0 yX0_dropPointersOf yX0_dropPointersOf, Cond.code yX0_dropPointersOf cX0_dropPointersOf 3 none, Cond.fieldLink RX0 9 "CountedHeap$Memory" "sizes" "[I", Cond.fieldLink RX0 25 "CountedHeap$Memory" "types" "[I", Cond.fieldLink RX0 15 "CountedHeap$Memory" "maps" "[I", Cond.methodLink RX0 54 yX0_cellOfWord, Cond.static yX0_cellOfWord, Cond.code yX0_cellOfWord cX0_cellOfWord 2 (some .int)]
def wsX0_writePointer : List Cond := .code yX0_writePointer cX0_writePointer 4 none :: ((wsX0_writePointer_r1 ++ wsX0_writePointer_r2) ++ wsX00)
def wsX0_emptyWords : List Cond := .code yX0_emptyWords cX0_emptyWords 3 none :: ([.fieldLink RX0 18 "CountedHeap$Memory" "cells" "[I", .methodLink RX0 54 yX0_cellOfWord, .static yX0_cellOfWord, .initialized RX0, .code yX0_cellOfWord cX0_cellOfWord 2 (some .int)] ++ wsX00)
def wsX0_makeBlock : List Cond := .code yX0_makeBlock cX0_makeBlock 3 (some .int) :: ([.fieldLink RX0 21 "CountedHeap$Memory" "used" "[Z", .fieldLink RX0 25 "CountedHeap$Memory" "types" "[I", .fieldLink RX0 28 "CountedHeap$Memory" "counts" "[I", .fieldLink RX0 41 "CountedHeap$Memory" "usedTotal" "I", .methodLink RX0 73 yX0_emptyWords, .instanceMethod yX0_emptyWords, .selects RX0 yX0_emptyWords yX0_emptyWords, .initialized RX0, .code yX0_emptyWords cX0_emptyWords 3 none, .fieldLink RX0 18 "CountedHeap$Memory" "cells" "[I", .methodLink RX0 54 yX0_cellOfWord, .static yX0_cellOfWord, .code yX0_cellOfWord cX0_cellOfWord 2 (some .int)] ++ wsX00)
def wsX0_reach : List Cond := .code yX0_reach cX0_reach 2 none :: ([.fieldLink RX0 31 "CountedHeap$Memory" "reached" "[Z", .methodLink RX0 62 yX0_isBlock, .instanceMethod yX0_isBlock, .selects RX0 yX0_isBlock yX0_isBlock, .initialized RX0, .code yX0_isBlock cX0_isBlock 2 (some .boolean), .fieldLink RX0 21 "CountedHeap$Memory" "used" "[Z", .methodLink RX0 85 yX0_enqueue, .instanceMethod yX0_enqueue, .selects RX0 yX0_enqueue yX0_enqueue, .code yX0_enqueue cX0_enqueue 2 none, .fieldLink RX0 37 "CountedHeap$Memory" "queued" "I", .fieldLink RX0 34 "CountedHeap$Memory" "queue" "[I"] ++ wsX00)
def wsX0_reachPointersOf_r1 : List Cond := [Cond.fieldLink RX0 18 "CountedHeap$Memory" "cells" "[I", Cond.methodLink RX0 58 yX0_isPointerWord, Cond.instanceMethod yX0_isPointerWord, Cond.selects RX0 yX0_isPointerWord yX0_isPointerWord, Cond.initialized RX0, Cond.code yX0_isPointerWord cX0_isPointerWord 3 (some .boolean), Cond.fieldLink RX0 15 "CountedHeap$Memory" "maps" "[I", Cond.fieldLink RX0 25 "CountedHeap$Memory" "types" "[I", Cond.methodLink RX0 66 yX0_hasWord, Cond.instanceMethod yX0_hasWord, Cond.selects RX0 yX0_hasWord yX0_hasWord, Cond.code yX0_hasWord cX0_hasWord 3 (some .boolean), Cond.fieldLink RX0 9 "CountedHeap$Memory" "sizes" "[I", Cond.methodLink RX0 62 yX0_isBlock, Cond.instanceMethod yX0_isBlock, Cond.selects RX0 yX0_isBlock yX0_isBlock, Cond.code yX0_isBlock cX0_isBlock 2 (some .boolean), Cond.fieldLink RX0 21 "CountedHeap$Memory" "used" "[Z", Cond.methodLink RX0 54 yX0_cellOfWord, Cond.static yX0_cellOfWord, Cond.code yX0_cellOfWord cX0_cellOfWord 2 (some .int), Cond.methodLink RX0 88 yX0_reach, Cond.instanceMethod yX0_reach, Cond.selects RX0 yX0_reach yX0_reach]
def wsX0_reachPointersOf_r2 : List Cond := [Cond.code yX0_reach cX0_reach 2 none, Cond.fieldLink RX0 31 "CountedHeap$Memory" "reached" "[Z", Cond.methodLink RX0 85 yX0_enqueue, Cond.instanceMethod yX0_enqueue, Cond.selects RX0 yX0_enqueue yX0_enqueue, Cond.code yX0_enqueue cX0_enqueue 2 none, Cond.fieldLink RX0 37 "CountedHeap$Memory" "queued" "I", Cond.fieldLink RX0 34 "CountedHeap$Memory" "queue" "[I"]
def wsX0_reachPointersOf : List Cond := .code yX0_reachPointersOf cX0_reachPointersOf 3 none :: ((wsX0_reachPointersOf_r1 ++ wsX0_reachPointersOf_r2) ++ wsX00)
def wsX0_findLost_r1 : List Cond := [Cond.fieldLink RX0 37 "CountedHeap$Memory" "queued" "I", Cond.fieldLink RX0 31 "CountedHeap$Memory" "reached" "[Z", Cond.fieldLink RX0 18 "CountedHeap$Memory" "cells" "[I", Cond.fieldLink RX0 34 "CountedHeap$Memory" "queue" "[I", Cond.fieldLink RX0 41 "CountedHeap$Memory" "usedTotal" "I", Cond.methodLink RX0 88 yX0_reach, Cond.instanceMethod yX0_reach, Cond.selects RX0 yX0_reach yX0_reach, Cond.initialized RX0, Cond.code yX0_reach cX0_reach 2 none, Cond.methodLink RX0 62 yX0_isBlock, Cond.instanceMethod yX0_isBlock, Cond.selects RX0 yX0_isBlock yX0_isBlock, Cond.code yX0_isBlock cX0_isBlock 2 (some .boolean), Cond.fieldLink RX0 21 "CountedHeap$Memory" "used" "[Z", Cond.methodLink RX0 85 yX0_enqueue, Cond.instanceMethod yX0_enqueue, Cond.selects RX0 yX0_enqueue yX0_enqueue, Cond.code yX0_enqueue cX0_enqueue 2 none, Cond.methodLink RX0 91 yX0_reachPointersOf, Cond.instanceMethod yX0_reachPointersOf, Cond.selects RX0 yX0_reachPointersOf yX0_reachPointersOf, Cond.code yX0_reachPointersOf cX0_reachPointersOf 3 none, Cond.methodLink RX0 58 yX0_isPointerWord]
def wsX0_findLost_r2 : List Cond := [Cond.instanceMethod yX0_isPointerWord, Cond.selects RX0 yX0_isPointerWord yX0_isPointerWord, Cond.code yX0_isPointerWord cX0_isPointerWord 3 (some .boolean), Cond.fieldLink RX0 15 "CountedHeap$Memory" "maps" "[I", Cond.fieldLink RX0 25 "CountedHeap$Memory" "types" "[I", Cond.methodLink RX0 66 yX0_hasWord, Cond.instanceMethod yX0_hasWord, Cond.selects RX0 yX0_hasWord yX0_hasWord, Cond.code yX0_hasWord cX0_hasWord 3 (some .boolean), Cond.fieldLink RX0 9 "CountedHeap$Memory" "sizes" "[I", Cond.methodLink RX0 54 yX0_cellOfWord, Cond.static yX0_cellOfWord, Cond.code yX0_cellOfWord cX0_cellOfWord 2 (some .int)]
def wsX0_findLost : List Cond := .code yX0_findLost cX0_findLost 2 (some .int) :: ((wsX0_findLost_r1 ++ wsX0_findLost_r2) ++ wsX00)
def wsX0_takeOffCountsOf : List Cond := .code yX0_takeOffCountsOf cX0_takeOffCountsOf 4 none :: ([.fieldLink RX0 18 "CountedHeap$Memory" "cells" "[I", .fieldLink RX0 31 "CountedHeap$Memory" "reached" "[Z", .fieldLink RX0 28 "CountedHeap$Memory" "counts" "[I", .methodLink RX0 58 yX0_isPointerWord, .instanceMethod yX0_isPointerWord, .selects RX0 yX0_isPointerWord yX0_isPointerWord, .initialized RX0, .code yX0_isPointerWord cX0_isPointerWord 3 (some .boolean), .fieldLink RX0 15 "CountedHeap$Memory" "maps" "[I", .fieldLink RX0 25 "CountedHeap$Memory" "types" "[I", .methodLink RX0 66 yX0_hasWord, .instanceMethod yX0_hasWord, .selects RX0 yX0_hasWord yX0_hasWord, .code yX0_hasWord cX0_hasWord 3 (some .boolean), .fieldLink RX0 9 "CountedHeap$Memory" "sizes" "[I", .methodLink RX0 62 yX0_isBlock, .instanceMethod yX0_isBlock, .selects RX0 yX0_isBlock yX0_isBlock, .code yX0_isBlock cX0_isBlock 2 (some .boolean), .fieldLink RX0 21 "CountedHeap$Memory" "used" "[Z", .methodLink RX0 54 yX0_cellOfWord, .static yX0_cellOfWord, .code yX0_cellOfWord cX0_cellOfWord 2 (some .int)] ++ wsX00)
def wsX0_giveBackLost_r1 : List Cond := [Cond.fieldLink RX0 21 "CountedHeap$Memory" "used" "[Z", Cond.fieldLink RX0 31 "CountedHeap$Memory" "reached" "[Z", Cond.methodLink RX0 94 yX0_findLost, Cond.instanceMethod yX0_findLost, Cond.selects RX0 yX0_findLost yX0_findLost, Cond.initialized RX0, Cond.code yX0_findLost cX0_findLost 2 (some .int), Cond.fieldLink RX0 37 "CountedHeap$Memory" "queued" "I", Cond.fieldLink RX0 18 "CountedHeap$Memory" "cells" "[I", Cond.fieldLink RX0 34 "CountedHeap$Memory" "queue" "[I", Cond.fieldLink RX0 41 "CountedHeap$Memory" "usedTotal" "I", Cond.methodLink RX0 88 yX0_reach, Cond.instanceMethod yX0_reach, Cond.selects RX0 yX0_reach yX0_reach, Cond.code yX0_reach cX0_reach 2 none, Cond.methodLink RX0 62 yX0_isBlock, Cond.instanceMethod yX0_isBlock, Cond.selects RX0 yX0_isBlock yX0_isBlock, Cond.code yX0_isBlock cX0_isBlock 2 (some .boolean), Cond.methodLink RX0 85 yX0_enqueue, Cond.instanceMethod yX0_enqueue, Cond.selects RX0 yX0_enqueue yX0_enqueue, Cond.code yX0_enqueue cX0_enqueue 2 none, Cond.methodLink RX0 91 yX0_reachPointersOf]
def wsX0_giveBackLost_r2 : List Cond := [Cond.instanceMethod yX0_reachPointersOf, Cond.selects RX0 yX0_reachPointersOf yX0_reachPointersOf, Cond.code yX0_reachPointersOf cX0_reachPointersOf 3 none, Cond.methodLink RX0 58 yX0_isPointerWord, Cond.instanceMethod yX0_isPointerWord, Cond.selects RX0 yX0_isPointerWord yX0_isPointerWord, Cond.code yX0_isPointerWord cX0_isPointerWord 3 (some .boolean), Cond.fieldLink RX0 15 "CountedHeap$Memory" "maps" "[I", Cond.fieldLink RX0 25 "CountedHeap$Memory" "types" "[I", Cond.methodLink RX0 66 yX0_hasWord, Cond.instanceMethod yX0_hasWord, Cond.selects RX0 yX0_hasWord yX0_hasWord, Cond.code yX0_hasWord cX0_hasWord 3 (some .boolean), Cond.fieldLink RX0 9 "CountedHeap$Memory" "sizes" "[I", Cond.methodLink RX0 54 yX0_cellOfWord, Cond.static yX0_cellOfWord, Cond.code yX0_cellOfWord cX0_cellOfWord 2 (some .int), Cond.methodLink RX0 98 yX0_takeOffCountsOf, Cond.instanceMethod yX0_takeOffCountsOf, Cond.selects RX0 yX0_takeOffCountsOf yX0_takeOffCountsOf, Cond.code yX0_takeOffCountsOf cX0_takeOffCountsOf 4 none, Cond.fieldLink RX0 28 "CountedHeap$Memory" "counts" "[I", Cond.methodLink RX0 82 yX0_giveBack, Cond.instanceMethod yX0_giveBack]
def wsX0_giveBackLost_r3 : List Cond := [Cond.selects RX0 yX0_giveBack yX0_giveBack, Cond.code yX0_giveBack cX0_giveBack 2 none, Cond.fieldLink RX0 44 "CountedHeap$Memory" "givenBack" "I"]
def wsX0_giveBackLost : List Cond := .code yX0_giveBackLost cX0_giveBackLost 3 (some .int) :: ((wsX0_giveBackLost_r1 ++ (wsX0_giveBackLost_r2 ++ wsX0_giveBackLost_r3)) ++ wsX00)
def wsX1_init : List Cond := .code yX1_init cX1_init 1 none :: ([.methodLink RX1 3 objectInit, .instanceMethod objectInit, .code objectInit ⟨#[0xb1]⟩ 1 none, .arrayClass .int, .fieldLink RX1 9 "CountedHeap$Program" "ops" "[I", .fieldLink RX1 15 "CountedHeap$Program" "xs" "[I", .fieldLink RX1 18 "CountedHeap$Program" "ys" "[I", .fieldLink RX1 21 "CountedHeap$Program" "zs" "[I", .fieldLink RX1 24 "CountedHeap$Program" "length" "I"] ++ wsX10)
def wsX1_isFull : List Cond := .code yX1_isFull cX1_isFull 1 (some .boolean) :: ([.fieldLink RX1 24 "CountedHeap$Program" "length" "I"] ++ wsX10)
def wsX1_has : List Cond := .code yX1_has cX1_has 2 (some .boolean) :: ([.fieldLink RX1 24 "CountedHeap$Program" "length" "I"] ++ wsX10)
def wsX1_append : List Cond := .code yX1_append cX1_append 6 (some .int) :: ([.fieldLink RX1 24 "CountedHeap$Program" "length" "I", .fieldLink RX1 9 "CountedHeap$Program" "ops" "[I", .fieldLink RX1 15 "CountedHeap$Program" "xs" "[I", .fieldLink RX1 18 "CountedHeap$Program" "ys" "[I", .fieldLink RX1 21 "CountedHeap$Program" "zs" "[I"] ++ wsX10)
def wsX1_removeAll : List Cond := .code yX1_removeAll cX1_removeAll 2 (some .int) :: ([.fieldLink RX1 24 "CountedHeap$Program" "length" "I"] ++ wsX10)
def wsX1_opAt : List Cond := .code yX1_opAt cX1_opAt 2 (some .int) :: ([.fieldLink RX1 9 "CountedHeap$Program" "ops" "[I"] ++ wsX10)
def wsX1_xAt : List Cond := .code yX1_xAt cX1_xAt 2 (some .int) :: ([.fieldLink RX1 15 "CountedHeap$Program" "xs" "[I"] ++ wsX10)
def wsX1_yAt : List Cond := .code yX1_yAt cX1_yAt 2 (some .int) :: ([.fieldLink RX1 18 "CountedHeap$Program" "ys" "[I"] ++ wsX10)
def wsX1_zAt : List Cond := .code yX1_zAt cX1_zAt 2 (some .int) :: ([.fieldLink RX1 21 "CountedHeap$Program" "zs" "[I"] ++ wsX10)
def wsX2_init_r1 : List Cond := [Cond.methodLink RX2 3 objectInit, Cond.instanceMethod objectInit, Cond.code objectInit ⟨#[0xb1]⟩ 1 none, Cond.classLink RX2 9 RX1, Cond.instantiable RX1 5, Cond.initialized RX1, Cond.fieldLink RX2 12 "CountedHeap" "program" "LCountedHeap$Program;", Cond.classLink RX2 16 RX0, Cond.instantiable RX0 11, Cond.initialized RX0, Cond.fieldLink RX2 19 "CountedHeap" "memory" "LCountedHeap$Memory;", Cond.arrayClass .int, Cond.fieldLink RX2 23 "CountedHeap" "returnPlaces" "[I", Cond.fieldLink RX2 27 "CountedHeap" "openCalls" "I", Cond.fieldLink RX2 31 "CountedHeap" "nextPlace" "I", Cond.instanceMethod yX1_init, Cond.code yX1_init cX1_init 1 none, Cond.methodLink RX1 3 objectInit, Cond.fieldLink RX1 9 "CountedHeap$Program" "ops" "[I", Cond.fieldLink RX1 15 "CountedHeap$Program" "xs" "[I", Cond.fieldLink RX1 18 "CountedHeap$Program" "ys" "[I", Cond.fieldLink RX1 21 "CountedHeap$Program" "zs" "[I", Cond.fieldLink RX1 24 "CountedHeap$Program" "length" "I", Cond.instanceMethod yX0_init]
def wsX2_init_r2 : List Cond := [Cond.code yX0_init cX0_init 1 none, Cond.methodLink RX0 3 objectInit, Cond.fieldLink RX0 9 "CountedHeap$Memory" "sizes" "[I", Cond.fieldLink RX0 15 "CountedHeap$Memory" "maps" "[I", Cond.fieldLink RX0 18 "CountedHeap$Memory" "cells" "[I", Cond.arrayClass .boolean, Cond.fieldLink RX0 21 "CountedHeap$Memory" "used" "[Z", Cond.fieldLink RX0 25 "CountedHeap$Memory" "types" "[I", Cond.fieldLink RX0 28 "CountedHeap$Memory" "counts" "[I", Cond.fieldLink RX0 31 "CountedHeap$Memory" "reached" "[Z", Cond.fieldLink RX0 34 "CountedHeap$Memory" "queue" "[I", Cond.fieldLink RX0 37 "CountedHeap$Memory" "queued" "I", Cond.fieldLink RX0 41 "CountedHeap$Memory" "usedTotal" "I", Cond.fieldLink RX0 44 "CountedHeap$Memory" "givenBack" "I"]
def wsX2_init : List Cond := .code yX2_init cX2_init 1 none :: ((wsX2_init_r1 ++ wsX2_init_r2) ++ wsX10 ++ wsX20 ++ wsX00)
def wsX2_isType : List Cond := .code yX2_isType cX2_isType 1 (some .boolean) :: ([])
def wsX2_type : List Cond := .code yX2_type cX2_type 4 (some .boolean) :: ([.fieldLink RX2 19 "CountedHeap" "memory" "LCountedHeap$Memory;", .methodLink RX2 34 yX2_isType, .static yX2_isType, .initialized RX2, .code yX2_isType cX2_isType 1 (some .boolean), .methodLink RX2 38 yX0_hasBlockOfType, .instanceMethod yX0_hasBlockOfType, .selects RX0 yX0_hasBlockOfType yX0_hasBlockOfType, .initialized RX0, .code yX0_hasBlockOfType cX0_hasBlockOfType 3 (some .boolean), .fieldLink RX0 21 "CountedHeap$Memory" "used" "[Z", .fieldLink RX0 25 "CountedHeap$Memory" "types" "[I", .methodLink RX2 41 yX0_changeType, .instanceMethod yX0_changeType, .selects RX0 yX0_changeType yX0_changeType, .code yX0_changeType cX0_changeType 4 none, .fieldLink RX0 9 "CountedHeap$Memory" "sizes" "[I", .fieldLink RX0 15 "CountedHeap$Memory" "maps" "[I"] ++ wsX20 ++ wsX00)
def wsX2_isOperand : List Cond := .code yX2_isOperand cX2_isOperand 1 (some .boolean) :: ([])
def wsX2_isPlace : List Cond := .code yX2_isPlace cX2_isPlace 1 (some .boolean) :: ([])
def wsX2_fits : List Cond := .code yX2_fits cX2_fits 2 (some .boolean) :: ([.methodLink RX2 131 yX2_isOperand, .static yX2_isOperand, .initialized RX2, .code yX2_isOperand cX2_isOperand 1 (some .boolean), .methodLink RX2 74 yX2_isPlace, .static yX2_isPlace, .code yX2_isPlace cX2_isPlace 1 (some .boolean), .methodLink RX2 34 yX2_isType, .static yX2_isType, .code yX2_isType cX2_isType 1 (some .boolean)])
def wsX2_add_r1 : List Cond := [Cond.fieldLink RX2 45 "CountedHeap" "ROLE_OF_X" "[I", Cond.fieldLink RX2 52 "CountedHeap" "ROLE_OF_Y" "[I", Cond.fieldLink RX2 55 "CountedHeap" "ROLE_OF_Z" "[I", Cond.fieldLink RX2 12 "CountedHeap" "program" "LCountedHeap$Program;", Cond.methodLink RX2 48 yX2_fits, Cond.static yX2_fits, Cond.initialized RX2, Cond.code yX2_fits cX2_fits 2 (some .boolean), Cond.methodLink RX2 131 yX2_isOperand, Cond.static yX2_isOperand, Cond.code yX2_isOperand cX2_isOperand 1 (some .boolean), Cond.methodLink RX2 74 yX2_isPlace, Cond.static yX2_isPlace, Cond.code yX2_isPlace cX2_isPlace 1 (some .boolean), Cond.methodLink RX2 34 yX2_isType, Cond.static yX2_isType, Cond.code yX2_isType cX2_isType 1 (some .boolean), Cond.methodLink RX2 58 yX1_isFull, Cond.instanceMethod yX1_isFull, Cond.selects RX1 yX1_isFull yX1_isFull, Cond.initialized RX1, Cond.code yX1_isFull cX1_isFull 1 (some .boolean), Cond.fieldLink RX1 24 "CountedHeap$Program" "length" "I", Cond.methodLink RX2 62 yX1_append]
def wsX2_add_r2 : List Cond := [Cond.instanceMethod yX1_append, Cond.selects RX1 yX1_append yX1_append, Cond.code yX1_append cX1_append 6 (some .int), Cond.fieldLink RX1 9 "CountedHeap$Program" "ops" "[I", Cond.fieldLink RX1 15 "CountedHeap$Program" "xs" "[I", Cond.fieldLink RX1 18 "CountedHeap$Program" "ys" "[I", Cond.fieldLink RX1 21 "CountedHeap$Program" "zs" "[I"]
def wsX2_add : List Cond := .code yX2_add cX2_add 5 (some .int) :: ((wsX2_add_r1 ++ wsX2_add_r2) ++ wsX20 ++ wsX10)
def wsX2_goTo : List Cond := .code yX2_goTo cX2_goTo 2 none :: ([.fieldLink RX2 31 "CountedHeap" "nextPlace" "I", .fieldLink RX2 27 "CountedHeap" "openCalls" "I"] ++ wsX20)
def wsX2_clear : List Cond := .code yX2_clear cX2_clear 1 (some .int) :: ([.fieldLink RX2 12 "CountedHeap" "program" "LCountedHeap$Program;", .methodLink RX2 66 yX2_goTo, .instanceMethod yX2_goTo, .selects RX2 yX2_goTo yX2_goTo, .initialized RX2, .code yX2_goTo cX2_goTo 2 none, .fieldLink RX2 31 "CountedHeap" "nextPlace" "I", .fieldLink RX2 27 "CountedHeap" "openCalls" "I", .methodLink RX2 70 yX1_removeAll, .instanceMethod yX1_removeAll, .selects RX1 yX1_removeAll yX1_removeAll, .initialized RX1, .code yX1_removeAll cX1_removeAll 2 (some .int), .fieldLink RX1 24 "CountedHeap$Program" "length" "I"] ++ wsX20 ++ wsX10)
def wsX2_start : List Cond := .code yX2_start cX2_start 2 (some .boolean) :: ([.methodLink RX2 74 yX2_isPlace, .static yX2_isPlace, .initialized RX2, .code yX2_isPlace cX2_isPlace 1 (some .boolean), .methodLink RX2 66 yX2_goTo, .instanceMethod yX2_goTo, .selects RX2 yX2_goTo yX2_goTo, .code yX2_goTo cX2_goTo 2 none, .fieldLink RX2 31 "CountedHeap" "nextPlace" "I", .fieldLink RX2 27 "CountedHeap" "openCalls" "I"] ++ wsX20)
def wsX2_checkWord : List Cond := .code yX2_checkWord cX2_checkWord 3 none :: ([.classLink RX2 179 "java/lang/IllegalStateException", .initialized "java/lang/IllegalStateException", .classLink RX2 184 "java/lang/IndexOutOfBoundsException", .initialized "java/lang/IndexOutOfBoundsException", .fieldLink RX2 19 "CountedHeap" "memory" "LCountedHeap$Memory;", .methodLink RX2 113 yX0_hasWord, .instanceMethod yX0_hasWord, .selects RX0 yX0_hasWord yX0_hasWord, .initialized RX0, .code yX0_hasWord cX0_hasWord 3 (some .boolean), .fieldLink RX0 9 "CountedHeap$Memory" "sizes" "[I", .fieldLink RX0 25 "CountedHeap$Memory" "types" "[I", .methodLink RX0 62 yX0_isBlock, .instanceMethod yX0_isBlock, .selects RX0 yX0_isBlock yX0_isBlock, .code yX0_isBlock cX0_isBlock 2 (some .boolean), .fieldLink RX0 21 "CountedHeap$Memory" "used" "[Z"] ++ wsX20 ++ wsX00 ++ (vx_atS RX2 183 "java/lang/IllegalStateException" ["java/lang/RuntimeException", "java/lang/Exception"]).filter goodWord ++ (vx_atS RX2 188 "java/lang/IndexOutOfBoundsException" ["java/lang/RuntimeException", "java/lang/Exception"]).filter goodWord)
def wsX2_checkOperand_r1 : List Cond := [Cond.classLink RX2 77 "java/lang/IllegalArgumentException", Cond.initialized "java/lang/IllegalArgumentException", Cond.fieldLink RX2 19 "CountedHeap" "memory" "LCountedHeap$Memory;", Cond.methodLink RX2 165 yX0_blockOf, Cond.instanceMethod yX0_blockOf, Cond.selects RX0 yX0_blockOf yX0_blockOf, Cond.initialized RX0, Cond.code yX0_blockOf cX0_blockOf 2 (some .int), Cond.fieldLink RX0 18 "CountedHeap$Memory" "cells" "[I", Cond.methodLink RX2 168 yX0_wordOf, Cond.static yX0_wordOf, Cond.code yX0_wordOf cX0_wordOf 1 (some .int), Cond.methodLink RX2 171 yX2_checkWord, Cond.instanceMethod yX2_checkWord, Cond.selects RX2 yX2_checkWord yX2_checkWord, Cond.initialized RX2, Cond.code yX2_checkWord cX2_checkWord 3 none, Cond.classLink RX2 179 "java/lang/IllegalStateException", Cond.initialized "java/lang/IllegalStateException", Cond.classLink RX2 184 "java/lang/IndexOutOfBoundsException", Cond.initialized "java/lang/IndexOutOfBoundsException", Cond.methodLink RX2 113 yX0_hasWord, Cond.instanceMethod yX0_hasWord, Cond.selects RX0 yX0_hasWord yX0_hasWord]
def wsX2_checkOperand_r2 : List Cond := [Cond.code yX0_hasWord cX0_hasWord 3 (some .boolean), Cond.fieldLink RX0 9 "CountedHeap$Memory" "sizes" "[I", Cond.fieldLink RX0 25 "CountedHeap$Memory" "types" "[I", Cond.methodLink RX0 62 yX0_isBlock, Cond.instanceMethod yX0_isBlock, Cond.selects RX0 yX0_isBlock yX0_isBlock, Cond.code yX0_isBlock cX0_isBlock 2 (some .boolean), Cond.fieldLink RX0 21 "CountedHeap$Memory" "used" "[Z", Cond.methodLink RX2 174 yX0_holdsPointer, Cond.instanceMethod yX0_holdsPointer, Cond.selects RX0 yX0_holdsPointer yX0_holdsPointer, Cond.code yX0_holdsPointer cX0_holdsPointer 2 (some .boolean), Cond.methodLink RX0 47 yX0_blockOf, Cond.methodLink RX0 51 yX0_wordOf, Cond.methodLink RX0 58 yX0_isPointerWord, Cond.instanceMethod yX0_isPointerWord, Cond.selects RX0 yX0_isPointerWord yX0_isPointerWord, Cond.code yX0_isPointerWord cX0_isPointerWord 3 (some .boolean), Cond.fieldLink RX0 15 "CountedHeap$Memory" "maps" "[I", Cond.methodLink RX0 66 yX0_hasWord]
def wsX2_checkOperand : List Cond := .code yX2_checkOperand cX2_checkOperand 3 none :: ((wsX2_checkOperand_r1 ++ wsX2_checkOperand_r2) ++ wsX20 ++ wsX00 ++ (vx_atS RX2 81 "java/lang/IllegalArgumentException" ["java/lang/RuntimeException", "java/lang/Exception"]).filter goodWord ++ (vx_atS RX2 183 "java/lang/IllegalStateException" ["java/lang/RuntimeException", "java/lang/Exception"]).filter goodWord ++ (vx_atS RX2 188 "java/lang/IndexOutOfBoundsException" ["java/lang/RuntimeException", "java/lang/Exception"]).filter goodWord)
def wsX2_checkRoom : List Cond := .code yX2_checkRoom cX2_checkRoom 2 none :: ([.classLink RX2 190 "java/lang/UnsupportedOperationException", .initialized "java/lang/UnsupportedOperationException", .classLink RX2 179 "java/lang/IllegalStateException", .initialized "java/lang/IllegalStateException", .fieldLink RX2 19 "CountedHeap" "memory" "LCountedHeap$Memory;", .fieldLink RX2 27 "CountedHeap" "openCalls" "I", .methodLink RX2 189 yX0_isFull, .instanceMethod yX0_isFull, .selects RX0 yX0_isFull yX0_isFull, .initialized RX0, .code yX0_isFull cX0_isFull 1 (some .boolean), .fieldLink RX0 41 "CountedHeap$Memory" "usedTotal" "I"] ++ wsX20 ++ wsX00 ++ (vx_atS RX2 194 "java/lang/UnsupportedOperationException" ["java/lang/RuntimeException", "java/lang/Exception"]).filter goodWord ++ (vx_atS RX2 183 "java/lang/IllegalStateException" ["java/lang/RuntimeException", "java/lang/Exception"]).filter goodWord)
def wsX2_valueOf : List Cond := .code yX2_valueOf cX2_valueOf 2 (some .int) :: ([.fieldLink RX2 19 "CountedHeap" "memory" "LCountedHeap$Memory;", .methodLink RX2 149 yX0_cellOf, .instanceMethod yX0_cellOf, .selects RX0 yX0_cellOf yX0_cellOf, .initialized RX0, .code yX0_cellOf cX0_cellOf 2 (some .int), .methodLink RX0 47 yX0_blockOf, .instanceMethod yX0_blockOf, .selects RX0 yX0_blockOf yX0_blockOf, .code yX0_blockOf cX0_blockOf 2 (some .int), .fieldLink RX0 18 "CountedHeap$Memory" "cells" "[I", .methodLink RX0 51 yX0_wordOf, .static yX0_wordOf, .code yX0_wordOf cX0_wordOf 1 (some .int), .methodLink RX0 54 yX0_cellOfWord, .static yX0_cellOfWord, .code yX0_cellOfWord cX0_cellOfWord 2 (some .int), .methodLink RX2 97 yX0_read, .instanceMethod yX0_read, .selects RX0 yX0_read yX0_read, .code yX0_read cX0_read 2 (some .int)] ++ wsX20 ++ wsX00)
def wsX2_intResult_r1 : List Cond := [Cond.methodLink RX2 199 yX2_valueOf, Cond.instanceMethod yX2_valueOf, Cond.selects RX2 yX2_valueOf yX2_valueOf, Cond.initialized RX2, Cond.code yX2_valueOf cX2_valueOf 2 (some .int), Cond.fieldLink RX2 19 "CountedHeap" "memory" "LCountedHeap$Memory;", Cond.methodLink RX2 149 yX0_cellOf, Cond.instanceMethod yX0_cellOf, Cond.selects RX0 yX0_cellOf yX0_cellOf, Cond.initialized RX0, Cond.code yX0_cellOf cX0_cellOf 2 (some .int), Cond.methodLink RX0 47 yX0_blockOf, Cond.instanceMethod yX0_blockOf, Cond.selects RX0 yX0_blockOf yX0_blockOf, Cond.code yX0_blockOf cX0_blockOf 2 (some .int), Cond.fieldLink RX0 18 "CountedHeap$Memory" "cells" "[I", Cond.methodLink RX0 51 yX0_wordOf, Cond.static yX0_wordOf, Cond.code yX0_wordOf cX0_wordOf 1 (some .int), Cond.methodLink RX0 54 yX0_cellOfWord, Cond.static yX0_cellOfWord, Cond.code yX0_cellOfWord cX0_cellOfWord 2 (some .int), Cond.methodLink RX2 97 yX0_read, Cond.instanceMethod yX0_read]
def wsX2_intResult_r2 : List Cond := [Cond.selects RX0 yX0_read yX0_read, Cond.code yX0_read cX0_read 2 (some .int)]
def wsX2_intResult : List Cond := .code yX2_intResult cX2_intResult 4 (some .int) :: ((wsX2_intResult_r1 ++ wsX2_intResult_r2) ++ wsX20 ++ wsX00)
def wsX2_pointerResult_r1 : List Cond := [Cond.fieldLink RX2 19 "CountedHeap" "memory" "LCountedHeap$Memory;", Cond.methodLink RX2 202 yX0_makeBlock, Cond.instanceMethod yX0_makeBlock, Cond.selects RX0 yX0_makeBlock yX0_makeBlock, Cond.initialized RX0, Cond.code yX0_makeBlock cX0_makeBlock 3 (some .int), Cond.fieldLink RX0 21 "CountedHeap$Memory" "used" "[Z", Cond.fieldLink RX0 25 "CountedHeap$Memory" "types" "[I", Cond.fieldLink RX0 28 "CountedHeap$Memory" "counts" "[I", Cond.fieldLink RX0 41 "CountedHeap$Memory" "usedTotal" "I", Cond.methodLink RX0 73 yX0_emptyWords, Cond.instanceMethod yX0_emptyWords, Cond.selects RX0 yX0_emptyWords yX0_emptyWords, Cond.code yX0_emptyWords cX0_emptyWords 3 none, Cond.fieldLink RX0 18 "CountedHeap$Memory" "cells" "[I", Cond.methodLink RX0 54 yX0_cellOfWord, Cond.static yX0_cellOfWord, Cond.code yX0_cellOfWord cX0_cellOfWord 2 (some .int), Cond.methodLink RX2 199 yX2_valueOf, Cond.instanceMethod yX2_valueOf, Cond.selects RX2 yX2_valueOf yX2_valueOf, Cond.initialized RX2, Cond.code yX2_valueOf cX2_valueOf 2 (some .int), Cond.methodLink RX2 149 yX0_cellOf]
def wsX2_pointerResult_r2 : List Cond := [Cond.instanceMethod yX0_cellOf, Cond.selects RX0 yX0_cellOf yX0_cellOf, Cond.code yX0_cellOf cX0_cellOf 2 (some .int), Cond.methodLink RX0 47 yX0_blockOf, Cond.instanceMethod yX0_blockOf, Cond.selects RX0 yX0_blockOf yX0_blockOf, Cond.code yX0_blockOf cX0_blockOf 2 (some .int), Cond.methodLink RX0 51 yX0_wordOf, Cond.static yX0_wordOf, Cond.code yX0_wordOf cX0_wordOf 1 (some .int), Cond.methodLink RX2 97 yX0_read, Cond.instanceMethod yX0_read, Cond.selects RX0 yX0_read yX0_read, Cond.code yX0_read cX0_read 2 (some .int)]
def wsX2_pointerResult : List Cond := .code yX2_pointerResult cX2_pointerResult 3 (some .int) :: ((wsX2_pointerResult_r1 ++ wsX2_pointerResult_r2) ++ wsX20 ++ wsX00)
def wsX2_placeAfter_r1 : List Cond := [Cond.fieldLink RX2 23 "CountedHeap" "returnPlaces" "[I", Cond.fieldLink RX2 27 "CountedHeap" "openCalls" "I", Cond.methodLink RX2 199 yX2_valueOf, Cond.instanceMethod yX2_valueOf, Cond.selects RX2 yX2_valueOf yX2_valueOf, Cond.initialized RX2, Cond.code yX2_valueOf cX2_valueOf 2 (some .int), Cond.fieldLink RX2 19 "CountedHeap" "memory" "LCountedHeap$Memory;", Cond.methodLink RX2 149 yX0_cellOf, Cond.instanceMethod yX0_cellOf, Cond.selects RX0 yX0_cellOf yX0_cellOf, Cond.initialized RX0, Cond.code yX0_cellOf cX0_cellOf 2 (some .int), Cond.methodLink RX0 47 yX0_blockOf, Cond.instanceMethod yX0_blockOf, Cond.selects RX0 yX0_blockOf yX0_blockOf, Cond.code yX0_blockOf cX0_blockOf 2 (some .int), Cond.fieldLink RX0 18 "CountedHeap$Memory" "cells" "[I", Cond.methodLink RX0 51 yX0_wordOf, Cond.static yX0_wordOf, Cond.code yX0_wordOf cX0_wordOf 1 (some .int), Cond.methodLink RX0 54 yX0_cellOfWord, Cond.static yX0_cellOfWord, Cond.code yX0_cellOfWord cX0_cellOfWord 2 (some .int)]
def wsX2_placeAfter_r2 : List Cond := [Cond.methodLink RX2 97 yX0_read, Cond.instanceMethod yX0_read, Cond.selects RX0 yX0_read yX0_read, Cond.code yX0_read cX0_read 2 (some .int)]
def wsX2_placeAfter : List Cond := .code yX2_placeAfter cX2_placeAfter 5 (some .int) :: ((wsX2_placeAfter_r1 ++ wsX2_placeAfter_r2) ++ wsX20 ++ wsX00)
def wsX2_doInstruction_r1 : List Cond := [Cond.fieldLink RX2 12 "CountedHeap" "program" "LCountedHeap$Program;", Cond.fieldLink RX2 45 "CountedHeap" "ROLE_OF_X" "[I", Cond.fieldLink RX2 52 "CountedHeap" "ROLE_OF_Y" "[I", Cond.fieldLink RX2 55 "CountedHeap" "ROLE_OF_Z" "[I", Cond.fieldLink RX2 19 "CountedHeap" "memory" "LCountedHeap$Memory;", Cond.fieldLink RX2 31 "CountedHeap" "nextPlace" "I", Cond.methodLink RX2 87 yX1_opAt, Cond.instanceMethod yX1_opAt, Cond.selects RX1 yX1_opAt yX1_opAt, Cond.initialized RX1, Cond.code yX1_opAt cX1_opAt 2 (some .int), Cond.fieldLink RX1 9 "CountedHeap$Program" "ops" "[I", Cond.methodLink RX2 134 yX1_xAt, Cond.instanceMethod yX1_xAt, Cond.selects RX1 yX1_xAt yX1_xAt, Cond.code yX1_xAt cX1_xAt 2 (some .int), Cond.fieldLink RX1 15 "CountedHeap$Program" "xs" "[I", Cond.methodLink RX2 137 yX1_yAt, Cond.instanceMethod yX1_yAt, Cond.selects RX1 yX1_yAt yX1_yAt, Cond.code yX1_yAt cX1_yAt 2 (some .int), Cond.fieldLink RX1 18 "CountedHeap$Program" "ys" "[I", Cond.methodLink RX2 140 yX1_zAt, Cond.instanceMethod yX1_zAt]
def wsX2_doInstruction_r2 : List Cond := [Cond.selects RX1 yX1_zAt yX1_zAt, Cond.code yX1_zAt cX1_zAt 2 (some .int), Cond.fieldLink RX1 21 "CountedHeap$Program" "zs" "[I", Cond.methodLink RX2 143 yX2_checkOperand, Cond.instanceMethod yX2_checkOperand, Cond.selects RX2 yX2_checkOperand yX2_checkOperand, Cond.initialized RX2, Cond.code yX2_checkOperand cX2_checkOperand 3 none, Cond.classLink RX2 77 "java/lang/IllegalArgumentException", Cond.initialized "java/lang/IllegalArgumentException", Cond.methodLink RX2 165 yX0_blockOf, Cond.instanceMethod yX0_blockOf, Cond.selects RX0 yX0_blockOf yX0_blockOf, Cond.initialized RX0, Cond.code yX0_blockOf cX0_blockOf 2 (some .int), Cond.fieldLink RX0 18 "CountedHeap$Memory" "cells" "[I", Cond.methodLink RX2 168 yX0_wordOf, Cond.static yX0_wordOf, Cond.code yX0_wordOf cX0_wordOf 1 (some .int), Cond.methodLink RX2 171 yX2_checkWord, Cond.instanceMethod yX2_checkWord, Cond.selects RX2 yX2_checkWord yX2_checkWord, Cond.code yX2_checkWord cX2_checkWord 3 none, Cond.classLink RX2 179 "java/lang/IllegalStateException"]
def wsX2_doInstruction_r3 : List Cond := [Cond.initialized "java/lang/IllegalStateException", Cond.classLink RX2 184 "java/lang/IndexOutOfBoundsException", Cond.initialized "java/lang/IndexOutOfBoundsException", Cond.methodLink RX2 113 yX0_hasWord, Cond.instanceMethod yX0_hasWord, Cond.selects RX0 yX0_hasWord yX0_hasWord, Cond.code yX0_hasWord cX0_hasWord 3 (some .boolean), Cond.fieldLink RX0 9 "CountedHeap$Memory" "sizes" "[I", Cond.fieldLink RX0 25 "CountedHeap$Memory" "types" "[I", Cond.methodLink RX0 62 yX0_isBlock, Cond.instanceMethod yX0_isBlock, Cond.selects RX0 yX0_isBlock yX0_isBlock, Cond.code yX0_isBlock cX0_isBlock 2 (some .boolean), Cond.fieldLink RX0 21 "CountedHeap$Memory" "used" "[Z", Cond.methodLink RX2 174 yX0_holdsPointer, Cond.instanceMethod yX0_holdsPointer, Cond.selects RX0 yX0_holdsPointer yX0_holdsPointer, Cond.code yX0_holdsPointer cX0_holdsPointer 2 (some .boolean), Cond.methodLink RX0 47 yX0_blockOf, Cond.methodLink RX0 51 yX0_wordOf, Cond.methodLink RX0 58 yX0_isPointerWord, Cond.instanceMethod yX0_isPointerWord, Cond.selects RX0 yX0_isPointerWord yX0_isPointerWord, Cond.code yX0_isPointerWord cX0_isPointerWord 3 (some .boolean)]
def wsX2_doInstruction_r4 : List Cond := [Cond.fieldLink RX0 15 "CountedHeap$Memory" "maps" "[I", Cond.methodLink RX0 66 yX0_hasWord, Cond.methodLink RX2 146 yX2_checkRoom, Cond.instanceMethod yX2_checkRoom, Cond.selects RX2 yX2_checkRoom yX2_checkRoom, Cond.code yX2_checkRoom cX2_checkRoom 2 none, Cond.classLink RX2 190 "java/lang/UnsupportedOperationException", Cond.initialized "java/lang/UnsupportedOperationException", Cond.fieldLink RX2 27 "CountedHeap" "openCalls" "I", Cond.methodLink RX2 189 yX0_isFull, Cond.instanceMethod yX0_isFull, Cond.selects RX0 yX0_isFull yX0_isFull, Cond.code yX0_isFull cX0_isFull 1 (some .boolean), Cond.fieldLink RX0 41 "CountedHeap$Memory" "usedTotal" "I", Cond.methodLink RX2 149 yX0_cellOf, Cond.instanceMethod yX0_cellOf, Cond.selects RX0 yX0_cellOf yX0_cellOf, Cond.code yX0_cellOf cX0_cellOf 2 (some .int), Cond.methodLink RX0 54 yX0_cellOfWord, Cond.static yX0_cellOfWord, Cond.code yX0_cellOfWord cX0_cellOfWord 2 (some .int), Cond.methodLink RX2 152 yX2_intResult, Cond.instanceMethod yX2_intResult, Cond.selects RX2 yX2_intResult yX2_intResult]
def wsX2_doInstruction_r5 : List Cond := [Cond.code yX2_intResult cX2_intResult 4 (some .int), Cond.methodLink RX2 199 yX2_valueOf, Cond.instanceMethod yX2_valueOf, Cond.selects RX2 yX2_valueOf yX2_valueOf, Cond.code yX2_valueOf cX2_valueOf 2 (some .int), Cond.methodLink RX2 97 yX0_read, Cond.instanceMethod yX0_read, Cond.selects RX0 yX0_read yX0_read, Cond.code yX0_read cX0_read 2 (some .int), Cond.methodLink RX2 100 yX0_writeInt, Cond.instanceMethod yX0_writeInt, Cond.selects RX0 yX0_writeInt yX0_writeInt, Cond.code yX0_writeInt cX0_writeInt 3 none, Cond.methodLink RX2 156 yX2_pointerResult, Cond.instanceMethod yX2_pointerResult, Cond.selects RX2 yX2_pointerResult yX2_pointerResult, Cond.code yX2_pointerResult cX2_pointerResult 3 (some .int), Cond.methodLink RX2 202 yX0_makeBlock, Cond.instanceMethod yX0_makeBlock, Cond.selects RX0 yX0_makeBlock yX0_makeBlock, Cond.code yX0_makeBlock cX0_makeBlock 3 (some .int), Cond.fieldLink RX0 28 "CountedHeap$Memory" "counts" "[I", Cond.methodLink RX0 73 yX0_emptyWords, Cond.instanceMethod yX0_emptyWords]
def wsX2_doInstruction_r6 : List Cond := [Cond.selects RX0 yX0_emptyWords yX0_emptyWords, Cond.code yX0_emptyWords cX0_emptyWords 3 none, Cond.methodLink RX2 159 yX0_writePointer, Cond.instanceMethod yX0_writePointer, Cond.selects RX0 yX0_writePointer yX0_writePointer, Cond.code yX0_writePointer cX0_writePointer 4 none, Cond.methodLink RX0 69 yX0_dropPointer, Cond.instanceMethod yX0_dropPointer, Cond.selects RX0 yX0_dropPointer yX0_dropPointer, Cond.code yX0_dropPointer cX0_dropPointer 3 none, Cond.fieldLink RX0 37 "CountedHeap$Memory" "queued" "I", Cond.fieldLink RX0 34 "CountedHeap$Memory" "queue" "[I", Cond.methodLink RX0 76 yX0_countLess, Cond.instanceMethod yX0_countLess, Cond.selects RX0 yX0_countLess yX0_countLess, Cond.code yX0_countLess cX0_countLess 2 none, Cond.methodLink RX0 82 yX0_giveBack, Cond.instanceMethod yX0_giveBack, Cond.selects RX0 yX0_giveBack yX0_giveBack, Cond.code yX0_giveBack cX0_giveBack 2 none, Cond.fieldLink RX0 44 "CountedHeap$Memory" "givenBack" "I", Cond.methodLink RX0 85 yX0_enqueue, Cond.instanceMethod yX0_enqueue, Cond.selects RX0 yX0_enqueue yX0_enqueue]
def wsX2_doInstruction_r7 : List Cond := [Cond.code yX0_enqueue cX0_enqueue 2 none, Cond.methodLink RX0 79 yX0_dropPointersOf, Cond.instanceMethod yX0_dropPointersOf, Cond.selects RX0 yX0_dropPointersOf yX0_dropPointersOf, Cond.code yX0_dropPointersOf cX0_dropPointersOf 3 none, Cond.methodLink RX2 162 yX2_placeAfter, Cond.instanceMethod yX2_placeAfter, Cond.selects RX2 yX2_placeAfter yX2_placeAfter, Cond.code yX2_placeAfter cX2_placeAfter 5 (some .int), Cond.fieldLink RX2 23 "CountedHeap" "returnPlaces" "[I"]
def wsX2_doInstruction : List Cond := .code yX2_doInstruction cX2_doInstruction 6 none :: ((wsX2_doInstruction_r1 ++ (wsX2_doInstruction_r2 ++ (wsX2_doInstruction_r3 ++ (wsX2_doInstruction_r4 ++ (wsX2_doInstruction_r5 ++ (wsX2_doInstruction_r6 ++ wsX2_doInstruction_r7)))))) ++ wsX20 ++ wsX10 ++ wsX00 ++ (vx_atS RX2 81 "java/lang/IllegalArgumentException" ["java/lang/RuntimeException", "java/lang/Exception"]).filter goodWord ++ (vx_atS RX2 183 "java/lang/IllegalStateException" ["java/lang/RuntimeException", "java/lang/Exception"]).filter goodWord ++ (vx_atS RX2 188 "java/lang/IndexOutOfBoundsException" ["java/lang/RuntimeException", "java/lang/Exception"]).filter goodWord ++ (vx_atS RX2 194 "java/lang/UnsupportedOperationException" ["java/lang/RuntimeException", "java/lang/Exception"]).filter goodWord)
def wsX2_run_r1 : List Cond := [Cond.classLink RX2 77 "java/lang/IllegalArgumentException", Cond.initialized "java/lang/IllegalArgumentException", Cond.fieldLink RX2 12 "CountedHeap" "program" "LCountedHeap$Program;", Cond.fieldLink RX2 31 "CountedHeap" "nextPlace" "I", Cond.methodLink RX2 84 yX1_has, Cond.instanceMethod yX1_has, Cond.selects RX1 yX1_has yX1_has, Cond.initialized RX1, Cond.code yX1_has cX1_has 2 (some .boolean), Cond.fieldLink RX1 24 "CountedHeap$Program" "length" "I", Cond.methodLink RX2 87 yX1_opAt, Cond.instanceMethod yX1_opAt, Cond.selects RX1 yX1_opAt yX1_opAt, Cond.code yX1_opAt cX1_opAt 2 (some .int), Cond.fieldLink RX1 9 "CountedHeap$Program" "ops" "[I", Cond.methodLink RX2 91 yX2_doInstruction, Cond.instanceMethod yX2_doInstruction, Cond.selects RX2 yX2_doInstruction yX2_doInstruction, Cond.initialized RX2, Cond.code yX2_doInstruction cX2_doInstruction 6 none, Cond.fieldLink RX2 45 "CountedHeap" "ROLE_OF_X" "[I", Cond.fieldLink RX2 52 "CountedHeap" "ROLE_OF_Y" "[I", Cond.fieldLink RX2 55 "CountedHeap" "ROLE_OF_Z" "[I", Cond.fieldLink RX2 19 "CountedHeap" "memory" "LCountedHeap$Memory;"]
def wsX2_run_r2 : List Cond := [Cond.methodLink RX2 134 yX1_xAt, Cond.instanceMethod yX1_xAt, Cond.selects RX1 yX1_xAt yX1_xAt, Cond.code yX1_xAt cX1_xAt 2 (some .int), Cond.fieldLink RX1 15 "CountedHeap$Program" "xs" "[I", Cond.methodLink RX2 137 yX1_yAt, Cond.instanceMethod yX1_yAt, Cond.selects RX1 yX1_yAt yX1_yAt, Cond.code yX1_yAt cX1_yAt 2 (some .int), Cond.fieldLink RX1 18 "CountedHeap$Program" "ys" "[I", Cond.methodLink RX2 140 yX1_zAt, Cond.instanceMethod yX1_zAt, Cond.selects RX1 yX1_zAt yX1_zAt, Cond.code yX1_zAt cX1_zAt 2 (some .int), Cond.fieldLink RX1 21 "CountedHeap$Program" "zs" "[I", Cond.methodLink RX2 143 yX2_checkOperand, Cond.instanceMethod yX2_checkOperand, Cond.selects RX2 yX2_checkOperand yX2_checkOperand, Cond.code yX2_checkOperand cX2_checkOperand 3 none, Cond.methodLink RX2 165 yX0_blockOf, Cond.instanceMethod yX0_blockOf, Cond.selects RX0 yX0_blockOf yX0_blockOf, Cond.initialized RX0, Cond.code yX0_blockOf cX0_blockOf 2 (some .int)]
def wsX2_run_r3 : List Cond := [Cond.fieldLink RX0 18 "CountedHeap$Memory" "cells" "[I", Cond.methodLink RX2 168 yX0_wordOf, Cond.static yX0_wordOf, Cond.code yX0_wordOf cX0_wordOf 1 (some .int), Cond.methodLink RX2 171 yX2_checkWord, Cond.instanceMethod yX2_checkWord, Cond.selects RX2 yX2_checkWord yX2_checkWord, Cond.code yX2_checkWord cX2_checkWord 3 none, Cond.classLink RX2 179 "java/lang/IllegalStateException", Cond.initialized "java/lang/IllegalStateException", Cond.classLink RX2 184 "java/lang/IndexOutOfBoundsException", Cond.initialized "java/lang/IndexOutOfBoundsException", Cond.methodLink RX2 113 yX0_hasWord, Cond.instanceMethod yX0_hasWord, Cond.selects RX0 yX0_hasWord yX0_hasWord, Cond.code yX0_hasWord cX0_hasWord 3 (some .boolean), Cond.fieldLink RX0 9 "CountedHeap$Memory" "sizes" "[I", Cond.fieldLink RX0 25 "CountedHeap$Memory" "types" "[I", Cond.methodLink RX0 62 yX0_isBlock, Cond.instanceMethod yX0_isBlock, Cond.selects RX0 yX0_isBlock yX0_isBlock, Cond.code yX0_isBlock cX0_isBlock 2 (some .boolean), Cond.fieldLink RX0 21 "CountedHeap$Memory" "used" "[Z", Cond.methodLink RX2 174 yX0_holdsPointer]
def wsX2_run_r4 : List Cond := [Cond.instanceMethod yX0_holdsPointer, Cond.selects RX0 yX0_holdsPointer yX0_holdsPointer, Cond.code yX0_holdsPointer cX0_holdsPointer 2 (some .boolean), Cond.methodLink RX0 47 yX0_blockOf, Cond.methodLink RX0 51 yX0_wordOf, Cond.methodLink RX0 58 yX0_isPointerWord, Cond.instanceMethod yX0_isPointerWord, Cond.selects RX0 yX0_isPointerWord yX0_isPointerWord, Cond.code yX0_isPointerWord cX0_isPointerWord 3 (some .boolean), Cond.fieldLink RX0 15 "CountedHeap$Memory" "maps" "[I", Cond.methodLink RX0 66 yX0_hasWord, Cond.methodLink RX2 146 yX2_checkRoom, Cond.instanceMethod yX2_checkRoom, Cond.selects RX2 yX2_checkRoom yX2_checkRoom, Cond.code yX2_checkRoom cX2_checkRoom 2 none, Cond.classLink RX2 190 "java/lang/UnsupportedOperationException", Cond.initialized "java/lang/UnsupportedOperationException", Cond.fieldLink RX2 27 "CountedHeap" "openCalls" "I", Cond.methodLink RX2 189 yX0_isFull, Cond.instanceMethod yX0_isFull, Cond.selects RX0 yX0_isFull yX0_isFull, Cond.code yX0_isFull cX0_isFull 1 (some .boolean), Cond.fieldLink RX0 41 "CountedHeap$Memory" "usedTotal" "I", Cond.methodLink RX2 149 yX0_cellOf]
def wsX2_run_r5 : List Cond := [Cond.instanceMethod yX0_cellOf, Cond.selects RX0 yX0_cellOf yX0_cellOf, Cond.code yX0_cellOf cX0_cellOf 2 (some .int), Cond.methodLink RX0 54 yX0_cellOfWord, Cond.static yX0_cellOfWord, Cond.code yX0_cellOfWord cX0_cellOfWord 2 (some .int), Cond.methodLink RX2 152 yX2_intResult, Cond.instanceMethod yX2_intResult, Cond.selects RX2 yX2_intResult yX2_intResult, Cond.code yX2_intResult cX2_intResult 4 (some .int), Cond.methodLink RX2 199 yX2_valueOf, Cond.instanceMethod yX2_valueOf, Cond.selects RX2 yX2_valueOf yX2_valueOf, Cond.code yX2_valueOf cX2_valueOf 2 (some .int), Cond.methodLink RX2 97 yX0_read, Cond.instanceMethod yX0_read, Cond.selects RX0 yX0_read yX0_read, Cond.code yX0_read cX0_read 2 (some .int), Cond.methodLink RX2 100 yX0_writeInt, Cond.instanceMethod yX0_writeInt, Cond.selects RX0 yX0_writeInt yX0_writeInt, Cond.code yX0_writeInt cX0_writeInt 3 none, Cond.methodLink RX2 156 yX2_pointerResult, Cond.instanceMethod yX2_pointerResult]
def wsX2_run_r6 : List Cond := [Cond.selects RX2 yX2_pointerResult yX2_pointerResult, Cond.code yX2_pointerResult cX2_pointerResult 3 (some .int), Cond.methodLink RX2 202 yX0_makeBlock, Cond.instanceMethod yX0_makeBlock, Cond.selects RX0 yX0_makeBlock yX0_makeBlock, Cond.code yX0_makeBlock cX0_makeBlock 3 (some .int), Cond.fieldLink RX0 28 "CountedHeap$Memory" "counts" "[I", Cond.methodLink RX0 73 yX0_emptyWords, Cond.instanceMethod yX0_emptyWords, Cond.selects RX0 yX0_emptyWords yX0_emptyWords, Cond.code yX0_emptyWords cX0_emptyWords 3 none, Cond.methodLink RX2 159 yX0_writePointer, Cond.instanceMethod yX0_writePointer, Cond.selects RX0 yX0_writePointer yX0_writePointer, Cond.code yX0_writePointer cX0_writePointer 4 none, Cond.methodLink RX0 69 yX0_dropPointer, Cond.instanceMethod yX0_dropPointer, Cond.selects RX0 yX0_dropPointer yX0_dropPointer, Cond.code yX0_dropPointer cX0_dropPointer 3 none, Cond.fieldLink RX0 37 "CountedHeap$Memory" "queued" "I", Cond.fieldLink RX0 34 "CountedHeap$Memory" "queue" "[I", Cond.methodLink RX0 76 yX0_countLess, Cond.instanceMethod yX0_countLess, Cond.selects RX0 yX0_countLess yX0_countLess]
def wsX2_run_r7 : List Cond := [Cond.code yX0_countLess cX0_countLess 2 none, Cond.methodLink RX0 82 yX0_giveBack, Cond.instanceMethod yX0_giveBack, Cond.selects RX0 yX0_giveBack yX0_giveBack, Cond.code yX0_giveBack cX0_giveBack 2 none, Cond.fieldLink RX0 44 "CountedHeap$Memory" "givenBack" "I", Cond.methodLink RX0 85 yX0_enqueue, Cond.instanceMethod yX0_enqueue, Cond.selects RX0 yX0_enqueue yX0_enqueue, Cond.code yX0_enqueue cX0_enqueue 2 none, Cond.methodLink RX0 79 yX0_dropPointersOf, Cond.instanceMethod yX0_dropPointersOf, Cond.selects RX0 yX0_dropPointersOf yX0_dropPointersOf, Cond.code yX0_dropPointersOf cX0_dropPointersOf 3 none, Cond.methodLink RX2 162 yX2_placeAfter, Cond.instanceMethod yX2_placeAfter, Cond.selects RX2 yX2_placeAfter yX2_placeAfter, Cond.code yX2_placeAfter cX2_placeAfter 5 (some .int), Cond.fieldLink RX2 23 "CountedHeap" "returnPlaces" "[I"]
def wsX2_run : List Cond := .code yX2_run cX2_run 3 (some .int) :: ((wsX2_run_r1 ++ (wsX2_run_r2 ++ (wsX2_run_r3 ++ (wsX2_run_r4 ++ (wsX2_run_r5 ++ (wsX2_run_r6 ++ wsX2_run_r7)))))) ++ wsX20 ++ wsX10 ++ wsX00 ++ (vx_atS RX2 81 "java/lang/IllegalArgumentException" ["java/lang/RuntimeException", "java/lang/Exception"]).filter goodWord ++ (vx_atS RX2 183 "java/lang/IllegalStateException" ["java/lang/RuntimeException", "java/lang/Exception"]).filter goodWord ++ (vx_atS RX2 188 "java/lang/IndexOutOfBoundsException" ["java/lang/RuntimeException", "java/lang/Exception"]).filter goodWord ++ (vx_atS RX2 194 "java/lang/UnsupportedOperationException" ["java/lang/RuntimeException", "java/lang/Exception"]).filter goodWord)
def wsX2_next : List Cond := .code yX2_next cX2_next 1 (some .int) :: ([.fieldLink RX2 31 "CountedHeap" "nextPlace" "I"] ++ wsX20)
def wsX2_open : List Cond := .code yX2_open cX2_open 1 (some .int) :: ([.fieldLink RX2 27 "CountedHeap" "openCalls" "I"] ++ wsX20)
def wsX2_isFrameInt : List Cond := .code yX2_isFrameInt cX2_isFrameInt 1 (some .boolean) :: ([])
def wsX2_frame : List Cond := .code yX2_frame cX2_frame 2 (some .int) :: ([.fieldLink RX2 19 "CountedHeap" "memory" "LCountedHeap$Memory;", .methodLink RX2 94 yX2_isFrameInt, .static yX2_isFrameInt, .initialized RX2, .code yX2_isFrameInt cX2_isFrameInt 1 (some .boolean), .methodLink RX2 97 yX0_read, .instanceMethod yX0_read, .selects RX0 yX0_read yX0_read, .initialized RX0, .code yX0_read cX0_read 2 (some .int), .fieldLink RX0 18 "CountedHeap$Memory" "cells" "[I"] ++ wsX20 ++ wsX00)
def wsX2_set : List Cond := .code yX2_set cX2_set 3 (some .boolean) :: ([.fieldLink RX2 19 "CountedHeap" "memory" "LCountedHeap$Memory;", .methodLink RX2 94 yX2_isFrameInt, .static yX2_isFrameInt, .initialized RX2, .code yX2_isFrameInt cX2_isFrameInt 1 (some .boolean), .methodLink RX2 100 yX0_writeInt, .instanceMethod yX0_writeInt, .selects RX0 yX0_writeInt yX0_writeInt, .initialized RX0, .code yX0_writeInt cX0_writeInt 3 none, .fieldLink RX0 18 "CountedHeap$Memory" "cells" "[I"] ++ wsX20 ++ wsX00)
def wsX2_root : List Cond := .code yX2_root cX2_root 2 (some .int) :: ([.fieldLink RX2 19 "CountedHeap" "memory" "LCountedHeap$Memory;", .methodLink RX2 97 yX0_read, .instanceMethod yX0_read, .selects RX0 yX0_read yX0_read, .initialized RX0, .code yX0_read cX0_read 2 (some .int), .fieldLink RX0 18 "CountedHeap$Memory" "cells" "[I"] ++ wsX20 ++ wsX00)
def wsX2_blocks : List Cond := .code yX2_blocks cX2_blocks 1 (some .int) :: ([.fieldLink RX2 19 "CountedHeap" "memory" "LCountedHeap$Memory;", .methodLink RX2 104 yX0_blockTotal, .instanceMethod yX0_blockTotal, .selects RX0 yX0_blockTotal yX0_blockTotal, .initialized RX0, .code yX0_blockTotal cX0_blockTotal 1 (some .int), .fieldLink RX0 41 "CountedHeap$Memory" "usedTotal" "I"] ++ wsX20 ++ wsX00)
def wsX2_count : List Cond := .code yX2_count cX2_count 2 (some .int) :: ([.fieldLink RX2 19 "CountedHeap" "memory" "LCountedHeap$Memory;", .methodLink RX2 107 yX0_countOf, .instanceMethod yX0_countOf, .selects RX0 yX0_countOf yX0_countOf, .initialized RX0, .code yX0_countOf cX0_countOf 2 (some .int), .fieldLink RX0 28 "CountedHeap$Memory" "counts" "[I", .methodLink RX0 62 yX0_isBlock, .instanceMethod yX0_isBlock, .selects RX0 yX0_isBlock yX0_isBlock, .code yX0_isBlock cX0_isBlock 2 (some .boolean), .fieldLink RX0 21 "CountedHeap$Memory" "used" "[Z"] ++ wsX20 ++ wsX00)
def wsX2_typeOf : List Cond := .code yX2_typeOf cX2_typeOf 2 (some .int) :: ([.fieldLink RX2 19 "CountedHeap" "memory" "LCountedHeap$Memory;", .methodLink RX2 110 yX0_blockType, .instanceMethod yX0_blockType, .selects RX0 yX0_blockType yX0_blockType, .initialized RX0, .code yX0_blockType cX0_blockType 2 (some .int), .fieldLink RX0 25 "CountedHeap$Memory" "types" "[I", .methodLink RX0 62 yX0_isBlock, .instanceMethod yX0_isBlock, .selects RX0 yX0_isBlock yX0_isBlock, .code yX0_isBlock cX0_isBlock 2 (some .boolean), .fieldLink RX0 21 "CountedHeap$Memory" "used" "[Z"] ++ wsX20 ++ wsX00)
def wsX2_word : List Cond := .code yX2_word cX2_word 3 (some .long) :: ([.fieldLink RX2 19 "CountedHeap" "memory" "LCountedHeap$Memory;", .constantLong RX2 120 (4294967296), .methodLink RX2 113 yX0_hasWord, .instanceMethod yX0_hasWord, .selects RX0 yX0_hasWord yX0_hasWord, .initialized RX0, .code yX0_hasWord cX0_hasWord 3 (some .boolean), .fieldLink RX0 9 "CountedHeap$Memory" "sizes" "[I", .fieldLink RX0 25 "CountedHeap$Memory" "types" "[I", .methodLink RX0 62 yX0_isBlock, .instanceMethod yX0_isBlock, .selects RX0 yX0_isBlock yX0_isBlock, .code yX0_isBlock cX0_isBlock 2 (some .boolean), .fieldLink RX0 21 "CountedHeap$Memory" "used" "[Z", .methodLink RX2 116 yX0_cellOfWord, .static yX0_cellOfWord, .code yX0_cellOfWord cX0_cellOfWord 2 (some .int), .methodLink RX2 97 yX0_read, .instanceMethod yX0_read, .selects RX0 yX0_read yX0_read, .code yX0_read cX0_read 2 (some .int), .fieldLink RX0 18 "CountedHeap$Memory" "cells" "[I"] ++ wsX20 ++ wsX00)
def wsX2_given : List Cond := .code yX2_given cX2_given 1 (some .int) :: ([.fieldLink RX2 19 "CountedHeap" "memory" "LCountedHeap$Memory;", .methodLink RX2 122 yX0_givenTotal, .instanceMethod yX0_givenTotal, .selects RX0 yX0_givenTotal yX0_givenTotal, .initialized RX0, .code yX0_givenTotal cX0_givenTotal 1 (some .int), .fieldLink RX0 44 "CountedHeap$Memory" "givenBack" "I"] ++ wsX20 ++ wsX00)
def wsX2_lost_r1 : List Cond := [Cond.fieldLink RX2 19 "CountedHeap" "memory" "LCountedHeap$Memory;", Cond.methodLink RX2 125 yX0_findLost, Cond.instanceMethod yX0_findLost, Cond.selects RX0 yX0_findLost yX0_findLost, Cond.initialized RX0, Cond.code yX0_findLost cX0_findLost 2 (some .int), Cond.fieldLink RX0 37 "CountedHeap$Memory" "queued" "I", Cond.fieldLink RX0 31 "CountedHeap$Memory" "reached" "[Z", Cond.fieldLink RX0 18 "CountedHeap$Memory" "cells" "[I", Cond.fieldLink RX0 34 "CountedHeap$Memory" "queue" "[I", Cond.fieldLink RX0 41 "CountedHeap$Memory" "usedTotal" "I", Cond.methodLink RX0 88 yX0_reach, Cond.instanceMethod yX0_reach, Cond.selects RX0 yX0_reach yX0_reach, Cond.code yX0_reach cX0_reach 2 none, Cond.methodLink RX0 62 yX0_isBlock, Cond.instanceMethod yX0_isBlock, Cond.selects RX0 yX0_isBlock yX0_isBlock, Cond.code yX0_isBlock cX0_isBlock 2 (some .boolean), Cond.fieldLink RX0 21 "CountedHeap$Memory" "used" "[Z", Cond.methodLink RX0 85 yX0_enqueue, Cond.instanceMethod yX0_enqueue, Cond.selects RX0 yX0_enqueue yX0_enqueue, Cond.code yX0_enqueue cX0_enqueue 2 none]
def wsX2_lost_r2 : List Cond := [Cond.methodLink RX0 91 yX0_reachPointersOf, Cond.instanceMethod yX0_reachPointersOf, Cond.selects RX0 yX0_reachPointersOf yX0_reachPointersOf, Cond.code yX0_reachPointersOf cX0_reachPointersOf 3 none, Cond.methodLink RX0 58 yX0_isPointerWord, Cond.instanceMethod yX0_isPointerWord, Cond.selects RX0 yX0_isPointerWord yX0_isPointerWord, Cond.code yX0_isPointerWord cX0_isPointerWord 3 (some .boolean), Cond.fieldLink RX0 15 "CountedHeap$Memory" "maps" "[I", Cond.fieldLink RX0 25 "CountedHeap$Memory" "types" "[I", Cond.methodLink RX0 66 yX0_hasWord, Cond.instanceMethod yX0_hasWord, Cond.selects RX0 yX0_hasWord yX0_hasWord, Cond.code yX0_hasWord cX0_hasWord 3 (some .boolean), Cond.fieldLink RX0 9 "CountedHeap$Memory" "sizes" "[I", Cond.methodLink RX0 54 yX0_cellOfWord, Cond.static yX0_cellOfWord, Cond.code yX0_cellOfWord cX0_cellOfWord 2 (some .int)]
def wsX2_lost : List Cond := .code yX2_lost cX2_lost 1 (some .int) :: ((wsX2_lost_r1 ++ wsX2_lost_r2) ++ wsX20 ++ wsX00)
def wsX2_collect_r1 : List Cond := [Cond.fieldLink RX2 19 "CountedHeap" "memory" "LCountedHeap$Memory;", Cond.methodLink RX2 128 yX0_giveBackLost, Cond.instanceMethod yX0_giveBackLost, Cond.selects RX0 yX0_giveBackLost yX0_giveBackLost, Cond.initialized RX0, Cond.code yX0_giveBackLost cX0_giveBackLost 3 (some .int), Cond.fieldLink RX0 21 "CountedHeap$Memory" "used" "[Z", Cond.fieldLink RX0 31 "CountedHeap$Memory" "reached" "[Z", Cond.methodLink RX0 94 yX0_findLost, Cond.instanceMethod yX0_findLost, Cond.selects RX0 yX0_findLost yX0_findLost, Cond.code yX0_findLost cX0_findLost 2 (some .int), Cond.fieldLink RX0 37 "CountedHeap$Memory" "queued" "I", Cond.fieldLink RX0 18 "CountedHeap$Memory" "cells" "[I", Cond.fieldLink RX0 34 "CountedHeap$Memory" "queue" "[I", Cond.fieldLink RX0 41 "CountedHeap$Memory" "usedTotal" "I", Cond.methodLink RX0 88 yX0_reach, Cond.instanceMethod yX0_reach, Cond.selects RX0 yX0_reach yX0_reach, Cond.code yX0_reach cX0_reach 2 none, Cond.methodLink RX0 62 yX0_isBlock, Cond.instanceMethod yX0_isBlock, Cond.selects RX0 yX0_isBlock yX0_isBlock, Cond.code yX0_isBlock cX0_isBlock 2 (some .boolean)]
def wsX2_collect_r2 : List Cond := [Cond.methodLink RX0 85 yX0_enqueue, Cond.instanceMethod yX0_enqueue, Cond.selects RX0 yX0_enqueue yX0_enqueue, Cond.code yX0_enqueue cX0_enqueue 2 none, Cond.methodLink RX0 91 yX0_reachPointersOf, Cond.instanceMethod yX0_reachPointersOf, Cond.selects RX0 yX0_reachPointersOf yX0_reachPointersOf, Cond.code yX0_reachPointersOf cX0_reachPointersOf 3 none, Cond.methodLink RX0 58 yX0_isPointerWord, Cond.instanceMethod yX0_isPointerWord, Cond.selects RX0 yX0_isPointerWord yX0_isPointerWord, Cond.code yX0_isPointerWord cX0_isPointerWord 3 (some .boolean), Cond.fieldLink RX0 15 "CountedHeap$Memory" "maps" "[I", Cond.fieldLink RX0 25 "CountedHeap$Memory" "types" "[I", Cond.methodLink RX0 66 yX0_hasWord, Cond.instanceMethod yX0_hasWord, Cond.selects RX0 yX0_hasWord yX0_hasWord, Cond.code yX0_hasWord cX0_hasWord 3 (some .boolean), Cond.fieldLink RX0 9 "CountedHeap$Memory" "sizes" "[I", Cond.methodLink RX0 54 yX0_cellOfWord, Cond.static yX0_cellOfWord, Cond.code yX0_cellOfWord cX0_cellOfWord 2 (some .int), Cond.methodLink RX0 98 yX0_takeOffCountsOf, Cond.instanceMethod yX0_takeOffCountsOf]
def wsX2_collect_r3 : List Cond := [Cond.selects RX0 yX0_takeOffCountsOf yX0_takeOffCountsOf, Cond.code yX0_takeOffCountsOf cX0_takeOffCountsOf 4 none, Cond.fieldLink RX0 28 "CountedHeap$Memory" "counts" "[I", Cond.methodLink RX0 82 yX0_giveBack, Cond.instanceMethod yX0_giveBack, Cond.selects RX0 yX0_giveBack yX0_giveBack, Cond.code yX0_giveBack cX0_giveBack 2 none, Cond.fieldLink RX0 44 "CountedHeap$Memory" "givenBack" "I"]
def wsX2_collect : List Cond := .code yX2_collect cX2_collect 1 (some .int) :: ((wsX2_collect_r1 ++ (wsX2_collect_r2 ++ wsX2_collect_r3)) ++ wsX20 ++ wsX00)
def wsX3_init : List Cond := .code yX3_init cX3_init 2 none :: ([.methodLink RX3 1 objectInit, .instanceMethod objectInit, .code objectInit ⟨#[0xb1]⟩ 1 none, .arrayClass .int, .fieldLink RX3 7 "CountedHeapModel" "size" "[I", .fieldLink RX3 13 "CountedHeapModel" "map" "[I", .fieldLink RX3 16 "CountedHeapModel" "code" "[I", .fieldLink RX3 19 "CountedHeapModel" "stack" "[I", .fieldLink RX3 22 "CountedHeapModel" "ints" "[I", .fieldLink RX3 25 "CountedHeapModel" "roots" "[I", .fieldLink RX3 28 "CountedHeapModel" "kind" "[I", .fieldLink RX3 31 "CountedHeapModel" "words" "[I", .fieldLink RX3 34 "CountedHeapModel" "pointers" "[I", .arrayClass .boolean, .fieldLink RX3 37 "CountedHeapModel" "seen" "[Z"] ++ wsX30)
def wsX3_thrown : List Cond := .code yX3_thrown cX3_thrown 1 (some .int) :: ([.fieldLink RX3 41 "CountedHeapModel" "thrown" "I"] ++ wsX30)
def wsX3_within : List Cond := .code yX3_within cX3_within 3 (some .boolean) :: ([])
def wsX3_type : List Cond := .code yX3_type cX3_type 5 (some .boolean) :: ([.fieldLink RX3 41 "CountedHeapModel" "thrown" "I", .fieldLink RX3 28 "CountedHeapModel" "kind" "[I", .fieldLink RX3 7 "CountedHeapModel" "size" "[I", .fieldLink RX3 13 "CountedHeapModel" "map" "[I", .methodLink RX3 45 yX3_within, .static yX3_within, .initialized RX3, .code yX3_within cX3_within 3 (some .boolean)] ++ wsX30)
def wsX3_isOperand : List Cond := .code yX3_isOperand cX3_isOperand 1 (some .boolean) :: ([.methodLink RX3 45 yX3_within, .static yX3_within, .initialized RX3, .code yX3_within cX3_within 3 (some .boolean)])
def wsX3_takes : List Cond := .code yX3_takes cX3_takes 2 (some .int) :: ([.methodLink RX3 45 yX3_within, .static yX3_within, .initialized RX3, .code yX3_within cX3_within 3 (some .boolean)])
def wsX3_isRight : List Cond := .code yX3_isRight cX3_isRight 4 (some .boolean) :: ([.methodLink RX3 49 yX3_takes, .static yX3_takes, .initialized RX3, .code yX3_takes cX3_takes 2 (some .int), .methodLink RX3 45 yX3_within, .static yX3_within, .code yX3_within cX3_within 3 (some .boolean), .methodLink RX3 53 yX3_isOperand, .static yX3_isOperand, .code yX3_isOperand cX3_isOperand 1 (some .boolean)])
def wsX3_add : List Cond := .code yX3_add cX3_add 5 (some .int) :: ([.fieldLink RX3 41 "CountedHeapModel" "thrown" "I", .fieldLink RX3 60 "CountedHeapModel" "length" "I", .fieldLink RX3 16 "CountedHeapModel" "code" "[I", .methodLink RX3 45 yX3_within, .static yX3_within, .initialized RX3, .code yX3_within cX3_within 3 (some .boolean), .methodLink RX3 57 yX3_isRight, .static yX3_isRight, .code yX3_isRight cX3_isRight 4 (some .boolean), .methodLink RX3 49 yX3_takes, .static yX3_takes, .code yX3_takes cX3_takes 2 (some .int), .methodLink RX3 53 yX3_isOperand, .static yX3_isOperand, .code yX3_isOperand cX3_isOperand 1 (some .boolean)] ++ wsX30)
def wsX3_clear : List Cond := .code yX3_clear cX3_clear 2 (some .int) :: ([.fieldLink RX3 41 "CountedHeapModel" "thrown" "I", .fieldLink RX3 60 "CountedHeapModel" "length" "I", .fieldLink RX3 63 "CountedHeapModel" "next" "I", .fieldLink RX3 66 "CountedHeapModel" "depth" "I"] ++ wsX30)
def wsX3_start : List Cond := .code yX3_start cX3_start 2 (some .boolean) :: ([.fieldLink RX3 41 "CountedHeapModel" "thrown" "I", .fieldLink RX3 63 "CountedHeapModel" "next" "I", .fieldLink RX3 66 "CountedHeapModel" "depth" "I", .methodLink RX3 45 yX3_within, .static yX3_within, .initialized RX3, .code yX3_within cX3_within 3 (some .boolean)] ++ wsX30)
def wsX3_isBlock : List Cond := .code yX3_isBlock cX3_isBlock 2 (some .boolean) :: ([.fieldLink RX3 28 "CountedHeapModel" "kind" "[I", .methodLink RX3 45 yX3_within, .static yX3_within, .initialized RX3, .code yX3_within cX3_within 3 (some .boolean)] ++ wsX30)
def wsX3_isPointer : List Cond := .code yX3_isPointer cX3_isPointer 3 (some .boolean) :: ([.fieldLink RX3 13 "CountedHeapModel" "map" "[I", .fieldLink RX3 28 "CountedHeapModel" "kind" "[I"] ++ wsX30)
def wsX3_countAll : List Cond := .code yX3_countAll cX3_countAll 3 none :: ([.fieldLink RX3 34 "CountedHeapModel" "pointers" "[I", .fieldLink RX3 25 "CountedHeapModel" "roots" "[I", .fieldLink RX3 28 "CountedHeapModel" "kind" "[I", .fieldLink RX3 7 "CountedHeapModel" "size" "[I", .fieldLink RX3 31 "CountedHeapModel" "words" "[I", .methodLink RX3 69 yX3_isPointer, .instanceMethod yX3_isPointer, .selects RX3 yX3_isPointer yX3_isPointer, .initialized RX3, .code yX3_isPointer cX3_isPointer 3 (some .boolean), .fieldLink RX3 13 "CountedHeapModel" "map" "[I"] ++ wsX30)
def wsX3_giveBack : List Cond := .code yX3_giveBack cX3_giveBack 4 none :: ([.fieldLink RX3 28 "CountedHeapModel" "kind" "[I", .fieldLink RX3 34 "CountedHeapModel" "pointers" "[I", .fieldLink RX3 76 "CountedHeapModel" "given" "I", .methodLink RX3 73 yX3_countAll, .instanceMethod yX3_countAll, .selects RX3 yX3_countAll yX3_countAll, .initialized RX3, .code yX3_countAll cX3_countAll 3 none, .fieldLink RX3 25 "CountedHeapModel" "roots" "[I", .fieldLink RX3 7 "CountedHeapModel" "size" "[I", .fieldLink RX3 31 "CountedHeapModel" "words" "[I", .methodLink RX3 69 yX3_isPointer, .instanceMethod yX3_isPointer, .selects RX3 yX3_isPointer yX3_isPointer, .code yX3_isPointer cX3_isPointer 3 (some .boolean), .fieldLink RX3 13 "CountedHeapModel" "map" "[I"] ++ wsX30)
def wsX3_reach : List Cond := .code yX3_reach cX3_reach 4 none :: ([.fieldLink RX3 37 "CountedHeapModel" "seen" "[Z", .fieldLink RX3 25 "CountedHeapModel" "roots" "[I", .fieldLink RX3 28 "CountedHeapModel" "kind" "[I", .fieldLink RX3 7 "CountedHeapModel" "size" "[I", .fieldLink RX3 31 "CountedHeapModel" "words" "[I", .methodLink RX3 69 yX3_isPointer, .instanceMethod yX3_isPointer, .selects RX3 yX3_isPointer yX3_isPointer, .initialized RX3, .code yX3_isPointer cX3_isPointer 3 (some .boolean), .fieldLink RX3 13 "CountedHeapModel" "map" "[I"] ++ wsX30)
def wsX3_find : List Cond := .code yX3_find cX3_find 4 (some .int) :: ([.fieldLink RX3 79 "CountedHeapModel" "block" "I", .fieldLink RX3 82 "CountedHeapModel" "word" "I", .fieldLink RX3 25 "CountedHeapModel" "roots" "[I", .fieldLink RX3 7 "CountedHeapModel" "size" "[I", .fieldLink RX3 28 "CountedHeapModel" "kind" "[I", .methodLink RX3 69 yX3_isPointer, .instanceMethod yX3_isPointer, .selects RX3 yX3_isPointer yX3_isPointer, .initialized RX3, .code yX3_isPointer cX3_isPointer 3 (some .boolean), .fieldLink RX3 13 "CountedHeapModel" "map" "[I"] ++ wsX30)
def wsX3_read : List Cond := .code yX3_read cX3_read 3 (some .int) :: ([.fieldLink RX3 79 "CountedHeapModel" "block" "I", .fieldLink RX3 22 "CountedHeapModel" "ints" "[I", .fieldLink RX3 25 "CountedHeapModel" "roots" "[I", .fieldLink RX3 31 "CountedHeapModel" "words" "[I", .fieldLink RX3 82 "CountedHeapModel" "word" "I", .methodLink RX3 85 yX3_find, .instanceMethod yX3_find, .selects RX3 yX3_find yX3_find, .initialized RX3, .code yX3_find cX3_find 4 (some .int), .fieldLink RX3 7 "CountedHeapModel" "size" "[I", .fieldLink RX3 28 "CountedHeapModel" "kind" "[I", .methodLink RX3 69 yX3_isPointer, .instanceMethod yX3_isPointer, .selects RX3 yX3_isPointer yX3_isPointer, .code yX3_isPointer cX3_isPointer 3 (some .boolean), .fieldLink RX3 13 "CountedHeapModel" "map" "[I"] ++ wsX30)
def wsX3_write : List Cond := .code yX3_write cX3_write 4 none :: ([.fieldLink RX3 79 "CountedHeapModel" "block" "I", .fieldLink RX3 31 "CountedHeapModel" "words" "[I", .fieldLink RX3 82 "CountedHeapModel" "word" "I", .fieldLink RX3 22 "CountedHeapModel" "ints" "[I", .fieldLink RX3 25 "CountedHeapModel" "roots" "[I", .methodLink RX3 85 yX3_find, .instanceMethod yX3_find, .selects RX3 yX3_find yX3_find, .initialized RX3, .code yX3_find cX3_find 4 (some .int), .fieldLink RX3 7 "CountedHeapModel" "size" "[I", .fieldLink RX3 28 "CountedHeapModel" "kind" "[I", .methodLink RX3 69 yX3_isPointer, .instanceMethod yX3_isPointer, .selects RX3 yX3_isPointer yX3_isPointer, .code yX3_isPointer cX3_isPointer 3 (some .boolean), .fieldLink RX3 13 "CountedHeapModel" "map" "[I"] ++ wsX30)
def wsX3_free : List Cond := .code yX3_free cX3_free 2 (some .int) :: ([.fieldLink RX3 28 "CountedHeapModel" "kind" "[I"] ++ wsX30)
def wsX3_fault_r1 : List Cond := [Cond.fieldLink RX3 16 "CountedHeapModel" "code" "[I", Cond.fieldLink RX3 66 "CountedHeapModel" "depth" "I", Cond.methodLink RX3 49 yX3_takes, Cond.static yX3_takes, Cond.initialized RX3, Cond.code yX3_takes cX3_takes 2 (some .int), Cond.methodLink RX3 45 yX3_within, Cond.static yX3_within, Cond.code yX3_within cX3_within 3 (some .boolean), Cond.methodLink RX3 85 yX3_find, Cond.instanceMethod yX3_find, Cond.selects RX3 yX3_find yX3_find, Cond.code yX3_find cX3_find 4 (some .int), Cond.fieldLink RX3 79 "CountedHeapModel" "block" "I", Cond.fieldLink RX3 82 "CountedHeapModel" "word" "I", Cond.fieldLink RX3 25 "CountedHeapModel" "roots" "[I", Cond.fieldLink RX3 7 "CountedHeapModel" "size" "[I", Cond.fieldLink RX3 28 "CountedHeapModel" "kind" "[I", Cond.methodLink RX3 69 yX3_isPointer, Cond.instanceMethod yX3_isPointer, Cond.selects RX3 yX3_isPointer yX3_isPointer, Cond.code yX3_isPointer cX3_isPointer 3 (some .boolean), Cond.fieldLink RX3 13 "CountedHeapModel" "map" "[I", Cond.methodLink RX3 88 yX3_free]
def wsX3_fault_r2 : List Cond := [Cond.instanceMethod yX3_free, Cond.selects RX3 yX3_free yX3_free, Cond.code yX3_free cX3_free 2 (some .int)]
def wsX3_fault : List Cond := .code yX3_fault cX3_fault 6 (some .int) :: ((wsX3_fault_r1 ++ wsX3_fault_r2) ++ wsX30)
def wsX3_value : List Cond := .code yX3_value cX3_value 3 (some .int) :: ([])
def wsX3_act_r1 : List Cond := [Cond.fieldLink RX3 16 "CountedHeapModel" "code" "[I", Cond.fieldLink RX3 63 "CountedHeapModel" "next" "I", Cond.fieldLink RX3 28 "CountedHeapModel" "kind" "[I", Cond.fieldLink RX3 31 "CountedHeapModel" "words" "[I", Cond.fieldLink RX3 19 "CountedHeapModel" "stack" "[I", Cond.fieldLink RX3 66 "CountedHeapModel" "depth" "I", Cond.methodLink RX3 92 yX3_write, Cond.instanceMethod yX3_write, Cond.selects RX3 yX3_write yX3_write, Cond.initialized RX3, Cond.code yX3_write cX3_write 4 none, Cond.fieldLink RX3 79 "CountedHeapModel" "block" "I", Cond.fieldLink RX3 82 "CountedHeapModel" "word" "I", Cond.fieldLink RX3 22 "CountedHeapModel" "ints" "[I", Cond.fieldLink RX3 25 "CountedHeapModel" "roots" "[I", Cond.methodLink RX3 85 yX3_find, Cond.instanceMethod yX3_find, Cond.selects RX3 yX3_find yX3_find, Cond.code yX3_find cX3_find 4 (some .int), Cond.fieldLink RX3 7 "CountedHeapModel" "size" "[I", Cond.methodLink RX3 69 yX3_isPointer, Cond.instanceMethod yX3_isPointer, Cond.selects RX3 yX3_isPointer yX3_isPointer, Cond.code yX3_isPointer cX3_isPointer 3 (some .boolean)]
def wsX3_act_r2 : List Cond := [Cond.fieldLink RX3 13 "CountedHeapModel" "map" "[I", Cond.methodLink RX3 96 yX3_read, Cond.instanceMethod yX3_read, Cond.selects RX3 yX3_read yX3_read, Cond.code yX3_read cX3_read 3 (some .int), Cond.methodLink RX3 45 yX3_within, Cond.static yX3_within, Cond.code yX3_within cX3_within 3 (some .boolean), Cond.methodLink RX3 100 yX3_value, Cond.static yX3_value, Cond.code yX3_value cX3_value 3 (some .int), Cond.methodLink RX3 88 yX3_free, Cond.instanceMethod yX3_free, Cond.selects RX3 yX3_free yX3_free, Cond.code yX3_free cX3_free 2 (some .int), Cond.methodLink RX3 104 yX3_giveBack, Cond.instanceMethod yX3_giveBack, Cond.selects RX3 yX3_giveBack yX3_giveBack, Cond.code yX3_giveBack cX3_giveBack 4 none, Cond.fieldLink RX3 34 "CountedHeapModel" "pointers" "[I", Cond.fieldLink RX3 76 "CountedHeapModel" "given" "I", Cond.methodLink RX3 73 yX3_countAll, Cond.instanceMethod yX3_countAll, Cond.selects RX3 yX3_countAll yX3_countAll]
def wsX3_act_r3 : List Cond := [Cond.code yX3_countAll cX3_countAll 3 none]
def wsX3_act : List Cond := .code yX3_act cX3_act 8 none :: ((wsX3_act_r1 ++ (wsX3_act_r2 ++ wsX3_act_r3)) ++ wsX30)
def wsX3_run_r1 : List Cond := [Cond.fieldLink RX3 41 "CountedHeapModel" "thrown" "I", Cond.fieldLink RX3 63 "CountedHeapModel" "next" "I", Cond.fieldLink RX3 60 "CountedHeapModel" "length" "I", Cond.fieldLink RX3 16 "CountedHeapModel" "code" "[I", Cond.methodLink RX3 45 yX3_within, Cond.static yX3_within, Cond.initialized RX3, Cond.code yX3_within cX3_within 3 (some .boolean), Cond.methodLink RX3 107 yX3_fault, Cond.instanceMethod yX3_fault, Cond.selects RX3 yX3_fault yX3_fault, Cond.code yX3_fault cX3_fault 6 (some .int), Cond.fieldLink RX3 66 "CountedHeapModel" "depth" "I", Cond.methodLink RX3 49 yX3_takes, Cond.static yX3_takes, Cond.code yX3_takes cX3_takes 2 (some .int), Cond.methodLink RX3 85 yX3_find, Cond.instanceMethod yX3_find, Cond.selects RX3 yX3_find yX3_find, Cond.code yX3_find cX3_find 4 (some .int), Cond.fieldLink RX3 79 "CountedHeapModel" "block" "I", Cond.fieldLink RX3 82 "CountedHeapModel" "word" "I", Cond.fieldLink RX3 25 "CountedHeapModel" "roots" "[I", Cond.fieldLink RX3 7 "CountedHeapModel" "size" "[I"]
def wsX3_run_r2 : List Cond := [Cond.fieldLink RX3 28 "CountedHeapModel" "kind" "[I", Cond.methodLink RX3 69 yX3_isPointer, Cond.instanceMethod yX3_isPointer, Cond.selects RX3 yX3_isPointer yX3_isPointer, Cond.code yX3_isPointer cX3_isPointer 3 (some .boolean), Cond.fieldLink RX3 13 "CountedHeapModel" "map" "[I", Cond.methodLink RX3 88 yX3_free, Cond.instanceMethod yX3_free, Cond.selects RX3 yX3_free yX3_free, Cond.code yX3_free cX3_free 2 (some .int), Cond.methodLink RX3 110 yX3_act, Cond.instanceMethod yX3_act, Cond.selects RX3 yX3_act yX3_act, Cond.code yX3_act cX3_act 8 none, Cond.fieldLink RX3 31 "CountedHeapModel" "words" "[I", Cond.fieldLink RX3 19 "CountedHeapModel" "stack" "[I", Cond.methodLink RX3 92 yX3_write, Cond.instanceMethod yX3_write, Cond.selects RX3 yX3_write yX3_write, Cond.code yX3_write cX3_write 4 none, Cond.fieldLink RX3 22 "CountedHeapModel" "ints" "[I", Cond.methodLink RX3 96 yX3_read, Cond.instanceMethod yX3_read, Cond.selects RX3 yX3_read yX3_read]
def wsX3_run_r3 : List Cond := [Cond.code yX3_read cX3_read 3 (some .int), Cond.methodLink RX3 100 yX3_value, Cond.static yX3_value, Cond.code yX3_value cX3_value 3 (some .int), Cond.methodLink RX3 104 yX3_giveBack, Cond.instanceMethod yX3_giveBack, Cond.selects RX3 yX3_giveBack yX3_giveBack, Cond.code yX3_giveBack cX3_giveBack 4 none, Cond.fieldLink RX3 34 "CountedHeapModel" "pointers" "[I", Cond.fieldLink RX3 76 "CountedHeapModel" "given" "I", Cond.methodLink RX3 73 yX3_countAll, Cond.instanceMethod yX3_countAll, Cond.selects RX3 yX3_countAll yX3_countAll, Cond.code yX3_countAll cX3_countAll 3 none]
def wsX3_run : List Cond := .code yX3_run cX3_run 4 (some .int) :: ((wsX3_run_r1 ++ (wsX3_run_r2 ++ wsX3_run_r3)) ++ wsX30)
def wsX3_next : List Cond := .code yX3_next cX3_next 1 (some .int) :: ([.fieldLink RX3 41 "CountedHeapModel" "thrown" "I", .fieldLink RX3 63 "CountedHeapModel" "next" "I"] ++ wsX30)
def wsX3_open : List Cond := .code yX3_open cX3_open 1 (some .int) :: ([.fieldLink RX3 41 "CountedHeapModel" "thrown" "I", .fieldLink RX3 66 "CountedHeapModel" "depth" "I"] ++ wsX30)
def wsX3_frame : List Cond := .code yX3_frame cX3_frame 2 (some .int) :: ([.fieldLink RX3 41 "CountedHeapModel" "thrown" "I", .fieldLink RX3 22 "CountedHeapModel" "ints" "[I", .methodLink RX3 45 yX3_within, .static yX3_within, .initialized RX3, .code yX3_within cX3_within 3 (some .boolean)] ++ wsX30)
def wsX3_set : List Cond := .code yX3_set cX3_set 3 (some .boolean) :: ([.fieldLink RX3 41 "CountedHeapModel" "thrown" "I", .fieldLink RX3 22 "CountedHeapModel" "ints" "[I", .methodLink RX3 45 yX3_within, .static yX3_within, .initialized RX3, .code yX3_within cX3_within 3 (some .boolean)] ++ wsX30)
def wsX3_root : List Cond := .code yX3_root cX3_root 2 (some .int) :: ([.fieldLink RX3 41 "CountedHeapModel" "thrown" "I", .fieldLink RX3 25 "CountedHeapModel" "roots" "[I", .methodLink RX3 45 yX3_within, .static yX3_within, .initialized RX3, .code yX3_within cX3_within 3 (some .boolean)] ++ wsX30)
def wsX3_blocks : List Cond := .code yX3_blocks cX3_blocks 3 (some .int) :: ([.fieldLink RX3 41 "CountedHeapModel" "thrown" "I", .fieldLink RX3 28 "CountedHeapModel" "kind" "[I"] ++ wsX30)
def wsX3_count : List Cond := .code yX3_count cX3_count 2 (some .int) :: ([.fieldLink RX3 41 "CountedHeapModel" "thrown" "I", .fieldLink RX3 34 "CountedHeapModel" "pointers" "[I", .methodLink RX3 114 yX3_isBlock, .instanceMethod yX3_isBlock, .selects RX3 yX3_isBlock yX3_isBlock, .initialized RX3, .code yX3_isBlock cX3_isBlock 2 (some .boolean), .fieldLink RX3 28 "CountedHeapModel" "kind" "[I", .methodLink RX3 45 yX3_within, .static yX3_within, .code yX3_within cX3_within 3 (some .boolean), .methodLink RX3 73 yX3_countAll, .instanceMethod yX3_countAll, .selects RX3 yX3_countAll yX3_countAll, .code yX3_countAll cX3_countAll 3 none, .fieldLink RX3 25 "CountedHeapModel" "roots" "[I", .fieldLink RX3 7 "CountedHeapModel" "size" "[I", .fieldLink RX3 31 "CountedHeapModel" "words" "[I", .methodLink RX3 69 yX3_isPointer, .instanceMethod yX3_isPointer, .selects RX3 yX3_isPointer yX3_isPointer, .code yX3_isPointer cX3_isPointer 3 (some .boolean), .fieldLink RX3 13 "CountedHeapModel" "map" "[I"] ++ wsX30)
def wsX3_typeOf : List Cond := .code yX3_typeOf cX3_typeOf 2 (some .int) :: ([.fieldLink RX3 41 "CountedHeapModel" "thrown" "I", .fieldLink RX3 28 "CountedHeapModel" "kind" "[I", .methodLink RX3 114 yX3_isBlock, .instanceMethod yX3_isBlock, .selects RX3 yX3_isBlock yX3_isBlock, .initialized RX3, .code yX3_isBlock cX3_isBlock 2 (some .boolean), .methodLink RX3 45 yX3_within, .static yX3_within, .code yX3_within cX3_within 3 (some .boolean)] ++ wsX30)
def wsX3_word : List Cond := .code yX3_word cX3_word 3 (some .long) :: ([.fieldLink RX3 41 "CountedHeapModel" "thrown" "I", .fieldLink RX3 7 "CountedHeapModel" "size" "[I", .fieldLink RX3 28 "CountedHeapModel" "kind" "[I", .fieldLink RX3 31 "CountedHeapModel" "words" "[I", .constantLong RX3 117 (4294967296), .methodLink RX3 114 yX3_isBlock, .instanceMethod yX3_isBlock, .selects RX3 yX3_isBlock yX3_isBlock, .initialized RX3, .code yX3_isBlock cX3_isBlock 2 (some .boolean), .methodLink RX3 45 yX3_within, .static yX3_within, .code yX3_within cX3_within 3 (some .boolean)] ++ wsX30)
def wsX3_given : List Cond := .code yX3_given cX3_given 1 (some .int) :: ([.fieldLink RX3 41 "CountedHeapModel" "thrown" "I", .fieldLink RX3 76 "CountedHeapModel" "given" "I"] ++ wsX30)
def wsX3_lost : List Cond := .code yX3_lost cX3_lost 3 (some .int) :: ([.fieldLink RX3 41 "CountedHeapModel" "thrown" "I", .fieldLink RX3 28 "CountedHeapModel" "kind" "[I", .fieldLink RX3 37 "CountedHeapModel" "seen" "[Z", .methodLink RX3 119 yX3_reach, .instanceMethod yX3_reach, .selects RX3 yX3_reach yX3_reach, .initialized RX3, .code yX3_reach cX3_reach 4 none, .fieldLink RX3 25 "CountedHeapModel" "roots" "[I", .fieldLink RX3 7 "CountedHeapModel" "size" "[I", .fieldLink RX3 31 "CountedHeapModel" "words" "[I", .methodLink RX3 69 yX3_isPointer, .instanceMethod yX3_isPointer, .selects RX3 yX3_isPointer yX3_isPointer, .code yX3_isPointer cX3_isPointer 3 (some .boolean), .fieldLink RX3 13 "CountedHeapModel" "map" "[I"] ++ wsX30)
def wsX3_collect : List Cond := .code yX3_collect cX3_collect 3 (some .int) :: ([.fieldLink RX3 37 "CountedHeapModel" "seen" "[Z", .fieldLink RX3 28 "CountedHeapModel" "kind" "[I", .fieldLink RX3 76 "CountedHeapModel" "given" "I", .methodLink RX3 122 yX3_lost, .instanceMethod yX3_lost, .selects RX3 yX3_lost yX3_lost, .initialized RX3, .code yX3_lost cX3_lost 3 (some .int), .fieldLink RX3 41 "CountedHeapModel" "thrown" "I", .methodLink RX3 119 yX3_reach, .instanceMethod yX3_reach, .selects RX3 yX3_reach yX3_reach, .code yX3_reach cX3_reach 4 none, .fieldLink RX3 25 "CountedHeapModel" "roots" "[I", .fieldLink RX3 7 "CountedHeapModel" "size" "[I", .fieldLink RX3 31 "CountedHeapModel" "words" "[I", .methodLink RX3 69 yX3_isPointer, .instanceMethod yX3_isPointer, .selects RX3 yX3_isPointer yX3_isPointer, .code yX3_isPointer cX3_isPointer 3 (some .boolean), .fieldLink RX3 13 "CountedHeapModel" "map" "[I"] ++ wsX30)
def wsL_run_r1 : List Cond := [Cond.classLink RL 13 "java/lang/IllegalStateException", Cond.classLink RL 15 "java/lang/IndexOutOfBoundsException", Cond.classLink RL 17 "java/lang/IllegalArgumentException", Cond.classLink RL 19 "java/lang/UnsupportedOperationException", Cond.methodLink RL 7 yX2_run, Cond.instanceMethod yX2_run, Cond.selects RX2 yX2_run yX2_run, Cond.initialized RX2, Cond.code yX2_run cX2_run 3 (some .int), Cond.classLink RX2 77 "java/lang/IllegalArgumentException", Cond.initialized "java/lang/IllegalArgumentException", Cond.fieldLink RX2 12 "CountedHeap" "program" "LCountedHeap$Program;", Cond.fieldLink RX2 31 "CountedHeap" "nextPlace" "I", Cond.methodLink RX2 84 yX1_has, Cond.instanceMethod yX1_has, Cond.selects RX1 yX1_has yX1_has, Cond.initialized RX1, Cond.code yX1_has cX1_has 2 (some .boolean), Cond.fieldLink RX1 24 "CountedHeap$Program" "length" "I", Cond.methodLink RX2 87 yX1_opAt, Cond.instanceMethod yX1_opAt, Cond.selects RX1 yX1_opAt yX1_opAt, Cond.code yX1_opAt cX1_opAt 2 (some .int), Cond.fieldLink RX1 9 "CountedHeap$Program" "ops" "[I"]
def wsL_run_r2 : List Cond := [Cond.methodLink RX2 91 yX2_doInstruction, Cond.instanceMethod yX2_doInstruction, Cond.selects RX2 yX2_doInstruction yX2_doInstruction, Cond.code yX2_doInstruction cX2_doInstruction 6 none, Cond.fieldLink RX2 45 "CountedHeap" "ROLE_OF_X" "[I", Cond.fieldLink RX2 52 "CountedHeap" "ROLE_OF_Y" "[I", Cond.fieldLink RX2 55 "CountedHeap" "ROLE_OF_Z" "[I", Cond.fieldLink RX2 19 "CountedHeap" "memory" "LCountedHeap$Memory;", Cond.methodLink RX2 134 yX1_xAt, Cond.instanceMethod yX1_xAt, Cond.selects RX1 yX1_xAt yX1_xAt, Cond.code yX1_xAt cX1_xAt 2 (some .int), Cond.fieldLink RX1 15 "CountedHeap$Program" "xs" "[I", Cond.methodLink RX2 137 yX1_yAt, Cond.instanceMethod yX1_yAt, Cond.selects RX1 yX1_yAt yX1_yAt, Cond.code yX1_yAt cX1_yAt 2 (some .int), Cond.fieldLink RX1 18 "CountedHeap$Program" "ys" "[I", Cond.methodLink RX2 140 yX1_zAt, Cond.instanceMethod yX1_zAt, Cond.selects RX1 yX1_zAt yX1_zAt, Cond.code yX1_zAt cX1_zAt 2 (some .int), Cond.fieldLink RX1 21 "CountedHeap$Program" "zs" "[I", Cond.methodLink RX2 143 yX2_checkOperand]
def wsL_run_r3 : List Cond := [Cond.instanceMethod yX2_checkOperand, Cond.selects RX2 yX2_checkOperand yX2_checkOperand, Cond.code yX2_checkOperand cX2_checkOperand 3 none, Cond.methodLink RX2 165 yX0_blockOf, Cond.instanceMethod yX0_blockOf, Cond.selects RX0 yX0_blockOf yX0_blockOf, Cond.initialized RX0, Cond.code yX0_blockOf cX0_blockOf 2 (some .int), Cond.fieldLink RX0 18 "CountedHeap$Memory" "cells" "[I", Cond.methodLink RX2 168 yX0_wordOf, Cond.static yX0_wordOf, Cond.code yX0_wordOf cX0_wordOf 1 (some .int), Cond.methodLink RX2 171 yX2_checkWord, Cond.instanceMethod yX2_checkWord, Cond.selects RX2 yX2_checkWord yX2_checkWord, Cond.code yX2_checkWord cX2_checkWord 3 none, Cond.classLink RX2 179 "java/lang/IllegalStateException", Cond.initialized "java/lang/IllegalStateException", Cond.classLink RX2 184 "java/lang/IndexOutOfBoundsException", Cond.initialized "java/lang/IndexOutOfBoundsException", Cond.methodLink RX2 113 yX0_hasWord, Cond.instanceMethod yX0_hasWord, Cond.selects RX0 yX0_hasWord yX0_hasWord, Cond.code yX0_hasWord cX0_hasWord 3 (some .boolean)]
def wsL_run_r4 : List Cond := [Cond.fieldLink RX0 9 "CountedHeap$Memory" "sizes" "[I", Cond.fieldLink RX0 25 "CountedHeap$Memory" "types" "[I", Cond.methodLink RX0 62 yX0_isBlock, Cond.instanceMethod yX0_isBlock, Cond.selects RX0 yX0_isBlock yX0_isBlock, Cond.code yX0_isBlock cX0_isBlock 2 (some .boolean), Cond.fieldLink RX0 21 "CountedHeap$Memory" "used" "[Z", Cond.methodLink RX2 174 yX0_holdsPointer, Cond.instanceMethod yX0_holdsPointer, Cond.selects RX0 yX0_holdsPointer yX0_holdsPointer, Cond.code yX0_holdsPointer cX0_holdsPointer 2 (some .boolean), Cond.methodLink RX0 47 yX0_blockOf, Cond.methodLink RX0 51 yX0_wordOf, Cond.methodLink RX0 58 yX0_isPointerWord, Cond.instanceMethod yX0_isPointerWord, Cond.selects RX0 yX0_isPointerWord yX0_isPointerWord, Cond.code yX0_isPointerWord cX0_isPointerWord 3 (some .boolean), Cond.fieldLink RX0 15 "CountedHeap$Memory" "maps" "[I", Cond.methodLink RX0 66 yX0_hasWord, Cond.methodLink RX2 146 yX2_checkRoom, Cond.instanceMethod yX2_checkRoom, Cond.selects RX2 yX2_checkRoom yX2_checkRoom, Cond.code yX2_checkRoom cX2_checkRoom 2 none, Cond.classLink RX2 190 "java/lang/UnsupportedOperationException"]
def wsL_run_r5 : List Cond := [Cond.initialized "java/lang/UnsupportedOperationException", Cond.fieldLink RX2 27 "CountedHeap" "openCalls" "I", Cond.methodLink RX2 189 yX0_isFull, Cond.instanceMethod yX0_isFull, Cond.selects RX0 yX0_isFull yX0_isFull, Cond.code yX0_isFull cX0_isFull 1 (some .boolean), Cond.fieldLink RX0 41 "CountedHeap$Memory" "usedTotal" "I", Cond.methodLink RX2 149 yX0_cellOf, Cond.instanceMethod yX0_cellOf, Cond.selects RX0 yX0_cellOf yX0_cellOf, Cond.code yX0_cellOf cX0_cellOf 2 (some .int), Cond.methodLink RX0 54 yX0_cellOfWord, Cond.static yX0_cellOfWord, Cond.code yX0_cellOfWord cX0_cellOfWord 2 (some .int), Cond.methodLink RX2 152 yX2_intResult, Cond.instanceMethod yX2_intResult, Cond.selects RX2 yX2_intResult yX2_intResult, Cond.code yX2_intResult cX2_intResult 4 (some .int), Cond.methodLink RX2 199 yX2_valueOf, Cond.instanceMethod yX2_valueOf, Cond.selects RX2 yX2_valueOf yX2_valueOf, Cond.code yX2_valueOf cX2_valueOf 2 (some .int), Cond.methodLink RX2 97 yX0_read, Cond.instanceMethod yX0_read]
def wsL_run_r6 : List Cond := [Cond.selects RX0 yX0_read yX0_read, Cond.code yX0_read cX0_read 2 (some .int), Cond.methodLink RX2 100 yX0_writeInt, Cond.instanceMethod yX0_writeInt, Cond.selects RX0 yX0_writeInt yX0_writeInt, Cond.code yX0_writeInt cX0_writeInt 3 none, Cond.methodLink RX2 156 yX2_pointerResult, Cond.instanceMethod yX2_pointerResult, Cond.selects RX2 yX2_pointerResult yX2_pointerResult, Cond.code yX2_pointerResult cX2_pointerResult 3 (some .int), Cond.methodLink RX2 202 yX0_makeBlock, Cond.instanceMethod yX0_makeBlock, Cond.selects RX0 yX0_makeBlock yX0_makeBlock, Cond.code yX0_makeBlock cX0_makeBlock 3 (some .int), Cond.fieldLink RX0 28 "CountedHeap$Memory" "counts" "[I", Cond.methodLink RX0 73 yX0_emptyWords, Cond.instanceMethod yX0_emptyWords, Cond.selects RX0 yX0_emptyWords yX0_emptyWords, Cond.code yX0_emptyWords cX0_emptyWords 3 none, Cond.methodLink RX2 159 yX0_writePointer, Cond.instanceMethod yX0_writePointer, Cond.selects RX0 yX0_writePointer yX0_writePointer, Cond.code yX0_writePointer cX0_writePointer 4 none, Cond.methodLink RX0 69 yX0_dropPointer]
def wsL_run_r7 : List Cond := [Cond.instanceMethod yX0_dropPointer, Cond.selects RX0 yX0_dropPointer yX0_dropPointer, Cond.code yX0_dropPointer cX0_dropPointer 3 none, Cond.fieldLink RX0 37 "CountedHeap$Memory" "queued" "I", Cond.fieldLink RX0 34 "CountedHeap$Memory" "queue" "[I", Cond.methodLink RX0 76 yX0_countLess, Cond.instanceMethod yX0_countLess, Cond.selects RX0 yX0_countLess yX0_countLess, Cond.code yX0_countLess cX0_countLess 2 none, Cond.methodLink RX0 82 yX0_giveBack, Cond.instanceMethod yX0_giveBack, Cond.selects RX0 yX0_giveBack yX0_giveBack, Cond.code yX0_giveBack cX0_giveBack 2 none, Cond.fieldLink RX0 44 "CountedHeap$Memory" "givenBack" "I", Cond.methodLink RX0 85 yX0_enqueue, Cond.instanceMethod yX0_enqueue, Cond.selects RX0 yX0_enqueue yX0_enqueue, Cond.code yX0_enqueue cX0_enqueue 2 none, Cond.methodLink RX0 79 yX0_dropPointersOf, Cond.instanceMethod yX0_dropPointersOf, Cond.selects RX0 yX0_dropPointersOf yX0_dropPointersOf, Cond.code yX0_dropPointersOf cX0_dropPointersOf 3 none, Cond.methodLink RX2 162 yX2_placeAfter, Cond.instanceMethod yX2_placeAfter]
def wsL_run_r8 : List Cond := [Cond.selects RX2 yX2_placeAfter yX2_placeAfter, Cond.code yX2_placeAfter cX2_placeAfter 5 (some .int), Cond.fieldLink RX2 23 "CountedHeap" "returnPlaces" "[I"]
def wsL_run : List Cond := .codeWith yL_run cL_run 4 (some .int) [(0, 9, 12, 13), (0, 9, 15, 15), (0, 9, 18, 17), (0, 9, 21, 19)] :: ((wsL_run_r1 ++ (wsL_run_r2 ++ (wsL_run_r3 ++ (wsL_run_r4 ++ (wsL_run_r5 ++ (wsL_run_r6 ++ (wsL_run_r7 ++ wsL_run_r8))))))) ++ wsX20 ++ wsX10 ++ wsX00 ++ (vx_atS RX2 81 "java/lang/IllegalArgumentException" ["java/lang/RuntimeException", "java/lang/Exception"]).filter goodWord ++ (vx_atS RX2 183 "java/lang/IllegalStateException" ["java/lang/RuntimeException", "java/lang/Exception"]).filter goodWord ++ (vx_atS RX2 188 "java/lang/IndexOutOfBoundsException" ["java/lang/RuntimeException", "java/lang/Exception"]).filter goodWord ++ (vx_atS RX2 194 "java/lang/UnsupportedOperationException" ["java/lang/RuntimeException", "java/lang/Exception"]).filter goodWord)
def wsL_law0_r1 : List Cond := [Cond.classLink RL 8 RX2, Cond.instantiable RX2 5, Cond.initialized RX2, Cond.classLink RL 22 RX3, Cond.instantiable RX3 17, Cond.initialized RX3, Cond.arrayClass .long, Cond.methodLink RL 21 yX2_init, Cond.instanceMethod yX2_init, Cond.code yX2_init cX2_init 1 none, Cond.methodLink RX2 3 objectInit, Cond.instanceMethod objectInit, Cond.code objectInit ⟨#[0xb1]⟩ 1 none, Cond.classLink RX2 9 RX1, Cond.instantiable RX1 5, Cond.initialized RX1, Cond.fieldLink RX2 12 "CountedHeap" "program" "LCountedHeap$Program;", Cond.classLink RX2 16 RX0, Cond.instantiable RX0 11, Cond.initialized RX0, Cond.fieldLink RX2 19 "CountedHeap" "memory" "LCountedHeap$Memory;", Cond.arrayClass .int, Cond.fieldLink RX2 23 "CountedHeap" "returnPlaces" "[I", Cond.fieldLink RX2 27 "CountedHeap" "openCalls" "I"]
def wsL_law0_r2 : List Cond := [Cond.fieldLink RX2 31 "CountedHeap" "nextPlace" "I", Cond.instanceMethod yX1_init, Cond.code yX1_init cX1_init 1 none, Cond.methodLink RX1 3 objectInit, Cond.fieldLink RX1 9 "CountedHeap$Program" "ops" "[I", Cond.fieldLink RX1 15 "CountedHeap$Program" "xs" "[I", Cond.fieldLink RX1 18 "CountedHeap$Program" "ys" "[I", Cond.fieldLink RX1 21 "CountedHeap$Program" "zs" "[I", Cond.fieldLink RX1 24 "CountedHeap$Program" "length" "I", Cond.instanceMethod yX0_init, Cond.code yX0_init cX0_init 1 none, Cond.methodLink RX0 3 objectInit, Cond.fieldLink RX0 9 "CountedHeap$Memory" "sizes" "[I", Cond.fieldLink RX0 15 "CountedHeap$Memory" "maps" "[I", Cond.fieldLink RX0 18 "CountedHeap$Memory" "cells" "[I", Cond.arrayClass .boolean, Cond.fieldLink RX0 21 "CountedHeap$Memory" "used" "[Z", Cond.fieldLink RX0 25 "CountedHeap$Memory" "types" "[I", Cond.fieldLink RX0 28 "CountedHeap$Memory" "counts" "[I", Cond.fieldLink RX0 31 "CountedHeap$Memory" "reached" "[Z", Cond.fieldLink RX0 34 "CountedHeap$Memory" "queue" "[I", Cond.fieldLink RX0 37 "CountedHeap$Memory" "queued" "I", Cond.fieldLink RX0 41 "CountedHeap$Memory" "usedTotal" "I", Cond.fieldLink RX0 44 "CountedHeap$Memory" "givenBack" "I"]
def wsL_law0_r3 : List Cond := [Cond.methodLink RL 24 yX3_init, Cond.instanceMethod yX3_init, Cond.code yX3_init cX3_init 2 none, Cond.methodLink RX3 1 objectInit, Cond.fieldLink RX3 7 "CountedHeapModel" "size" "[I", Cond.fieldLink RX3 13 "CountedHeapModel" "map" "[I", Cond.fieldLink RX3 16 "CountedHeapModel" "code" "[I", Cond.fieldLink RX3 19 "CountedHeapModel" "stack" "[I", Cond.fieldLink RX3 22 "CountedHeapModel" "ints" "[I", Cond.fieldLink RX3 25 "CountedHeapModel" "roots" "[I", Cond.fieldLink RX3 28 "CountedHeapModel" "kind" "[I", Cond.fieldLink RX3 31 "CountedHeapModel" "words" "[I", Cond.fieldLink RX3 34 "CountedHeapModel" "pointers" "[I", Cond.fieldLink RX3 37 "CountedHeapModel" "seen" "[Z", Cond.methodLink RL 25 yX2_type, Cond.instanceMethod yX2_type, Cond.selects RX2 yX2_type yX2_type, Cond.code yX2_type cX2_type 4 (some .boolean), Cond.methodLink RX2 34 yX2_isType, Cond.static yX2_isType, Cond.code yX2_isType cX2_isType 1 (some .boolean), Cond.methodLink RX2 38 yX0_hasBlockOfType, Cond.instanceMethod yX0_hasBlockOfType, Cond.selects RX0 yX0_hasBlockOfType yX0_hasBlockOfType]
def wsL_law0_r4 : List Cond := [Cond.code yX0_hasBlockOfType cX0_hasBlockOfType 3 (some .boolean), Cond.methodLink RX2 41 yX0_changeType, Cond.instanceMethod yX0_changeType, Cond.selects RX0 yX0_changeType yX0_changeType, Cond.code yX0_changeType cX0_changeType 4 none, Cond.methodLink RL 29 yX3_type, Cond.instanceMethod yX3_type, Cond.selects RX3 yX3_type yX3_type, Cond.code yX3_type cX3_type 5 (some .boolean), Cond.fieldLink RX3 41 "CountedHeapModel" "thrown" "I", Cond.methodLink RX3 45 yX3_within, Cond.static yX3_within, Cond.code yX3_within cX3_within 3 (some .boolean), Cond.methodLink RL 30 yX2_add, Cond.instanceMethod yX2_add, Cond.selects RX2 yX2_add yX2_add, Cond.code yX2_add cX2_add 5 (some .int), Cond.fieldLink RX2 45 "CountedHeap" "ROLE_OF_X" "[I", Cond.fieldLink RX2 52 "CountedHeap" "ROLE_OF_Y" "[I", Cond.fieldLink RX2 55 "CountedHeap" "ROLE_OF_Z" "[I", Cond.methodLink RX2 48 yX2_fits, Cond.static yX2_fits, Cond.code yX2_fits cX2_fits 2 (some .boolean), Cond.methodLink RX2 131 yX2_isOperand]
def wsL_law0_r5 : List Cond := [Cond.static yX2_isOperand, Cond.code yX2_isOperand cX2_isOperand 1 (some .boolean), Cond.methodLink RX2 74 yX2_isPlace, Cond.static yX2_isPlace, Cond.code yX2_isPlace cX2_isPlace 1 (some .boolean), Cond.methodLink RX2 58 yX1_isFull, Cond.instanceMethod yX1_isFull, Cond.selects RX1 yX1_isFull yX1_isFull, Cond.code yX1_isFull cX1_isFull 1 (some .boolean), Cond.methodLink RX2 62 yX1_append, Cond.instanceMethod yX1_append, Cond.selects RX1 yX1_append yX1_append, Cond.code yX1_append cX1_append 6 (some .int), Cond.methodLink RL 34 yX3_add, Cond.instanceMethod yX3_add, Cond.selects RX3 yX3_add yX3_add, Cond.code yX3_add cX3_add 5 (some .int), Cond.fieldLink RX3 60 "CountedHeapModel" "length" "I", Cond.methodLink RX3 57 yX3_isRight, Cond.static yX3_isRight, Cond.code yX3_isRight cX3_isRight 4 (some .boolean), Cond.methodLink RX3 49 yX3_takes, Cond.static yX3_takes, Cond.code yX3_takes cX3_takes 2 (some .int)]
def wsL_law0_r6 : List Cond := [Cond.methodLink RX3 53 yX3_isOperand, Cond.static yX3_isOperand, Cond.code yX3_isOperand cX3_isOperand 1 (some .boolean), Cond.methodLink RL 35 yX2_clear, Cond.instanceMethod yX2_clear, Cond.selects RX2 yX2_clear yX2_clear, Cond.code yX2_clear cX2_clear 1 (some .int), Cond.methodLink RX2 66 yX2_goTo, Cond.instanceMethod yX2_goTo, Cond.selects RX2 yX2_goTo yX2_goTo, Cond.code yX2_goTo cX2_goTo 2 none, Cond.methodLink RX2 70 yX1_removeAll, Cond.instanceMethod yX1_removeAll, Cond.selects RX1 yX1_removeAll yX1_removeAll, Cond.code yX1_removeAll cX1_removeAll 2 (some .int), Cond.methodLink RL 39 yX3_clear, Cond.instanceMethod yX3_clear, Cond.selects RX3 yX3_clear yX3_clear, Cond.code yX3_clear cX3_clear 2 (some .int), Cond.fieldLink RX3 63 "CountedHeapModel" "next" "I", Cond.fieldLink RX3 66 "CountedHeapModel" "depth" "I", Cond.methodLink RL 40 yX2_start, Cond.instanceMethod yX2_start, Cond.selects RX2 yX2_start yX2_start]
def wsL_law0_r7 : List Cond := [Cond.code yX2_start cX2_start 2 (some .boolean), Cond.methodLink RL 44 yX3_start, Cond.instanceMethod yX3_start, Cond.selects RX3 yX3_start yX3_start, Cond.code yX3_start cX3_start 2 (some .boolean), Cond.methodLink RL 45 yL_run, Cond.static yL_run, Cond.initialized RL, Cond.codeWith yL_run cL_run 4 (some .int) [(0, 9, 12, 13), (0, 9, 15, 15), (0, 9, 18, 17), (0, 9, 21, 19)], Cond.classLink RL 13 "java/lang/IllegalStateException", Cond.classLink RL 15 "java/lang/IndexOutOfBoundsException", Cond.classLink RL 17 "java/lang/IllegalArgumentException", Cond.classLink RL 19 "java/lang/UnsupportedOperationException", Cond.methodLink RL 7 yX2_run, Cond.instanceMethod yX2_run, Cond.selects RX2 yX2_run yX2_run, Cond.code yX2_run cX2_run 3 (some .int), Cond.classLink RX2 77 "java/lang/IllegalArgumentException", Cond.initialized "java/lang/IllegalArgumentException", Cond.methodLink RX2 84 yX1_has, Cond.instanceMethod yX1_has, Cond.selects RX1 yX1_has yX1_has, Cond.code yX1_has cX1_has 2 (some .boolean), Cond.methodLink RX2 87 yX1_opAt]
def wsL_law0_r8 : List Cond := [Cond.instanceMethod yX1_opAt, Cond.selects RX1 yX1_opAt yX1_opAt, Cond.code yX1_opAt cX1_opAt 2 (some .int), Cond.methodLink RX2 91 yX2_doInstruction, Cond.instanceMethod yX2_doInstruction, Cond.selects RX2 yX2_doInstruction yX2_doInstruction, Cond.code yX2_doInstruction cX2_doInstruction 6 none, Cond.methodLink RX2 134 yX1_xAt, Cond.instanceMethod yX1_xAt, Cond.selects RX1 yX1_xAt yX1_xAt, Cond.code yX1_xAt cX1_xAt 2 (some .int), Cond.methodLink RX2 137 yX1_yAt, Cond.instanceMethod yX1_yAt, Cond.selects RX1 yX1_yAt yX1_yAt, Cond.code yX1_yAt cX1_yAt 2 (some .int), Cond.methodLink RX2 140 yX1_zAt, Cond.instanceMethod yX1_zAt, Cond.selects RX1 yX1_zAt yX1_zAt, Cond.code yX1_zAt cX1_zAt 2 (some .int), Cond.methodLink RX2 143 yX2_checkOperand, Cond.instanceMethod yX2_checkOperand, Cond.selects RX2 yX2_checkOperand yX2_checkOperand, Cond.code yX2_checkOperand cX2_checkOperand 3 none, Cond.methodLink RX2 165 yX0_blockOf]
def wsL_law0_r9 : List Cond := [Cond.instanceMethod yX0_blockOf, Cond.selects RX0 yX0_blockOf yX0_blockOf, Cond.code yX0_blockOf cX0_blockOf 2 (some .int), Cond.methodLink RX2 168 yX0_wordOf, Cond.static yX0_wordOf, Cond.code yX0_wordOf cX0_wordOf 1 (some .int), Cond.methodLink RX2 171 yX2_checkWord, Cond.instanceMethod yX2_checkWord, Cond.selects RX2 yX2_checkWord yX2_checkWord, Cond.code yX2_checkWord cX2_checkWord 3 none, Cond.classLink RX2 179 "java/lang/IllegalStateException", Cond.initialized "java/lang/IllegalStateException", Cond.classLink RX2 184 "java/lang/IndexOutOfBoundsException", Cond.initialized "java/lang/IndexOutOfBoundsException", Cond.methodLink RX2 113 yX0_hasWord, Cond.instanceMethod yX0_hasWord, Cond.selects RX0 yX0_hasWord yX0_hasWord, Cond.code yX0_hasWord cX0_hasWord 3 (some .boolean), Cond.methodLink RX0 62 yX0_isBlock, Cond.instanceMethod yX0_isBlock, Cond.selects RX0 yX0_isBlock yX0_isBlock, Cond.code yX0_isBlock cX0_isBlock 2 (some .boolean), Cond.methodLink RX2 174 yX0_holdsPointer, Cond.instanceMethod yX0_holdsPointer]
def wsL_law0_r10 : List Cond := [Cond.selects RX0 yX0_holdsPointer yX0_holdsPointer, Cond.code yX0_holdsPointer cX0_holdsPointer 2 (some .boolean), Cond.methodLink RX0 47 yX0_blockOf, Cond.methodLink RX0 51 yX0_wordOf, Cond.methodLink RX0 58 yX0_isPointerWord, Cond.instanceMethod yX0_isPointerWord, Cond.selects RX0 yX0_isPointerWord yX0_isPointerWord, Cond.code yX0_isPointerWord cX0_isPointerWord 3 (some .boolean), Cond.methodLink RX0 66 yX0_hasWord, Cond.methodLink RX2 146 yX2_checkRoom, Cond.instanceMethod yX2_checkRoom, Cond.selects RX2 yX2_checkRoom yX2_checkRoom, Cond.code yX2_checkRoom cX2_checkRoom 2 none, Cond.classLink RX2 190 "java/lang/UnsupportedOperationException", Cond.initialized "java/lang/UnsupportedOperationException", Cond.methodLink RX2 189 yX0_isFull, Cond.instanceMethod yX0_isFull, Cond.selects RX0 yX0_isFull yX0_isFull, Cond.code yX0_isFull cX0_isFull 1 (some .boolean), Cond.methodLink RX2 149 yX0_cellOf, Cond.instanceMethod yX0_cellOf, Cond.selects RX0 yX0_cellOf yX0_cellOf, Cond.code yX0_cellOf cX0_cellOf 2 (some .int), Cond.methodLink RX0 54 yX0_cellOfWord]
def wsL_law0_r11 : List Cond := [Cond.static yX0_cellOfWord, Cond.code yX0_cellOfWord cX0_cellOfWord 2 (some .int), Cond.methodLink RX2 152 yX2_intResult, Cond.instanceMethod yX2_intResult, Cond.selects RX2 yX2_intResult yX2_intResult, Cond.code yX2_intResult cX2_intResult 4 (some .int), Cond.methodLink RX2 199 yX2_valueOf, Cond.instanceMethod yX2_valueOf, Cond.selects RX2 yX2_valueOf yX2_valueOf, Cond.code yX2_valueOf cX2_valueOf 2 (some .int), Cond.methodLink RX2 97 yX0_read, Cond.instanceMethod yX0_read, Cond.selects RX0 yX0_read yX0_read, Cond.code yX0_read cX0_read 2 (some .int), Cond.methodLink RX2 100 yX0_writeInt, Cond.instanceMethod yX0_writeInt, Cond.selects RX0 yX0_writeInt yX0_writeInt, Cond.code yX0_writeInt cX0_writeInt 3 none, Cond.methodLink RX2 156 yX2_pointerResult, Cond.instanceMethod yX2_pointerResult, Cond.selects RX2 yX2_pointerResult yX2_pointerResult, Cond.code yX2_pointerResult cX2_pointerResult 3 (some .int), Cond.methodLink RX2 202 yX0_makeBlock, Cond.instanceMethod yX0_makeBlock]
def wsL_law0_r12 : List Cond := [Cond.selects RX0 yX0_makeBlock yX0_makeBlock, Cond.code yX0_makeBlock cX0_makeBlock 3 (some .int), Cond.methodLink RX0 73 yX0_emptyWords, Cond.instanceMethod yX0_emptyWords, Cond.selects RX0 yX0_emptyWords yX0_emptyWords, Cond.code yX0_emptyWords cX0_emptyWords 3 none, Cond.methodLink RX2 159 yX0_writePointer, Cond.instanceMethod yX0_writePointer, Cond.selects RX0 yX0_writePointer yX0_writePointer, Cond.code yX0_writePointer cX0_writePointer 4 none, Cond.methodLink RX0 69 yX0_dropPointer, Cond.instanceMethod yX0_dropPointer, Cond.selects RX0 yX0_dropPointer yX0_dropPointer, Cond.code yX0_dropPointer cX0_dropPointer 3 none, Cond.methodLink RX0 76 yX0_countLess, Cond.instanceMethod yX0_countLess, Cond.selects RX0 yX0_countLess yX0_countLess, Cond.code yX0_countLess cX0_countLess 2 none, Cond.methodLink RX0 82 yX0_giveBack, Cond.instanceMethod yX0_giveBack, Cond.selects RX0 yX0_giveBack yX0_giveBack, Cond.code yX0_giveBack cX0_giveBack 2 none, Cond.methodLink RX0 85 yX0_enqueue, Cond.instanceMethod yX0_enqueue]
def wsL_law0_r13 : List Cond := [Cond.selects RX0 yX0_enqueue yX0_enqueue, Cond.code yX0_enqueue cX0_enqueue 2 none, Cond.methodLink RX0 79 yX0_dropPointersOf, Cond.instanceMethod yX0_dropPointersOf, Cond.selects RX0 yX0_dropPointersOf yX0_dropPointersOf, Cond.code yX0_dropPointersOf cX0_dropPointersOf 3 none, Cond.methodLink RX2 162 yX2_placeAfter, Cond.instanceMethod yX2_placeAfter, Cond.selects RX2 yX2_placeAfter yX2_placeAfter, Cond.code yX2_placeAfter cX2_placeAfter 5 (some .int), Cond.methodLink RL 50 yX3_run, Cond.instanceMethod yX3_run, Cond.selects RX3 yX3_run yX3_run, Cond.code yX3_run cX3_run 4 (some .int), Cond.methodLink RX3 107 yX3_fault, Cond.instanceMethod yX3_fault, Cond.selects RX3 yX3_fault yX3_fault, Cond.code yX3_fault cX3_fault 6 (some .int), Cond.methodLink RX3 85 yX3_find, Cond.instanceMethod yX3_find, Cond.selects RX3 yX3_find yX3_find, Cond.code yX3_find cX3_find 4 (some .int), Cond.fieldLink RX3 79 "CountedHeapModel" "block" "I", Cond.fieldLink RX3 82 "CountedHeapModel" "word" "I"]
def wsL_law0_r14 : List Cond := [Cond.methodLink RX3 69 yX3_isPointer, Cond.instanceMethod yX3_isPointer, Cond.selects RX3 yX3_isPointer yX3_isPointer, Cond.code yX3_isPointer cX3_isPointer 3 (some .boolean), Cond.methodLink RX3 88 yX3_free, Cond.instanceMethod yX3_free, Cond.selects RX3 yX3_free yX3_free, Cond.code yX3_free cX3_free 2 (some .int), Cond.methodLink RX3 110 yX3_act, Cond.instanceMethod yX3_act, Cond.selects RX3 yX3_act yX3_act, Cond.code yX3_act cX3_act 8 none, Cond.methodLink RX3 92 yX3_write, Cond.instanceMethod yX3_write, Cond.selects RX3 yX3_write yX3_write, Cond.code yX3_write cX3_write 4 none, Cond.methodLink RX3 96 yX3_read, Cond.instanceMethod yX3_read, Cond.selects RX3 yX3_read yX3_read, Cond.code yX3_read cX3_read 3 (some .int), Cond.methodLink RX3 100 yX3_value, Cond.static yX3_value, Cond.code yX3_value cX3_value 3 (some .int), Cond.methodLink RX3 104 yX3_giveBack]
def wsL_law0_r15 : List Cond := [Cond.instanceMethod yX3_giveBack, Cond.selects RX3 yX3_giveBack yX3_giveBack, Cond.code yX3_giveBack cX3_giveBack 4 none, Cond.fieldLink RX3 76 "CountedHeapModel" "given" "I", Cond.methodLink RX3 73 yX3_countAll, Cond.instanceMethod yX3_countAll, Cond.selects RX3 yX3_countAll yX3_countAll, Cond.code yX3_countAll cX3_countAll 3 none, Cond.methodLink RL 51 yX3_thrown, Cond.instanceMethod yX3_thrown, Cond.selects RX3 yX3_thrown yX3_thrown, Cond.code yX3_thrown cX3_thrown 1 (some .int), Cond.methodLink RL 54 yX2_next, Cond.instanceMethod yX2_next, Cond.selects RX2 yX2_next yX2_next, Cond.code yX2_next cX2_next 1 (some .int), Cond.methodLink RL 57 yX3_next, Cond.instanceMethod yX3_next, Cond.selects RX3 yX3_next yX3_next, Cond.code yX3_next cX3_next 1 (some .int), Cond.methodLink RL 58 yX2_open, Cond.instanceMethod yX2_open, Cond.selects RX2 yX2_open yX2_open, Cond.code yX2_open cX2_open 1 (some .int)]
def wsL_law0_r16 : List Cond := [Cond.methodLink RL 61 yX3_open, Cond.instanceMethod yX3_open, Cond.selects RX3 yX3_open yX3_open, Cond.code yX3_open cX3_open 1 (some .int), Cond.methodLink RL 62 yX2_frame, Cond.instanceMethod yX2_frame, Cond.selects RX2 yX2_frame yX2_frame, Cond.code yX2_frame cX2_frame 2 (some .int), Cond.methodLink RX2 94 yX2_isFrameInt, Cond.static yX2_isFrameInt, Cond.code yX2_isFrameInt cX2_isFrameInt 1 (some .boolean), Cond.methodLink RL 65 yX3_frame, Cond.instanceMethod yX3_frame, Cond.selects RX3 yX3_frame yX3_frame, Cond.code yX3_frame cX3_frame 2 (some .int), Cond.methodLink RL 66 yX2_set, Cond.instanceMethod yX2_set, Cond.selects RX2 yX2_set yX2_set, Cond.code yX2_set cX2_set 3 (some .boolean), Cond.methodLink RL 70 yX3_set, Cond.instanceMethod yX3_set, Cond.selects RX3 yX3_set yX3_set, Cond.code yX3_set cX3_set 3 (some .boolean), Cond.methodLink RL 71 yX2_root]
def wsL_law0_r17 : List Cond := [Cond.instanceMethod yX2_root, Cond.selects RX2 yX2_root yX2_root, Cond.code yX2_root cX2_root 2 (some .int), Cond.methodLink RL 74 yX3_root, Cond.instanceMethod yX3_root, Cond.selects RX3 yX3_root yX3_root, Cond.code yX3_root cX3_root 2 (some .int), Cond.methodLink RL 75 yX2_blocks, Cond.instanceMethod yX2_blocks, Cond.selects RX2 yX2_blocks yX2_blocks, Cond.code yX2_blocks cX2_blocks 1 (some .int), Cond.methodLink RX2 104 yX0_blockTotal, Cond.instanceMethod yX0_blockTotal, Cond.selects RX0 yX0_blockTotal yX0_blockTotal, Cond.code yX0_blockTotal cX0_blockTotal 1 (some .int), Cond.methodLink RL 78 yX3_blocks, Cond.instanceMethod yX3_blocks, Cond.selects RX3 yX3_blocks yX3_blocks, Cond.code yX3_blocks cX3_blocks 3 (some .int), Cond.methodLink RL 79 yX2_count, Cond.instanceMethod yX2_count, Cond.selects RX2 yX2_count yX2_count, Cond.code yX2_count cX2_count 2 (some .int), Cond.methodLink RX2 107 yX0_countOf]
def wsL_law0_r18 : List Cond := [Cond.instanceMethod yX0_countOf, Cond.selects RX0 yX0_countOf yX0_countOf, Cond.code yX0_countOf cX0_countOf 2 (some .int), Cond.methodLink RL 82 yX3_count, Cond.instanceMethod yX3_count, Cond.selects RX3 yX3_count yX3_count, Cond.code yX3_count cX3_count 2 (some .int), Cond.methodLink RX3 114 yX3_isBlock, Cond.instanceMethod yX3_isBlock, Cond.selects RX3 yX3_isBlock yX3_isBlock, Cond.code yX3_isBlock cX3_isBlock 2 (some .boolean), Cond.methodLink RL 83 yX2_typeOf, Cond.instanceMethod yX2_typeOf, Cond.selects RX2 yX2_typeOf yX2_typeOf, Cond.code yX2_typeOf cX2_typeOf 2 (some .int), Cond.methodLink RX2 110 yX0_blockType, Cond.instanceMethod yX0_blockType, Cond.selects RX0 yX0_blockType yX0_blockType, Cond.code yX0_blockType cX0_blockType 2 (some .int), Cond.methodLink RL 86 yX3_typeOf, Cond.instanceMethod yX3_typeOf, Cond.selects RX3 yX3_typeOf yX3_typeOf, Cond.code yX3_typeOf cX3_typeOf 2 (some .int), Cond.methodLink RL 87 yX2_word]
def wsL_law0_r19 : List Cond := [Cond.instanceMethod yX2_word, Cond.selects RX2 yX2_word yX2_word, Cond.code yX2_word cX2_word 3 (some .long), Cond.constantLong RX2 120 (4294967296), Cond.methodLink RX2 116 yX0_cellOfWord, Cond.methodLink RL 91 yX3_word, Cond.instanceMethod yX3_word, Cond.selects RX3 yX3_word yX3_word, Cond.code yX3_word cX3_word 3 (some .long), Cond.constantLong RX3 117 (4294967296), Cond.methodLink RL 92 yX2_given, Cond.instanceMethod yX2_given, Cond.selects RX2 yX2_given yX2_given, Cond.code yX2_given cX2_given 1 (some .int), Cond.methodLink RX2 122 yX0_givenTotal, Cond.instanceMethod yX0_givenTotal, Cond.selects RX0 yX0_givenTotal yX0_givenTotal, Cond.code yX0_givenTotal cX0_givenTotal 1 (some .int), Cond.methodLink RL 95 yX3_given, Cond.instanceMethod yX3_given, Cond.selects RX3 yX3_given yX3_given, Cond.code yX3_given cX3_given 1 (some .int), Cond.methodLink RL 96 yX2_lost, Cond.instanceMethod yX2_lost]
def wsL_law0_r20 : List Cond := [Cond.selects RX2 yX2_lost yX2_lost, Cond.code yX2_lost cX2_lost 1 (some .int), Cond.methodLink RX2 125 yX0_findLost, Cond.instanceMethod yX0_findLost, Cond.selects RX0 yX0_findLost yX0_findLost, Cond.code yX0_findLost cX0_findLost 2 (some .int), Cond.methodLink RX0 88 yX0_reach, Cond.instanceMethod yX0_reach, Cond.selects RX0 yX0_reach yX0_reach, Cond.code yX0_reach cX0_reach 2 none, Cond.methodLink RX0 91 yX0_reachPointersOf, Cond.instanceMethod yX0_reachPointersOf, Cond.selects RX0 yX0_reachPointersOf yX0_reachPointersOf, Cond.code yX0_reachPointersOf cX0_reachPointersOf 3 none, Cond.methodLink RL 99 yX3_lost, Cond.instanceMethod yX3_lost, Cond.selects RX3 yX3_lost yX3_lost, Cond.code yX3_lost cX3_lost 3 (some .int), Cond.methodLink RX3 119 yX3_reach, Cond.instanceMethod yX3_reach, Cond.selects RX3 yX3_reach yX3_reach, Cond.code yX3_reach cX3_reach 4 none, Cond.methodLink RL 100 yX2_collect, Cond.instanceMethod yX2_collect]
def wsL_law0_r21 : List Cond := [Cond.selects RX2 yX2_collect yX2_collect, Cond.code yX2_collect cX2_collect 1 (some .int), Cond.methodLink RX2 128 yX0_giveBackLost, Cond.instanceMethod yX0_giveBackLost, Cond.selects RX0 yX0_giveBackLost yX0_giveBackLost, Cond.code yX0_giveBackLost cX0_giveBackLost 3 (some .int), Cond.methodLink RX0 94 yX0_findLost, Cond.methodLink RX0 98 yX0_takeOffCountsOf, Cond.instanceMethod yX0_takeOffCountsOf, Cond.selects RX0 yX0_takeOffCountsOf yX0_takeOffCountsOf, Cond.code yX0_takeOffCountsOf cX0_takeOffCountsOf 4 none, Cond.methodLink RL 103 yX3_collect, Cond.instanceMethod yX3_collect, Cond.selects RX3 yX3_collect yX3_collect, Cond.code yX3_collect cX3_collect 3 (some .int), Cond.methodLink RX3 122 yX3_lost]
def wsL_law0 : List Cond := (wsL_law0_r1 ++ (wsL_law0_r2 ++ (wsL_law0_r3 ++ (wsL_law0_r4 ++ (wsL_law0_r5 ++ (wsL_law0_r6 ++ (wsL_law0_r7 ++ (wsL_law0_r8 ++ (wsL_law0_r9 ++ (wsL_law0_r10 ++ (wsL_law0_r11 ++ (wsL_law0_r12 ++ (wsL_law0_r13 ++ (wsL_law0_r14 ++ (wsL_law0_r15 ++ (wsL_law0_r16 ++ (wsL_law0_r17 ++ (wsL_law0_r18 ++ (wsL_law0_r19 ++ (wsL_law0_r20 ++ wsL_law0_r21)))))))))))))))))))) ++ wsX20 ++ wsX30 ++ wsX10 ++ wsX00 ++ ([] : List Cond)
def wsL_law : List Cond := wsL_law0 ++ (vx_atS RX2 81 "java/lang/IllegalArgumentException" ["java/lang/RuntimeException", "java/lang/Exception"]).filter goodWord ++ (vx_atS RX2 183 "java/lang/IllegalStateException" ["java/lang/RuntimeException", "java/lang/Exception"]).filter goodWord ++ (vx_atS RX2 188 "java/lang/IndexOutOfBoundsException" ["java/lang/RuntimeException", "java/lang/Exception"]).filter goodWord ++ (vx_atS RX2 194 "java/lang/UnsupportedOperationException" ["java/lang/RuntimeException", "java/lang/Exception"]).filter goodWord
set_option maxRecDepth 20000 in
theorem ggX0_cellOf_X0_blockOf : GoodIn wsX0_cellOf wsX0_blockOf := goodIn_r _ [5, 6, 13, 14, 15, 16, 17, 18, 19, 20, 21, 22, 23] (by decide +kernel) (by decide +kernel)
set_option maxRecDepth 20000 in
theorem gX0_cellOf_X0_blockOf : GoodIn wsX0_cellOf (wsV RX0 47 RX0 yX0_blockOf wsX0_blockOf) := goodIn_app (goodIn_of _ (by decide +kernel)) ggX0_cellOf_X0_blockOf
set_option maxRecDepth 20000 in
theorem ggX0_cellOf_X0_wordOf : GoodIn wsX0_cellOf wsX0_wordOf := goodIn_r _ [9] (by decide +kernel) (by decide +kernel)
set_option maxRecDepth 20000 in
theorem gX0_cellOf_X0_wordOf : GoodIn wsX0_cellOf (va_wsS RX0 51 yX0_wordOf wsX0_wordOf) := goodIn_app (goodIn_of _ (by decide +kernel)) ggX0_cellOf_X0_wordOf
set_option maxRecDepth 20000 in
theorem ggX0_cellOf_X0_cellOfWord : GoodIn wsX0_cellOf wsX0_cellOfWord := goodIn_r _ [12] (by decide +kernel) (by decide +kernel)
set_option maxRecDepth 20000 in
theorem gX0_cellOf_X0_cellOfWord : GoodIn wsX0_cellOf (va_wsS RX0 54 yX0_cellOfWord wsX0_cellOfWord) := goodIn_app (goodIn_of _ (by decide +kernel)) ggX0_cellOf_X0_cellOfWord
set_option maxRecDepth 20000 in
theorem ggX0_holdsPointer_X0_blockOf : GoodIn wsX0_holdsPointer wsX0_blockOf := goodIn_r _ [5, 6, 26, 27, 28, 29, 30, 31, 32, 33, 34, 35, 36] (by decide +kernel) (by decide +kernel)
set_option maxRecDepth 20000 in
theorem gX0_holdsPointer_X0_blockOf : GoodIn wsX0_holdsPointer (wsV RX0 47 RX0 yX0_blockOf wsX0_blockOf) := goodIn_app (goodIn_of _ (by decide +kernel)) ggX0_holdsPointer_X0_blockOf
set_option maxRecDepth 20000 in
theorem ggX0_holdsPointer_X0_wordOf : GoodIn wsX0_holdsPointer wsX0_wordOf := goodIn_r _ [9] (by decide +kernel) (by decide +kernel)
set_option maxRecDepth 20000 in
theorem gX0_holdsPointer_X0_wordOf : GoodIn wsX0_holdsPointer (va_wsS RX0 51 yX0_wordOf wsX0_wordOf) := goodIn_app (goodIn_of _ (by decide +kernel)) ggX0_holdsPointer_X0_wordOf
set_option maxRecDepth 20000 in
theorem ggX0_holdsPointer_X0_isPointerWord : GoodIn wsX0_holdsPointer wsX0_isPointerWord := goodIn_r _ [13, 14, 15, 16, 17, 18, 4, 19, 20, 21, 22, 23, 24, 25, 26, 27, 28, 29, 30, 31, 32, 33, 34, 35, 36] (by decide +kernel) (by decide +kernel)
set_option maxRecDepth 20000 in
theorem gX0_holdsPointer_X0_isPointerWord : GoodIn wsX0_holdsPointer (wsV RX0 58 RX0 yX0_isPointerWord wsX0_isPointerWord) := goodIn_app (goodIn_of _ (by decide +kernel)) ggX0_holdsPointer_X0_isPointerWord
set_option maxRecDepth 20000 in
theorem ggX0_hasWord_X0_isBlock : GoodIn wsX0_hasWord wsX0_isBlock := goodIn_r _ [7, 8, 9, 10, 11, 12, 13, 14, 15, 16, 17, 18, 19] (by decide +kernel) (by decide +kernel)
set_option maxRecDepth 20000 in
theorem gX0_hasWord_X0_isBlock : GoodIn wsX0_hasWord (wsV RX0 62 RX0 yX0_isBlock wsX0_isBlock) := goodIn_app (goodIn_of _ (by decide +kernel)) ggX0_hasWord_X0_isBlock
set_option maxRecDepth 20000 in
theorem ggX0_isPointerWord_X0_hasWord : GoodIn wsX0_isPointerWord wsX0_hasWord := goodIn_r _ [7, 8, 2, 9, 10, 11, 6, 12, 13, 14, 15, 16, 17, 18, 19, 20, 21, 22, 23, 24] (by decide +kernel) (by decide +kernel)
set_option maxRecDepth 20000 in
theorem gX0_isPointerWord_X0_hasWord : GoodIn wsX0_isPointerWord (wsV RX0 66 RX0 yX0_hasWord wsX0_hasWord) := goodIn_app (goodIn_of _ (by decide +kernel)) ggX0_isPointerWord_X0_hasWord
set_option maxRecDepth 20000 in
theorem ggX0_countOf_X0_isBlock : GoodIn wsX0_countOf wsX0_isBlock := goodIn_r _ [6, 7, 8, 9, 10, 11, 12, 13, 14, 15, 16, 17, 18] (by decide +kernel) (by decide +kernel)
set_option maxRecDepth 20000 in
theorem gX0_countOf_X0_isBlock : GoodIn wsX0_countOf (wsV RX0 62 RX0 yX0_isBlock wsX0_isBlock) := goodIn_app (goodIn_of _ (by decide +kernel)) ggX0_countOf_X0_isBlock
set_option maxRecDepth 20000 in
theorem ggX0_blockType_X0_isBlock : GoodIn wsX0_blockType wsX0_isBlock := goodIn_r _ [6, 7, 8, 9, 10, 11, 12, 13, 14, 15, 16, 17, 18] (by decide +kernel) (by decide +kernel)
set_option maxRecDepth 20000 in
theorem gX0_blockType_X0_isBlock : GoodIn wsX0_blockType (wsV RX0 62 RX0 yX0_isBlock wsX0_isBlock) := goodIn_app (goodIn_of _ (by decide +kernel)) ggX0_blockType_X0_isBlock
set_option maxRecDepth 20000 in
theorem ggX0_writePointer_X0_isBlock : GoodIn wsX0_writePointer wsX0_isBlock := goodIn_r _ [7, 8, 39, 40, 41, 42, 43, 44, 45, 46, 47, 48, 49] (by decide +kernel) (by decide +kernel)
set_option maxRecDepth 20000 in
theorem gX0_writePointer_X0_isBlock : GoodIn wsX0_writePointer (wsV RX0 62 RX0 yX0_isBlock wsX0_isBlock) := goodIn_app (goodIn_of _ (by decide +kernel)) ggX0_writePointer_X0_isBlock
set_option maxRecDepth 20000 in
theorem ggX0_writePointer_X0_dropPointer : GoodIn wsX0_writePointer wsX0_dropPointer := goodIn_r _ [12, 13, 14, 15, 16, 17, 6, 18, 2, 3, 4, 5, 7, 8, 19, 20, 21, 22, 23, 24, 25, 26, 27, 28, 29, 30, 31, 32, 33, 34, 35, 1, 36, 37, 38, 39, 40, 41, 42, 43, 44, 45, 46, 47, 48, 49] (by decide +kernel) (by decide +kernel)
set_option maxRecDepth 20000 in
theorem gX0_writePointer_X0_dropPointer : GoodIn wsX0_writePointer (wsV RX0 69 RX0 yX0_dropPointer wsX0_dropPointer) := goodIn_app (goodIn_of _ (by decide +kernel)) ggX0_writePointer_X0_dropPointer
set_option maxRecDepth 20000 in
theorem ggX0_makeBlock_X0_emptyWords : GoodIn wsX0_makeBlock wsX0_emptyWords := goodIn_r _ [9, 10, 11, 12, 8, 13, 14, 15, 16, 17, 18, 19, 20, 21, 22, 23, 24] (by decide +kernel) (by decide +kernel)
set_option maxRecDepth 20000 in
theorem gX0_makeBlock_X0_emptyWords : GoodIn wsX0_makeBlock (wsV RX0 73 RX0 yX0_emptyWords wsX0_emptyWords) := goodIn_app (goodIn_of _ (by decide +kernel)) ggX0_makeBlock_X0_emptyWords
set_option maxRecDepth 20000 in
theorem ggX0_emptyWords_X0_cellOfWord : GoodIn wsX0_emptyWords wsX0_cellOfWord := goodIn_r _ [5] (by decide +kernel) (by decide +kernel)
set_option maxRecDepth 20000 in
theorem gX0_emptyWords_X0_cellOfWord : GoodIn wsX0_emptyWords (va_wsS RX0 54 yX0_cellOfWord wsX0_cellOfWord) := goodIn_app (goodIn_of _ (by decide +kernel)) ggX0_emptyWords_X0_cellOfWord
set_option maxRecDepth 20000 in
theorem ggX0_dropPointer_X0_countLess : GoodIn wsX0_dropPointer wsX0_countLess := goodIn_r _ [7, 8, 9, 10, 11, 6, 12, 13, 14, 15, 16, 17, 18, 19, 20, 21, 22, 23, 1, 2, 35, 36, 37, 38, 39, 40, 41, 42, 43, 44, 45] (by decide +kernel) (by decide +kernel)
set_option maxRecDepth 20000 in
theorem gX0_dropPointer_X0_countLess : GoodIn wsX0_dropPointer (wsV RX0 76 RX0 yX0_countLess wsX0_countLess) := goodIn_app (goodIn_of _ (by decide +kernel)) ggX0_dropPointer_X0_countLess
set_option maxRecDepth 20000 in
theorem ggX0_dropPointer_X0_dropPointersOf : GoodIn wsX0_dropPointer wsX0_dropPointersOf := goodIn_r _ [27, 28, 29, 30, 31, 32, 33, 6, 34, 3, 4, 5, 7, 8, 9, 10, 11, 12, 13, 14, 15, 16, 17, 18, 19, 20, 21, 22, 23, 1, 2, 35, 36, 37, 38, 39, 40, 41, 42, 43, 44, 45] (by decide +kernel) (by decide +kernel)
set_option maxRecDepth 20000 in
theorem gX0_dropPointer_X0_dropPointersOf : GoodIn wsX0_dropPointer (wsV RX0 79 RX0 yX0_dropPointersOf wsX0_dropPointersOf) := goodIn_app (goodIn_of _ (by decide +kernel)) ggX0_dropPointer_X0_dropPointersOf
set_option maxRecDepth 20000 in
theorem ggX0_dropPointersOf_X0_cellOfWord : GoodIn wsX0_dropPointersOf wsX0_cellOfWord := goodIn_r _ [8] (by decide +kernel) (by decide +kernel)
set_option maxRecDepth 20000 in
theorem gX0_dropPointersOf_X0_cellOfWord : GoodIn wsX0_dropPointersOf (va_wsS RX0 54 yX0_cellOfWord wsX0_cellOfWord) := goodIn_app (goodIn_of _ (by decide +kernel)) ggX0_dropPointersOf_X0_cellOfWord
set_option maxRecDepth 20000 in
theorem ggX0_dropPointersOf_X0_countLess : GoodIn wsX0_dropPointersOf wsX0_countLess := goodIn_r _ [12, 13, 14, 15, 16, 7, 17, 18, 19, 20, 21, 22, 23, 24, 25, 26, 27, 28, 29, 30, 31, 32, 33, 34, 35, 36, 37, 38, 39, 40, 41] (by decide +kernel) (by decide +kernel)
set_option maxRecDepth 20000 in
theorem gX0_dropPointersOf_X0_countLess : GoodIn wsX0_dropPointersOf (wsV RX0 76 RX0 yX0_countLess wsX0_countLess) := goodIn_app (goodIn_of _ (by decide +kernel)) ggX0_dropPointersOf_X0_countLess
set_option maxRecDepth 20000 in
theorem ggX0_countLess_X0_isBlock : GoodIn wsX0_countLess wsX0_isBlock := goodIn_r _ [6, 7, 20, 21, 22, 23, 24, 25, 26, 27, 28, 29, 30] (by decide +kernel) (by decide +kernel)
set_option maxRecDepth 20000 in
theorem gX0_countLess_X0_isBlock : GoodIn wsX0_countLess (wsV RX0 62 RX0 yX0_isBlock wsX0_isBlock) := goodIn_app (goodIn_of _ (by decide +kernel)) ggX0_countLess_X0_isBlock
set_option maxRecDepth 20000 in
theorem ggX0_countLess_X0_giveBack : GoodIn wsX0_countLess wsX0_giveBack := goodIn_r _ [11, 7, 12, 13, 20, 21, 22, 23, 24, 25, 26, 27, 28, 29, 30] (by decide +kernel) (by decide +kernel)
set_option maxRecDepth 20000 in
theorem gX0_countLess_X0_giveBack : GoodIn wsX0_countLess (wsV RX0 82 RX0 yX0_giveBack wsX0_giveBack) := goodIn_app (goodIn_of _ (by decide +kernel)) ggX0_countLess_X0_giveBack
set_option maxRecDepth 20000 in
theorem ggX0_countLess_X0_enqueue : GoodIn wsX0_countLess wsX0_enqueue := goodIn_r _ [17, 18, 19, 20, 21, 22, 23, 24, 25, 26, 27, 28, 29, 30] (by decide +kernel) (by decide +kernel)
set_option maxRecDepth 20000 in
theorem gX0_countLess_X0_enqueue : GoodIn wsX0_countLess (wsV RX0 85 RX0 yX0_enqueue wsX0_enqueue) := goodIn_app (goodIn_of _ (by decide +kernel)) ggX0_countLess_X0_enqueue
set_option maxRecDepth 20000 in
theorem ggX0_findLost_X0_reach : GoodIn wsX0_findLost wsX0_reach := goodIn_r _ [10, 2, 11, 12, 13, 9, 14, 15, 16, 17, 18, 19, 1, 4, 38, 39, 40, 41, 42, 43, 44, 45, 46, 47, 48] (by decide +kernel) (by decide +kernel)
set_option maxRecDepth 20000 in
theorem gX0_findLost_X0_reach : GoodIn wsX0_findLost (wsV RX0 88 RX0 yX0_reach wsX0_reach) := goodIn_app (goodIn_of _ (by decide +kernel)) ggX0_findLost_X0_reach
set_option maxRecDepth 20000 in
theorem ggX0_findLost_X0_reachPointersOf : GoodIn wsX0_findLost wsX0_reachPointersOf := goodIn_r _ [23, 3, 24, 25, 26, 9, 27, 28, 29, 30, 31, 32, 33, 34, 11, 12, 13, 14, 15, 35, 36, 37, 6, 7, 8, 10, 2, 16, 17, 18, 19, 1, 4, 38, 39, 40, 41, 42, 43, 44, 45, 46, 47, 48] (by decide +kernel) (by decide +kernel)
set_option maxRecDepth 20000 in
theorem gX0_findLost_X0_reachPointersOf : GoodIn wsX0_findLost (wsV RX0 91 RX0 yX0_reachPointersOf wsX0_reachPointersOf) := goodIn_app (goodIn_of _ (by decide +kernel)) ggX0_findLost_X0_reachPointersOf
set_option maxRecDepth 20000 in
theorem ggX0_reachPointersOf_X0_isPointerWord : GoodIn wsX0_reachPointersOf wsX0_isPointerWord := goodIn_r _ [6, 7, 8, 9, 10, 11, 5, 12, 13, 14, 15, 16, 17, 18, 33, 34, 35, 36, 37, 38, 39, 40, 41, 42, 43] (by decide +kernel) (by decide +kernel)
set_option maxRecDepth 20000 in
theorem gX0_reachPointersOf_X0_isPointerWord : GoodIn wsX0_reachPointersOf (wsV RX0 58 RX0 yX0_isPointerWord wsX0_isPointerWord) := goodIn_app (goodIn_of _ (by decide +kernel)) ggX0_reachPointersOf_X0_isPointerWord
set_option maxRecDepth 20000 in
theorem ggX0_reachPointersOf_X0_cellOfWord : GoodIn wsX0_reachPointersOf wsX0_cellOfWord := goodIn_r _ [21] (by decide +kernel) (by decide +kernel)
set_option maxRecDepth 20000 in
theorem gX0_reachPointersOf_X0_cellOfWord : GoodIn wsX0_reachPointersOf (va_wsS RX0 54 yX0_cellOfWord wsX0_cellOfWord) := goodIn_app (goodIn_of _ (by decide +kernel)) ggX0_reachPointersOf_X0_cellOfWord
set_option maxRecDepth 20000 in
theorem ggX0_reachPointersOf_X0_reach : GoodIn wsX0_reachPointersOf wsX0_reach := goodIn_r _ [25, 26, 14, 15, 16, 5, 17, 18, 27, 28, 29, 30, 31, 32, 33, 34, 35, 36, 37, 38, 39, 40, 41, 42, 43] (by decide +kernel) (by decide +kernel)
set_option maxRecDepth 20000 in
theorem gX0_reachPointersOf_X0_reach : GoodIn wsX0_reachPointersOf (wsV RX0 88 RX0 yX0_reach wsX0_reach) := goodIn_app (goodIn_of _ (by decide +kernel)) ggX0_reachPointersOf_X0_reach
set_option maxRecDepth 20000 in
theorem ggX0_reach_X0_isBlock : GoodIn wsX0_reach wsX0_isBlock := goodIn_r _ [6, 7, 14, 15, 16, 17, 18, 19, 20, 21, 22, 23, 24] (by decide +kernel) (by decide +kernel)
set_option maxRecDepth 20000 in
theorem gX0_reach_X0_isBlock : GoodIn wsX0_reach (wsV RX0 62 RX0 yX0_isBlock wsX0_isBlock) := goodIn_app (goodIn_of _ (by decide +kernel)) ggX0_reach_X0_isBlock
set_option maxRecDepth 20000 in
theorem ggX0_reach_X0_enqueue : GoodIn wsX0_reach wsX0_enqueue := goodIn_r _ [11, 12, 13, 14, 15, 16, 17, 18, 19, 20, 21, 22, 23, 24] (by decide +kernel) (by decide +kernel)
set_option maxRecDepth 20000 in
theorem gX0_reach_X0_enqueue : GoodIn wsX0_reach (wsV RX0 85 RX0 yX0_enqueue wsX0_enqueue) := goodIn_app (goodIn_of _ (by decide +kernel)) ggX0_reach_X0_enqueue
set_option maxRecDepth 20000 in
theorem ggX0_giveBackLost_X0_findLost : GoodIn wsX0_giveBackLost wsX0_findLost := goodIn_r _ [7, 8, 2, 9, 10, 11, 12, 13, 14, 6, 15, 16, 17, 18, 19, 1, 20, 21, 22, 23, 24, 25, 26, 27, 28, 29, 30, 31, 32, 33, 34, 35, 36, 37, 38, 39, 40, 41, 52, 53, 54, 55, 56, 57, 58, 59, 60, 61, 62] (by decide +kernel) (by decide +kernel)
set_option maxRecDepth 20000 in
theorem gX0_giveBackLost_X0_findLost : GoodIn wsX0_giveBackLost (wsV RX0 94 RX0 yX0_findLost wsX0_findLost) := goodIn_app (goodIn_of _ (by decide +kernel)) ggX0_giveBackLost_X0_findLost
set_option maxRecDepth 20000 in
theorem ggX0_giveBackLost_X0_takeOffCountsOf : GoodIn wsX0_giveBackLost wsX0_takeOffCountsOf := goodIn_r _ [45, 9, 2, 46, 28, 29, 30, 6, 31, 32, 33, 34, 35, 36, 37, 38, 16, 17, 18, 19, 1, 39, 40, 41, 52, 53, 54, 55, 56, 57, 58, 59, 60, 61, 62] (by decide +kernel) (by decide +kernel)
set_option maxRecDepth 20000 in
theorem gX0_giveBackLost_X0_takeOffCountsOf : GoodIn wsX0_giveBackLost (wsV RX0 98 RX0 yX0_takeOffCountsOf wsX0_takeOffCountsOf) := goodIn_app (goodIn_of _ (by decide +kernel)) ggX0_giveBackLost_X0_takeOffCountsOf
set_option maxRecDepth 20000 in
theorem ggX0_giveBackLost_X0_giveBack : GoodIn wsX0_giveBackLost wsX0_giveBack := goodIn_r _ [50, 1, 11, 51, 52, 53, 54, 55, 56, 57, 58, 59, 60, 61, 62] (by decide +kernel) (by decide +kernel)
set_option maxRecDepth 20000 in
theorem gX0_giveBackLost_X0_giveBack : GoodIn wsX0_giveBackLost (wsV RX0 82 RX0 yX0_giveBack wsX0_giveBack) := goodIn_app (goodIn_of _ (by decide +kernel)) ggX0_giveBackLost_X0_giveBack
set_option maxRecDepth 20000 in
theorem ggX0_takeOffCountsOf_X0_isPointerWord : GoodIn wsX0_takeOffCountsOf wsX0_isPointerWord := goodIn_r _ [8, 9, 10, 11, 12, 13, 7, 14, 15, 16, 17, 18, 19, 20, 24, 25, 26, 27, 28, 29, 30, 31, 32, 33, 34] (by decide +kernel) (by decide +kernel)
set_option maxRecDepth 20000 in
theorem gX0_takeOffCountsOf_X0_isPointerWord : GoodIn wsX0_takeOffCountsOf (wsV RX0 58 RX0 yX0_isPointerWord wsX0_isPointerWord) := goodIn_app (goodIn_of _ (by decide +kernel)) ggX0_takeOffCountsOf_X0_isPointerWord
set_option maxRecDepth 20000 in
theorem ggX0_takeOffCountsOf_X0_cellOfWord : GoodIn wsX0_takeOffCountsOf wsX0_cellOfWord := goodIn_r _ [23] (by decide +kernel) (by decide +kernel)
set_option maxRecDepth 20000 in
theorem gX0_takeOffCountsOf_X0_cellOfWord : GoodIn wsX0_takeOffCountsOf (va_wsS RX0 54 yX0_cellOfWord wsX0_cellOfWord) := goodIn_app (goodIn_of _ (by decide +kernel)) ggX0_takeOffCountsOf_X0_cellOfWord
set_option maxRecDepth 20000 in
theorem ggX0_takeOffCountsOf_X0_isBlock : GoodIn wsX0_takeOffCountsOf wsX0_isBlock := goodIn_r _ [19, 20, 24, 25, 26, 27, 28, 29, 30, 31, 32, 33, 34] (by decide +kernel) (by decide +kernel)
set_option maxRecDepth 20000 in
theorem gX0_takeOffCountsOf_X0_isBlock : GoodIn wsX0_takeOffCountsOf (wsV RX0 62 RX0 yX0_isBlock wsX0_isBlock) := goodIn_app (goodIn_of _ (by decide +kernel)) ggX0_takeOffCountsOf_X0_isBlock
set_option maxRecDepth 20000 in
theorem ggX2_init_X1_init : GoodIn wsX2_init wsX1_init := goodIn_r _ [17, 18, 2, 3, 12, 19, 20, 21, 22, 23, 39, 40, 41, 42, 43] (by decide +kernel) (by decide +kernel)
set_option maxRecDepth 20000 in
theorem gX2_init_X1_init_n11 : GoodIn wsX2_init (wsX1_init) := ggX2_init_X1_init
set_option maxRecDepth 20000 in
theorem ggX2_init_X0_init : GoodIn wsX2_init wsX0_init := goodIn_r _ [25, 26, 2, 3, 12, 27, 28, 29, 30, 31, 32, 33, 34, 35, 36, 37, 38, 49, 50, 51, 52, 53, 54, 55, 56, 57, 58, 59] (by decide +kernel) (by decide +kernel)
set_option maxRecDepth 20000 in
theorem gX2_init_X0_init_n18 : GoodIn wsX2_init (wsX0_init) := ggX2_init_X0_init
set_option maxRecDepth 20000 in
theorem ggX2_type_X2_isType : GoodIn wsX2_type wsX2_isType := goodIn_r _ [5] (by decide +kernel) (by decide +kernel)
set_option maxRecDepth 20000 in
theorem gX2_type_X2_isType : GoodIn wsX2_type (va_wsS RX2 34 yX2_isType wsX2_isType) := goodIn_app (goodIn_of _ (by decide +kernel)) ggX2_type_X2_isType
set_option maxRecDepth 20000 in
theorem ggX2_type_X0_hasBlockOfType : GoodIn wsX2_type wsX0_hasBlockOfType := goodIn_r _ [10, 11, 12, 24, 25, 26, 27, 28, 29, 30, 31, 32, 33, 34] (by decide +kernel) (by decide +kernel)
set_option maxRecDepth 20000 in
theorem gX2_type_X0_hasBlockOfType : GoodIn wsX2_type (wsV RX2 38 RX0 yX0_hasBlockOfType wsX0_hasBlockOfType) := goodIn_app (goodIn_of _ (by decide +kernel)) ggX2_type_X0_hasBlockOfType
set_option maxRecDepth 20000 in
theorem ggX2_type_X0_changeType : GoodIn wsX2_type wsX0_changeType := goodIn_r _ [16, 17, 18, 24, 25, 26, 27, 28, 29, 30, 31, 32, 33, 34] (by decide +kernel) (by decide +kernel)
set_option maxRecDepth 20000 in
theorem gX2_type_X0_changeType : GoodIn wsX2_type (wsV RX2 41 RX0 yX0_changeType wsX0_changeType) := goodIn_app (goodIn_of _ (by decide +kernel)) ggX2_type_X0_changeType
set_option maxRecDepth 20000 in
theorem ggX2_add_X2_fits : GoodIn wsX2_add wsX2_fits := goodIn_r _ [8, 9, 10, 7, 11, 12, 13, 14, 15, 16, 17] (by decide +kernel) (by decide +kernel)
set_option maxRecDepth 20000 in
theorem gX2_add_X2_fits : GoodIn wsX2_add (va_wsS RX2 48 yX2_fits wsX2_fits) := goodIn_app (goodIn_of _ (by decide +kernel)) ggX2_add_X2_fits
set_option maxRecDepth 20000 in
theorem ggX2_add_X1_isFull : GoodIn wsX2_add wsX1_isFull := goodIn_r _ [22, 23, 37, 38, 39, 40, 41] (by decide +kernel) (by decide +kernel)
set_option maxRecDepth 20000 in
theorem gX2_add_X1_isFull : GoodIn wsX2_add (wsV RX2 58 RX1 yX1_isFull wsX1_isFull) := goodIn_app (goodIn_of _ (by decide +kernel)) ggX2_add_X1_isFull
set_option maxRecDepth 20000 in
theorem ggX2_add_X1_append : GoodIn wsX2_add wsX1_append := goodIn_r _ [27, 23, 28, 29, 30, 31, 37, 38, 39, 40, 41] (by decide +kernel) (by decide +kernel)
set_option maxRecDepth 20000 in
theorem gX2_add_X1_append : GoodIn wsX2_add (wsV RX2 62 RX1 yX1_append wsX1_append) := goodIn_app (goodIn_of _ (by decide +kernel)) ggX2_add_X1_append
set_option maxRecDepth 20000 in
theorem ggX2_clear_X2_goTo : GoodIn wsX2_clear wsX2_goTo := goodIn_r _ [6, 7, 8, 15, 16, 17, 18, 19] (by decide +kernel) (by decide +kernel)
set_option maxRecDepth 20000 in
theorem gX2_clear_X2_goTo : GoodIn wsX2_clear (wsV RX2 66 RX2 yX2_goTo wsX2_goTo) := goodIn_app (goodIn_of _ (by decide +kernel)) ggX2_clear_X2_goTo
set_option maxRecDepth 20000 in
theorem ggX2_clear_X1_removeAll : GoodIn wsX2_clear wsX1_removeAll := goodIn_r _ [13, 14, 20, 21, 22, 23, 24] (by decide +kernel) (by decide +kernel)
set_option maxRecDepth 20000 in
theorem gX2_clear_X1_removeAll : GoodIn wsX2_clear (wsV RX2 70 RX1 yX1_removeAll wsX1_removeAll) := goodIn_app (goodIn_of _ (by decide +kernel)) ggX2_clear_X1_removeAll
set_option maxRecDepth 20000 in
theorem ggX2_start_X2_isPlace : GoodIn wsX2_start wsX2_isPlace := goodIn_r _ [4] (by decide +kernel) (by decide +kernel)
set_option maxRecDepth 20000 in
theorem gX2_start_X2_isPlace : GoodIn wsX2_start (va_wsS RX2 74 yX2_isPlace wsX2_isPlace) := goodIn_app (goodIn_of _ (by decide +kernel)) ggX2_start_X2_isPlace
set_option maxRecDepth 20000 in
theorem ggX2_start_X2_goTo : GoodIn wsX2_start wsX2_goTo := goodIn_r _ [8, 9, 10, 11, 12, 13, 14, 15] (by decide +kernel) (by decide +kernel)
set_option maxRecDepth 20000 in
theorem gX2_start_X2_goTo : GoodIn wsX2_start (wsV RX2 66 RX2 yX2_goTo wsX2_goTo) := goodIn_app (goodIn_of _ (by decide +kernel)) ggX2_start_X2_goTo
set_option maxRecDepth 20000 in
theorem ggX2_run_X1_has : GoodIn wsX2_run wsX1_has := goodIn_r _ [9, 10, 169, 170, 171, 172, 173] (by decide +kernel) (by decide +kernel)
set_option maxRecDepth 20000 in
theorem gX2_run_X1_has : GoodIn wsX2_run (wsV RX2 84 RX1 yX1_has wsX1_has) := goodIn_app (goodIn_of _ (by decide +kernel)) ggX2_run_X1_has
set_option maxRecDepth 20000 in
theorem ggX2_run_X1_opAt : GoodIn wsX2_run wsX1_opAt := goodIn_r _ [14, 15, 169, 170, 171, 172, 173] (by decide +kernel) (by decide +kernel)
set_option maxRecDepth 20000 in
theorem gX2_run_X1_opAt : GoodIn wsX2_run (wsV RX2 87 RX1 yX1_opAt wsX1_opAt) := goodIn_app (goodIn_of _ (by decide +kernel)) ggX2_run_X1_opAt
set_option maxRecDepth 20000 in
theorem ggX2_run_X2_doInstruction : GoodIn wsX2_run wsX2_doInstruction := goodIn_ca (goodIn_ca (goodIn_ca (goodIn_ca (goodIn_r _ [20, 3, 21, 22, 23, 24, 4, 11, 12, 13, 8, 14, 15, 25, 26, 27, 28, 29, 30, 31, 32, 33, 34, 35, 36, 37, 38, 39, 40, 41, 42, 19, 43, 1, 2, 44, 45, 46, 47, 48, 49, 50, 51, 52, 53, 54, 55, 56, 57, 58, 59, 60, 61, 62, 63, 64, 65, 66, 67, 68, 69, 70, 71, 72, 73, 74, 75, 76, 77, 78, 79, 80, 81, 82, 83, 84, 85, 86, 87, 88, 89, 90, 91, 92, 93, 94, 95, 96, 97, 98, 99, 100, 101, 102, 103, 104, 105, 106, 107, 108, 109, 110, 111, 112, 113, 114, 115, 116, 117, 118, 119, 120, 121, 122, 123, 124, 125, 126, 127, 128, 129, 130, 131, 132, 133, 134, 135, 136, 137, 138, 139, 140, 141, 142, 143, 144, 145, 146, 147, 148, 149, 150, 151, 152, 153, 154, 155, 156, 157, 158, 159, 160, 161, 162, 163, 164, 165, 166, 167, 168, 169, 170, 171, 172, 173, 174, 175, 176, 177, 178, 179, 180, 181, 182, 183, 184] (by decide +kernel) (by decide +kernel)) (goodIn_sub (fun _ h => List.mem_cons_of_mem _ (List.mem_append_left _ (List.mem_append_left _ (List.mem_append_left _ (List.mem_append_right _ h))))) (by decide +kernel))) (goodIn_sub (fun _ h => List.mem_cons_of_mem _ (List.mem_append_left _ (List.mem_append_left _ (List.mem_append_right _ h)))) (by decide +kernel))) (goodIn_sub (fun _ h => List.mem_cons_of_mem _ (List.mem_append_left _ (List.mem_append_right _ h))) (by decide +kernel))) (goodIn_sub (fun _ h => List.mem_cons_of_mem _ (List.mem_append_right _ h)) (by decide +kernel))
set_option maxRecDepth 20000 in
theorem gX2_run_X2_doInstruction : GoodIn wsX2_run (wsV RX2 91 RX2 yX2_doInstruction wsX2_doInstruction) := goodIn_app (goodIn_of _ (by decide +kernel)) ggX2_run_X2_doInstruction
set_option maxRecDepth 20000 in
theorem ggX2_frame_X2_isFrameInt : GoodIn wsX2_frame wsX2_isFrameInt := goodIn_r _ [5] (by decide +kernel) (by decide +kernel)
set_option maxRecDepth 20000 in
theorem gX2_frame_X2_isFrameInt : GoodIn wsX2_frame (va_wsS RX2 94 yX2_isFrameInt wsX2_isFrameInt) := goodIn_app (goodIn_of _ (by decide +kernel)) ggX2_frame_X2_isFrameInt
set_option maxRecDepth 20000 in
theorem ggX2_frame_X0_read : GoodIn wsX2_frame wsX0_read := goodIn_r _ [10, 11, 17, 18, 19, 20, 21, 22, 23, 24, 25, 26, 27] (by decide +kernel) (by decide +kernel)
set_option maxRecDepth 20000 in
theorem gX2_frame_X0_read : GoodIn wsX2_frame (wsV RX2 97 RX0 yX0_read wsX0_read) := goodIn_app (goodIn_of _ (by decide +kernel)) ggX2_frame_X0_read
set_option maxRecDepth 20000 in
theorem ggX2_set_X2_isFrameInt : GoodIn wsX2_set wsX2_isFrameInt := goodIn_r _ [5] (by decide +kernel) (by decide +kernel)
set_option maxRecDepth 20000 in
theorem gX2_set_X2_isFrameInt : GoodIn wsX2_set (va_wsS RX2 94 yX2_isFrameInt wsX2_isFrameInt) := goodIn_app (goodIn_of _ (by decide +kernel)) ggX2_set_X2_isFrameInt
set_option maxRecDepth 20000 in
theorem ggX2_set_X0_writeInt : GoodIn wsX2_set wsX0_writeInt := goodIn_r _ [10, 11, 17, 18, 19, 20, 21, 22, 23, 24, 25, 26, 27] (by decide +kernel) (by decide +kernel)
set_option maxRecDepth 20000 in
theorem gX2_set_X0_writeInt : GoodIn wsX2_set (wsV RX2 100 RX0 yX0_writeInt wsX0_writeInt) := goodIn_app (goodIn_of _ (by decide +kernel)) ggX2_set_X0_writeInt
set_option maxRecDepth 20000 in
theorem ggX2_root_X0_read : GoodIn wsX2_root wsX0_read := goodIn_r _ [6, 7, 13, 14, 15, 16, 17, 18, 19, 20, 21, 22, 23] (by decide +kernel) (by decide +kernel)
set_option maxRecDepth 20000 in
theorem gX2_root_X0_read : GoodIn wsX2_root (wsV RX2 97 RX0 yX0_read wsX0_read) := goodIn_app (goodIn_of _ (by decide +kernel)) ggX2_root_X0_read
set_option maxRecDepth 20000 in
theorem ggX2_blocks_X0_blockTotal : GoodIn wsX2_blocks wsX0_blockTotal := goodIn_r _ [6, 7, 13, 14, 15, 16, 17, 18, 19, 20, 21, 22, 23] (by decide +kernel) (by decide +kernel)
set_option maxRecDepth 20000 in
theorem gX2_blocks_X0_blockTotal : GoodIn wsX2_blocks (wsV RX2 104 RX0 yX0_blockTotal wsX0_blockTotal) := goodIn_app (goodIn_of _ (by decide +kernel)) ggX2_blocks_X0_blockTotal
set_option maxRecDepth 20000 in
theorem ggX2_count_X0_countOf : GoodIn wsX2_count wsX0_countOf := goodIn_r _ [6, 7, 8, 9, 10, 5, 11, 12, 18, 19, 20, 21, 22, 23, 24, 25, 26, 27, 28] (by decide +kernel) (by decide +kernel)
set_option maxRecDepth 20000 in
theorem gX2_count_X0_countOf : GoodIn wsX2_count (wsV RX2 107 RX0 yX0_countOf wsX0_countOf) := goodIn_app (goodIn_of _ (by decide +kernel)) ggX2_count_X0_countOf
set_option maxRecDepth 20000 in
theorem ggX2_typeOf_X0_blockType : GoodIn wsX2_typeOf wsX0_blockType := goodIn_r _ [6, 7, 8, 9, 10, 5, 11, 12, 18, 19, 20, 21, 22, 23, 24, 25, 26, 27, 28] (by decide +kernel) (by decide +kernel)
set_option maxRecDepth 20000 in
theorem gX2_typeOf_X0_blockType : GoodIn wsX2_typeOf (wsV RX2 110 RX0 yX0_blockType wsX0_blockType) := goodIn_app (goodIn_of _ (by decide +kernel)) ggX2_typeOf_X0_blockType
set_option maxRecDepth 20000 in
theorem ggX2_word_X0_hasWord : GoodIn wsX2_word wsX0_hasWord := goodIn_r _ [7, 8, 9, 10, 11, 12, 6, 13, 14, 28, 29, 30, 31, 32, 33, 34, 35, 36, 37, 38] (by decide +kernel) (by decide +kernel)
set_option maxRecDepth 20000 in
theorem gX2_word_X0_hasWord : GoodIn wsX2_word (wsV RX2 113 RX0 yX0_hasWord wsX0_hasWord) := goodIn_app (goodIn_of _ (by decide +kernel)) ggX2_word_X0_hasWord
set_option maxRecDepth 20000 in
theorem ggX2_word_X0_cellOfWord : GoodIn wsX2_word wsX0_cellOfWord := goodIn_r _ [17] (by decide +kernel) (by decide +kernel)
set_option maxRecDepth 20000 in
theorem gX2_word_X0_cellOfWord : GoodIn wsX2_word (va_wsS RX2 116 yX0_cellOfWord wsX0_cellOfWord) := goodIn_app (goodIn_of _ (by decide +kernel)) ggX2_word_X0_cellOfWord
set_option maxRecDepth 20000 in
theorem ggX2_word_X0_read : GoodIn wsX2_word wsX0_read := goodIn_r _ [21, 22, 28, 29, 30, 31, 32, 33, 34, 35, 36, 37, 38] (by decide +kernel) (by decide +kernel)
set_option maxRecDepth 20000 in
theorem gX2_word_X0_read : GoodIn wsX2_word (wsV RX2 97 RX0 yX0_read wsX0_read) := goodIn_app (goodIn_of _ (by decide +kernel)) ggX2_word_X0_read
set_option maxRecDepth 20000 in
theorem ggX2_given_X0_givenTotal : GoodIn wsX2_given wsX0_givenTotal := goodIn_r _ [6, 7, 13, 14, 15, 16, 17, 18, 19, 20, 21, 22, 23] (by decide +kernel) (by decide +kernel)
set_option maxRecDepth 20000 in
theorem gX2_given_X0_givenTotal : GoodIn wsX2_given (wsV RX2 122 RX0 yX0_givenTotal wsX0_givenTotal) := goodIn_app (goodIn_of _ (by decide +kernel)) ggX2_given_X0_givenTotal
set_option maxRecDepth 20000 in
theorem ggX2_lost_X0_findLost : GoodIn wsX2_lost wsX0_findLost := goodIn_r _ [6, 7, 8, 9, 10, 11, 12, 13, 14, 5, 15, 16, 17, 18, 19, 20, 21, 22, 23, 24, 25, 26, 27, 28, 29, 30, 31, 32, 33, 34, 35, 36, 37, 38, 39, 40, 41, 42, 48, 49, 50, 51, 52, 53, 54, 55, 56, 57, 58] (by decide +kernel) (by decide +kernel)
set_option maxRecDepth 20000 in
theorem gX2_lost_X0_findLost : GoodIn wsX2_lost (wsV RX2 125 RX0 yX0_findLost wsX0_findLost) := goodIn_app (goodIn_of _ (by decide +kernel)) ggX2_lost_X0_findLost
set_option maxRecDepth 20000 in
theorem ggX2_collect_X0_giveBackLost : GoodIn wsX2_collect wsX0_giveBackLost := goodIn_r _ [6, 7, 8, 9, 10, 11, 5, 12, 13, 14, 15, 16, 17, 18, 19, 20, 21, 22, 23, 24, 25, 26, 27, 28, 29, 30, 31, 32, 33, 34, 35, 36, 37, 38, 39, 40, 41, 42, 43, 44, 45, 46, 47, 48, 49, 50, 51, 52, 53, 54, 55, 56, 62, 63, 64, 65, 66, 67, 68, 69, 70, 71, 72] (by decide +kernel) (by decide +kernel)
set_option maxRecDepth 20000 in
theorem gX2_collect_X0_giveBackLost : GoodIn wsX2_collect (wsV RX2 128 RX0 yX0_giveBackLost wsX0_giveBackLost) := goodIn_app (goodIn_of _ (by decide +kernel)) ggX2_collect_X0_giveBackLost
set_option maxRecDepth 20000 in
theorem ggX2_fits_X2_isOperand : GoodIn wsX2_fits wsX2_isOperand := goodIn_r _ [4] (by decide +kernel) (by decide +kernel)
set_option maxRecDepth 20000 in
theorem gX2_fits_X2_isOperand : GoodIn wsX2_fits (va_wsS RX2 131 yX2_isOperand wsX2_isOperand) := goodIn_app (goodIn_of _ (by decide +kernel)) ggX2_fits_X2_isOperand
set_option maxRecDepth 20000 in
theorem ggX2_fits_X2_isPlace : GoodIn wsX2_fits wsX2_isPlace := goodIn_r _ [7] (by decide +kernel) (by decide +kernel)
set_option maxRecDepth 20000 in
theorem gX2_fits_X2_isPlace : GoodIn wsX2_fits (va_wsS RX2 74 yX2_isPlace wsX2_isPlace) := goodIn_app (goodIn_of _ (by decide +kernel)) ggX2_fits_X2_isPlace
set_option maxRecDepth 20000 in
theorem ggX2_fits_X2_isType : GoodIn wsX2_fits wsX2_isType := goodIn_r _ [10] (by decide +kernel) (by decide +kernel)
set_option maxRecDepth 20000 in
theorem gX2_fits_X2_isType : GoodIn wsX2_fits (va_wsS RX2 34 yX2_isType wsX2_isType) := goodIn_app (goodIn_of _ (by decide +kernel)) ggX2_fits_X2_isType
set_option maxRecDepth 20000 in
theorem ggX2_doInstruction_X1_opAt : GoodIn wsX2_doInstruction wsX1_opAt := goodIn_r _ [11, 12, 160, 161, 162, 163, 164] (by decide +kernel) (by decide +kernel)
set_option maxRecDepth 20000 in
theorem gX2_doInstruction_X1_opAt : GoodIn wsX2_doInstruction (wsV RX2 87 RX1 yX1_opAt wsX1_opAt) := goodIn_app (goodIn_of _ (by decide +kernel)) ggX2_doInstruction_X1_opAt
set_option maxRecDepth 20000 in
theorem ggX2_doInstruction_X1_xAt : GoodIn wsX2_doInstruction wsX1_xAt := goodIn_r _ [16, 17, 160, 161, 162, 163, 164] (by decide +kernel) (by decide +kernel)
set_option maxRecDepth 20000 in
theorem gX2_doInstruction_X1_xAt : GoodIn wsX2_doInstruction (wsV RX2 134 RX1 yX1_xAt wsX1_xAt) := goodIn_app (goodIn_of _ (by decide +kernel)) ggX2_doInstruction_X1_xAt
set_option maxRecDepth 20000 in
theorem ggX2_doInstruction_X1_yAt : GoodIn wsX2_doInstruction wsX1_yAt := goodIn_r _ [21, 22, 160, 161, 162, 163, 164] (by decide +kernel) (by decide +kernel)
set_option maxRecDepth 20000 in
theorem gX2_doInstruction_X1_yAt : GoodIn wsX2_doInstruction (wsV RX2 137 RX1 yX1_yAt wsX1_yAt) := goodIn_app (goodIn_of _ (by decide +kernel)) ggX2_doInstruction_X1_yAt
set_option maxRecDepth 20000 in
theorem ggX2_doInstruction_X1_zAt : GoodIn wsX2_doInstruction wsX1_zAt := goodIn_r _ [26, 27, 160, 161, 162, 163, 164] (by decide +kernel) (by decide +kernel)
set_option maxRecDepth 20000 in
theorem gX2_doInstruction_X1_zAt : GoodIn wsX2_doInstruction (wsV RX2 140 RX1 yX1_zAt wsX1_zAt) := goodIn_app (goodIn_of _ (by decide +kernel)) ggX2_doInstruction_X1_zAt
set_option maxRecDepth 20000 in
theorem ggX2_doInstruction_X2_checkOperand : GoodIn wsX2_doInstruction wsX2_checkOperand := goodIn_ca (goodIn_ca (goodIn_ca (goodIn_r _ [32, 33, 34, 5, 35, 36, 37, 38, 39, 40, 41, 42, 43, 44, 45, 46, 31, 47, 48, 49, 50, 51, 52, 53, 54, 55, 56, 57, 58, 59, 60, 61, 62, 63, 64, 65, 66, 67, 68, 69, 70, 71, 72, 73, 74, 155, 156, 157, 158, 159, 165, 166, 167, 168, 169, 170, 171, 172, 173, 174, 175] (by decide +kernel) (by decide +kernel)) (goodIn_sub (fun _ h => List.mem_cons_of_mem _ (List.mem_append_left _ (List.mem_append_left _ (List.mem_append_left _ (List.mem_append_right _ h))))) (by decide +kernel))) (goodIn_sub (fun _ h => List.mem_cons_of_mem _ (List.mem_append_left _ (List.mem_append_left _ (List.mem_append_right _ h)))) (by decide +kernel))) (goodIn_sub (fun _ h => List.mem_cons_of_mem _ (List.mem_append_left _ (List.mem_append_right _ h))) (by decide +kernel))
set_option maxRecDepth 20000 in
theorem gX2_doInstruction_X2_checkOperand : GoodIn wsX2_doInstruction (wsV RX2 143 RX2 yX2_checkOperand wsX2_checkOperand) := goodIn_app (goodIn_of _ (by decide +kernel)) ggX2_doInstruction_X2_checkOperand
set_option maxRecDepth 20000 in
theorem ggX2_doInstruction_X2_checkRoom : GoodIn wsX2_doInstruction wsX2_checkRoom := goodIn_ca (goodIn_ca (goodIn_r _ [78, 79, 80, 48, 49, 5, 81, 82, 83, 84, 38, 85, 86, 155, 156, 157, 158, 159, 165, 166, 167, 168, 169, 170, 171, 172, 173, 174, 175] (by decide +kernel) (by decide +kernel)) (goodIn_sub (fun _ h => List.mem_cons_of_mem _ (List.mem_append_right _ h)) (by decide +kernel))) (goodIn_sub (fun _ h => List.mem_cons_of_mem _ (List.mem_append_left _ (List.mem_append_left _ (List.mem_append_right _ h)))) (by decide +kernel))
set_option maxRecDepth 20000 in
theorem gX2_doInstruction_X2_checkRoom : GoodIn wsX2_doInstruction (wsV RX2 146 RX2 yX2_checkRoom wsX2_checkRoom) := goodIn_app (goodIn_of _ (by decide +kernel)) ggX2_doInstruction_X2_checkRoom
set_option maxRecDepth 20000 in
theorem ggX2_doInstruction_X0_cellOf : GoodIn wsX2_doInstruction wsX0_cellOf := goodIn_r _ [90, 67, 36, 37, 38, 39, 40, 68, 42, 43, 91, 92, 93, 165, 166, 167, 168, 169, 170, 171, 172, 173, 174, 175] (by decide +kernel) (by decide +kernel)
set_option maxRecDepth 20000 in
theorem gX2_doInstruction_X0_cellOf : GoodIn wsX2_doInstruction (wsV RX2 149 RX0 yX0_cellOf wsX0_cellOf) := goodIn_app (goodIn_of _ (by decide +kernel)) ggX2_doInstruction_X0_cellOf
set_option maxRecDepth 20000 in
theorem ggX2_doInstruction_X2_intResult : GoodIn wsX2_doInstruction wsX2_intResult := goodIn_r _ [97, 98, 99, 100, 31, 101, 5, 87, 88, 89, 38, 90, 67, 36, 37, 39, 40, 68, 42, 43, 91, 92, 93, 102, 103, 104, 105, 155, 156, 157, 158, 159, 165, 166, 167, 168, 169, 170, 171, 172, 173, 174, 175] (by decide +kernel) (by decide +kernel)
set_option maxRecDepth 20000 in
theorem gX2_doInstruction_X2_intResult : GoodIn wsX2_doInstruction (wsV RX2 152 RX2 yX2_intResult wsX2_intResult) := goodIn_app (goodIn_of _ (by decide +kernel)) ggX2_doInstruction_X2_intResult
set_option maxRecDepth 20000 in
theorem ggX2_doInstruction_X0_writeInt : GoodIn wsX2_doInstruction wsX0_writeInt := goodIn_r _ [109, 40, 165, 166, 167, 168, 169, 170, 171, 172, 173, 174, 175] (by decide +kernel) (by decide +kernel)
set_option maxRecDepth 20000 in
theorem gX2_doInstruction_X0_writeInt : GoodIn wsX2_doInstruction (wsV RX2 100 RX0 yX0_writeInt wsX0_writeInt) := goodIn_app (goodIn_of _ (by decide +kernel)) ggX2_doInstruction_X0_writeInt
set_option maxRecDepth 20000 in
theorem ggX2_doInstruction_X2_pointerResult : GoodIn wsX2_doInstruction wsX2_pointerResult := goodIn_r _ [113, 5, 114, 115, 116, 38, 117, 62, 57, 118, 86, 119, 120, 121, 122, 40, 91, 92, 93, 98, 99, 100, 31, 101, 87, 88, 89, 90, 67, 36, 37, 39, 68, 42, 43, 102, 103, 104, 105, 155, 156, 157, 158, 159, 165, 166, 167, 168, 169, 170, 171, 172, 173, 174, 175] (by decide +kernel) (by decide +kernel)
set_option maxRecDepth 20000 in
theorem gX2_doInstruction_X2_pointerResult : GoodIn wsX2_doInstruction (wsV RX2 156 RX2 yX2_pointerResult wsX2_pointerResult) := goodIn_app (goodIn_of _ (by decide +kernel)) ggX2_doInstruction_X2_pointerResult
set_option maxRecDepth 20000 in
theorem ggX2_doInstruction_X0_writePointer : GoodIn wsX2_doInstruction wsX0_writePointer := goodIn_r _ [126, 40, 118, 58, 59, 60, 38, 61, 62, 127, 128, 129, 130, 131, 132, 133, 134, 135, 136, 137, 138, 139, 140, 86, 141, 142, 143, 144, 145, 146, 147, 148, 149, 56, 57, 73, 91, 92, 93, 165, 166, 167, 168, 169, 170, 171, 172, 173, 174, 175] (by decide +kernel) (by decide +kernel)
set_option maxRecDepth 20000 in
theorem gX2_doInstruction_X0_writePointer : GoodIn wsX2_doInstruction (wsV RX2 159 RX0 yX0_writePointer wsX0_writePointer) := goodIn_app (goodIn_of _ (by decide +kernel)) ggX2_doInstruction_X0_writePointer
set_option maxRecDepth 20000 in
theorem ggX2_doInstruction_X2_placeAfter : GoodIn wsX2_doInstruction wsX2_placeAfter := goodIn_r _ [153, 154, 81, 98, 99, 100, 31, 101, 5, 87, 88, 89, 38, 90, 67, 36, 37, 39, 40, 68, 42, 43, 91, 92, 93, 102, 103, 104, 105, 155, 156, 157, 158, 159, 165, 166, 167, 168, 169, 170, 171, 172, 173, 174, 175] (by decide +kernel) (by decide +kernel)
set_option maxRecDepth 20000 in
theorem gX2_doInstruction_X2_placeAfter : GoodIn wsX2_doInstruction (wsV RX2 162 RX2 yX2_placeAfter wsX2_placeAfter) := goodIn_app (goodIn_of _ (by decide +kernel)) ggX2_doInstruction_X2_placeAfter
set_option maxRecDepth 20000 in
theorem ggX2_checkOperand_X0_blockOf : GoodIn wsX2_checkOperand wsX0_blockOf := goodIn_r _ [8, 9, 50, 51, 52, 53, 54, 55, 56, 57, 58, 59, 60] (by decide +kernel) (by decide +kernel)
set_option maxRecDepth 20000 in
theorem gX2_checkOperand_X0_blockOf : GoodIn wsX2_checkOperand (wsV RX2 165 RX0 yX0_blockOf wsX0_blockOf) := goodIn_app (goodIn_of _ (by decide +kernel)) ggX2_checkOperand_X0_blockOf
set_option maxRecDepth 20000 in
theorem ggX2_checkOperand_X0_wordOf : GoodIn wsX2_checkOperand wsX0_wordOf := goodIn_r _ [12] (by decide +kernel) (by decide +kernel)
set_option maxRecDepth 20000 in
theorem gX2_checkOperand_X0_wordOf : GoodIn wsX2_checkOperand (va_wsS RX2 168 yX0_wordOf wsX0_wordOf) := goodIn_app (goodIn_of _ (by decide +kernel)) ggX2_checkOperand_X0_wordOf
set_option maxRecDepth 20000 in
theorem ggX2_checkOperand_X2_checkWord : GoodIn wsX2_checkOperand wsX2_checkWord := goodIn_ca (goodIn_ca (goodIn_r _ [17, 18, 19, 20, 21, 3, 22, 23, 24, 7, 25, 26, 27, 28, 29, 30, 31, 32, 45, 46, 47, 48, 49, 50, 51, 52, 53, 54, 55, 56, 57, 58, 59, 60] (by decide +kernel) (by decide +kernel)) (goodIn_sub (fun _ h => List.mem_cons_of_mem _ (List.mem_append_left _ (List.mem_append_right _ h))) (by decide +kernel))) (goodIn_sub (fun _ h => List.mem_cons_of_mem _ (List.mem_append_right _ h)) (by decide +kernel))
set_option maxRecDepth 20000 in
theorem gX2_checkOperand_X2_checkWord : GoodIn wsX2_checkOperand (wsV RX2 171 RX2 yX2_checkWord wsX2_checkWord) := goodIn_app (goodIn_of _ (by decide +kernel)) ggX2_checkOperand_X2_checkWord
set_option maxRecDepth 20000 in
theorem ggX2_checkOperand_X0_holdsPointer : GoodIn wsX2_checkOperand wsX0_holdsPointer := goodIn_r _ [36, 37, 5, 6, 7, 8, 9, 38, 11, 12, 39, 40, 41, 42, 43, 27, 44, 23, 24, 25, 26, 28, 29, 30, 31, 32, 50, 51, 52, 53, 54, 55, 56, 57, 58, 59, 60] (by decide +kernel) (by decide +kernel)
set_option maxRecDepth 20000 in
theorem gX2_checkOperand_X0_holdsPointer : GoodIn wsX2_checkOperand (wsV RX2 174 RX0 yX0_holdsPointer wsX0_holdsPointer) := goodIn_app (goodIn_of _ (by decide +kernel)) ggX2_checkOperand_X0_holdsPointer
set_option maxRecDepth 20000 in
theorem ggX2_checkWord_X0_hasWord : GoodIn wsX2_checkWord wsX0_hasWord := goodIn_r _ [10, 11, 12, 13, 14, 15, 9, 16, 17, 23, 24, 25, 26, 27, 28, 29, 30, 31, 32, 33] (by decide +kernel) (by decide +kernel)
set_option maxRecDepth 20000 in
theorem gX2_checkWord_X0_hasWord : GoodIn wsX2_checkWord (wsV RX2 113 RX0 yX0_hasWord wsX0_hasWord) := goodIn_app (goodIn_of _ (by decide +kernel)) ggX2_checkWord_X0_hasWord
set_option maxRecDepth 20000 in
theorem ggX2_checkRoom_X0_isFull : GoodIn wsX2_checkRoom wsX0_isFull := goodIn_r _ [11, 12, 18, 19, 20, 21, 22, 23, 24, 25, 26, 27, 28] (by decide +kernel) (by decide +kernel)
set_option maxRecDepth 20000 in
theorem gX2_checkRoom_X0_isFull : GoodIn wsX2_checkRoom (wsV RX2 189 RX0 yX0_isFull wsX0_isFull) := goodIn_app (goodIn_of _ (by decide +kernel)) ggX2_checkRoom_X0_isFull
set_option maxRecDepth 20000 in
theorem ggX2_intResult_X2_valueOf : GoodIn wsX2_intResult wsX2_valueOf := goodIn_r _ [5, 6, 7, 8, 9, 10, 11, 12, 13, 14, 15, 16, 17, 18, 19, 20, 21, 22, 23, 24, 25, 26, 27, 28, 29, 30, 31, 32, 33, 34, 35, 36, 37, 38, 39, 40, 41, 42] (by decide +kernel) (by decide +kernel)
set_option maxRecDepth 20000 in
theorem gX2_intResult_X2_valueOf : GoodIn wsX2_intResult (wsV RX2 199 RX2 yX2_valueOf wsX2_valueOf) := goodIn_app (goodIn_of _ (by decide +kernel)) ggX2_intResult_X2_valueOf
set_option maxRecDepth 20000 in
theorem ggX2_pointerResult_X0_makeBlock : GoodIn wsX2_pointerResult wsX0_makeBlock := goodIn_r _ [6, 7, 8, 9, 10, 11, 12, 13, 5, 14, 15, 16, 17, 18, 44, 45, 46, 47, 48, 49, 50, 51, 52, 53, 54] (by decide +kernel) (by decide +kernel)
set_option maxRecDepth 20000 in
theorem gX2_pointerResult_X0_makeBlock : GoodIn wsX2_pointerResult (wsV RX2 202 RX0 yX0_makeBlock wsX0_makeBlock) := goodIn_app (goodIn_of _ (by decide +kernel)) ggX2_pointerResult_X0_makeBlock
set_option maxRecDepth 20000 in
theorem ggX2_pointerResult_X2_valueOf : GoodIn wsX2_pointerResult wsX2_valueOf := goodIn_r _ [23, 1, 24, 25, 26, 5, 27, 28, 29, 30, 31, 15, 32, 33, 34, 16, 17, 18, 35, 36, 37, 38, 39, 40, 41, 42, 43, 44, 45, 46, 47, 48, 49, 50, 51, 52, 53, 54] (by decide +kernel) (by decide +kernel)
set_option maxRecDepth 20000 in
theorem gX2_pointerResult_X2_valueOf : GoodIn wsX2_pointerResult (wsV RX2 199 RX2 yX2_valueOf wsX2_valueOf) := goodIn_app (goodIn_of _ (by decide +kernel)) ggX2_pointerResult_X2_valueOf
set_option maxRecDepth 20000 in
theorem ggX2_valueOf_X0_cellOf : GoodIn wsX2_valueOf wsX0_cellOf := goodIn_r _ [6, 7, 8, 9, 5, 10, 11, 12, 13, 14, 15, 16, 17, 27, 28, 29, 30, 31, 32, 33, 34, 35, 36, 37] (by decide +kernel) (by decide +kernel)
set_option maxRecDepth 20000 in
theorem gX2_valueOf_X0_cellOf : GoodIn wsX2_valueOf (wsV RX2 149 RX0 yX0_cellOf wsX0_cellOf) := goodIn_app (goodIn_of _ (by decide +kernel)) ggX2_valueOf_X0_cellOf
set_option maxRecDepth 20000 in
theorem ggX2_valueOf_X0_read : GoodIn wsX2_valueOf wsX0_read := goodIn_r _ [21, 11, 27, 28, 29, 30, 31, 32, 33, 34, 35, 36, 37] (by decide +kernel) (by decide +kernel)
set_option maxRecDepth 20000 in
theorem gX2_valueOf_X0_read : GoodIn wsX2_valueOf (wsV RX2 97 RX0 yX0_read wsX0_read) := goodIn_app (goodIn_of _ (by decide +kernel)) ggX2_valueOf_X0_read
set_option maxRecDepth 20000 in
theorem ggX2_placeAfter_X2_valueOf : GoodIn wsX2_placeAfter wsX2_valueOf := goodIn_r _ [7, 8, 9, 10, 11, 12, 13, 14, 15, 16, 17, 18, 19, 20, 21, 22, 23, 24, 25, 26, 27, 28, 29, 30, 31, 32, 33, 34, 35, 36, 37, 38, 39, 40, 41, 42, 43, 44] (by decide +kernel) (by decide +kernel)
set_option maxRecDepth 20000 in
theorem gX2_placeAfter_X2_valueOf : GoodIn wsX2_placeAfter (wsV RX2 199 RX2 yX2_valueOf wsX2_valueOf) := goodIn_app (goodIn_of _ (by decide +kernel)) ggX2_placeAfter_X2_valueOf
set_option maxRecDepth 20000 in
theorem ggX3_type_X3_within : GoodIn wsX3_type wsX3_within := goodIn_r _ [8] (by decide +kernel) (by decide +kernel)
set_option maxRecDepth 20000 in
theorem gX3_type_X3_within : GoodIn wsX3_type (va_wsS RX3 45 yX3_within wsX3_within) := goodIn_app (goodIn_of _ (by decide +kernel)) ggX3_type_X3_within
set_option maxRecDepth 20000 in
theorem ggX3_isOperand_X3_within : GoodIn wsX3_isOperand wsX3_within := goodIn_r _ [4] (by decide +kernel) (by decide +kernel)
set_option maxRecDepth 20000 in
theorem gX3_isOperand_X3_within : GoodIn wsX3_isOperand (va_wsS RX3 45 yX3_within wsX3_within) := goodIn_app (goodIn_of _ (by decide +kernel)) ggX3_isOperand_X3_within
set_option maxRecDepth 20000 in
theorem ggX3_takes_X3_within : GoodIn wsX3_takes wsX3_within := goodIn_r _ [4] (by decide +kernel) (by decide +kernel)
set_option maxRecDepth 20000 in
theorem gX3_takes_X3_within : GoodIn wsX3_takes (va_wsS RX3 45 yX3_within wsX3_within) := goodIn_app (goodIn_of _ (by decide +kernel)) ggX3_takes_X3_within
set_option maxRecDepth 20000 in
theorem ggX3_isRight_X3_takes : GoodIn wsX3_isRight wsX3_takes := goodIn_r _ [4, 5, 6, 3, 7] (by decide +kernel) (by decide +kernel)
set_option maxRecDepth 20000 in
theorem gX3_isRight_X3_takes : GoodIn wsX3_isRight (va_wsS RX3 49 yX3_takes wsX3_takes) := goodIn_app (goodIn_of _ (by decide +kernel)) ggX3_isRight_X3_takes
set_option maxRecDepth 20000 in
theorem ggX3_isRight_X3_isOperand : GoodIn wsX3_isRight wsX3_isOperand := goodIn_r _ [10, 5, 6, 3, 7] (by decide +kernel) (by decide +kernel)
set_option maxRecDepth 20000 in
theorem gX3_isRight_X3_isOperand : GoodIn wsX3_isRight (va_wsS RX3 53 yX3_isOperand wsX3_isOperand) := goodIn_app (goodIn_of _ (by decide +kernel)) ggX3_isRight_X3_isOperand
set_option maxRecDepth 20000 in
theorem ggX3_isRight_X3_within : GoodIn wsX3_isRight wsX3_within := goodIn_r _ [7] (by decide +kernel) (by decide +kernel)
set_option maxRecDepth 20000 in
theorem gX3_isRight_X3_within : GoodIn wsX3_isRight (va_wsS RX3 45 yX3_within wsX3_within) := goodIn_app (goodIn_of _ (by decide +kernel)) ggX3_isRight_X3_within
set_option maxRecDepth 20000 in
theorem ggX3_add_X3_within : GoodIn wsX3_add wsX3_within := goodIn_r _ [7] (by decide +kernel) (by decide +kernel)
set_option maxRecDepth 20000 in
theorem gX3_add_X3_within : GoodIn wsX3_add (va_wsS RX3 45 yX3_within wsX3_within) := goodIn_app (goodIn_of _ (by decide +kernel)) ggX3_add_X3_within
set_option maxRecDepth 20000 in
theorem ggX3_add_X3_isRight : GoodIn wsX3_add wsX3_isRight := goodIn_r _ [10, 11, 12, 6, 13, 4, 5, 7, 14, 15, 16] (by decide +kernel) (by decide +kernel)
set_option maxRecDepth 20000 in
theorem gX3_add_X3_isRight : GoodIn wsX3_add (va_wsS RX3 57 yX3_isRight wsX3_isRight) := goodIn_app (goodIn_of _ (by decide +kernel)) ggX3_add_X3_isRight
set_option maxRecDepth 20000 in
theorem ggX3_start_X3_within : GoodIn wsX3_start wsX3_within := goodIn_r _ [7] (by decide +kernel) (by decide +kernel)
set_option maxRecDepth 20000 in
theorem gX3_start_X3_within : GoodIn wsX3_start (va_wsS RX3 45 yX3_within wsX3_within) := goodIn_app (goodIn_of _ (by decide +kernel)) ggX3_start_X3_within
set_option maxRecDepth 20000 in
theorem ggX3_isBlock_X3_within : GoodIn wsX3_isBlock wsX3_within := goodIn_r _ [5] (by decide +kernel) (by decide +kernel)
set_option maxRecDepth 20000 in
theorem gX3_isBlock_X3_within : GoodIn wsX3_isBlock (va_wsS RX3 45 yX3_within wsX3_within) := goodIn_app (goodIn_of _ (by decide +kernel)) ggX3_isBlock_X3_within
set_option maxRecDepth 20000 in
theorem ggX3_countAll_X3_isPointer : GoodIn wsX3_countAll wsX3_isPointer := goodIn_r _ [10, 11, 3, 12, 13, 14, 15, 16, 17, 18, 19, 20, 21, 22, 23, 24, 25, 26, 27, 28] (by decide +kernel) (by decide +kernel)
set_option maxRecDepth 20000 in
theorem gX3_countAll_X3_isPointer : GoodIn wsX3_countAll (wsV RX3 69 RX3 yX3_isPointer wsX3_isPointer) := goodIn_app (goodIn_of _ (by decide +kernel)) ggX3_countAll_X3_isPointer
set_option maxRecDepth 20000 in
theorem ggX3_giveBack_X3_countAll : GoodIn wsX3_giveBack wsX3_countAll := goodIn_r _ [8, 2, 9, 1, 10, 11, 12, 13, 14, 7, 15, 16, 17, 18, 19, 20, 21, 22, 23, 24, 25, 26, 27, 28, 29, 30, 31, 32, 33] (by decide +kernel) (by decide +kernel)
set_option maxRecDepth 20000 in
theorem gX3_giveBack_X3_countAll : GoodIn wsX3_giveBack (wsV RX3 73 RX3 yX3_countAll wsX3_countAll) := goodIn_app (goodIn_of _ (by decide +kernel)) ggX3_giveBack_X3_countAll
set_option maxRecDepth 20000 in
theorem ggX3_reach_X3_isPointer : GoodIn wsX3_reach wsX3_isPointer := goodIn_r _ [10, 11, 3, 12, 13, 14, 15, 16, 17, 18, 19, 20, 21, 22, 23, 24, 25, 26, 27, 28] (by decide +kernel) (by decide +kernel)
set_option maxRecDepth 20000 in
theorem gX3_reach_X3_isPointer : GoodIn wsX3_reach (wsV RX3 69 RX3 yX3_isPointer wsX3_isPointer) := goodIn_app (goodIn_of _ (by decide +kernel)) ggX3_reach_X3_isPointer
set_option maxRecDepth 20000 in
theorem ggX3_find_X3_isPointer : GoodIn wsX3_find wsX3_isPointer := goodIn_r _ [10, 11, 5, 12, 13, 14, 15, 16, 17, 18, 19, 20, 21, 22, 23, 24, 25, 26, 27, 28] (by decide +kernel) (by decide +kernel)
set_option maxRecDepth 20000 in
theorem gX3_find_X3_isPointer : GoodIn wsX3_find (wsV RX3 69 RX3 yX3_isPointer wsX3_isPointer) := goodIn_app (goodIn_of _ (by decide +kernel)) ggX3_find_X3_isPointer
set_option maxRecDepth 20000 in
theorem ggX3_read_X3_find : GoodIn wsX3_read wsX3_find := goodIn_r _ [10, 1, 5, 3, 11, 12, 13, 14, 15, 9, 16, 17, 18, 19, 20, 21, 22, 23, 24, 25, 26, 27, 28, 29, 30, 31, 32, 33, 34] (by decide +kernel) (by decide +kernel)
set_option maxRecDepth 20000 in
theorem gX3_read_X3_find : GoodIn wsX3_read (wsV RX3 85 RX3 yX3_find wsX3_find) := goodIn_app (goodIn_of _ (by decide +kernel)) ggX3_read_X3_find
set_option maxRecDepth 20000 in
theorem ggX3_write_X3_find : GoodIn wsX3_write wsX3_find := goodIn_r _ [10, 1, 3, 5, 11, 12, 13, 14, 15, 9, 16, 17, 18, 19, 20, 21, 22, 23, 24, 25, 26, 27, 28, 29, 30, 31, 32, 33, 34] (by decide +kernel) (by decide +kernel)
set_option maxRecDepth 20000 in
theorem gX3_write_X3_find : GoodIn wsX3_write (wsV RX3 85 RX3 yX3_find wsX3_find) := goodIn_app (goodIn_of _ (by decide +kernel)) ggX3_write_X3_find
set_option maxRecDepth 20000 in
theorem ggX3_fault_X3_takes : GoodIn wsX3_fault wsX3_takes := goodIn_r _ [6, 7, 8, 5, 9] (by decide +kernel) (by decide +kernel)
set_option maxRecDepth 20000 in
theorem gX3_fault_X3_takes : GoodIn wsX3_fault (va_wsS RX3 49 yX3_takes wsX3_takes) := goodIn_app (goodIn_of _ (by decide +kernel)) ggX3_fault_X3_takes
set_option maxRecDepth 20000 in
theorem ggX3_fault_X3_find : GoodIn wsX3_fault wsX3_find := goodIn_r _ [13, 14, 15, 16, 17, 18, 19, 20, 21, 5, 22, 23, 28, 29, 30, 31, 32, 33, 34, 35, 36, 37, 38, 39, 40, 41, 42, 43, 44] (by decide +kernel) (by decide +kernel)
set_option maxRecDepth 20000 in
theorem gX3_fault_X3_find : GoodIn wsX3_fault (wsV RX3 85 RX3 yX3_find wsX3_find) := goodIn_app (goodIn_of _ (by decide +kernel)) ggX3_fault_X3_find
set_option maxRecDepth 20000 in
theorem ggX3_fault_X3_free : GoodIn wsX3_fault wsX3_free := goodIn_r _ [27, 18, 28, 29, 30, 31, 32, 33, 34, 35, 36, 37, 38, 39, 40, 41, 42, 43, 44] (by decide +kernel) (by decide +kernel)
set_option maxRecDepth 20000 in
theorem gX3_fault_X3_free : GoodIn wsX3_fault (wsV RX3 88 RX3 yX3_free wsX3_free) := goodIn_app (goodIn_of _ (by decide +kernel)) ggX3_fault_X3_free
set_option maxRecDepth 20000 in
theorem ggX3_act_X3_write : GoodIn wsX3_act wsX3_write := goodIn_r _ [11, 12, 4, 13, 14, 15, 16, 17, 18, 10, 19, 20, 3, 21, 22, 23, 24, 25, 50, 51, 52, 53, 54, 55, 56, 57, 58, 59, 60, 61, 62, 63, 64, 65, 66] (by decide +kernel) (by decide +kernel)
set_option maxRecDepth 20000 in
theorem gX3_act_X3_write : GoodIn wsX3_act (wsV RX3 92 RX3 yX3_write wsX3_write) := goodIn_app (goodIn_of _ (by decide +kernel)) ggX3_act_X3_write
set_option maxRecDepth 20000 in
theorem ggX3_act_X3_read : GoodIn wsX3_act wsX3_read := goodIn_r _ [29, 12, 14, 15, 4, 13, 16, 17, 18, 10, 19, 20, 3, 21, 22, 23, 24, 25, 50, 51, 52, 53, 54, 55, 56, 57, 58, 59, 60, 61, 62, 63, 64, 65, 66] (by decide +kernel) (by decide +kernel)
set_option maxRecDepth 20000 in
theorem gX3_act_X3_read : GoodIn wsX3_act (wsV RX3 96 RX3 yX3_read wsX3_read) := goodIn_app (goodIn_of _ (by decide +kernel)) ggX3_act_X3_read
set_option maxRecDepth 20000 in
theorem ggX3_act_X3_within : GoodIn wsX3_act wsX3_within := goodIn_r _ [32] (by decide +kernel) (by decide +kernel)
set_option maxRecDepth 20000 in
theorem gX3_act_X3_within : GoodIn wsX3_act (va_wsS RX3 45 yX3_within wsX3_within) := goodIn_app (goodIn_of _ (by decide +kernel)) ggX3_act_X3_within
set_option maxRecDepth 20000 in
theorem ggX3_act_X3_value : GoodIn wsX3_act wsX3_value := goodIn_r _ [35] (by decide +kernel) (by decide +kernel)
set_option maxRecDepth 20000 in
theorem gX3_act_X3_value : GoodIn wsX3_act (va_wsS RX3 100 yX3_value wsX3_value) := goodIn_app (goodIn_of _ (by decide +kernel)) ggX3_act_X3_value
set_option maxRecDepth 20000 in
theorem ggX3_act_X3_free : GoodIn wsX3_act wsX3_free := goodIn_r _ [39, 3, 50, 51, 52, 53, 54, 55, 56, 57, 58, 59, 60, 61, 62, 63, 64, 65, 66] (by decide +kernel) (by decide +kernel)
set_option maxRecDepth 20000 in
theorem gX3_act_X3_free : GoodIn wsX3_act (wsV RX3 88 RX3 yX3_free wsX3_free) := goodIn_app (goodIn_of _ (by decide +kernel)) ggX3_act_X3_free
set_option maxRecDepth 20000 in
theorem ggX3_act_X3_giveBack : GoodIn wsX3_act wsX3_giveBack := goodIn_r _ [43, 3, 44, 45, 46, 47, 48, 10, 49, 15, 20, 4, 21, 22, 23, 24, 25, 50, 51, 52, 53, 54, 55, 56, 57, 58, 59, 60, 61, 62, 63, 64, 65, 66] (by decide +kernel) (by decide +kernel)
set_option maxRecDepth 20000 in
theorem gX3_act_X3_giveBack : GoodIn wsX3_act (wsV RX3 104 RX3 yX3_giveBack wsX3_giveBack) := goodIn_app (goodIn_of _ (by decide +kernel)) ggX3_act_X3_giveBack
set_option maxRecDepth 20000 in
theorem ggX3_run_X3_within : GoodIn wsX3_run wsX3_within := goodIn_r _ [8] (by decide +kernel) (by decide +kernel)
set_option maxRecDepth 20000 in
theorem gX3_run_X3_within : GoodIn wsX3_run (va_wsS RX3 45 yX3_within wsX3_within) := goodIn_app (goodIn_of _ (by decide +kernel)) ggX3_run_X3_within
set_option maxRecDepth 20000 in
theorem ggX3_run_X3_fault : GoodIn wsX3_run wsX3_fault := goodIn_r _ [12, 4, 13, 14, 15, 7, 16, 5, 6, 8, 17, 18, 19, 20, 21, 22, 23, 24, 25, 26, 27, 28, 29, 30, 31, 32, 33, 34, 63, 64, 65, 66, 67, 68, 69, 70, 71, 72, 73, 74, 75, 76, 77, 78, 79] (by decide +kernel) (by decide +kernel)
set_option maxRecDepth 20000 in
theorem gX3_run_X3_fault : GoodIn wsX3_run (wsV RX3 107 RX3 yX3_fault wsX3_fault) := goodIn_app (goodIn_of _ (by decide +kernel)) ggX3_run_X3_fault
set_option maxRecDepth 20000 in
theorem ggX3_run_X3_act : GoodIn wsX3_run wsX3_act := goodIn_r _ [38, 4, 2, 25, 39, 40, 13, 41, 42, 43, 7, 44, 21, 22, 45, 23, 17, 18, 19, 20, 24, 26, 27, 28, 29, 30, 46, 47, 48, 49, 5, 6, 8, 50, 51, 52, 31, 32, 33, 34, 53, 54, 55, 56, 57, 58, 59, 60, 61, 62, 63, 64, 65, 66, 67, 68, 69, 70, 71, 72, 73, 74, 75, 76, 77, 78, 79] (by decide +kernel) (by decide +kernel)
set_option maxRecDepth 20000 in
theorem gX3_run_X3_act : GoodIn wsX3_run (wsV RX3 110 RX3 yX3_act wsX3_act) := goodIn_app (goodIn_of _ (by decide +kernel)) ggX3_run_X3_act
set_option maxRecDepth 20000 in
theorem ggX3_frame_X3_within : GoodIn wsX3_frame wsX3_within := goodIn_r _ [6] (by decide +kernel) (by decide +kernel)
set_option maxRecDepth 20000 in
theorem gX3_frame_X3_within : GoodIn wsX3_frame (va_wsS RX3 45 yX3_within wsX3_within) := goodIn_app (goodIn_of _ (by decide +kernel)) ggX3_frame_X3_within
set_option maxRecDepth 20000 in
theorem ggX3_set_X3_within : GoodIn wsX3_set wsX3_within := goodIn_r _ [6] (by decide +kernel) (by decide +kernel)
set_option maxRecDepth 20000 in
theorem gX3_set_X3_within : GoodIn wsX3_set (va_wsS RX3 45 yX3_within wsX3_within) := goodIn_app (goodIn_of _ (by decide +kernel)) ggX3_set_X3_within
set_option maxRecDepth 20000 in
theorem ggX3_root_X3_within : GoodIn wsX3_root wsX3_within := goodIn_r _ [6] (by decide +kernel) (by decide +kernel)
set_option maxRecDepth 20000 in
theorem gX3_root_X3_within : GoodIn wsX3_root (va_wsS RX3 45 yX3_within wsX3_within) := goodIn_app (goodIn_of _ (by decide +kernel)) ggX3_root_X3_within
set_option maxRecDepth 20000 in
theorem ggX3_count_X3_isBlock : GoodIn wsX3_count wsX3_isBlock := goodIn_r _ [7, 8, 9, 10, 6, 11, 24, 25, 26, 27, 28, 29, 30, 31, 32, 33, 34, 35, 36, 37, 38, 39, 40] (by decide +kernel) (by decide +kernel)
set_option maxRecDepth 20000 in
theorem gX3_count_X3_isBlock : GoodIn wsX3_count (wsV RX3 114 RX3 yX3_isBlock wsX3_isBlock) := goodIn_app (goodIn_of _ (by decide +kernel)) ggX3_count_X3_isBlock
set_option maxRecDepth 20000 in
theorem ggX3_count_X3_countAll : GoodIn wsX3_count wsX3_countAll := goodIn_r _ [15, 2, 16, 8, 17, 18, 19, 20, 21, 6, 22, 23, 24, 25, 26, 27, 28, 29, 30, 31, 32, 33, 34, 35, 36, 37, 38, 39, 40] (by decide +kernel) (by decide +kernel)
set_option maxRecDepth 20000 in
theorem gX3_count_X3_countAll : GoodIn wsX3_count (wsV RX3 73 RX3 yX3_countAll wsX3_countAll) := goodIn_app (goodIn_of _ (by decide +kernel)) ggX3_count_X3_countAll
set_option maxRecDepth 20000 in
theorem ggX3_typeOf_X3_isBlock : GoodIn wsX3_typeOf wsX3_isBlock := goodIn_r _ [7, 2, 8, 9, 6, 10, 11, 12, 13, 14, 15, 16, 17, 18, 19, 20, 21, 22, 23, 24, 25, 26, 27] (by decide +kernel) (by decide +kernel)
set_option maxRecDepth 20000 in
theorem gX3_typeOf_X3_isBlock : GoodIn wsX3_typeOf (wsV RX3 114 RX3 yX3_isBlock wsX3_isBlock) := goodIn_app (goodIn_of _ (by decide +kernel)) ggX3_typeOf_X3_isBlock
set_option maxRecDepth 20000 in
theorem ggX3_word_X3_isBlock : GoodIn wsX3_word wsX3_isBlock := goodIn_r _ [10, 3, 11, 12, 9, 13, 14, 15, 16, 17, 18, 19, 20, 21, 22, 23, 24, 25, 26, 27, 28, 29, 30] (by decide +kernel) (by decide +kernel)
set_option maxRecDepth 20000 in
theorem gX3_word_X3_isBlock : GoodIn wsX3_word (wsV RX3 114 RX3 yX3_isBlock wsX3_isBlock) := goodIn_app (goodIn_of _ (by decide +kernel)) ggX3_word_X3_isBlock
set_option maxRecDepth 20000 in
theorem ggX3_word_X3_within : GoodIn wsX3_word wsX3_within := goodIn_r _ [13] (by decide +kernel) (by decide +kernel)
set_option maxRecDepth 20000 in
theorem gX3_word_X3_within : GoodIn wsX3_word (va_wsS RX3 45 yX3_within wsX3_within) := goodIn_app (goodIn_of _ (by decide +kernel)) ggX3_word_X3_within
set_option maxRecDepth 20000 in
theorem ggX3_lost_X3_reach : GoodIn wsX3_lost wsX3_reach := goodIn_r _ [8, 3, 9, 2, 10, 11, 12, 13, 14, 7, 15, 16, 17, 18, 19, 20, 21, 22, 23, 24, 25, 26, 27, 28, 29, 30, 31, 32, 33] (by decide +kernel) (by decide +kernel)
set_option maxRecDepth 20000 in
theorem gX3_lost_X3_reach : GoodIn wsX3_lost (wsV RX3 119 RX3 yX3_reach wsX3_reach) := goodIn_app (goodIn_of _ (by decide +kernel)) ggX3_lost_X3_reach
set_option maxRecDepth 20000 in
theorem ggX3_collect_X3_lost : GoodIn wsX3_collect wsX3_lost := goodIn_r _ [8, 9, 2, 1, 10, 11, 12, 7, 13, 14, 15, 16, 17, 18, 19, 20, 21, 22, 23, 24, 25, 26, 27, 28, 29, 30, 31, 32, 33, 34, 35, 36, 37, 38] (by decide +kernel) (by decide +kernel)
set_option maxRecDepth 20000 in
theorem gX3_collect_X3_lost : GoodIn wsX3_collect (wsV RX3 122 RX3 yX3_lost wsX3_lost) := goodIn_app (goodIn_of _ (by decide +kernel)) ggX3_collect_X3_lost
abbrev vwCl : List vw_C := [(RX0, TX0, 11), (RX1, TX1, 5), (RX2, TX2, 5), (RX3, TX3, 17)]
end
section
/-! the worlds: all cells of the class' object (wC), of the reference's object (wD); a state gives each cell's contents -/
abbrev St : Type := Nat → Nat → Int32
def su (u : St) (c k : Nat) (v : Int32) : St := fun i => bif Nat.beq i c then upd (u i) k v else u i
def fuel : Nat := 1000
def rmK (fr lo : Nat) : Room := { frames := fr, cells := 0, slots := 0, locals := lo }
abbrev tyW (cI cZ : ClassId) : List (ClassId × FieldType) := [(cI, .int), (cZ, .boolean)]
def wC (a : Nat → Nat) (cI cZ : ClassId) (u : St) : va_W := [(a 0, .inr (0, [.ref (a 1), .ref (a 2), .ref (a 3), .ref (a 4), .ref (a 5), .ref (a 6), .ref (a 7), .ref (a 8), .int (u 0 8), .int (u 0 9), .int (u 0 10)])),
  (a 1, .inl (cI, 4, .inl (u 1))),
  (a 2, .inl (cI, 4, .inl (u 2))),
  (a 3, .inl (cI, 152, .inl (u 3))),
  (a 4, .inl (cZ, 25, .inl (u 4))),
  (a 5, .inl (cI, 25, .inl (u 5))),
  (a 6, .inl (cI, 25, .inl (u 6))),
  (a 7, .inl (cZ, 25, .inl (u 7))),
  (a 8, .inl (cI, 24, .inl (u 8))),
  (a 9, .inr (1, [.ref (a 10), .ref (a 11), .ref (a 12), .ref (a 13), .int (u 9 4)])),
  (a 10, .inl (cI, 40, .inl (u 10))),
  (a 11, .inl (cI, 40, .inl (u 11))),
  (a 12, .inl (cI, 40, .inl (u 12))),
  (a 13, .inl (cI, 40, .inl (u 13))),
  (a 14, .inr (2, [.ref (a 9), .ref (a 0), .ref (a 15), .int (u 14 3), .int (u 14 4)])),
  (a 15, .inl (cI, 8, .inl (u 15)))]
def wD (a : Nat → Nat) (cI cZ : ClassId) (u : St) : va_W := [(a 0, .inr (3, [.ref (a 1), .ref (a 2), .ref (a 3), .int (u 0 3), .int (u 0 4), .int (u 0 5), .int (u 0 6), .int (u 0 7), .ref (a 4), .ref (a 5), .ref (a 6), .ref (a 7), .ref (a 8), .ref (a 9), .ref (a 10), .int (u 0 15), .int (u 0 16)])),
  (a 1, .inl (cI, 4, .inl (u 1))),
  (a 2, .inl (cI, 4, .inl (u 2))),
  (a 3, .inl (cI, 160, .inl (u 3))),
  (a 4, .inl (cI, 8, .inl (u 4))),
  (a 5, .inl (cI, 4, .inl (u 5))),
  (a 6, .inl (cI, 4, .inl (u 6))),
  (a 7, .inl (cI, 25, .inl (u 7))),
  (a 8, .inl (cI, 150, .inl (u 8))),
  (a 9, .inl (cI, 25, .inl (u 9))),
  (a 10, .inl (cZ, 25, .inl (u 10)))]
/-- the three tables of roles, outside of the world -/
def rlX (j : Nat) : Int32 := ([0, 1, 1, 1, 1, 1, 1, 3, 3, 2, 2, 2, 1, 3, 0] : List Int32).getD j 0
def rlY (j : Nat) : Int32 := ([0, 0, 1, 1, 1, 1, 1, 0, 1, 4, 2, 0, 2, 0, 0] : List Int32).getD j 0
def rlZ (j : Nat) : Int32 := ([0, 0, 0, 1, 1, 1, 1, 0, 0, 0, 0, 0, 2, 0, 0] : List Int32).getD j 0
def strs : List (Nat × String) := [(79, "the number of instructions is not 0 .. 500"), (177, "the operand is of the other kind"), (181, "the operand's pointer is nil"), (186, "the block has no such word"), (192, "there are 24 blocks"), (195, "the stack is full"), (197, "the stack is empty")]
def zR (t : Nat → Nat) (A : Nat → Prop) (U : State) (H : Heap) : Prop :=
  (va_Z "CountedHeap" "ROLE_OF_X" "[I" (.ref (t 0)) A U H ∧ va_T .int (t 0) 15 (fun j => .int (rlX j)) A U H) ∧
  (va_Z "CountedHeap" "ROLE_OF_Y" "[I" (.ref (t 1)) A U H ∧ va_T .int (t 1) 15 (fun j => .int (rlY j)) A U H) ∧
  (va_Z "CountedHeap" "ROLE_OF_Z" "[I" (.ref (t 2)) A U H ∧ va_T .int (t 2) 15 (fun j => .int (rlZ j)) A U H) ∧
  (vx_Zq Bundle.tN "UNASSIGNED_STACK" Bundle.steD A U H ∧ vx_Zq Bundle.tN "SUPPRESSED_SENTINEL" Bundle.listD A U H) ∧ ∀ q ∈ strs, ∃ sa : Nat, vk_R RX2 q.1 q.2 sa U
def zP (z : Option (Nat → Nat)) (A : Nat → Prop) (U : State) (H : Heap) : Prop := match z with
  | none => True
  | some t => zR t A U H
theorem zP.of {z : Option (Nat → Nat)} {A B : Nat → Prop} {s U : State} {H H1 : Heap} (h : zP z A s H) (hvm : s.vm.Alike U.vm) (hs : ∀ {k : Nat} {tx : String} {sa : Nat}, vk_R RX2 k tx sa s → vk_R RX2 k tx sa U) (hq : ∀ a : Nat, a < H.size → ¬ A a → H1[a]? = H[a]?) (hAB : ∀ q, B q → A q) : zP z B U H1 := by
  cases z with
  | none => trivial
  | some t =>
    obtain ⟨⟨a1, a2⟩, ⟨b1, b2⟩, ⟨c1, c2⟩, ⟨d1, d2⟩, hstr⟩ := h
    refine ⟨⟨((a1.moved hvm).kept hq).narrow hAB, ((a2.moved hvm).kept hq).narrow hAB⟩, ⟨((b1.moved hvm).kept hq).narrow hAB, ((b2.moved hvm).kept hq).narrow hAB⟩, ⟨((c1.moved hvm).kept hq).narrow hAB, ((c2.moved hvm).kept hq).narrow hAB⟩, ⟨((d1.moved hvm).kept hq).narrow hAB, ((d2.moved hvm).kept hq).narrow hAB⟩, fun q hq9 => ?_⟩
    obtain ⟨sa, h9⟩ := hstr q hq9
    exact ⟨sa, hs h9⟩
def prW (z : Option (Nat → Nat)) (dC : Nat → ClassId) (dI : Nat → Nat → Nat) (cI cZ : ClassId) (w : va_W) (sz : Nat) (U : State) : Prop := U.heap.size = sz ∧ va_P (dC, dI) vwCl w U.heap ∧ va_K (dC, dI) vwCl (tyW cI cZ) U ∧ va_D (fun _ => True) w ∧ zP z (va_A w sz) U U.heap
def atW (dC : Nat → ClassId) (dI : Nat → Nat → Nat) (cI cZ : ClassId) (w : St → va_W) (A : Nat → Prop) (u : St) (t : State) : Prop := va_P (dC, dI) vwCl (w u) t.heap ∧ va_K (dC, dI) vwCl (tyW cI cZ) t ∧ va_D A (w u)
/-- a method that answers an int (a boolean), a long, nothing; it makes nothing -/
def MI (l : Launch) (y : MethodName) (ws : List Cond) (fr lo : Nat) (z : Option (Nat → Nat)) (dC : Nat → ClassId) (dI : Nat → Nat → Nat) (cI cZ : ClassId) (w : St → va_W) (av : List Value) (u : St) (o : Int32 × St) : Prop :=
  ∀ sz : Nat, Met l y ws (rmK fr lo) (va_Pc av (prW z dC dI cI cZ (w u) sz)) (va_Qi (fun (r : Int32) (v : St) => (r, v) = o) (atW dC dI cI cZ w (va_A (w u) sz)) (va_A (w u) sz)) 0 0 (va_A (w u) sz)
def ML (l : Launch) (y : MethodName) (ws : List Cond) (fr lo : Nat) (z : Option (Nat → Nat)) (dC : Nat → ClassId) (dI : Nat → Nat → Nat) (cI cZ : ClassId) (w : St → va_W) (av : List Value) (u : St) (o : Int64 × St) : Prop :=
  ∀ sz : Nat, Met l y ws (rmK fr lo) (va_Pc av (prW z dC dI cI cZ (w u) sz)) (va_Ql (fun (r : Int64) (v : St) => (r, v) = o) (atW dC dI cI cZ w (va_A (w u) sz)) (va_A (w u) sz)) 0 0 (va_A (w u) sz)
def MV (l : Launch) (y : MethodName) (ws : List Cond) (fr lo : Nat) (z : Option (Nat → Nat)) (dC : Nat → ClassId) (dI : Nat → Nat → Nat) (cI cZ : ClassId) (w : St → va_W) (av : List Value) (u : St) (o : Int32 × St) : Prop :=
  ∀ sz : Nat, Met l y ws (rmK fr lo) (va_Pc av (prW z dC dI cI cZ (w u) sz)) (va_Qv (fun (v : St) => ((0 : Int32), v) = o) (atW dC dI cI cZ w (va_A (w u) sz)) (va_A (w u) sz)) 0 0 (va_A (w u) sz)
theorem miOf {l : Launch} {y : MethodName} {ws ws' : List Cond} {fr lo : Nat} {z : Option (Nat → Nat)} {dC : Nat → ClassId} {dI : Nat → Nat → Nat} {cI cZ : ClassId} {w : St → va_W} {av : List Value} {u : St} {o : Int32 × St} {cc : ByteArray} {maxL : Nat} {ret : FieldType}
    (hy : plainName y.cls = true) (hw : ws = Cond.code y cc maxL (some ret) :: ws') (hmx : (lg_sl av).length ≤ maxL)
    (body : ∀ (p : Program) (e : Env) (s : State) (m : MethodId) (args : Array Value) (below : List Frame) (meth : Method) (c : Code) (A : Nat → Prop) (Q : State → Prop) (H : Heap) (locs : List Loc) (ls : Array Slot),
      p.tables.exec = Jvm.exec → c.code = cc → c.maxLocals = maxL → (∀ w ∈ ws, w.before args s = true) → s.vm.findClass y.cls = some m.cls → va_K (dC, dI) vwCl (tyW cI cZ) s → (∀ q : Nat, s.heap.size ≤ q → A q) → zP z A s s.heap →
      (∀ (H : Heap) (locs : List Loc) (ls : Array Slot) (pc : Nat) (r : Int32) (v : St), (r, v) = o → narrow ret (.int r) = .int r → va_P (dC, dI) vwCl (w v) H → va_D A (w v) → va_S A s.heap H locs → decode cc pc = .ok (.ireturn, 1) → W p l e (rmK fr lo) s m args below meth c H locs 0 0 Q (F0 m pc ls [.int r])) →
      va_P (dC, dI) vwCl (w u) H → va_D A (w u) → va_S A s.heap H locs → lv_has ls maxL (lv_args 0 av) → W p l e (rmK fr lo) s m args below meth c H locs 0 0 Q (F0 m 0 ls [])) : MI l y ws fr lo z dC dI cI cZ w av u o := by
  intro sz
  refine Met.ofW (cc := cc) (maxL := maxL) (ret := (some ret)) hy hw ?_
  intro p e s m args below meth c s₁ B hml hv
  obtain ⟨rfl, hsz, hP, hK, hD0, hz⟩ := hv
  subst hsz
  have hD := hD0.self (sz := s.heap.size)
  have hA : ∀ q : Nat, s.heap.size ≤ q → (va_A (w u) s.heap.size) q := fun q h => Or.inr h
  generalize va_A (w u) s.heap.size = A at hD hA hz ⊢
  have hl := lv_entry av (n := maxL) hmx
  rw [lg_entry_eq]
  generalize (lg_sl av ++ List.replicate (maxL - (lg_sl av).length) Slot.unset).toArray = ls at hl ⊢
  refine body p e s m _ below meth c A _ s.heap [] ls B.exec B.bytes hml (atoms_spec (ws := ws) B.pre) (findClass_of_methodNamed B.named) hK hA hz ?_ hP hD va_S.rf hl
  have hr := B.returns
  have hlocks := B.notSynchronized
  intro H locs ls pc r v he hn hP hD hS hdg
  exact W.zret B.exec B.bytes hr hn (fun t ht hW => ⟨⟨r, v, rfl, he, by rw [ht]; exact hP, va_K.moved hW.alike hK, hD⟩, hS.F ht⟩) hS.2.2 hdg
theorem mlOf {l : Launch} {y : MethodName} {ws ws' : List Cond} {fr lo : Nat} {z : Option (Nat → Nat)} {dC : Nat → ClassId} {dI : Nat → Nat → Nat} {cI cZ : ClassId} {w : St → va_W} {av : List Value} {u : St} {o : Int64 × St} {cc : ByteArray} {maxL : Nat}
    (hy : plainName y.cls = true) (hw : ws = Cond.code y cc maxL (some .long) :: ws') (hmx : (lg_sl av).length ≤ maxL)
    (body : ∀ (p : Program) (e : Env) (s : State) (m : MethodId) (args : Array Value) (below : List Frame) (meth : Method) (c : Code) (A : Nat → Prop) (Q : State → Prop) (H : Heap) (locs : List Loc) (ls : Array Slot),
      p.tables.exec = Jvm.exec → c.code = cc → c.maxLocals = maxL → (∀ w ∈ ws, w.before args s = true) → s.vm.findClass y.cls = some m.cls → va_K (dC, dI) vwCl (tyW cI cZ) s → (∀ q : Nat, s.heap.size ≤ q → A q) → zP z A s s.heap →
      (∀ (H : Heap) (locs : List Loc) (ls : Array Slot) (pc : Nat) (r : Int64) (v : St), (r, v) = o → va_P (dC, dI) vwCl (w v) H → va_D A (w v) → va_S A s.heap H locs → decode cc pc = .ok (.lreturn, 1) → W p l e (rmK fr lo) s m args below meth c H locs 0 0 Q (F0 m pc ls [.long r])) →
      va_P (dC, dI) vwCl (w u) H → va_D A (w u) → va_S A s.heap H locs → lv_has ls maxL (lv_args 0 av) → W p l e (rmK fr lo) s m args below meth c H locs 0 0 Q (F0 m 0 ls [])) : ML l y ws fr lo z dC dI cI cZ w av u o := by
  intro sz
  refine Met.ofW (cc := cc) (maxL := maxL) (ret := (some .long)) hy hw ?_
  intro p e s m args below meth c s₁ B hml hv
  obtain ⟨rfl, hsz, hP, hK, hD0, hz⟩ := hv
  subst hsz
  have hD := hD0.self (sz := s.heap.size)
  have hA : ∀ q : Nat, s.heap.size ≤ q → (va_A (w u) s.heap.size) q := fun q h => Or.inr h
  generalize va_A (w u) s.heap.size = A at hD hA hz ⊢
  have hl := lv_entry av (n := maxL) hmx
  rw [lg_entry_eq]
  generalize (lg_sl av ++ List.replicate (maxL - (lg_sl av).length) Slot.unset).toArray = ls at hl ⊢
  refine body p e s m _ below meth c A _ s.heap [] ls B.exec B.bytes hml (atoms_spec (ws := ws) B.pre) (findClass_of_methodNamed B.named) hK hA hz ?_ hP hD va_S.rf hl
  have hr := B.returns
  have hlocks := B.notSynchronized
  intro H locs ls pc r v he hP hD hS hdg
  exact W.lret B.exec B.bytes hr (fun t ht hW => ⟨⟨r, v, rfl, he, by rw [ht]; exact hP, va_K.moved hW.alike hK, hD⟩, hS.F ht⟩) hS.2.2 hdg
theorem mvOf {l : Launch} {y : MethodName} {ws ws' : List Cond} {fr lo : Nat} {z : Option (Nat → Nat)} {dC : Nat → ClassId} {dI : Nat → Nat → Nat} {cI cZ : ClassId} {w : St → va_W} {av : List Value} {u : St} {o : Int32 × St} {cc : ByteArray} {maxL : Nat}
    (hy : plainName y.cls = true) (hw : ws = Cond.code y cc maxL none :: ws') (hmx : (lg_sl av).length ≤ maxL)
    (body : ∀ (p : Program) (e : Env) (s : State) (m : MethodId) (args : Array Value) (below : List Frame) (meth : Method) (c : Code) (A : Nat → Prop) (Q : State → Prop) (H : Heap) (locs : List Loc) (ls : Array Slot),
      p.tables.exec = Jvm.exec → c.code = cc → c.maxLocals = maxL → (∀ w ∈ ws, w.before args s = true) → s.vm.findClass y.cls = some m.cls → va_K (dC, dI) vwCl (tyW cI cZ) s → (∀ q : Nat, s.heap.size ≤ q → A q) → zP z A s s.heap →
      (∀ (H : Heap) (locs : List Loc) (ls : Array Slot) (pc : Nat) (v : St), ((0 : Int32), v) = o → va_P (dC, dI) vwCl (w v) H → va_D A (w v) → va_S A s.heap H locs → decode cc pc = .ok (.return_, 1) → W p l e (rmK fr lo) s m args below meth c H locs 0 0 Q (F0 m pc ls [])) →
      va_P (dC, dI) vwCl (w u) H → va_D A (w u) → va_S A s.heap H locs → lv_has ls maxL (lv_args 0 av) → W p l e (rmK fr lo) s m args below meth c H locs 0 0 Q (F0 m 0 ls [])) : MV l y ws fr lo z dC dI cI cZ w av u o := by
  intro sz
  refine Met.ofW (cc := cc) (maxL := maxL) (ret := none) hy hw ?_
  intro p e s m args below meth c s₁ B hml hv
  obtain ⟨rfl, hsz, hP, hK, hD0, hz⟩ := hv
  subst hsz
  have hD := hD0.self (sz := s.heap.size)
  have hA : ∀ q : Nat, s.heap.size ≤ q → (va_A (w u) s.heap.size) q := fun q h => Or.inr h
  generalize va_A (w u) s.heap.size = A at hD hA hz ⊢
  have hl := lv_entry av (n := maxL) hmx
  rw [lg_entry_eq]
  generalize (lg_sl av ++ List.replicate (maxL - (lg_sl av).length) Slot.unset).toArray = ls at hl ⊢
  refine body p e s m _ below meth c A _ s.heap [] ls B.exec B.bytes hml (atoms_spec (ws := ws) B.pre) (findClass_of_methodNamed B.named) hK hA hz ?_ hP hD va_S.rf hl
  have hr := B.returns
  have hlocks := B.notSynchronized
  intro H locs ls pc v he hP hD hS hdg
  exact W.vret B.exec B.bytes hr (fun t ht hW => ⟨⟨v, rfl, he, by rw [ht]; exact hP, va_K.moved hW.alike hK, hD⟩, hS.F ht⟩) hS.2.2 hdg
theorem ck {P : Prop} [Decidable P] {α : Type} {x : Option α} {o : α} (h : (if P then none else x) = some o) : ¬ P ∧ x = some o := by
  by_cases hp : P
  · rw [if_pos hp] at h; cases h
  · rw [if_neg hp] at h; exact ⟨hp, h⟩
theorem ip {P : Prop} [Decidable P] {α : Type} {x y o : α} (hp : P) (h : (if P then x else y) = o) : x = o := by rw [if_pos hp] at h; exact h
theorem iq {P : Prop} [Decidable P] {α : Type} {x y o : α} (hp : ¬ P) (h : (if P then x else y) = o) : y = o := by rw [if_neg hp] at h; exact h
theorem bd {α β : Type} {x : Option α} {f : α → Option β} {o : β} (h : x.bind f = some o) : ∃ q, x = some q ∧ f q = some o := Option.bind_eq_some_iff.mp h
theorem nb01 {v : Int32} (h : ¬ ¬ (v = 0 ∨ v = 1)) : narrow .boolean (.int v) = .int v := by
  rcases Decidable.not_not.mp h with rfl | rfl <;> rfl
theorem nz0 : vp_nar .boolean 0 = 0 := by decide
theorem nz1 : vp_nar .boolean 1 = 1 := by decide
theorem sw_out {x : Int32} {lo hi : Int} (h : ∀ v : Int, lo ≤ v → v ≤ hi → ¬ x.toInt = v) : x.toInt < lo ∨ hi < x.toInt := by
  rcases Int.lt_or_le x.toInt lo with h1 | h1
  · exact Or.inl h1
  · rcases Int.lt_or_le hi x.toInt with h2 | h2
    · exact Or.inr h2
    · exact absurd rfl (h x.toInt h1 h2)
theorem va_freeW {A : Nat → Prop} {ws : va_W} {H0 H : Heap} {locs : List Loc} (hD : va_D A ws) (hS : va_S A H0 H locs) (hA : ∀ q : Nat, H0.size ≤ q → A q) : ∀ q, va_A ws H.size q → A q := fun q h => h.elim (fun ⟨k, e, h⟩ => hD.2 k (q, e) h) (fun h => hA q (Nat.le_trans hS.1 h))
section CALLS
variable {p : Program} {l : Launch} {e : Env} {R : Room} {s : State} {m : MethodId} {args : Array Value} {below : List Frame} {meth : Method} {c : Code} {H : Heap} {locs : List Loc} {Q : State → Prop} {cc : ByteArray} {nL pc index n maxL fr lo q0 ci b : Nat} {Ts ws ws' : List Cond} {own C : String} {y : MethodName} {bytes : ByteArray} {ret : Option FieldType} {z : Option (Nat → Nat)} {dC : Nat → ClassId} {dI : Nat → Nat → Nat} {cI cZ : ClassId} {w : St → va_W} {As rest st0 : List Value} {u : St} {A : Nat → Prop} {ls : Array Slot} {cq : vw_C} {fs : List Value}
theorem pre_blind {av : List Value} {wq : va_W} {sz : Nat} : FrameBlind (va_Pc av (prW z dC dI cI cZ wq sz)) := fun a U g mk q => by
  obtain ⟨q0, q1, qP, qK, qD, qz⟩ := q
  exact ⟨q0, q1, qP, va_K.moved (u := U) (U := U.calling g mk a) (Vm.Alike.refl U.vm) qK, qD, zP.of (s := U) (U := U.calling g mk a) qz (Vm.Alike.refl U.vm) (fun h => vk_R.same rfl h) (fun _ _ _ => rfl) (fun _ h => h)⟩
theorem pre_hold {av : List Value} (hz : zP z A s s.heap) (hK : va_K (dC, dI) vwCl (tyW cI cZ) s) (hP : va_P (dC, dI) vwCl (w u) H) (hD : va_D A (w u)) (hS : va_S A s.heap H locs) (hA : ∀ q : Nat, s.heap.size ≤ q → A q) (U : State) (hU : U.heap = H) (hW : s.WarmedH U.vm) : va_Pc av (prW z dC dI cI cZ (w u) H.size) av.toArray U := by
  refine ⟨rfl, by rw [hU], by rw [hU]; exact hP, va_K.moved hW.alike hK, hD.weaken (fun _ _ _ _ => trivial), ?_⟩
  rw [hU]
  exact zP.of hz hW.alike (fun h => vk_R.warm hW h) hS.2.1 (va_freeW hD hS hA)
theorem callVI {o : Int32 × St} (S : CallFix p m c cc nL s args Ts own) (hM : MI l y ws fr lo z dC dI cI cZ w (.ref b :: As) u o) (hG : GoodIn Ts (wsV own index C y ws)) (hw : ws = Cond.code y bytes maxL ret :: ws') (hd : y.cls = C ∧ y.cls ≠ "java/lang/invoke/MethodHandle" ∧ y.cls ≠ "java/lang/invoke/VarHandle" ∧ (parseMethodDescriptor y.desc).map (fun d => d.parameters.length) = some n) (hrc : vwCl[ci]? = some cq) (hq : cq.1 = C) (he : (w u)[q0]? = some (b, .inr (ci, fs))) (hR : fr + 1 ≤ R.frames ∧ 8 + (maxL + 11) + lo ≤ R.locals)
    (hz : zP z A s s.heap) (hK : va_K (dC, dI) vwCl (tyW cI cZ) s) (hP : va_P (dC, dI) vwCl (w u) H) (hD : va_D A (w u)) (hS : va_S A s.heap H locs) (hA : ∀ q : Nat, s.heap.size ≤ q → A q)
    (hn : As.length = n) (hsize : ls.size = nL) (hst : st0 = As.reverse ++ .ref b :: rest) (hlm : (rest.map fun v => v.category).sum ≤ 8) (hdg : decode cc pc = .ok (.invokevirtual index, 3))
    (kk : ∀ (H : Heap) (locs : List Loc), va_P (dC, dI) vwCl (w o.2) H → va_D A (w o.2) → va_S A s.heap H locs → W p l e R s m args below meth c H locs 0 0 Q (F0 m (pc + 3) ls (.int o.1 :: rest))) : W p l e R s m args below meth c H locs 0 0 Q (F0 m pc ls st0) := by
  have hFc := va_freeW hD hS hA
  refine va_calli (va_runV (As := As) (rest := rest) (g := F0 m pc ls st0) S (hM H.size) (cwV n S.2.2.2.2 hG hw rfl rfl hd hR) ⟨pre_blind, by rw [← hq]; exact va_recv hK hP hrc he, pre_hold hz hK hP hD hS hA⟩ rfl hn hsize hst (lv_room hlm) hdg ⟨Nat.zero_le _, Nat.zero_le _⟩) hS (fun q _ h => hFc q h) hFc (fun r_ v t H1 locs1 ht hvm hw9 hB hz1 hk1 hS => ?_)
  obtain ⟨hP1, hK1, hD1⟩ := hB
  rw [ht] at hP1
  cases hw9
  exact kk H1 locs1 hP1 (hD1.weaken (fun k q _ h => hFc q.1 h)) hS
theorem callSI {o : Int32 × St} (S : CallFix p m c cc nL s args Ts own) (hM : MI l y ws fr lo z dC dI cI cZ w As u o) (hG : GoodIn Ts (va_wsS own index y ws)) (hw : ws = Cond.code y bytes maxL ret :: ws') (hd : y.cls ≠ "java/lang/invoke/MethodHandle" ∧ y.cls ≠ "java/lang/invoke/VarHandle" ∧ (parseMethodDescriptor y.desc).map (fun d => d.parameters.length) = some n) (hR : fr + 1 ≤ R.frames ∧ 8 + (maxL + 11) + lo ≤ R.locals)
    (hz : zP z A s s.heap) (hK : va_K (dC, dI) vwCl (tyW cI cZ) s) (hP : va_P (dC, dI) vwCl (w u) H) (hD : va_D A (w u)) (hS : va_S A s.heap H locs) (hA : ∀ q : Nat, s.heap.size ≤ q → A q)
    (hn : As.length = n) (hsize : ls.size = nL) (hst : st0 = As.reverse ++ rest) (hlm : (rest.map fun v => v.category).sum ≤ 8) (hdg : decode cc pc = .ok (.invokestatic index, 3))
    (kk : ∀ (H : Heap) (locs : List Loc), va_P (dC, dI) vwCl (w o.2) H → va_D A (w o.2) → va_S A s.heap H locs → W p l e R s m args below meth c H locs 0 0 Q (F0 m (pc + 3) ls (.int o.1 :: rest))) : W p l e R s m args below meth c H locs 0 0 Q (F0 m pc ls st0) := by
  have hFc := va_freeW hD hS hA
  refine va_calli (va_runS (As := As) (rest := rest) (g := F0 m pc ls st0) S (hM H.size) (va_cwS n S.2.2.2.2 hG hw rfl rfl hd hR) ⟨pre_blind, pre_hold hz hK hP hD hS hA⟩ rfl hn hsize hst (lv_room hlm) hdg ⟨Nat.zero_le _, Nat.zero_le _⟩) hS (fun q _ h => hFc q h) hFc (fun r_ v t H1 locs1 ht hvm hw9 hB hz1 hk1 hS => ?_)
  obtain ⟨hP1, hK1, hD1⟩ := hB
  rw [ht] at hP1
  cases hw9
  exact kk H1 locs1 hP1 (hD1.weaken (fun k q _ h => hFc q.1 h)) hS
theorem callVL {o : Int64 × St} (S : CallFix p m c cc nL s args Ts own) (hM : ML l y ws fr lo z dC dI cI cZ w (.ref b :: As) u o) (hG : GoodIn Ts (wsV own index C y ws)) (hw : ws = Cond.code y bytes maxL ret :: ws') (hd : y.cls = C ∧ y.cls ≠ "java/lang/invoke/MethodHandle" ∧ y.cls ≠ "java/lang/invoke/VarHandle" ∧ (parseMethodDescriptor y.desc).map (fun d => d.parameters.length) = some n) (hrc : vwCl[ci]? = some cq) (hq : cq.1 = C) (he : (w u)[q0]? = some (b, .inr (ci, fs))) (hR : fr + 1 ≤ R.frames ∧ 8 + (maxL + 11) + lo ≤ R.locals)
    (hz : zP z A s s.heap) (hK : va_K (dC, dI) vwCl (tyW cI cZ) s) (hP : va_P (dC, dI) vwCl (w u) H) (hD : va_D A (w u)) (hS : va_S A s.heap H locs) (hA : ∀ q : Nat, s.heap.size ≤ q → A q)
    (hn : As.length = n) (hsize : ls.size = nL) (hst : st0 = As.reverse ++ .ref b :: rest) (hlm : (rest.map fun v => v.category).sum ≤ 8) (hdg : decode cc pc = .ok (.invokevirtual index, 3))
    (kk : ∀ (H : Heap) (locs : List Loc), va_P (dC, dI) vwCl (w o.2) H → va_D A (w o.2) → va_S A s.heap H locs → W p l e R s m args below meth c H locs 0 0 Q (F0 m (pc + 3) ls (.long o.1 :: rest))) : W p l e R s m args below meth c H locs 0 0 Q (F0 m pc ls st0) := by
  have hFc := va_freeW hD hS hA
  refine va_calll (va_runV (As := As) (rest := rest) (g := F0 m pc ls st0) S (hM H.size) (cwV n S.2.2.2.2 hG hw rfl rfl hd hR) ⟨pre_blind, by rw [← hq]; exact va_recv hK hP hrc he, pre_hold hz hK hP hD hS hA⟩ rfl hn hsize hst (lv_room hlm) hdg ⟨Nat.zero_le _, Nat.zero_le _⟩) hS (fun q _ h => hFc q h) hFc (fun r_ v t H1 locs1 ht hvm hw9 hB hz1 hk1 hS => ?_)
  obtain ⟨hP1, hK1, hD1⟩ := hB
  rw [ht] at hP1
  cases hw9
  exact kk H1 locs1 hP1 (hD1.weaken (fun k q _ h => hFc q.1 h)) hS
theorem callVV {o : Int32 × St} (S : CallFix p m c cc nL s args Ts own) (hM : MV l y ws fr lo z dC dI cI cZ w (.ref b :: As) u o) (hG : GoodIn Ts (wsV own index C y ws)) (hw : ws = Cond.code y bytes maxL ret :: ws') (hd : y.cls = C ∧ y.cls ≠ "java/lang/invoke/MethodHandle" ∧ y.cls ≠ "java/lang/invoke/VarHandle" ∧ (parseMethodDescriptor y.desc).map (fun d => d.parameters.length) = some n) (hrc : vwCl[ci]? = some cq) (hq : cq.1 = C) (he : (w u)[q0]? = some (b, .inr (ci, fs))) (hR : fr + 1 ≤ R.frames ∧ 8 + (maxL + 11) + lo ≤ R.locals)
    (hz : zP z A s s.heap) (hK : va_K (dC, dI) vwCl (tyW cI cZ) s) (hP : va_P (dC, dI) vwCl (w u) H) (hD : va_D A (w u)) (hS : va_S A s.heap H locs) (hA : ∀ q : Nat, s.heap.size ≤ q → A q)
    (hn : As.length = n) (hsize : ls.size = nL) (hst : st0 = As.reverse ++ .ref b :: rest) (hlm : (rest.map fun v => v.category).sum ≤ 8) (hdg : decode cc pc = .ok (.invokevirtual index, 3))
    (kk : ∀ (H : Heap) (locs : List Loc), va_P (dC, dI) vwCl (w o.2) H → va_D A (w o.2) → va_S A s.heap H locs → W p l e R s m args below meth c H locs 0 0 Q (F0 m (pc + 3) ls rest)) : W p l e R s m args below meth c H locs 0 0 Q (F0 m pc ls st0) := by
  have hFc := va_freeW hD hS hA
  refine va_callv (va_runV (As := As) (rest := rest) (g := F0 m pc ls st0) S (hM H.size) (cwV n S.2.2.2.2 hG hw rfl rfl hd hR) ⟨pre_blind, by rw [← hq]; exact va_recv hK hP hrc he, pre_hold hz hK hP hD hS hA⟩ rfl hn hsize hst (lv_room hlm) hdg ⟨Nat.zero_le _, Nat.zero_le _⟩) hS (fun q _ h => hFc q h) hFc (fun v t H1 locs1 ht hvm hw9 hB hz1 hk1 hS => ?_)
  obtain ⟨hP1, hK1, hD1⟩ := hB
  rw [ht] at hP1
  cases hw9
  exact kk H1 locs1 hP1 (hD1.weaken (fun k q _ h => hFc q.1 h)) hS
end CALLS
/-- from here, with these locals and this stack, in every heap that holds u, the machine comes to Q -/
abbrev GW (p : Program) (l : Launch) (e : Env) (R : Room) (s : State) (m : MethodId) (args : Array Value) (below : List Frame) (meth : Method) (c : Code) (Q : State → Prop) (dC : Nat → ClassId) (dI : Nat → Nat → Nat) (w : St → va_W) (A : Nat → Prop) (nL pc : Nat) (lv : List (Nat × Value)) (st : List Value) (u : St) : Prop :=
  ∀ (H : Heap) (locs : List Loc) (ls : Array Slot), va_P (dC, dI) vwCl (w u) H → va_D A (w u) → va_S A s.heap H locs → lv_has ls nL lv → W p l e R s m args below meth c H locs 0 0 Q (F0 m pc ls st)
end
