/-! THE CLAIM OUT OF ONE WALK OF THE LAW'S BODY. Your part is whole_start (and what it stands on); all else here is the same for every law, but numbers. -/
def R_law : String := "CountedHeapLaw"
def lw_P (b : Addr) (xs : List Int32) (args : Array Value) (s : State) : Prop := args = #[.ref b] ∧ s.IntsAt b xs ∧ xs.length ≤ 2560 ∧ (Jvm.Cond.and given_1 narrow_1).before args s = true
def lw_Q (_ : Array Value) (s : State) (o : Outcome) (t : State) : Prop := o = .returned (some (.int 1)) ∧ Framed s o t [] 1059 9134
def lw_Z (below : List Frame) (a : Array Value) (s : State) : State → Prop := fun t => ∃ o, t.status = .running ∧ Ended t below o ∧ lw_Q a s o t
/-- the law's own end, with 1 on the stack, nothing written that was there before, its room as the claim has it -/
theorem lw_ret {p : Program} {l : Launch} {e : Env} {s : State} {m : MethodId} {below : List Frame} {meth : Method} {c : Code} {b : Nat} (hx : p.tables.exec = Jvm.exec) (hb : c.code = code) (hr : meth.sig.returnType = ret) (hlocks : meth.locks = false) {pc : Nat} {H : Heap} {ls : Array Slot} (hdg : decode code pc = .ok (.ireturn, 1)) : W p l e room_1 s m #[Value.ref b] below meth c H [] 1059 9134 (lw_Z below #[Value.ref b] s) (F0 m pc ls [.int 1]) := by
  intro T hT X
  obtain ⟨fs, hret, hrun, hended, hW, hframe⟩ := X.leave (v := some (.int 1)) (hlocks := hlocks) (fun h => by rw [hr] at h; cases h)
  have hmeth' : T.vm.method? m = some meth := X.method'
  refine ⟨T.setFrames fs, ?_, .returned (some (.int 1)), hrun, hended, rfl, ⟨_, rfl⟩, hW, hframe⟩
  jvm_step X.here [X.here.top, hx, hb, hdg, hmeth', hr, ret, narrow_b1]
  (try refine ⟨rfl, ?_⟩); (try refine ⟨rfl, ?_⟩)
  first | (intro acts; rw [hret _ acts rfl rfl rfl]) | rw [hret _ _ rfl rfl rfl]
  exact Steps.refl _
/-- what holds at the law's entry: the machine, the code, the tables' words (any of lw_tbl by 'hts w (by decide +kernel)'), the script of L ints xs at the cell b, what the Statement gives of the start (any of its parts by flat_of_before) -/
def lw_At (p : Program) (s : State) (m : MethodId) (meth : Method) (c : Code) (b L : Nat) (xs : Nat → Int32) : Prop :=
  p.tables.exec = Jvm.exec ∧ c.code = code ∧ meth.sig.returnType = ret ∧ c.maxLocals = 7 ∧ s.vm.findClass R_law = some m.cls ∧ (∀ w ∈ lw_tbl, w.before #[Value.ref b] s = true) ∧ va_X b L xs s s.heap ∧ b < s.heap.size ∧ meth.locks = false ∧ (Jvm.Cond.and given_1 narrow_1).before #[Value.ref b] s = true

theorem law_rlX {s : State} {args : Array Value} (hs : ∀ c ∈ flatC (Jvm.Cond.and given_1 narrow_1), c.before args s = true) (hts : ∀ w ∈ lw_tbl, w.before args s = true) : ∃ t : Nat, va_Z "CountedHeap" "ROLE_OF_X" "[I" (.ref t) (fun q : Nat => s.heap.size ≤ q) s s.heap ∧ va_T .int t 15 (fun j => .int (rlX j)) (fun q : Nat => s.heap.size ≤ q) s s.heap := by
  have hA : ∀ a : Nat, a < s.heap.size → ¬ (fun q : Nat => s.heap.size ≤ q) a := fun a h => Nat.not_le.mpr h
  obtain ⟨t, h1, h2⟩ := va_Tof (args := args) (s := s) (tm := .static "CountedHeap" "ROLE_OF_X" "[I") (ty := .int) (N := 15) (f := fun j => .int (rlX j)) (A := fun q : Nat => s.heap.size ≤ q) (by decide) (hs (Cond.arrayOf (.static "CountedHeap" "ROLE_OF_X" "[I") .int) (by decide +kernel)) (va_eqt (hs (Cond.eq (.length (.static "CountedHeap" "ROLE_OF_X" "[I")) (.int 15)) (by decide +kernel))) (by
    intro j hj
    rcases (show j = 0 ∨ j = 1 ∨ j = 2 ∨ j = 3 ∨ j = 4 ∨ j = 5 ∨ j = 6 ∨ j = 7 ∨ j = 8 ∨ j = 9 ∨ j = 10 ∨ j = 11 ∨ j = 12 ∨ j = 13 ∨ j = 14 by omega) with rfl | rfl | rfl | rfl | rfl | rfl | rfl | rfl | rfl | rfl | rfl | rfl | rfl | rfl | rfl
    · exact va_eqt (hs (Cond.eq (.elem (.static "CountedHeap" "ROLE_OF_X" "[I") (.int 0)) (.int 0)) (by decide +kernel))
    · exact va_eqt (hs (Cond.eq (.elem (.static "CountedHeap" "ROLE_OF_X" "[I") (.int 1)) (.int 1)) (by decide +kernel))
    · exact va_eqt (hs (Cond.eq (.elem (.static "CountedHeap" "ROLE_OF_X" "[I") (.int 2)) (.int 1)) (by decide +kernel))
    · exact va_eqt (hs (Cond.eq (.elem (.static "CountedHeap" "ROLE_OF_X" "[I") (.int 3)) (.int 1)) (by decide +kernel))
    · exact va_eqt (hs (Cond.eq (.elem (.static "CountedHeap" "ROLE_OF_X" "[I") (.int 4)) (.int 1)) (by decide +kernel))
    · exact va_eqt (hs (Cond.eq (.elem (.static "CountedHeap" "ROLE_OF_X" "[I") (.int 5)) (.int 1)) (by decide +kernel))
    · exact va_eqt (hs (Cond.eq (.elem (.static "CountedHeap" "ROLE_OF_X" "[I") (.int 6)) (.int 1)) (by decide +kernel))
    · exact va_eqt (hs (Cond.eq (.elem (.static "CountedHeap" "ROLE_OF_X" "[I") (.int 7)) (.int 3)) (by decide +kernel))
    · exact va_eqt (hs (Cond.eq (.elem (.static "CountedHeap" "ROLE_OF_X" "[I") (.int 8)) (.int 3)) (by decide +kernel))
    · exact va_eqt (hs (Cond.eq (.elem (.static "CountedHeap" "ROLE_OF_X" "[I") (.int 9)) (.int 2)) (by decide +kernel))
    · exact va_eqt (hs (Cond.eq (.elem (.static "CountedHeap" "ROLE_OF_X" "[I") (.int 10)) (.int 2)) (by decide +kernel))
    · exact va_eqt (hs (Cond.eq (.elem (.static "CountedHeap" "ROLE_OF_X" "[I") (.int 11)) (.int 2)) (by decide +kernel))
    · exact va_eqt (hs (Cond.eq (.elem (.static "CountedHeap" "ROLE_OF_X" "[I") (.int 12)) (.int 1)) (by decide +kernel))
    · exact va_eqt (hs (Cond.eq (.elem (.static "CountedHeap" "ROLE_OF_X" "[I") (.int 13)) (.int 3)) (by decide +kernel))
    · exact va_eqt (hs (Cond.eq (.elem (.static "CountedHeap" "ROLE_OF_X" "[I") (.int 14)) (.int 0)) (by decide +kernel))
    ) hA
  exact ⟨t, va_Zof (hts (.laysStatic "CountedHeap" "ROLE_OF_X" "[I") (by decide +kernel)) (hts (.initialized "CountedHeap") (by decide +kernel)) h1 hA, h2⟩

theorem law_rlY {s : State} {args : Array Value} (hs : ∀ c ∈ flatC (Jvm.Cond.and given_1 narrow_1), c.before args s = true) (hts : ∀ w ∈ lw_tbl, w.before args s = true) : ∃ t : Nat, va_Z "CountedHeap" "ROLE_OF_Y" "[I" (.ref t) (fun q : Nat => s.heap.size ≤ q) s s.heap ∧ va_T .int t 15 (fun j => .int (rlY j)) (fun q : Nat => s.heap.size ≤ q) s s.heap := by
  have hA : ∀ a : Nat, a < s.heap.size → ¬ (fun q : Nat => s.heap.size ≤ q) a := fun a h => Nat.not_le.mpr h
  obtain ⟨t, h1, h2⟩ := va_Tof (args := args) (s := s) (tm := .static "CountedHeap" "ROLE_OF_Y" "[I") (ty := .int) (N := 15) (f := fun j => .int (rlY j)) (A := fun q : Nat => s.heap.size ≤ q) (by decide) (hs (Cond.arrayOf (.static "CountedHeap" "ROLE_OF_Y" "[I") .int) (by decide +kernel)) (va_eqt (hs (Cond.eq (.length (.static "CountedHeap" "ROLE_OF_Y" "[I")) (.int 15)) (by decide +kernel))) (by
    intro j hj
    rcases (show j = 0 ∨ j = 1 ∨ j = 2 ∨ j = 3 ∨ j = 4 ∨ j = 5 ∨ j = 6 ∨ j = 7 ∨ j = 8 ∨ j = 9 ∨ j = 10 ∨ j = 11 ∨ j = 12 ∨ j = 13 ∨ j = 14 by omega) with rfl | rfl | rfl | rfl | rfl | rfl | rfl | rfl | rfl | rfl | rfl | rfl | rfl | rfl | rfl
    · exact va_eqt (hs (Cond.eq (.elem (.static "CountedHeap" "ROLE_OF_Y" "[I") (.int 0)) (.int 0)) (by decide +kernel))
    · exact va_eqt (hs (Cond.eq (.elem (.static "CountedHeap" "ROLE_OF_Y" "[I") (.int 1)) (.int 0)) (by decide +kernel))
    · exact va_eqt (hs (Cond.eq (.elem (.static "CountedHeap" "ROLE_OF_Y" "[I") (.int 2)) (.int 1)) (by decide +kernel))
    · exact va_eqt (hs (Cond.eq (.elem (.static "CountedHeap" "ROLE_OF_Y" "[I") (.int 3)) (.int 1)) (by decide +kernel))
    · exact va_eqt (hs (Cond.eq (.elem (.static "CountedHeap" "ROLE_OF_Y" "[I") (.int 4)) (.int 1)) (by decide +kernel))
    · exact va_eqt (hs (Cond.eq (.elem (.static "CountedHeap" "ROLE_OF_Y" "[I") (.int 5)) (.int 1)) (by decide +kernel))
    · exact va_eqt (hs (Cond.eq (.elem (.static "CountedHeap" "ROLE_OF_Y" "[I") (.int 6)) (.int 1)) (by decide +kernel))
    · exact va_eqt (hs (Cond.eq (.elem (.static "CountedHeap" "ROLE_OF_Y" "[I") (.int 7)) (.int 0)) (by decide +kernel))
    · exact va_eqt (hs (Cond.eq (.elem (.static "CountedHeap" "ROLE_OF_Y" "[I") (.int 8)) (.int 1)) (by decide +kernel))
    · exact va_eqt (hs (Cond.eq (.elem (.static "CountedHeap" "ROLE_OF_Y" "[I") (.int 9)) (.int 4)) (by decide +kernel))
    · exact va_eqt (hs (Cond.eq (.elem (.static "CountedHeap" "ROLE_OF_Y" "[I") (.int 10)) (.int 2)) (by decide +kernel))
    · exact va_eqt (hs (Cond.eq (.elem (.static "CountedHeap" "ROLE_OF_Y" "[I") (.int 11)) (.int 0)) (by decide +kernel))
    · exact va_eqt (hs (Cond.eq (.elem (.static "CountedHeap" "ROLE_OF_Y" "[I") (.int 12)) (.int 2)) (by decide +kernel))
    · exact va_eqt (hs (Cond.eq (.elem (.static "CountedHeap" "ROLE_OF_Y" "[I") (.int 13)) (.int 0)) (by decide +kernel))
    · exact va_eqt (hs (Cond.eq (.elem (.static "CountedHeap" "ROLE_OF_Y" "[I") (.int 14)) (.int 0)) (by decide +kernel))
    ) hA
  exact ⟨t, va_Zof (hts (.laysStatic "CountedHeap" "ROLE_OF_Y" "[I") (by decide +kernel)) (hts (.initialized "CountedHeap") (by decide +kernel)) h1 hA, h2⟩

theorem law_rlZ {s : State} {args : Array Value} (hs : ∀ c ∈ flatC (Jvm.Cond.and given_1 narrow_1), c.before args s = true) (hts : ∀ w ∈ lw_tbl, w.before args s = true) : ∃ t : Nat, va_Z "CountedHeap" "ROLE_OF_Z" "[I" (.ref t) (fun q : Nat => s.heap.size ≤ q) s s.heap ∧ va_T .int t 15 (fun j => .int (rlZ j)) (fun q : Nat => s.heap.size ≤ q) s s.heap := by
  have hA : ∀ a : Nat, a < s.heap.size → ¬ (fun q : Nat => s.heap.size ≤ q) a := fun a h => Nat.not_le.mpr h
  obtain ⟨t, h1, h2⟩ := va_Tof (args := args) (s := s) (tm := .static "CountedHeap" "ROLE_OF_Z" "[I") (ty := .int) (N := 15) (f := fun j => .int (rlZ j)) (A := fun q : Nat => s.heap.size ≤ q) (by decide) (hs (Cond.arrayOf (.static "CountedHeap" "ROLE_OF_Z" "[I") .int) (by decide +kernel)) (va_eqt (hs (Cond.eq (.length (.static "CountedHeap" "ROLE_OF_Z" "[I")) (.int 15)) (by decide +kernel))) (by
    intro j hj
    rcases (show j = 0 ∨ j = 1 ∨ j = 2 ∨ j = 3 ∨ j = 4 ∨ j = 5 ∨ j = 6 ∨ j = 7 ∨ j = 8 ∨ j = 9 ∨ j = 10 ∨ j = 11 ∨ j = 12 ∨ j = 13 ∨ j = 14 by omega) with rfl | rfl | rfl | rfl | rfl | rfl | rfl | rfl | rfl | rfl | rfl | rfl | rfl | rfl | rfl
    · exact va_eqt (hs (Cond.eq (.elem (.static "CountedHeap" "ROLE_OF_Z" "[I") (.int 0)) (.int 0)) (by decide +kernel))
    · exact va_eqt (hs (Cond.eq (.elem (.static "CountedHeap" "ROLE_OF_Z" "[I") (.int 1)) (.int 0)) (by decide +kernel))
    · exact va_eqt (hs (Cond.eq (.elem (.static "CountedHeap" "ROLE_OF_Z" "[I") (.int 2)) (.int 0)) (by decide +kernel))
    · exact va_eqt (hs (Cond.eq (.elem (.static "CountedHeap" "ROLE_OF_Z" "[I") (.int 3)) (.int 1)) (by decide +kernel))
    · exact va_eqt (hs (Cond.eq (.elem (.static "CountedHeap" "ROLE_OF_Z" "[I") (.int 4)) (.int 1)) (by decide +kernel))
    · exact va_eqt (hs (Cond.eq (.elem (.static "CountedHeap" "ROLE_OF_Z" "[I") (.int 5)) (.int 1)) (by decide +kernel))
    · exact va_eqt (hs (Cond.eq (.elem (.static "CountedHeap" "ROLE_OF_Z" "[I") (.int 6)) (.int 1)) (by decide +kernel))
    · exact va_eqt (hs (Cond.eq (.elem (.static "CountedHeap" "ROLE_OF_Z" "[I") (.int 7)) (.int 0)) (by decide +kernel))
    · exact va_eqt (hs (Cond.eq (.elem (.static "CountedHeap" "ROLE_OF_Z" "[I") (.int 8)) (.int 0)) (by decide +kernel))
    · exact va_eqt (hs (Cond.eq (.elem (.static "CountedHeap" "ROLE_OF_Z" "[I") (.int 9)) (.int 0)) (by decide +kernel))
    · exact va_eqt (hs (Cond.eq (.elem (.static "CountedHeap" "ROLE_OF_Z" "[I") (.int 10)) (.int 0)) (by decide +kernel))
    · exact va_eqt (hs (Cond.eq (.elem (.static "CountedHeap" "ROLE_OF_Z" "[I") (.int 11)) (.int 0)) (by decide +kernel))
    · exact va_eqt (hs (Cond.eq (.elem (.static "CountedHeap" "ROLE_OF_Z" "[I") (.int 12)) (.int 2)) (by decide +kernel))
    · exact va_eqt (hs (Cond.eq (.elem (.static "CountedHeap" "ROLE_OF_Z" "[I") (.int 13)) (.int 0)) (by decide +kernel))
    · exact va_eqt (hs (Cond.eq (.elem (.static "CountedHeap" "ROLE_OF_Z" "[I") (.int 14)) (.int 0)) (by decide +kernel))
    ) hA
  exact ⟨t, va_Zof (hts (.laysStatic "CountedHeap" "ROLE_OF_Z" "[I") (by decide +kernel)) (hts (.initialized "CountedHeap") (by decide +kernel)) h1 hA, h2⟩

theorem law_str {s : State} {args : Array Value} (hs : ∀ c ∈ flatC (Jvm.Cond.and given_1 narrow_1), c.before args s = true) (hts : ∀ w ∈ lw_tbl, w.before args s = true) : ∀ q ∈ strs, ∃ sa : Nat, vk_R RX2 q.1 q.2 sa s := by
  intro q hq
  simp only [strs, List.mem_cons, List.not_mem_nil, or_false] at hq
  rcases hq with rfl | rfl | rfl | rfl | rfl | rfl | rfl
  · obtain ⟨a, -, -, -, hb, -⟩ := Cond.exactly_spec (args := args) (first := s) (o := none) (s := s) (idx := []) (t := .string "CountedHeap" 79) (cls := "java/lang/String") (hs (Cond.exactly (.string "CountedHeap" 79) "java/lang/String") (by decide +kernel))
    exact ⟨a, vk_R.of (A := args) (hts (.stringRef "CountedHeap" 79 "the number of instructions is not 0 .. 500") (by decide +kernel)) hb⟩
  · obtain ⟨a, -, -, -, hb, -⟩ := Cond.exactly_spec (args := args) (first := s) (o := none) (s := s) (idx := []) (t := .string "CountedHeap" 177) (cls := "java/lang/String") (hs (Cond.exactly (.string "CountedHeap" 177) "java/lang/String") (by decide +kernel))
    exact ⟨a, vk_R.of (A := args) (hts (.stringRef "CountedHeap" 177 "the operand is of the other kind") (by decide +kernel)) hb⟩
  · obtain ⟨a, -, -, -, hb, -⟩ := Cond.exactly_spec (args := args) (first := s) (o := none) (s := s) (idx := []) (t := .string "CountedHeap" 181) (cls := "java/lang/String") (hs (Cond.exactly (.string "CountedHeap" 181) "java/lang/String") (by decide +kernel))
    exact ⟨a, vk_R.of (A := args) (hts (.stringRef "CountedHeap" 181 "the operand's pointer is nil") (by decide +kernel)) hb⟩
  · obtain ⟨a, -, -, -, hb, -⟩ := Cond.exactly_spec (args := args) (first := s) (o := none) (s := s) (idx := []) (t := .string "CountedHeap" 186) (cls := "java/lang/String") (hs (Cond.exactly (.string "CountedHeap" 186) "java/lang/String") (by decide +kernel))
    exact ⟨a, vk_R.of (A := args) (hts (.stringRef "CountedHeap" 186 "the block has no such word") (by decide +kernel)) hb⟩
  · obtain ⟨a, -, -, -, hb, -⟩ := Cond.exactly_spec (args := args) (first := s) (o := none) (s := s) (idx := []) (t := .string "CountedHeap" 192) (cls := "java/lang/String") (hs (Cond.exactly (.string "CountedHeap" 192) "java/lang/String") (by decide +kernel))
    exact ⟨a, vk_R.of (A := args) (hts (.stringRef "CountedHeap" 192 "there are 24 blocks") (by decide +kernel)) hb⟩
  · obtain ⟨a, -, -, -, hb, -⟩ := Cond.exactly_spec (args := args) (first := s) (o := none) (s := s) (idx := []) (t := .string "CountedHeap" 195) (cls := "java/lang/String") (hs (Cond.exactly (.string "CountedHeap" 195) "java/lang/String") (by decide +kernel))
    exact ⟨a, vk_R.of (A := args) (hts (.stringRef "CountedHeap" 195 "the stack is full") (by decide +kernel)) hb⟩
  · obtain ⟨a, -, -, -, hb, -⟩ := Cond.exactly_spec (args := args) (first := s) (o := none) (s := s) (idx := []) (t := .string "CountedHeap" 197) (cls := "java/lang/String") (hs (Cond.exactly (.string "CountedHeap" 197) "java/lang/String") (by decide +kernel))
    exact ⟨a, vk_R.of (A := args) (hts (.stringRef "CountedHeap" 197 "the stack is empty") (by decide +kernel)) hb⟩
theorem law_dcl {s : State} {args : Array Value} (hts : ∀ w ∈ lw_tbl, w.before args s = true) : ∀ y ∈ dcls, va_Nw (.declares y) s := by
  intro y hy
  simp only [dcls, List.mem_cons, List.not_mem_nil, or_false] at hy
  rcases hy with rfl | rfl | rfl
  · exact va_Nw.of (A := args) rfl (hts _ (by decide +kernel))
  · exact va_Nw.of (A := args) rfl (hts _ (by decide +kernel))
  · exact va_Nw.of (A := args) rfl (hts _ (by decide +kernel))
theorem law_cst {s : State} {args : Array Value} (hts : ∀ w ∈ lw_tbl, w.before args s = true) : ∀ k : Nat, k < 5 → va_Nw (.castable (exn k) (exn k)) s := by
  intro k hk
  rcases (show k = 0 ∨ k = 1 ∨ k = 2 ∨ k = 3 ∨ k = 4 by omega) with rfl | rfl | rfl | rfl | rfl
  · exact va_Nw.of (A := args) rfl (hts _ (by decide +kernel))
  · exact va_Nw.of (A := args) rfl (hts _ (by decide +kernel))
  · exact va_Nw.of (A := args) rfl (hts _ (by decide +kernel))
  · exact va_Nw.of (A := args) rfl (hts _ (by decide +kernel))
  · exact va_Nw.of (A := args) rfl (hts _ (by decide +kernel))
theorem law_zP {s : State} {args : Array Value} (hgv : (Jvm.Cond.and given_1 narrow_1).before args s = true) (hts : ∀ w ∈ lw_tbl, w.before args s = true) : ∃ t : Nat → Nat, zP (some t) (fun q : Nat => s.heap.size ≤ q) s s.heap := by
  have hs := flat_of_before _ hgv
  have hA : ∀ a : Nat, a < s.heap.size → ¬ (fun q : Nat => s.heap.size ≤ q) a := fun a h => Nat.not_le.mpr h
  obtain ⟨t0, a1, a2⟩ := law_rlX hs hts
  obtain ⟨t1, b1, b2⟩ := law_rlY hs hts
  obtain ⟨t2, c1, c2⟩ := law_rlZ hs hts
  exact ⟨fun k => ([t0, t1, t2] : List Nat).getD k 0, ⟨a1, a2⟩, ⟨b1, b2⟩, ⟨c1, c2⟩, ⟨vx_Zqof (hts (.laysStatic Bundle.tN "UNASSIGNED_STACK" Bundle.steD) (by decide +kernel)) (hts (.initialized Bundle.tN) (by decide +kernel)) (hs (.isRef (.static Bundle.tN "UNASSIGNED_STACK" Bundle.steD)) (by decide +kernel)) hA, vx_Zqof (hts (.laysStatic Bundle.tN "SUPPRESSED_SENTINEL" Bundle.listD) (by decide +kernel)) (hts (.initialized Bundle.tN) (by decide +kernel)) (hs (.isRef (.static Bundle.tN "SUPPRESSED_SENTINEL" Bundle.listD)) (by decide +kernel)) hA⟩, law_str hs hts, law_dcl hts, law_cst hts⟩
/-- no class of the four is another's -/
def ncs (U : State) : Prop := ∀ j k : Nat, 1 ≤ j → j < 5 → 1 ≤ k → k < 5 → j ≠ k → va_Nc (exn j) (exn k) U
theorem law_nc {s : State} {args : Array Value} (hgv : (Jvm.Cond.and given_1 narrow_1).before args s = true) : ncs s := by
  have hs := flat_of_before _ hgv
  intro j k h1 h2 h3 h4 h5
  rcases (show j = 1 ∨ j = 2 ∨ j = 3 ∨ j = 4 by omega) with rfl | rfl | rfl | rfl <;> rcases (show k = 1 ∨ k = 2 ∨ k = 3 ∨ k = 4 by omega) with rfl | rfl | rfl | rfl <;> first | exact absurd rfl h5 | exact va_Nc.of (hs _ (by decide +kernel))
