/-! worlds side by side -/
theorem va_D.left {A : Nat → Prop} {w1 w2 : va_W} (h : va_D A (w1 ++ w2)) : va_D A w1 := by
  have key : ∀ (k : Nat) (q : Nat × va_E), w1[k]? = some q → (w1 ++ w2)[k]? = some q := fun k q hk => by
    rw [List.getElem?_append_left (List.getElem?_eq_some_iff.mp hk).1]; exact hk
  exact ⟨fun i j p q hi hj => h.1 i j p q (key i p hi) (key j q hj), fun k q hk => h.2 k q (key k q hk)⟩
theorem va_D.rkey {w1 w2 : va_W} (k : Nat) (q : Nat × va_E) (hk : w2[k]? = some q) : (w1 ++ w2)[w1.length + k]? = some q := by
  rw [List.getElem?_append_right (by omega), show w1.length + k - w1.length = k by omega]; exact hk
theorem va_D.right {A : Nat → Prop} {w1 w2 : va_W} (h : va_D A (w1 ++ w2)) : va_D A w2 :=
  ⟨fun i j p q hi hj he => by have := h.1 _ _ p q (va_D.rkey i p hi) (va_D.rkey j q hj) he; omega, fun k q hk => h.2 _ q (va_D.rkey k q hk)⟩
def apt (w1 w2 : va_W) : Prop := ∀ (i j : Nat) (p q : Nat × va_E), w1[i]? = some p → w2[j]? = some q → p.1 ≠ q.1
theorem va_D.apt {A : Nat → Prop} {w1 w2 : va_W} (h : va_D A (w1 ++ w2)) : apt w1 w2 := by
  intro i j p q hi hj he
  have hl := (List.getElem?_eq_some_iff.mp hi).1
  have h1 : (w1 ++ w2)[i]? = some p := by rw [List.getElem?_append_left hl]; exact hi
  have := h.1 i _ p q h1 (va_D.rkey j q hj) he
  omega
theorem apt.symm {w1 w2 : va_W} (h : apt w1 w2) : apt w2 w1 := fun i j p q hi hj he => h j i q p hj hi he.symm
theorem va_D.adr {A : Nat → Prop} {w w' : va_W} (he : w.map Prod.fst = w'.map Prod.fst) (h : va_D A w) : va_D A w' := by
  have key : ∀ (k : Nat) (q : Nat × va_E), w'[k]? = some q → ∃ q0, w[k]? = some q0 ∧ q0.1 = q.1 := by
    intro k q hk
    have h1 : (w'.map Prod.fst)[k]? = some q.1 := by rw [List.getElem?_map, hk]; rfl
    rw [← he, List.getElem?_map] at h1
    cases hw : w[k]? with
    | none => rw [hw] at h1; cases h1
    | some q0 => rw [hw] at h1; exact ⟨q0, rfl, Option.some.inj h1⟩
  refine ⟨fun i j p q hi hj hpq => ?_, fun k q hk => ?_⟩
  · obtain ⟨p0, a1, a2⟩ := key i p hi
    obtain ⟨q0, b1, b2⟩ := key j q hj
    exact h.1 i j p0 q0 a1 b1 (a2.trans (hpq.trans b2.symm))
  · obtain ⟨q0, a1, a2⟩ := key k q hk
    rw [← a2]; exact h.2 k q0 a1
theorem va_P.left {D : va_G} {cl : List vw_C} {w1 w2 : va_W} {H : Heap} (h : va_P D cl (w1 ++ w2) H) : va_P D cl w1 H := fun k q hk => h k q (by rw [List.getElem?_append_left (List.getElem?_eq_some_iff.mp hk).1]; exact hk)
theorem va_P.right {D : va_G} {cl : List vw_C} {w1 w2 : va_W} {H : Heap} (h : va_P D cl (w1 ++ w2) H) : va_P D cl w2 H := fun k q hk => h _ q (va_D.rkey k q hk)
theorem keepP {D : va_G} {cl : List vw_C} {w1 w2 : va_W} {H H1 : Heap} (hP2 : va_P D cl w2 H) (hk : ∀ q : Nat, q < H.size → ¬ va_A w1 H.size q → H1[q]? = H[q]?) (hne : apt w1 w2) : va_P D cl w2 H1 :=
  hP2.kept (fun k q hq => hk q.1 (hP2 k q hq).lt (fun h => h.elim (fun ⟨i, e, h⟩ => hne i k (q.1, e) q h hq rfl) (fun h => absurd (hP2 k q hq).lt (Nat.not_lt.mpr h))))
section LAWC
variable {p : Program} {l : Launch} {e : Env} {R : Room} {s : State} {m : MethodId} {args : Array Value} {below : List Frame} {meth : Method} {c : Code} {H : Heap} {locs : List Loc} {cells slots : Nat} {Q : State → Prop} {cc : ByteArray} {nL pc index n maxL fr lo q0 ci b : Nat} {Ts ws ws' : List Cond} {own C : String} {y : MethodName} {bytes : ByteArray} {ret : Option FieldType} {z : Option (Nat → Nat)} {dC : Nat → ClassId} {dI : Nat → Nat → Nat} {cI cZ : ClassId} {w : St → va_W} {As rest st0 : List Value} {u : St} {A : Nat → Prop} {ls : Array Slot} {cq : vw_C} {fs : List Value}
theorem lawVI {o : Int32 × St} (S : CallFix p m c cc nL s args Ts own) (hM : MI l y ws fr lo z dC dI cI cZ w (.ref b :: As) u o) (hG : GoodIn Ts (wsV own index C y ws)) (hw : ws = Cond.code y bytes maxL ret :: ws') (hd : y.cls = C ∧ y.cls ≠ "java/lang/invoke/MethodHandle" ∧ y.cls ≠ "java/lang/invoke/VarHandle" ∧ (parseMethodDescriptor y.desc).map (fun d => d.parameters.length) = some n) (hrc : vwCl[ci]? = some cq) (hq : cq.1 = C) (he : (w u)[q0]? = some (b, .inr (ci, fs))) (hR : fr + 1 ≤ R.frames ∧ 8 + (maxL + 11) + lo ≤ R.locals)
    (hz : zP z A s s.heap) (hK : va_K (dC, dI) vwCl (tyW cI cZ) s) (hP : va_P (dC, dI) vwCl (w u) H) (hD : va_D A (w u)) (hS : va_S A s.heap H locs) (hA : ∀ q : Nat, s.heap.size ≤ q → A q)
    (hn : As.length = n) (hsize : ls.size = nL) (hst : st0 = As.reverse ++ .ref b :: rest) (hlm : (rest.map fun v => v.category).sum ≤ 8) (hdg : decode cc pc = .ok (.invokevirtual index, 3)) (hf : cells ≤ R.cells ∧ slots ≤ R.slots)
    (kk : ∀ (H1 : Heap) (locs : List Loc), va_P (dC, dI) vwCl (w o.2) H1 → va_S A s.heap H1 locs → (∀ q : Nat, q < H.size → ¬ va_A (w u) H.size q → H1[q]? = H[q]?) → W p l e R s m args below meth c H1 locs cells slots Q (F0 m (pc + 3) ls (.int o.1 :: rest))) : W p l e R s m args below meth c H locs cells slots Q (F0 m pc ls st0) := by
  have hFc := va_freeW hD hS hA
  refine va_calli (va_runV (As := As) (rest := rest) (g := F0 m pc ls st0) S (hM H.size) (cwV n S.2.2.2.2 hG hw rfl rfl hd hR) ⟨pre_blind, by rw [← hq]; exact va_recv hK hP hrc he, pre_hold hz hK hP hD hS hA⟩ rfl hn hsize hst (lv_room hlm) hdg ⟨hf.1, hf.2⟩) hS (fun q _ h => hFc q h) hFc (fun r_ v t H1 locs1 ht hvm hw9 hB hz1 hk1 hS => ?_)
  obtain ⟨hP1, hK1, hD1⟩ := hB
  rw [ht] at hP1
  cases hw9
  exact kk H1 locs1 hP1 hS hk1
theorem lawVL {o : Int64 × St} (S : CallFix p m c cc nL s args Ts own) (hM : ML l y ws fr lo z dC dI cI cZ w (.ref b :: As) u o) (hG : GoodIn Ts (wsV own index C y ws)) (hw : ws = Cond.code y bytes maxL ret :: ws') (hd : y.cls = C ∧ y.cls ≠ "java/lang/invoke/MethodHandle" ∧ y.cls ≠ "java/lang/invoke/VarHandle" ∧ (parseMethodDescriptor y.desc).map (fun d => d.parameters.length) = some n) (hrc : vwCl[ci]? = some cq) (hq : cq.1 = C) (he : (w u)[q0]? = some (b, .inr (ci, fs))) (hR : fr + 1 ≤ R.frames ∧ 8 + (maxL + 11) + lo ≤ R.locals)
    (hz : zP z A s s.heap) (hK : va_K (dC, dI) vwCl (tyW cI cZ) s) (hP : va_P (dC, dI) vwCl (w u) H) (hD : va_D A (w u)) (hS : va_S A s.heap H locs) (hA : ∀ q : Nat, s.heap.size ≤ q → A q)
    (hn : As.length = n) (hsize : ls.size = nL) (hst : st0 = As.reverse ++ .ref b :: rest) (hlm : (rest.map fun v => v.category).sum ≤ 8) (hdg : decode cc pc = .ok (.invokevirtual index, 3)) (hf : cells ≤ R.cells ∧ slots ≤ R.slots)
    (kk : ∀ (H1 : Heap) (locs : List Loc), va_P (dC, dI) vwCl (w o.2) H1 → va_S A s.heap H1 locs → (∀ q : Nat, q < H.size → ¬ va_A (w u) H.size q → H1[q]? = H[q]?) → W p l e R s m args below meth c H1 locs cells slots Q (F0 m (pc + 3) ls (.long o.1 :: rest))) : W p l e R s m args below meth c H locs cells slots Q (F0 m pc ls st0) := by
  have hFc := va_freeW hD hS hA
  refine va_calll (va_runV (As := As) (rest := rest) (g := F0 m pc ls st0) S (hM H.size) (cwV n S.2.2.2.2 hG hw rfl rfl hd hR) ⟨pre_blind, by rw [← hq]; exact va_recv hK hP hrc he, pre_hold hz hK hP hD hS hA⟩ rfl hn hsize hst (lv_room hlm) hdg ⟨hf.1, hf.2⟩) hS (fun q _ h => hFc q h) hFc (fun r_ v t H1 locs1 ht hvm hw9 hB hz1 hk1 hS => ?_)
  obtain ⟨hP1, hK1, hD1⟩ := hB
  rw [ht] at hP1
  cases hw9
  exact kk H1 locs1 hP1 hS hk1
theorem lawVX {k : Nat} {vo : St} (S : CallFix p m c cc nL s args Ts own) (hM : MX l y ws fr lo z dC dI cI cZ w (.ref b :: As) u k vo) (hG : GoodIn Ts (wsV own index C y ws)) (hw : ws = Cond.code y bytes maxL ret :: ws') (hd : y.cls = C ∧ y.cls ≠ "java/lang/invoke/MethodHandle" ∧ y.cls ≠ "java/lang/invoke/VarHandle" ∧ (parseMethodDescriptor y.desc).map (fun d => d.parameters.length) = some n) (hrc : vwCl[ci]? = some cq) (hq : cq.1 = C) (he : (w u)[q0]? = some (b, .inr (ci, fs))) (hR : fr + 1 ≤ R.frames ∧ 8 + (maxL + 11) + lo ≤ R.locals)
    (hz : zP z A s s.heap) (hK : va_K (dC, dI) vwCl (tyW cI cZ) s) (hP : va_P (dC, dI) vwCl (w u) H) (hD : va_D A (w u)) (hS : va_S A s.heap H locs) (hA : ∀ q : Nat, s.heap.size ≤ q → A q)
    (hn : As.length = n) (hsize : ls.size = nL) (hst : st0 = As.reverse ++ .ref b :: rest) (hlm : (rest.map fun v => v.category).sum ≤ 8) (hdg : decode cc pc = .ok (.invokevirtual index, 3)) (hf : cells + 1 ≤ R.cells ∧ slots + 6 ≤ R.slots)
    (kx : ∀ (H1 : Heap) (locs : List Loc) (q9 : Addr) (ce : Cell), va_P (dC, dI) vwCl (w vo) H1 → va_S A s.heap H1 locs → (∀ q : Nat, q < H.size → ¬ va_A (w u) H.size q → H1[q]? = H[q]?) → H1[q9]? = some ce → ce.vm = .none → s.vm.findClass (exn k) = some ce.cls → vx_W p l e R s m args below meth c H1 locs (cells + 1) (slots + 6) Q (F0 m pc ls rest) q9) : W p l e R s m args below meth c H locs cells slots Q (F0 m pc ls st0) := by
  have hFc := va_freeW hD hS hA
  refine vx_callv (vx_runV (As := As) (rest := rest) (g := F0 m pc ls st0) S (hM H.size) (cwV n S.2.2.2.2 hG hw rfl rfl hd hR) ⟨pre_blind, by rw [← hq]; exact va_recv hK hP hrc he, pre_hold hz hK hP hD hS hA⟩ rfl hn hsize hst (lv_room hlm) hdg hf) hS (fun q _ h => hFc q h) hFc (fun q _ h => hFc q h) (fun E ce q9 v t H1 locs1 ht hvm hw9 hB hz1 hk1 hS h1 h2 h3 => ?_) (fun v t H1 locs1 ht hvm hw9 => hw9.elim)
  obtain ⟨rfl, hP1, hK1, hD1⟩ := hB
  rw [ht] at hP1
  subst hw9
  exact kx H1 locs1 q9 ce hP1 hS hk1 h1 h2 h3
end LAWC
def wO (ao : Nat) (cL : ClassId) (f : Nat → Int64) : va_W := [(ao, .inl (cL, 1, .inr (.inl f)))]
abbrev tyL (cI cZ cL : ClassId) : List (ClassId × FieldType) := [(cI, .int), (cZ, .boolean), (cL, .long)]
def prR (t : Nat → Nat) (dC : Nat → ClassId) (dI : Nat → Nat → Nat) (cI cZ cL : ClassId) (w : va_W) (sz : Nat) (U : State) : Prop := U.heap.size = sz ∧ va_P (dC, dI) vwCl w U.heap ∧ va_K (dC, dI) vwCl (tyL cI cZ cL) U ∧ va_D (fun _ => True) w ∧ zP (some t) (va_A w sz) U U.heap ∧ ncs U
theorem prR_blind {t : Nat → Nat} {dC : Nat → ClassId} {dI : Nat → Nat → Nat} {cI cZ cL : ClassId} {av : List Value} {w : va_W} {sz : Nat} : FrameBlind (va_Pc av (prR t dC dI cI cZ cL w sz)) := fun a U g mk q => by
  obtain ⟨q0, q1, qP, qK, qD, qz, qn⟩ := q
  exact ⟨q0, q1, qP, va_K.moved (u := U) (U := U.calling g mk a) (Vm.Alike.refl U.vm) qK, qD, zP.of (s := U) (U := U.calling g mk a) qz (Vm.Alike.refl U.vm) (fun h => vk_R.same rfl h) (fun h => va_Nw.same rfl rfl h) (fun h => va_Nw.same rfl rfl h) (fun _ _ _ => rfl) (fun _ h => h), fun j k h1 h2 h3 h4 h5 => va_Nc.moved (u := U) (U := U.calling g mk a) (Vm.Alike.refl U.vm) (qn j k h1 h2 h3 h4 h5)⟩
theorem prR_hold {A : Nat → Prop} {s : State} {H : Heap} {locs : List Loc} {t : Nat → Nat} {dC : Nat → ClassId} {dI : Nat → Nat → Nat} {cI cZ cL : ClassId} {av : List Value} {w : va_W} (hz : zP (some t) A s s.heap) (hn : ncs s) (hK : va_K (dC, dI) vwCl (tyL cI cZ cL) s) (hP : va_P (dC, dI) vwCl w H) (hD : va_D A w) (hS : va_S A s.heap H locs) (hA : ∀ q : Nat, s.heap.size ≤ q → A q) (U : State) (hU : U.heap = H) (hW : s.WarmedH U.vm) : va_Pc av (prR t dC dI cI cZ cL w H.size) av.toArray U := by
  refine ⟨rfl, by rw [hU], by rw [hU]; exact hP, va_K.moved hW.alike hK, hD.weaken (fun _ _ _ _ => trivial), ?_, fun j k h1 h2 h3 h4 h5 => va_Nc.moved hW.alike (hn j k h1 h2 h3 h4 h5)⟩
  rw [hU]
  exact zP.of hz hW.alike (fun h => vk_R.warm hW h) (fun h => va_Nw.warmD hW h) (fun h => va_Nw.warmC hW h) hS.2.1 (va_freeW hD hS hA)
abbrev wR (a : Nat → Nat) (cI cZ : ClassId) (ao : Nat) (cL : ClassId) (v : St × (Nat → Int64)) : va_W := wC a cI cZ v.1 ++ wO ao cL v.2
def atR (dC : Nat → ClassId) (dI : Nat → Nat → Nat) (cI cZ cL : ClassId) (w : St × (Nat → Int64) → va_W) (v : St × (Nat → Int64)) (t : State) : Prop := va_P (dC, dI) vwCl (w v) t.heap
theorem hd_L_run : yL_run.cls ≠ "java/lang/invoke/MethodHandle" ∧ yL_run.cls ≠ "java/lang/invoke/VarHandle" ∧ (parseMethodDescriptor yL_run.desc).map (fun d => d.parameters.length) = some 3 := by decide +kernel
set_option maxRecDepth 100000 in
set_option maxHeartbeats 4000000 in
theorem c_L_run_r (l : Launch) (dC : Nat → ClassId) (dI : Nat → Nat → Nat) (cI cZ cL : ClassId) (a : Nat → Nat) (ao : Nat) (t : Nat → Nat) (u : St) (f : Nat → Int64) (n : Int32) (o : Int32 × St) (hF : F_X2_run u n = some (0, o)) (sz : Nat) : Met l yL_run wsL_run (rmK 10 173) (va_Pc [.ref (a 14), .int n, .ref ao] (prR t dC dI cI cZ cL (wR a cI cZ ao cL (u, f)) sz)) (va_Qi (fun (r : Int32) (v : St × (Nat → Int64)) => r = 0 ∧ v = (o.2, vp_updL f (0 : Int32).toNatClampNeg o.1.toInt64)) (atR dC dI cI cZ cL (wR a cI cZ ao cL)) (va_A (wR a cI cZ ao cL (u, f)) sz)) 0 0 (va_A (wR a cI cZ ao cL (u, f)) sz) := by
  refine va_MetW (cc := cL_run) (maxL := 4) (ret := some .int) (by decide) rfl ?_
  intro p e s m args below meth c s₁ B hml hv
  obtain ⟨rfl, hsz, hP, hK, hD0, hz, hnc⟩ := hv
  have hx := B.exec
  have hb := B.bytes
  have hr := B.returns
  have hts := atoms_spec (ws := wsL_run) B.pre
  have hown : s.vm.findClass RL = some m.cls := findClass_of_methodNamed B.named
  have hlocks := B.notSynchronized
  subst hsz
  have hD := hD0.self (sz := s.heap.size)
  have hA : ∀ q : Nat, s.heap.size ≤ q → (va_A (wR a cI cZ ao cL (u, f)) s.heap.size) q := fun q h => Or.inr h
  generalize va_A (wR a cI cZ ao cL (u, f)) s.heap.size = A at hD hA hz ⊢
  have hS : va_S A s.heap s.heap [] := va_S.rf
  have hl := lv_entry ([.ref (a 14), .int n, .ref ao]) (n := 4) (Nat.le_of_ble_eq_true rfl)
  rw [lg_entry_eq]
  generalize (lg_sl ([.ref (a 14), .int n, .ref ao]) ++ List.replicate (4 - (lg_sl ([.ref (a 14), .int n, .ref ao])).length) Slot.unset).toArray = ls at hl ⊢
  have hl : lv_has ls 4 [(0, .ref (a 14)), (1, .int n), (2, .ref ao)] := hl
  have hP1 : va_P (dC, dI) vwCl (wC a cI cZ u) s.heap := hP.left
  have hP3 : va_P (dC, dI) vwCl (wO ao cL f) s.heap := hP.right
  have hD1 : va_D A (wC a cI cZ u) := hD.left
  have hap : apt (wC a cI cZ u) (wO ao cL f) := hD.apt
  refine lv_aload_n hx hb dL_run_0 rfl (lv_at hl 2 rfl) ?_
  refine lv_iconst (v := 0) hx hb dL_run_1 (by decide) ?_
  refine lv_aload_n hx hb dL_run_2 rfl (lv_at hl 0 rfl) ?_
  refine lv_iload_n hx hb dL_run_3 rfl (lv_at hl 1 rfl) ?_
  refine lawVI (C := RX2) (ci := 2) (q0 := 14) (As := [.int n]) (rest := [.int 0, .ref ao]) ⟨hx, hb, hml, hown, hts⟩ (c_X2_run_r l dC dI cI cZ a t u n o hF) gL_run_X2_run rfl hd_X2_run rfl rfl rfl ⟨Nat.le_of_ble_eq_true rfl, Nat.le_of_ble_eq_true rfl⟩ hz (hK.sub [0, 1] rfl) hP1 hD1 hS hA rfl hl.1 rfl (Nat.le_of_ble_eq_true rfl) dL_run_4 ⟨Nat.zero_le _, Nat.zero_le _⟩ (fun H locs hP1 hS hk1 => ?_)
  have hP3 := keepP hP3 hk1 hap
  have hP : va_P (dC, dI) vwCl (wR a cI cZ ao cL (o.2, f)) H := hP1.app hP3
  have hD : va_D A (wR a cI cZ ao cL (o.2, f)) := va_D.adr (w := wR a cI cZ ao cL (u, f)) rfl hD
  refine lv_i2l (v := o.1.toInt64) hx hb dL_run_7 rfl ?_
  refine va_last hx hb hK hP hD hS 16 2 rfl rfl (show vp_in 0 1 by unfold vp_in; decide) dL_run_8 (fun H locs hP hD hS => ?_)
  have hP : va_P (dC, dI) vwCl (wR a cI cZ ao cL (o.2, vp_updL f (0 : Int32).toNatClampNeg o.1.toInt64)) H := hP
  refine lv_goto (tgt := 24) hx hb dL_run_9 (by decide) ?_
  refine lv_iconst (v := 0) hx hb dL_run_24 (by decide) ?_
  exact W.iret hx hb hr (fun t ht hW => ⟨⟨0, (o.2, vp_updL f (0 : Int32).toNatClampNeg o.1.toInt64), rfl, ⟨rfl, rfl⟩, show va_P _ _ _ t.heap by rw [ht]; exact hP⟩, hS.F ht⟩) hS.2.2 dL_run_25
set_option maxRecDepth 100000 in
set_option maxHeartbeats 4000000 in
theorem c_L_run_t (l : Launch) (hnt : l.stackTraces = false) (dC : Nat → ClassId) (dI : Nat → Nat → Nat) (cI cZ cL : ClassId) (a : Nat → Nat) (ao : Nat) (t : Nat → Nat) (u : St) (f : Nat → Int64) (n : Int32) (k : Nat) (o : Int32 × St) (hF : F_X2_run u n = some (k, o)) (hk : ¬ k = 0) (hk5 : k < 5) (sz : Nat) : Met l yL_run wsL_run (rmX 10 173) (va_Pc [.ref (a 14), .int n, .ref ao] (prR t dC dI cI cZ cL (wR a cI cZ ao cL (u, f)) sz)) (va_Qi (fun (r : Int32) (v : St × (Nat → Int64)) => r = nI k ∧ v = (o.2, f)) (atR dC dI cI cZ cL (wR a cI cZ ao cL)) (va_A (wR a cI cZ ao cL (u, f)) sz)) 1 6 (va_A (wR a cI cZ ao cL (u, f)) sz) := by
  refine va_MetW (cc := cL_run) (maxL := 4) (ret := some .int) (by decide) rfl ?_
  intro p e s m args below meth c s₁ B hml hv
  obtain ⟨rfl, hsz, hP, hK, hD0, hz, hnc⟩ := hv
  have hx := B.exec
  have hb := B.bytes
  have hr := B.returns
  have hts := atoms_spec (ws := wsL_run) B.pre
  have hown : s.vm.findClass RL = some m.cls := findClass_of_methodNamed B.named
  have hlocks := B.notSynchronized
  subst hsz
  have hD := hD0.self (sz := s.heap.size)
  have hA : ∀ q : Nat, s.heap.size ≤ q → (va_A (wR a cI cZ ao cL (u, f)) s.heap.size) q := fun q h => Or.inr h
  generalize va_A (wR a cI cZ ao cL (u, f)) s.heap.size = A at hD hA hz ⊢
  have hS : va_S A s.heap s.heap [] := va_S.rf
  have hl := lv_entry ([.ref (a 14), .int n, .ref ao]) (n := 4) (Nat.le_of_ble_eq_true rfl)
  rw [lg_entry_eq]
  generalize (lg_sl ([.ref (a 14), .int n, .ref ao]) ++ List.replicate (4 - (lg_sl ([.ref (a 14), .int n, .ref ao])).length) Slot.unset).toArray = ls at hl ⊢
  have hl : lv_has ls 4 [(0, .ref (a 14)), (1, .int n), (2, .ref ao)] := hl
  have hP1 : va_P (dC, dI) vwCl (wC a cI cZ u) s.heap := hP.left
  have hP3 : va_P (dC, dI) vwCl (wO ao cL f) s.heap := hP.right
  have hD1 : va_D A (wC a cI cZ u) := hD.left
  have hap : apt (wC a cI cZ u) (wO ao cL f) := hD.apt
  refine lv_aload_n hx hb dL_run_0 rfl (lv_at hl 2 rfl) ?_
  refine lv_iconst (v := 0) hx hb dL_run_1 (by decide) ?_
  refine lv_aload_n hx hb dL_run_2 rfl (lv_at hl 0 rfl) ?_
  refine lv_iload_n hx hb dL_run_3 rfl (lv_at hl 1 rfl) ?_
  have htab : c.exceptionTable.toList = tableOf [(0, 9, 12, 13), (0, 9, 15, 15), (0, 9, 18, 17), (0, 9, 21, 19)] := vx_table (x := yL_run) B (hts _ List.mem_cons_self)
  refine lawVX (C := RX2) (ci := 2) (q0 := 14) (As := [.int n]) (rest := [.int 0, .ref ao]) ⟨hx, hb, hml, hown, hts⟩ (c_X2_run_t l hnt dC dI cI cZ a t u n k o hF hk) gL_run_X2_run rfl hd_X2_run rfl rfl rfl ⟨Nat.le_of_ble_eq_true rfl, Nat.le_of_ble_eq_true rfl⟩ hz (hK.sub [0, 1] rfl) hP1 hD1 hS hA rfl hl.1 rfl (Nat.le_of_ble_eq_true rfl) dL_run_4 ⟨Nat.le_of_ble_eq_true rfl, Nat.le_of_ble_eq_true rfl⟩ (fun H locs q9 ce hP1 hS hk1 h1 h2 h3 => ?_)
  have hP3 := keepP hP3 hk1 hap
  have hP : va_P (dC, dI) vwCl (wR a cI cZ ao cL (o.2, f)) H := hP1.app hP3
  have hcs := hz.2.2.2.2.2.2
  have cl1 := hts (.classLink RL 13 "java/lang/IllegalStateException") (by decide +kernel)
  have cl2 := hts (.classLink RL 15 "java/lang/IndexOutOfBoundsException") (by decide +kernel)
  have cl3 := hts (.classLink RL 17 "java/lang/IllegalArgumentException") (by decide +kernel)
  have cl4 := hts (.classLink RL 19 "java/lang/UnsupportedOperationException") (by decide +kernel)
  rcases (show k = 1 ∨ k = 2 ∨ k = 3 ∨ k = 4 by omega) with rfl | rfl | rfl | rfl
  · refine vx_catch (E := exn 1) (name := exn 1) hown (tableOf []) ⟨0, 9, 12, 13⟩ (tableOf [((0, 9, 15, 15) : Nat × Nat × Nat × Nat), ((0, 9, 18, 17) : Nat × Nat × Nat × Nat), ((0, 9, 21, 19) : Nat × Nat × Nat × Nat)]) htab (fun z hz9 => ?_) rfl (by decide) cl1 (va_Nw.use rfl (hcs 1 (by decide))) h1 h2 h3 ?_
    · exact absurd hz9 List.not_mem_nil
    · refine lv_astore_n (lv' := [(3, .ref q9), (0, .ref (a 14)), (1, .int n), (2, .ref ao)]) hx hb dL_run_12 rfl hl (by decide) rfl (fun ls hl => ?_)
      refine lv_iconst (v := 1) hx hb dL_run_13 (by decide) ?_
      exact W.iret hx hb hr (fun t ht hW => ⟨⟨1, (o.2, f), rfl, ⟨by decide, rfl⟩, show va_P _ _ _ t.heap by rw [ht]; exact hP⟩, hS.F ht⟩) hS.2.2 dL_run_14
  · refine vx_catch (E := exn 2) (name := exn 2) hown (tableOf [((0, 9, 12, 13) : Nat × Nat × Nat × Nat)]) ⟨0, 9, 15, 15⟩ (tableOf [((0, 9, 18, 17) : Nat × Nat × Nat × Nat), ((0, 9, 21, 19) : Nat × Nat × Nat × Nat)]) htab (fun z hz9 => ?_) rfl (by decide) cl2 (va_Nw.use rfl (hcs 2 (by decide))) h1 h2 h3 ?_
    · simp only [tableOf, List.map_cons, List.map_nil, List.mem_cons, List.not_mem_nil, or_false] at hz9
      rcases hz9 with rfl
      · exact Or.inr ⟨by decide, exn 1, cl1, hnc 2 1 (by decide) (by decide) (by decide) (by decide) (by decide)⟩
    · refine lv_astore_n (lv' := [(3, .ref q9), (0, .ref (a 14)), (1, .int n), (2, .ref ao)]) hx hb dL_run_15 rfl hl (by decide) rfl (fun ls hl => ?_)
      refine lv_iconst (v := 2) hx hb dL_run_16 (by decide) ?_
      exact W.iret hx hb hr (fun t ht hW => ⟨⟨2, (o.2, f), rfl, ⟨by decide, rfl⟩, show va_P _ _ _ t.heap by rw [ht]; exact hP⟩, hS.F ht⟩) hS.2.2 dL_run_17
  · refine vx_catch (E := exn 3) (name := exn 3) hown (tableOf [((0, 9, 12, 13) : Nat × Nat × Nat × Nat), ((0, 9, 15, 15) : Nat × Nat × Nat × Nat)]) ⟨0, 9, 18, 17⟩ (tableOf [((0, 9, 21, 19) : Nat × Nat × Nat × Nat)]) htab (fun z hz9 => ?_) rfl (by decide) cl3 (va_Nw.use rfl (hcs 3 (by decide))) h1 h2 h3 ?_
    · simp only [tableOf, List.map_cons, List.map_nil, List.mem_cons, List.not_mem_nil, or_false] at hz9
      rcases hz9 with rfl | rfl
      · exact Or.inr ⟨by decide, exn 1, cl1, hnc 3 1 (by decide) (by decide) (by decide) (by decide) (by decide)⟩
      · exact Or.inr ⟨by decide, exn 2, cl2, hnc 3 2 (by decide) (by decide) (by decide) (by decide) (by decide)⟩
    · refine lv_astore_n (lv' := [(3, .ref q9), (0, .ref (a 14)), (1, .int n), (2, .ref ao)]) hx hb dL_run_18 rfl hl (by decide) rfl (fun ls hl => ?_)
      refine lv_iconst (v := 3) hx hb dL_run_19 (by decide) ?_
      exact W.iret hx hb hr (fun t ht hW => ⟨⟨3, (o.2, f), rfl, ⟨by decide, rfl⟩, show va_P _ _ _ t.heap by rw [ht]; exact hP⟩, hS.F ht⟩) hS.2.2 dL_run_20
  · refine vx_catch (E := exn 4) (name := exn 4) hown (tableOf [((0, 9, 12, 13) : Nat × Nat × Nat × Nat), ((0, 9, 15, 15) : Nat × Nat × Nat × Nat), ((0, 9, 18, 17) : Nat × Nat × Nat × Nat)]) ⟨0, 9, 21, 19⟩ (tableOf []) htab (fun z hz9 => ?_) rfl (by decide) cl4 (va_Nw.use rfl (hcs 4 (by decide))) h1 h2 h3 ?_
    · simp only [tableOf, List.map_cons, List.map_nil, List.mem_cons, List.not_mem_nil, or_false] at hz9
      rcases hz9 with rfl | rfl | rfl
      · exact Or.inr ⟨by decide, exn 1, cl1, hnc 4 1 (by decide) (by decide) (by decide) (by decide) (by decide)⟩
      · exact Or.inr ⟨by decide, exn 2, cl2, hnc 4 2 (by decide) (by decide) (by decide) (by decide) (by decide)⟩
      · exact Or.inr ⟨by decide, exn 3, cl3, hnc 4 3 (by decide) (by decide) (by decide) (by decide) (by decide)⟩
    · refine lv_astore_n (lv' := [(3, .ref q9), (0, .ref (a 14)), (1, .int n), (2, .ref ao)]) hx hb dL_run_21 rfl hl (by decide) rfl (fun ls hl => ?_)
      refine lv_iconst (v := 4) hx hb dL_run_22 (by decide) ?_
      exact W.iret hx hb hr (fun t ht hW => ⟨⟨4, (o.2, f), rfl, ⟨by decide, rfl⟩, show va_P _ _ _ t.heap by rw [ht]; exact hP⟩, hS.F ht⟩) hS.2.2 dL_run_23
