/-- class and reference agree, call by call, and I holds on -/
def Agr (I : St → St → Prop) : Prop := ∀ u v : St, I u v → (∀ x1 x2 x3 : Int32, ∃ (r : Int32) (u2 v2 : St), F_X2_type u x1 x2 x3 = some (r, u2) ∧ F_X3_type v x1 x2 x3 = some (r, v2) ∧ I u2 v2) ∧ (∀ x1 x2 x3 x4 : Int32, ∃ (r : Int32) (u2 v2 : St), F_X2_add u x1 x2 x3 x4 = some (r, u2) ∧ F_X3_add v x1 x2 x3 x4 = some (r, v2) ∧ I u2 v2) ∧ (∃ (r : Int32) (u2 v2 : St), F_X2_clear u = some (r, u2) ∧ F_X3_clear v = some (r, v2) ∧ I u2 v2) ∧ (∀ x1 : Int32, ∃ (r : Int32) (u2 v2 : St), F_X2_start u x1 = some (r, u2) ∧ F_X3_start v x1 = some (r, v2) ∧ I u2 v2) ∧ (∀ x1 : Int32, ∃ (k : Nat) (r : Int32) (u2 : St) (r2 : Int32) (v2 : St), F_X2_run u x1 = some (k, r, u2) ∧ k < 5 ∧ F_X3_run v x1 = some (r2, v2) ∧ F_X3_thrown v2 = some (nI k, v2) ∧ (k = 0 → r = r2) ∧ I u2 v2) ∧ (∃ (r : Int32) (u2 v2 : St), F_X2_next u = some (r, u2) ∧ F_X3_next v = some (r, v2) ∧ I u2 v2) ∧ (∃ (r : Int32) (u2 v2 : St), F_X2_open u = some (r, u2) ∧ F_X3_open v = some (r, v2) ∧ I u2 v2) ∧ (∀ x1 : Int32, ∃ (r : Int32) (u2 v2 : St), F_X2_frame u x1 = some (r, u2) ∧ F_X3_frame v x1 = some (r, v2) ∧ I u2 v2) ∧ (∀ x1 x2 : Int32, ∃ (r : Int32) (u2 v2 : St), F_X2_set u x1 x2 = some (r, u2) ∧ F_X3_set v x1 x2 = some (r, v2) ∧ I u2 v2) ∧ (∀ x1 : Int32, ∃ (r : Int32) (u2 v2 : St), F_X2_root u x1 = some (r, u2) ∧ F_X3_root v x1 = some (r, v2) ∧ I u2 v2) ∧ (∃ (r : Int32) (u2 v2 : St), F_X2_blocks u = some (r, u2) ∧ F_X3_blocks v = some (r, v2) ∧ I u2 v2) ∧ (∀ x1 : Int32, ∃ (r : Int32) (u2 v2 : St), F_X2_count u x1 = some (r, u2) ∧ F_X3_count v x1 = some (r, v2) ∧ I u2 v2) ∧ (∀ x1 : Int32, ∃ (r : Int32) (u2 v2 : St), F_X2_typeOf u x1 = some (r, u2) ∧ F_X3_typeOf v x1 = some (r, v2) ∧ I u2 v2) ∧ (∀ x1 x2 : Int32, ∃ (r : Int64) (u2 v2 : St), F_X2_word u x1 x2 = some (r, u2) ∧ F_X3_word v x1 x2 = some (r, v2) ∧ I u2 v2) ∧ (∃ (r : Int32) (u2 v2 : St), F_X2_given u = some (r, u2) ∧ F_X3_given v = some (r, v2) ∧ I u2 v2) ∧ (∃ (r : Int32) (u2 v2 : St), F_X2_lost u = some (r, u2) ∧ F_X3_lost v = some (r, v2) ∧ I u2 v2) ∧ (∃ (r : Int32) (u2 v2 : St), F_X2_collect u = some (r, u2) ∧ F_X3_collect v = some (r, v2) ∧ I u2 v2)

theorem law_cmp {L k : Nat} (hL : L ≤ 2560) (hk : k ≤ 600) : (Int32.ofNat L - 5 < nI (5 * k)) ↔ L < 5 * k + 5 := by
  have h1 : (Int32.ofNat L - 5).toInt = (L : Int) - 5 := pk_sub_toInt (a := L) (b := 5) (by omega) (by omega)
  have h2 : (nI (5 * k)).toInt = ((5 * k : Nat) : Int) := nI_toInt (by omega)
  rw [Int32.lt_iff_toInt_lt, h1, h2]
  omega
theorem law_idx {L k j : Nat} (hL : L ≤ 2560) (h : 5 * k + j < L) : vp_in (nI (5 * k) + nI j) L := by
  rw [nI_add]
  exact vp_in_nI h (by omega)
theorem law_inc (k : Nat) : nI (5 * k) + Int32.ofInt 5 = nI (5 * (k + 1)) := by
  have h : nI (5 * k) + nI 5 = nI (5 * k + 5) := nI_add _ _
  exact h
theorem lg_cmp_self (x : Int64) : lg_cmp x x = 0 := by simp [lg_cmp]

set_option maxRecDepth 100000 in
set_option maxHeartbeats 8000000 in
/-- THE LAW'S LOOP -/
theorem law_loop {p : Program} {l : Launch} {e : Env} {s : State} {m : MethodId} {below : List Frame} {meth : Method} {c : Code} {dC : Nat → ClassId} {dI : Nat → Nat → Nat} {cI cZ cL : ClassId} {b L : Nat} {xs : Nat → Int32} (a a2 : Nat → Nat) (ao : Nat) (t : Nat → Nat) (I : St → St → Prop) (hAg : Agr I) (hnt : l.stackTraces = false) (hL : L ≤ 2560) (C0 : lw_At p s m meth c b L xs) (hz : zP (some t) (fun q : Nat => s.heap.size ≤ q) s s.heap) (hnc : ncs s) (hK : va_K (dC, dI) vwCl (tyL cI cZ cL) s)
    (hDD : ∀ (u v : St) (f : Nat → Int64), va_D (fun q : Nat => s.heap.size ≤ q) (wC a cI cZ u ++ (wD a2 cI cZ v ++ wO ao cL f))) :
    ∀ (n k : Nat) (u v : St) (f : Nat → Int64) (H : Heap) (locs : List Loc) (ls : Array Slot), I u v → k ≤ 512 → L < 5 * (k + n) + 5 → va_P (dC, dI) vwCl (wC a cI cZ u) H → va_P (dC, dI) vwCl (wD a2 cI cZ v) H → va_P (dC, dI) vwCl (wO ao cL f) H → va_S (fun q : Nat => s.heap.size ≤ q) s.heap H locs → lv_has ls 7 [(0, .ref b), (1, .ref (a 14)), (2, .ref (a2 0)), (3, .ref ao), (4, .int (nI (5 * k)))] → W p l e room_1 s m #[Value.ref b] below meth c H locs (28 + k) (900 + 6 * k) (lw_Z below #[Value.ref b] s) (F0 m 23 ls []) := by
  obtain ⟨hx, hb, hr, hml, hown, hts0, hX, hbl, hlocks, hgv⟩ := C0
  have hts : ∀ w ∈ wsL_law, w.before #[Value.ref b] s = true := fun w h => hts0 w (wsL_law_in w h)
  have hA : ∀ q : Nat, s.heap.size ≤ q → (fun q : Nat => s.heap.size ≤ q) q := fun _ h => h
  have hbA : ¬ (fun q : Nat => s.heap.size ≤ q) b := Nat.not_le.mpr hbl
  have hK2 : va_K (dC, dI) vwCl (tyW cI cZ) s := hK.sub [0, 1] rfl
  have ap1 : ∀ (u v : St) (f : Nat → Int64), apt (wC a cI cZ u) (wD a2 cI cZ v) := fun u v f i j p q hi hj => (hDD u v f).apt i j p q hi (by rw [List.getElem?_append_left (List.getElem?_eq_some_iff.mp hj).1]; exact hj)
  have ap2 : ∀ (u v : St) (f : Nat → Int64), apt (wC a cI cZ u) (wO ao cL f) := fun u v f i j p q hi hj => (hDD u v f).apt i _ p q hi (va_D.rkey j q hj)
  have ap3 : ∀ (u v : St) (f : Nat → Int64), apt (wD a2 cI cZ v) (wO ao cL f) := fun u v f => (hDD u v f).right.apt
  have hD1 : ∀ (u v : St) (f : Nat → Int64), va_D (fun q : Nat => s.heap.size ≤ q) (wC a cI cZ u) := fun u v f => (hDD u v f).left
  have hD2 : ∀ (u v : St) (f : Nat → Int64), va_D (fun q : Nat => s.heap.size ≤ q) (wD a2 cI cZ v) := fun u v f => (hDD u v f).right.left
  intro n
  induction n with
  | zero =>
    intro k u v f H locs ls hI hk hn hP1 hP2 hP3 hS hl
    refine lv_iload hx hb dL_law_23 (lv_at hl 4 rfl) ?_
    refine lv_aload_n hx hb dL_law_25 rfl (lv_at hl 0 rfl) ?_
    refine va_slen hx hb hX hbl hbA hS dL_law_26 ?_
    refine lv_iconst (v := 5) hx hb dL_law_27 (by decide) ?_
    refine lv_isub hx hb dL_law_28 ?_
    refine lv_icmp_gt (tgt := 583) hx hb dL_law_29 (by decide) (fun h1 => ?_) (fun h1 => ?_)
    · refine W.widen (k := 1059) (n := 9134) (by omega) (by omega) ?_
      refine va_forget hS.2.2 ?_
      refine lv_iconst (v := 1) hx hb dL_law_583 (by decide) ?_
      exact lw_ret hx hb hr hlocks dL_law_584
    · exact absurd ((law_cmp hL (by omega)).mpr (by omega)) h1
  | succ n ih =>
    intro k u v f H locs ls hI hk hn hP1 hP2 hP3 hS hl
    refine lv_iload hx hb dL_law_23 (lv_at hl 4 rfl) ?_
    refine lv_aload_n hx hb dL_law_25 rfl (lv_at hl 0 rfl) ?_
    refine va_slen hx hb hX hbl hbA hS dL_law_26 ?_
    refine lv_iconst (v := 5) hx hb dL_law_27 (by decide) ?_
    refine lv_isub hx hb dL_law_28 ?_
    refine lv_icmp_gt (tgt := 583) hx hb dL_law_29 (by decide) (fun h1 => ?_) (fun h1 => ?_)
    · refine W.widen (k := 1059) (n := 9134) (by omega) (by omega) ?_
      refine va_forget hS.2.2 ?_
      refine lv_iconst (v := 1) hx hb dL_law_583 (by decide) ?_
      exact lw_ret hx hb hr hlocks dL_law_584
    have hlt : 5 * k + 5 ≤ L := by
      rcases Nat.lt_or_ge L (5 * k + 5) with q | q
      · exact absurd ((law_cmp hL (by omega)).mpr q) h1
      · exact q
    have hcs : 28 + k ≤ 1059 ∧ 900 + 6 * k ≤ 9134 := ⟨by omega, by omega⟩
    have ix0 : vp_in (nI (5 * k)) L := vp_in_nI (by omega) (by omega)
    have ix1 : vp_in (nI (5 * k) + 1) L := law_idx (j := 1) hL (by omega)
    have ix2 : vp_in (nI (5 * k) + 2) L := law_idx (j := 2) hL (by omega)
    have ix3 : vp_in (nI (5 * k) + 3) L := law_idx (j := 3) hL (by omega)
    have ix4 : vp_in (nI (5 * k) + 4) L := law_idx (j := 4) hL (by omega)
    have fin : ∀ (u v : St) (f : Nat → Int64) (H : Heap) (locs : List Loc) (ls : Array Slot) (kc ks : Nat), kc ≤ 28 + (k + 1) → ks ≤ 900 + 6 * (k + 1) → I u v → va_P (dC, dI) vwCl (wC a cI cZ u) H → va_P (dC, dI) vwCl (wD a2 cI cZ v) H → va_P (dC, dI) vwCl (wO ao cL f) H → va_S (fun q : Nat => s.heap.size ≤ q) s.heap H locs → lv_has ls 7 [(0, .ref b), (1, .ref (a 14)), (2, .ref (a2 0)), (3, .ref ao), (4, .int (nI (5 * k)))] → W p l e room_1 s m #[Value.ref b] below meth c H locs kc ks (lw_Z below #[Value.ref b] s) (F0 m 577 ls []) := by
      intro u v f H locs ls kc ks h2 h3 hI hP1 hP2 hP3 hS hl
      refine lv_iinc (v := nI (5 * (k + 1))) (lv' := [(4, .int (nI (5 * (k + 1)))), (0, .ref b), (1, .ref (a 14)), (2, .ref (a2 0)), (3, .ref ao)]) hx hb dL_law_577 hl (k := 4) rfl (law_inc k) (by decide) rfl (fun ls hl => ?_)
      refine lv_goto (tgt := 23) hx hb dL_law_580 (by decide) ?_
      refine W.widen (k := 28 + (k + 1)) (n := 900 + 6 * (k + 1)) h2 h3 ?_
      exact ih (k + 1) u v f H locs ls hI (by omega) (by omega) hP1 hP2 hP3 hS (lv_sub hl [1, 2, 3, 4, 0] rfl)
    refine lv_aload_n hx hb dL_law_32 rfl (lv_at hl 0 rfl) ?_
    refine lv_iload hx hb dL_law_33 (lv_at hl 4 rfl) ?_
    refine va_sld hx hb hX hbl hbA hS ix0 dL_law_35 ?_
    refine lv_bipush (v := 31) hx hb dL_law_36 (by decide) ?_
    refine lv_iand hx hb dL_law_38 ?_
    refine lv_topi (fun sw hsw => ?_)

    by_cases g0 : sw = 0
    · refine lv_tableIn (tgt := 120) hx hb dL_law_39 (by rw [g0]; decide) (by rw [g0]; decide) (off := 81) (by rw [g0]; decide) (by decide) ?_
      obtain ⟨r9, u9, v9, e1, e2, hI9⟩ := (hAg u v hI).1 (xs (nI (5 * k) + 1).toNatClampNeg) (xs (nI (5 * k) + 2).toNatClampNeg) (xs (nI (5 * k) + 3).toNatClampNeg)
      refine lv_aload_n hx hb dL_law_120 rfl (lv_at hl 1 rfl) ?_
      refine lv_aload_n hx hb dL_law_121 rfl (lv_at hl 0 rfl) ?_
      refine lv_iload hx hb dL_law_122 (lv_at hl 4 rfl) ?_
      refine lv_iconst (v := 1) hx hb dL_law_124 (by decide) ?_
      refine lv_iadd hx hb dL_law_125 ?_
      refine va_sld hx hb hX hbl hbA hS ix1 dL_law_126 ?_
      refine lv_aload_n hx hb dL_law_127 rfl (lv_at hl 0 rfl) ?_
      refine lv_iload hx hb dL_law_128 (lv_at hl 4 rfl) ?_
      refine lv_iconst (v := 2) hx hb dL_law_130 (by decide) ?_
      refine lv_iadd hx hb dL_law_131 ?_
      refine va_sld hx hb hX hbl hbA hS ix2 dL_law_132 ?_
      refine lv_aload_n hx hb dL_law_133 rfl (lv_at hl 0 rfl) ?_
      refine lv_iload hx hb dL_law_134 (lv_at hl 4 rfl) ?_
      refine lv_iconst (v := 3) hx hb dL_law_136 (by decide) ?_
      refine lv_iadd hx hb dL_law_137 ?_
      refine va_sld hx hb hX hbl hbA hS ix3 dL_law_138 ?_
      refine lawVI (C := RX2) (ci := 2) (q0 := 14) (As := [.int (xs (nI (5 * k) + 1).toNatClampNeg), .int (xs (nI (5 * k) + 2).toNatClampNeg), .int (xs (nI (5 * k) + 3).toNatClampNeg)]) (rest := []) ⟨hx, hb, hml, hown, hts⟩ (c_X2_type l dC dI cI cZ a u (xs (nI (5 * k) + 1).toNatClampNeg) (xs (nI (5 * k) + 2).toNatClampNeg) (xs (nI (5 * k) + 3).toNatClampNeg) (r9, u9) e1) gL_law_X2_type rfl hd_X2_type rfl rfl rfl ⟨Nat.le_of_ble_eq_true rfl, Nat.le_of_ble_eq_true rfl⟩ True.intro hK2 hP1 (hD1 u v f) hS hA rfl hl.1 rfl (Nat.le_of_ble_eq_true rfl) dL_law_139 hcs (fun H locs hP1 hS hk1 => ?_)
      have hP2 := keepP hP2 hk1 (ap1 u v f)
      have hP3 := keepP hP3 hk1 (ap2 u v f)
      refine lv_aload_n hx hb dL_law_142 rfl (lv_at hl 2 rfl) ?_
      refine lv_aload_n hx hb dL_law_143 rfl (lv_at hl 0 rfl) ?_
      refine lv_iload hx hb dL_law_144 (lv_at hl 4 rfl) ?_
      refine lv_iconst (v := 1) hx hb dL_law_146 (by decide) ?_
      refine lv_iadd hx hb dL_law_147 ?_
      refine va_sld hx hb hX hbl hbA hS ix1 dL_law_148 ?_
      refine lv_aload_n hx hb dL_law_149 rfl (lv_at hl 0 rfl) ?_
      refine lv_iload hx hb dL_law_150 (lv_at hl 4 rfl) ?_
      refine lv_iconst (v := 2) hx hb dL_law_152 (by decide) ?_
      refine lv_iadd hx hb dL_law_153 ?_
      refine va_sld hx hb hX hbl hbA hS ix2 dL_law_154 ?_
      refine lv_aload_n hx hb dL_law_155 rfl (lv_at hl 0 rfl) ?_
      refine lv_iload hx hb dL_law_156 (lv_at hl 4 rfl) ?_
      refine lv_iconst (v := 3) hx hb dL_law_158 (by decide) ?_
      refine lv_iadd hx hb dL_law_159 ?_
      refine va_sld hx hb hX hbl hbA hS ix3 dL_law_160 ?_
      refine lawVI (C := RX3) (ci := 3) (q0 := 0) (As := [.int (xs (nI (5 * k) + 1).toNatClampNeg), .int (xs (nI (5 * k) + 2).toNatClampNeg), .int (xs (nI (5 * k) + 3).toNatClampNeg)]) (rest := [.int r9]) ⟨hx, hb, hml, hown, hts⟩ (c_X3_type l dC dI cI cZ a2 v (xs (nI (5 * k) + 1).toNatClampNeg) (xs (nI (5 * k) + 2).toNatClampNeg) (xs (nI (5 * k) + 3).toNatClampNeg) (r9, v9) e2) gL_law_X3_type rfl hd_X3_type rfl rfl rfl ⟨Nat.le_of_ble_eq_true rfl, Nat.le_of_ble_eq_true rfl⟩ True.intro hK2 hP2 (hD2 u v f) hS hA rfl hl.1 rfl (Nat.le_of_ble_eq_true rfl) dL_law_161 hcs (fun H locs hP2 hS hk1 => ?_)
      have hP1 := keepP hP1 hk1 (ap1 u9 v f).symm
      have hP3 := keepP hP3 hk1 (ap3 u v f)
      refine lv_icmp_eq (tgt := 577) hx hb dL_law_164 (by decide) (fun h9 => ?_) (fun h9 => ?_)
      · exact fin u9 v9 f H locs ls _ _ (by omega) (by omega) hI9 hP1 hP2 hP3 hS hl
      · exact absurd rfl h9
    by_cases g1 : sw = 1
    · refine lv_tableIn (tgt := 169) hx hb dL_law_39 (by rw [g1]; decide) (by rw [g1]; decide) (off := 130) (by rw [g1]; decide) (by decide) ?_
      obtain ⟨r9, u9, v9, e1, e2, hI9⟩ := (hAg u v hI).2.1 (xs (nI (5 * k) + 1).toNatClampNeg) (xs (nI (5 * k) + 2).toNatClampNeg) (xs (nI (5 * k) + 3).toNatClampNeg) (xs (nI (5 * k) + 4).toNatClampNeg)
      refine lv_aload_n hx hb dL_law_169 rfl (lv_at hl 1 rfl) ?_
      refine lv_aload_n hx hb dL_law_170 rfl (lv_at hl 0 rfl) ?_
      refine lv_iload hx hb dL_law_171 (lv_at hl 4 rfl) ?_
      refine lv_iconst (v := 1) hx hb dL_law_173 (by decide) ?_
      refine lv_iadd hx hb dL_law_174 ?_
      refine va_sld hx hb hX hbl hbA hS ix1 dL_law_175 ?_
      refine lv_aload_n hx hb dL_law_176 rfl (lv_at hl 0 rfl) ?_
      refine lv_iload hx hb dL_law_177 (lv_at hl 4 rfl) ?_
      refine lv_iconst (v := 2) hx hb dL_law_179 (by decide) ?_
      refine lv_iadd hx hb dL_law_180 ?_
      refine va_sld hx hb hX hbl hbA hS ix2 dL_law_181 ?_
      refine lv_aload_n hx hb dL_law_182 rfl (lv_at hl 0 rfl) ?_
      refine lv_iload hx hb dL_law_183 (lv_at hl 4 rfl) ?_
      refine lv_iconst (v := 3) hx hb dL_law_185 (by decide) ?_
      refine lv_iadd hx hb dL_law_186 ?_
      refine va_sld hx hb hX hbl hbA hS ix3 dL_law_187 ?_
      refine lv_aload_n hx hb dL_law_188 rfl (lv_at hl 0 rfl) ?_
      refine lv_iload hx hb dL_law_189 (lv_at hl 4 rfl) ?_
      refine lv_iconst (v := 4) hx hb dL_law_191 (by decide) ?_
      refine lv_iadd hx hb dL_law_192 ?_
      refine va_sld hx hb hX hbl hbA hS ix4 dL_law_193 ?_
      refine lawVI (C := RX2) (ci := 2) (q0 := 14) (As := [.int (xs (nI (5 * k) + 1).toNatClampNeg), .int (xs (nI (5 * k) + 2).toNatClampNeg), .int (xs (nI (5 * k) + 3).toNatClampNeg), .int (xs (nI (5 * k) + 4).toNatClampNeg)]) (rest := []) ⟨hx, hb, hml, hown, hts⟩ (c_X2_add l dC dI cI cZ a t u (xs (nI (5 * k) + 1).toNatClampNeg) (xs (nI (5 * k) + 2).toNatClampNeg) (xs (nI (5 * k) + 3).toNatClampNeg) (xs (nI (5 * k) + 4).toNatClampNeg) (r9, u9) e1) gL_law_X2_add rfl hd_X2_add rfl rfl rfl ⟨Nat.le_of_ble_eq_true rfl, Nat.le_of_ble_eq_true rfl⟩ hz hK2 hP1 (hD1 u v f) hS hA rfl hl.1 rfl (Nat.le_of_ble_eq_true rfl) dL_law_194 hcs (fun H locs hP1 hS hk1 => ?_)
      have hP2 := keepP hP2 hk1 (ap1 u v f)
      have hP3 := keepP hP3 hk1 (ap2 u v f)
      refine lv_aload_n hx hb dL_law_197 rfl (lv_at hl 2 rfl) ?_
      refine lv_aload_n hx hb dL_law_198 rfl (lv_at hl 0 rfl) ?_
      refine lv_iload hx hb dL_law_199 (lv_at hl 4 rfl) ?_
      refine lv_iconst (v := 1) hx hb dL_law_201 (by decide) ?_
      refine lv_iadd hx hb dL_law_202 ?_
      refine va_sld hx hb hX hbl hbA hS ix1 dL_law_203 ?_
      refine lv_aload_n hx hb dL_law_204 rfl (lv_at hl 0 rfl) ?_
      refine lv_iload hx hb dL_law_205 (lv_at hl 4 rfl) ?_
      refine lv_iconst (v := 2) hx hb dL_law_207 (by decide) ?_
      refine lv_iadd hx hb dL_law_208 ?_
      refine va_sld hx hb hX hbl hbA hS ix2 dL_law_209 ?_
      refine lv_aload_n hx hb dL_law_210 rfl (lv_at hl 0 rfl) ?_
      refine lv_iload hx hb dL_law_211 (lv_at hl 4 rfl) ?_
      refine lv_iconst (v := 3) hx hb dL_law_213 (by decide) ?_
      refine lv_iadd hx hb dL_law_214 ?_
      refine va_sld hx hb hX hbl hbA hS ix3 dL_law_215 ?_
      refine lv_aload_n hx hb dL_law_216 rfl (lv_at hl 0 rfl) ?_
      refine lv_iload hx hb dL_law_217 (lv_at hl 4 rfl) ?_
      refine lv_iconst (v := 4) hx hb dL_law_219 (by decide) ?_
      refine lv_iadd hx hb dL_law_220 ?_
      refine va_sld hx hb hX hbl hbA hS ix4 dL_law_221 ?_
      refine lawVI (C := RX3) (ci := 3) (q0 := 0) (As := [.int (xs (nI (5 * k) + 1).toNatClampNeg), .int (xs (nI (5 * k) + 2).toNatClampNeg), .int (xs (nI (5 * k) + 3).toNatClampNeg), .int (xs (nI (5 * k) + 4).toNatClampNeg)]) (rest := [.int r9]) ⟨hx, hb, hml, hown, hts⟩ (c_X3_add l dC dI cI cZ a2 v (xs (nI (5 * k) + 1).toNatClampNeg) (xs (nI (5 * k) + 2).toNatClampNeg) (xs (nI (5 * k) + 3).toNatClampNeg) (xs (nI (5 * k) + 4).toNatClampNeg) (r9, v9) e2) gL_law_X3_add rfl hd_X3_add rfl rfl rfl ⟨Nat.le_of_ble_eq_true rfl, Nat.le_of_ble_eq_true rfl⟩ True.intro hK2 hP2 (hD2 u v f) hS hA rfl hl.1 rfl (Nat.le_of_ble_eq_true rfl) dL_law_222 hcs (fun H locs hP2 hS hk1 => ?_)
      have hP1 := keepP hP1 hk1 (ap1 u9 v f).symm
      have hP3 := keepP hP3 hk1 (ap3 u v f)
      refine lv_icmp_eq (tgt := 577) hx hb dL_law_225 (by decide) (fun h9 => ?_) (fun h9 => ?_)
      · exact fin u9 v9 f H locs ls _ _ (by omega) (by omega) hI9 hP1 hP2 hP3 hS hl
      · exact absurd rfl h9
    by_cases g2 : sw = 2
    · refine lv_tableIn (tgt := 230) hx hb dL_law_39 (by rw [g2]; decide) (by rw [g2]; decide) (off := 191) (by rw [g2]; decide) (by decide) ?_
      obtain ⟨r9, u9, v9, e1, e2, hI9⟩ := (hAg u v hI).2.2.1
      refine lv_aload_n hx hb dL_law_230 rfl (lv_at hl 1 rfl) ?_
      refine lawVI (C := RX2) (ci := 2) (q0 := 14) (As := []) (rest := []) ⟨hx, hb, hml, hown, hts⟩ (c_X2_clear l dC dI cI cZ a u (r9, u9) e1) gL_law_X2_clear rfl hd_X2_clear rfl rfl rfl ⟨Nat.le_of_ble_eq_true rfl, Nat.le_of_ble_eq_true rfl⟩ True.intro hK2 hP1 (hD1 u v f) hS hA rfl hl.1 rfl (Nat.le_of_ble_eq_true rfl) dL_law_231 hcs (fun H locs hP1 hS hk1 => ?_)
      have hP2 := keepP hP2 hk1 (ap1 u v f)
      have hP3 := keepP hP3 hk1 (ap2 u v f)
      refine lv_aload_n hx hb dL_law_234 rfl (lv_at hl 2 rfl) ?_
      refine lawVI (C := RX3) (ci := 3) (q0 := 0) (As := []) (rest := [.int r9]) ⟨hx, hb, hml, hown, hts⟩ (c_X3_clear l dC dI cI cZ a2 v (r9, v9) e2) gL_law_X3_clear rfl hd_X3_clear rfl rfl rfl ⟨Nat.le_of_ble_eq_true rfl, Nat.le_of_ble_eq_true rfl⟩ True.intro hK2 hP2 (hD2 u v f) hS hA rfl hl.1 rfl (Nat.le_of_ble_eq_true rfl) dL_law_235 hcs (fun H locs hP2 hS hk1 => ?_)
      have hP1 := keepP hP1 hk1 (ap1 u9 v f).symm
      have hP3 := keepP hP3 hk1 (ap3 u v f)
      refine lv_icmp_eq (tgt := 577) hx hb dL_law_238 (by decide) (fun h9 => ?_) (fun h9 => ?_)
      · exact fin u9 v9 f H locs ls _ _ (by omega) (by omega) hI9 hP1 hP2 hP3 hS hl
      · exact absurd rfl h9
    by_cases g3 : sw = 3
    · refine lv_tableIn (tgt := 243) hx hb dL_law_39 (by rw [g3]; decide) (by rw [g3]; decide) (off := 204) (by rw [g3]; decide) (by decide) ?_
      obtain ⟨r9, u9, v9, e1, e2, hI9⟩ := (hAg u v hI).2.2.2.1 (xs (nI (5 * k) + 1).toNatClampNeg)
      refine lv_aload_n hx hb dL_law_243 rfl (lv_at hl 1 rfl) ?_
      refine lv_aload_n hx hb dL_law_244 rfl (lv_at hl 0 rfl) ?_
      refine lv_iload hx hb dL_law_245 (lv_at hl 4 rfl) ?_
      refine lv_iconst (v := 1) hx hb dL_law_247 (by decide) ?_
      refine lv_iadd hx hb dL_law_248 ?_
      refine va_sld hx hb hX hbl hbA hS ix1 dL_law_249 ?_
      refine lawVI (C := RX2) (ci := 2) (q0 := 14) (As := [.int (xs (nI (5 * k) + 1).toNatClampNeg)]) (rest := []) ⟨hx, hb, hml, hown, hts⟩ (c_X2_start l dC dI cI cZ a u (xs (nI (5 * k) + 1).toNatClampNeg) (r9, u9) e1) gL_law_X2_start rfl hd_X2_start rfl rfl rfl ⟨Nat.le_of_ble_eq_true rfl, Nat.le_of_ble_eq_true rfl⟩ True.intro hK2 hP1 (hD1 u v f) hS hA rfl hl.1 rfl (Nat.le_of_ble_eq_true rfl) dL_law_250 hcs (fun H locs hP1 hS hk1 => ?_)
      have hP2 := keepP hP2 hk1 (ap1 u v f)
      have hP3 := keepP hP3 hk1 (ap2 u v f)
      refine lv_aload_n hx hb dL_law_253 rfl (lv_at hl 2 rfl) ?_
      refine lv_aload_n hx hb dL_law_254 rfl (lv_at hl 0 rfl) ?_
      refine lv_iload hx hb dL_law_255 (lv_at hl 4 rfl) ?_
      refine lv_iconst (v := 1) hx hb dL_law_257 (by decide) ?_
      refine lv_iadd hx hb dL_law_258 ?_
      refine va_sld hx hb hX hbl hbA hS ix1 dL_law_259 ?_
      refine lawVI (C := RX3) (ci := 3) (q0 := 0) (As := [.int (xs (nI (5 * k) + 1).toNatClampNeg)]) (rest := [.int r9]) ⟨hx, hb, hml, hown, hts⟩ (c_X3_start l dC dI cI cZ a2 v (xs (nI (5 * k) + 1).toNatClampNeg) (r9, v9) e2) gL_law_X3_start rfl hd_X3_start rfl rfl rfl ⟨Nat.le_of_ble_eq_true rfl, Nat.le_of_ble_eq_true rfl⟩ True.intro hK2 hP2 (hD2 u v f) hS hA rfl hl.1 rfl (Nat.le_of_ble_eq_true rfl) dL_law_260 hcs (fun H locs hP2 hS hk1 => ?_)
      have hP1 := keepP hP1 hk1 (ap1 u9 v f).symm
      have hP3 := keepP hP3 hk1 (ap3 u v f)
      refine lv_icmp_eq (tgt := 577) hx hb dL_law_263 (by decide) (fun h9 => ?_) (fun h9 => ?_)
      · exact fin u9 v9 f H locs ls _ _ (by omega) (by omega) hI9 hP1 hP2 hP3 hS hl
      · exact absurd rfl h9
    by_cases g4 : sw = 4
    · refine lv_tableIn (tgt := 268) hx hb dL_law_39 (by rw [g4]; decide) (by rw [g4]; decide) (off := 229) (by rw [g4]; decide) (by decide) ?_
      obtain ⟨kx, r9, u9, r8, v9, e1, hk5, e2, e3, hrr, hI9⟩ := (hAg u v hI).2.2.2.2.1 (xs (nI (5 * k) + 1).toNatClampNeg)
      refine lv_aload_n hx hb dL_law_268 rfl (lv_at hl 1 rfl) ?_
      refine lv_aload_n hx hb dL_law_269 rfl (lv_at hl 0 rfl) ?_
      refine lv_iload hx hb dL_law_270 (lv_at hl 4 rfl) ?_
      refine lv_iconst (v := 1) hx hb dL_law_272 (by decide) ?_
      refine lv_iadd hx hb dL_law_273 ?_
      refine va_sld hx hb hX hbl hbA hS ix1 dL_law_274 ?_
      refine lv_aload_n hx hb dL_law_275 rfl (lv_at hl 3 rfl) ?_
      have tail : ∀ (f : Nat → Int64) (H : Heap) (locs : List Loc) (ls : Array Slot) (kc ks : Nat), kc ≤ 28 + (k + 1) → ks ≤ 900 + 6 * (k + 1) → (kx = 0 → f (0 : Int32).toNatClampNeg = r9.toInt64) → va_P (dC, dI) vwCl (wC a cI cZ u9) H → va_P (dC, dI) vwCl (wD a2 cI cZ v) H → va_P (dC, dI) vwCl (wO ao cL f) H → va_S (fun q : Nat => s.heap.size ≤ q) s.heap H locs → lv_has ls 7 [(0, .ref b), (1, .ref (a 14)), (2, .ref (a2 0)), (3, .ref ao), (4, .int (nI (5 * k)))] → W p l e room_1 s m #[Value.ref b] below meth c H locs kc ks (lw_Z below #[Value.ref b] s) (F0 m 279 ls [.int (nI kx)]) := by
        intro f H locs ls kc ks h2 h3 hf9 hP1 hP2 hP3 hS hl
        have hcs : kc ≤ 1059 ∧ ks ≤ 9134 := ⟨by omega, by omega⟩
        refine lv_istore (lv' := [(5, .int (nI kx)), (0, .ref b), (1, .ref (a 14)), (2, .ref (a2 0)), (3, .ref ao), (4, .int (nI (5 * k)))]) hx hb dL_law_279 hl (by decide) rfl (fun ls hl => ?_)
        refine lv_aload_n hx hb dL_law_281 rfl (lv_at hl 3 rfl) ?_
        refine lv_aload_n hx hb dL_law_282 rfl (lv_at hl 1 rfl) ?_
        refine lv_iload hx hb dL_law_283 (lv_at hl 5 rfl) ?_
        refine lv_iconst (v := 1) hx hb dL_law_285 (by decide) ?_
        refine lv_iadd hx hb dL_law_286 ?_
        refine va_sld hx hb hX hbl hbA hS ix1 dL_law_287 ?_
        refine lawVI (C := RX3) (ci := 3) (q0 := 0) (As := [.int (xs (nI (5 * k) + 1).toNatClampNeg)]) (rest := []) ⟨hx, hb, hml, hown, hts⟩ (c_X3_run l dC dI cI cZ a2 v (xs (nI (5 * k) + 1).toNatClampNeg) (r8, v9) e2) gL_law_X3_run rfl hd_X3_run rfl rfl rfl ⟨Nat.le_of_ble_eq_true rfl, Nat.le_of_ble_eq_true rfl⟩ True.intro hK2 hP2 (hD2 u v f) hS hA rfl hl.1 rfl (Nat.le_of_ble_eq_true rfl) dL_law_288 hcs (fun H locs hP2 hS hk1 => ?_)
        have hP1 := keepP hP1 hk1 (ap1 u9 v f).symm
        have hP3 := keepP hP3 hk1 (ap3 u v f)
        refine lv_istore (lv' := [(6, .int r8), (5, .int (nI kx)), (0, .ref b), (1, .ref (a 14)), (2, .ref (a2 0)), (3, .ref ao), (4, .int (nI (5 * k)))]) hx hb dL_law_291 hl (by decide) rfl (fun ls hl => ?_)
        refine lv_aload_n hx hb dL_law_293 rfl (lv_at hl 4 rfl) ?_
        refine lawVI (C := RX3) (ci := 3) (q0 := 0) (As := []) (rest := []) ⟨hx, hb, hml, hown, hts⟩ (c_X3_thrown l dC dI cI cZ a2 v9 (nI kx, v9) e3) gL_law_X3_thrown rfl hd_X3_thrown rfl rfl rfl ⟨Nat.le_of_ble_eq_true rfl, Nat.le_of_ble_eq_true rfl⟩ True.intro hK2 hP2 (hD2 u v9 f) hS hA rfl hl.1 rfl (Nat.le_of_ble_eq_true rfl) dL_law_294 hcs (fun H locs hP2 hS hk1 => ?_)
        have hP1 := keepP hP1 hk1 (ap1 u9 v9 f).symm
        have hP3 := keepP hP3 hk1 (ap3 u v9 f)
        refine lv_iload hx hb dL_law_297 (lv_at hl 1 rfl) ?_
        refine lv_icmp_eq (tgt := 304) hx hb dL_law_299 (by decide) (fun h9 => ?_) (fun h9 => ?_)
        · refine lv_iload hx hb dL_law_304 (lv_at hl 1 rfl) ?_
          refine lv_if_ne (tgt := 321) hx hb dL_law_306 (by decide) (fun h8 => ?_) (fun h8 => ?_)
          · refine lv_goto (tgt := 577) hx hb dL_law_321 (by decide) ?_
            exact fin u9 v9 f H locs ls _ _ h2 h3 hI9 hP1 hP2 hP3 hS (lv_sub hl [2, 3, 4, 5, 6] rfl)
          · have hk0 : kx = 0 := by
              rcases Nat.eq_zero_or_pos kx with h | h
              · exact h
              · exact absurd h8 (nI_ne0 h (by omega))
            refine lv_aload_n hx hb dL_law_309 rfl (lv_at hl 5 rfl) ?_
            refine lv_iconst (v := 0) hx hb dL_law_310 (by decide) ?_
            refine va_lald hx hb hK hP3 0 2 rfl rfl (show vp_in 0 1 by unfold vp_in; decide) dL_law_311 ?_
            refine lv_iload hx hb dL_law_312 (lv_at hl 0 rfl) ?_
            refine lv_i2l (v := r8.toInt64) hx hb dL_law_314 rfl ?_
            refine W.lcmp hx hb dL_law_315 ?_
            rw [hf9 hk0, hrr hk0, lg_cmp_self]
            refine lv_if_eq (tgt := 321) hx hb dL_law_316 (by decide) (fun h7 => ?_) (fun h7 => absurd rfl h7)
            refine lv_goto (tgt := 577) hx hb dL_law_321 (by decide) ?_
            exact fin u9 v9 f H locs ls _ _ h2 h3 hI9 hP1 hP2 hP3 hS (lv_sub hl [2, 3, 4, 5, 6] rfl)
        · exact absurd rfl h9
      have hPR : va_P (dC, dI) vwCl (wR a cI cZ ao cL (u, f)) H := hP1.app hP3
      have hDR : ∀ (u : St) (f : Nat → Int64), va_D (fun q : Nat => s.heap.size ≤ q) (wR a cI cZ ao cL (u, f)) := fun u f => (va_D.adr (w := wC a cI cZ u ++ (wO ao cL f ++ wD a2 cI cZ v)) (w' := (wC a cI cZ u ++ wO ao cL f) ++ wD a2 cI cZ v) rfl ((hDD u v f).sub [0, 1, 2, 3, 4, 5, 6, 7, 8, 9, 10, 11, 12, 13, 14, 15, 27, 16, 17, 18, 19, 20, 21, 22, 23, 24, 25, 26] (by decide) rfl)).left
      have apR : apt (wR a cI cZ ao cL (u, f)) (wD a2 cI cZ v) := (va_D.adr (w := wC a cI cZ u ++ (wO ao cL f ++ wD a2 cI cZ v)) (w' := (wC a cI cZ u ++ wO ao cL f) ++ wD a2 cI cZ v) rfl ((hDD u v f).sub [0, 1, 2, 3, 4, 5, 6, 7, 8, 9, 10, 11, 12, 13, 14, 15, 27, 16, 17, 18, 19, 20, 21, 22, 23, 24, 25, 26] (by decide) rfl)).apt
      have hFR := va_freeW (hDR u f) hS hA
      by_cases hk0 : kx = 0
      · subst hk0
        refine va_calli (vx_runSW (As := [.ref (a 14), .int (xs (nI (5 * k) + 1).toNatClampNeg), .ref ao]) (rest := []) (g := F0 m 276 ls _) ⟨hx, hb, hml, hown, hts⟩ (c_L_run_r l dC dI cI cZ cL a ao t u f (xs (nI (5 * k) + 1).toNatClampNeg) (r9, u9) e1 H.size) (vx_cwSW 3 hts gL_law_L_run rfl rfl rfl hd_L_run ⟨Nat.le_of_ble_eq_true rfl, Nat.le_of_ble_eq_true rfl⟩) ⟨prR_blind, prR_hold hz hnc hK hPR (hDR u f) hS hA⟩ rfl rfl hl.1 rfl (lv_room (Nat.le_of_ble_eq_true rfl)) dL_law_276 ⟨(by show 28 + k + 0 ≤ 1059; omega), (by show 900 + 6 * k + 0 ≤ 9134; omega)⟩) hS (fun q _ h => hFR q h) hFR (fun r_ v_ t_ H1 locs1 ht hvm hw9 hB hz1 hk1 hS => ?_)
        obtain ⟨hw1, hw2⟩ := hw9
        subst hw1; subst hw2
        have hB : va_P (dC, dI) vwCl (wR a cI cZ ao cL (u9, (vp_updL f (0 : Int32).toNatClampNeg r9.toInt64))) H1 := by rw [← ht]; exact hB
        exact tail (vp_updL f (0 : Int32).toNatClampNeg r9.toInt64) H1 locs1 ls _ _ (by omega) (by omega) (fun _ => by simp [vp_updL]) hB.left (keepP hP2 hk1 apR) hB.right hS hl
      · have hk0 := hk0
        refine va_calli (vx_runSW (As := [.ref (a 14), .int (xs (nI (5 * k) + 1).toNatClampNeg), .ref ao]) (rest := []) (g := F0 m 276 ls _) ⟨hx, hb, hml, hown, hts⟩ (c_L_run_t l hnt dC dI cI cZ cL a ao t u f (xs (nI (5 * k) + 1).toNatClampNeg) kx (r9, u9) e1 hk0 hk5 H.size) (vx_cwSW 3 hts gL_law_L_run rfl rfl rfl hd_L_run ⟨Nat.le_of_ble_eq_true rfl, Nat.le_of_ble_eq_true rfl⟩) ⟨prR_blind, prR_hold hz hnc hK hPR (hDR u f) hS hA⟩ rfl rfl hl.1 rfl (lv_room (Nat.le_of_ble_eq_true rfl)) dL_law_276 ⟨(by show 28 + k + 1 ≤ 1059; omega), (by show 900 + 6 * k + 6 ≤ 9134; omega)⟩) hS (fun q _ h => hFR q h) hFR (fun r_ v_ t_ H1 locs1 ht hvm hw9 hB hz1 hk1 hS => ?_)
        obtain ⟨hw1, hw2⟩ := hw9
        subst hw1; subst hw2
        have hB : va_P (dC, dI) vwCl (wR a cI cZ ao cL (u9, f)) H1 := by rw [← ht]; exact hB
        exact tail f H1 locs1 ls _ _ (by omega) (by omega) (fun h => absurd h hk0) hB.left (keepP hP2 hk1 apR) hB.right hS hl
    by_cases g5 : sw = 5
    · refine lv_tableIn (tgt := 324) hx hb dL_law_39 (by rw [g5]; decide) (by rw [g5]; decide) (off := 285) (by rw [g5]; decide) (by decide) ?_
      obtain ⟨r9, u9, v9, e1, e2, hI9⟩ := (hAg u v hI).2.2.2.2.2.1
      refine lv_aload_n hx hb dL_law_324 rfl (lv_at hl 1 rfl) ?_
      refine lawVI (C := RX2) (ci := 2) (q0 := 14) (As := []) (rest := []) ⟨hx, hb, hml, hown, hts⟩ (c_X2_next l dC dI cI cZ a u (r9, u9) e1) gL_law_X2_next rfl hd_X2_next rfl rfl rfl ⟨Nat.le_of_ble_eq_true rfl, Nat.le_of_ble_eq_true rfl⟩ True.intro hK2 hP1 (hD1 u v f) hS hA rfl hl.1 rfl (Nat.le_of_ble_eq_true rfl) dL_law_325 hcs (fun H locs hP1 hS hk1 => ?_)
      have hP2 := keepP hP2 hk1 (ap1 u v f)
      have hP3 := keepP hP3 hk1 (ap2 u v f)
      refine lv_aload_n hx hb dL_law_328 rfl (lv_at hl 2 rfl) ?_
      refine lawVI (C := RX3) (ci := 3) (q0 := 0) (As := []) (rest := [.int r9]) ⟨hx, hb, hml, hown, hts⟩ (c_X3_next l dC dI cI cZ a2 v (r9, v9) e2) gL_law_X3_next rfl hd_X3_next rfl rfl rfl ⟨Nat.le_of_ble_eq_true rfl, Nat.le_of_ble_eq_true rfl⟩ True.intro hK2 hP2 (hD2 u v f) hS hA rfl hl.1 rfl (Nat.le_of_ble_eq_true rfl) dL_law_329 hcs (fun H locs hP2 hS hk1 => ?_)
      have hP1 := keepP hP1 hk1 (ap1 u9 v f).symm
      have hP3 := keepP hP3 hk1 (ap3 u v f)
      refine lv_icmp_eq (tgt := 577) hx hb dL_law_332 (by decide) (fun h9 => ?_) (fun h9 => ?_)
      · exact fin u9 v9 f H locs ls _ _ (by omega) (by omega) hI9 hP1 hP2 hP3 hS hl
      · exact absurd rfl h9
    by_cases g6 : sw = 6
    · refine lv_tableIn (tgt := 337) hx hb dL_law_39 (by rw [g6]; decide) (by rw [g6]; decide) (off := 298) (by rw [g6]; decide) (by decide) ?_
      obtain ⟨r9, u9, v9, e1, e2, hI9⟩ := (hAg u v hI).2.2.2.2.2.2.1
      refine lv_aload_n hx hb dL_law_337 rfl (lv_at hl 1 rfl) ?_
      refine lawVI (C := RX2) (ci := 2) (q0 := 14) (As := []) (rest := []) ⟨hx, hb, hml, hown, hts⟩ (c_X2_open l dC dI cI cZ a u (r9, u9) e1) gL_law_X2_open rfl hd_X2_open rfl rfl rfl ⟨Nat.le_of_ble_eq_true rfl, Nat.le_of_ble_eq_true rfl⟩ True.intro hK2 hP1 (hD1 u v f) hS hA rfl hl.1 rfl (Nat.le_of_ble_eq_true rfl) dL_law_338 hcs (fun H locs hP1 hS hk1 => ?_)
      have hP2 := keepP hP2 hk1 (ap1 u v f)
      have hP3 := keepP hP3 hk1 (ap2 u v f)
      refine lv_aload_n hx hb dL_law_341 rfl (lv_at hl 2 rfl) ?_
      refine lawVI (C := RX3) (ci := 3) (q0 := 0) (As := []) (rest := [.int r9]) ⟨hx, hb, hml, hown, hts⟩ (c_X3_open l dC dI cI cZ a2 v (r9, v9) e2) gL_law_X3_open rfl hd_X3_open rfl rfl rfl ⟨Nat.le_of_ble_eq_true rfl, Nat.le_of_ble_eq_true rfl⟩ True.intro hK2 hP2 (hD2 u v f) hS hA rfl hl.1 rfl (Nat.le_of_ble_eq_true rfl) dL_law_342 hcs (fun H locs hP2 hS hk1 => ?_)
      have hP1 := keepP hP1 hk1 (ap1 u9 v f).symm
      have hP3 := keepP hP3 hk1 (ap3 u v f)
      refine lv_icmp_eq (tgt := 577) hx hb dL_law_345 (by decide) (fun h9 => ?_) (fun h9 => ?_)
      · exact fin u9 v9 f H locs ls _ _ (by omega) (by omega) hI9 hP1 hP2 hP3 hS hl
      · exact absurd rfl h9
    by_cases g7 : sw = 7
    · refine lv_tableIn (tgt := 350) hx hb dL_law_39 (by rw [g7]; decide) (by rw [g7]; decide) (off := 311) (by rw [g7]; decide) (by decide) ?_
      obtain ⟨r9, u9, v9, e1, e2, hI9⟩ := (hAg u v hI).2.2.2.2.2.2.2.1 (xs (nI (5 * k) + 1).toNatClampNeg)
      refine lv_aload_n hx hb dL_law_350 rfl (lv_at hl 1 rfl) ?_
      refine lv_aload_n hx hb dL_law_351 rfl (lv_at hl 0 rfl) ?_
      refine lv_iload hx hb dL_law_352 (lv_at hl 4 rfl) ?_
      refine lv_iconst (v := 1) hx hb dL_law_354 (by decide) ?_
      refine lv_iadd hx hb dL_law_355 ?_
      refine va_sld hx hb hX hbl hbA hS ix1 dL_law_356 ?_
      refine lawVI (C := RX2) (ci := 2) (q0 := 14) (As := [.int (xs (nI (5 * k) + 1).toNatClampNeg)]) (rest := []) ⟨hx, hb, hml, hown, hts⟩ (c_X2_frame l dC dI cI cZ a u (xs (nI (5 * k) + 1).toNatClampNeg) (r9, u9) e1) gL_law_X2_frame rfl hd_X2_frame rfl rfl rfl ⟨Nat.le_of_ble_eq_true rfl, Nat.le_of_ble_eq_true rfl⟩ True.intro hK2 hP1 (hD1 u v f) hS hA rfl hl.1 rfl (Nat.le_of_ble_eq_true rfl) dL_law_357 hcs (fun H locs hP1 hS hk1 => ?_)
      have hP2 := keepP hP2 hk1 (ap1 u v f)
      have hP3 := keepP hP3 hk1 (ap2 u v f)
      refine lv_aload_n hx hb dL_law_360 rfl (lv_at hl 2 rfl) ?_
      refine lv_aload_n hx hb dL_law_361 rfl (lv_at hl 0 rfl) ?_
      refine lv_iload hx hb dL_law_362 (lv_at hl 4 rfl) ?_
      refine lv_iconst (v := 1) hx hb dL_law_364 (by decide) ?_
      refine lv_iadd hx hb dL_law_365 ?_
      refine va_sld hx hb hX hbl hbA hS ix1 dL_law_366 ?_
      refine lawVI (C := RX3) (ci := 3) (q0 := 0) (As := [.int (xs (nI (5 * k) + 1).toNatClampNeg)]) (rest := [.int r9]) ⟨hx, hb, hml, hown, hts⟩ (c_X3_frame l dC dI cI cZ a2 v (xs (nI (5 * k) + 1).toNatClampNeg) (r9, v9) e2) gL_law_X3_frame rfl hd_X3_frame rfl rfl rfl ⟨Nat.le_of_ble_eq_true rfl, Nat.le_of_ble_eq_true rfl⟩ True.intro hK2 hP2 (hD2 u v f) hS hA rfl hl.1 rfl (Nat.le_of_ble_eq_true rfl) dL_law_367 hcs (fun H locs hP2 hS hk1 => ?_)
      have hP1 := keepP hP1 hk1 (ap1 u9 v f).symm
      have hP3 := keepP hP3 hk1 (ap3 u v f)
      refine lv_icmp_eq (tgt := 577) hx hb dL_law_370 (by decide) (fun h9 => ?_) (fun h9 => ?_)
      · exact fin u9 v9 f H locs ls _ _ (by omega) (by omega) hI9 hP1 hP2 hP3 hS hl
      · exact absurd rfl h9
    by_cases g8 : sw = 8
    · refine lv_tableIn (tgt := 375) hx hb dL_law_39 (by rw [g8]; decide) (by rw [g8]; decide) (off := 336) (by rw [g8]; decide) (by decide) ?_
      obtain ⟨r9, u9, v9, e1, e2, hI9⟩ := (hAg u v hI).2.2.2.2.2.2.2.2.1 (xs (nI (5 * k) + 1).toNatClampNeg) (xs (nI (5 * k) + 2).toNatClampNeg)
      refine lv_aload_n hx hb dL_law_375 rfl (lv_at hl 1 rfl) ?_
      refine lv_aload_n hx hb dL_law_376 rfl (lv_at hl 0 rfl) ?_
      refine lv_iload hx hb dL_law_377 (lv_at hl 4 rfl) ?_
      refine lv_iconst (v := 1) hx hb dL_law_379 (by decide) ?_
      refine lv_iadd hx hb dL_law_380 ?_
      refine va_sld hx hb hX hbl hbA hS ix1 dL_law_381 ?_
      refine lv_aload_n hx hb dL_law_382 rfl (lv_at hl 0 rfl) ?_
      refine lv_iload hx hb dL_law_383 (lv_at hl 4 rfl) ?_
      refine lv_iconst (v := 2) hx hb dL_law_385 (by decide) ?_
      refine lv_iadd hx hb dL_law_386 ?_
      refine va_sld hx hb hX hbl hbA hS ix2 dL_law_387 ?_
      refine lawVI (C := RX2) (ci := 2) (q0 := 14) (As := [.int (xs (nI (5 * k) + 1).toNatClampNeg), .int (xs (nI (5 * k) + 2).toNatClampNeg)]) (rest := []) ⟨hx, hb, hml, hown, hts⟩ (c_X2_set l dC dI cI cZ a u (xs (nI (5 * k) + 1).toNatClampNeg) (xs (nI (5 * k) + 2).toNatClampNeg) (r9, u9) e1) gL_law_X2_set rfl hd_X2_set rfl rfl rfl ⟨Nat.le_of_ble_eq_true rfl, Nat.le_of_ble_eq_true rfl⟩ True.intro hK2 hP1 (hD1 u v f) hS hA rfl hl.1 rfl (Nat.le_of_ble_eq_true rfl) dL_law_388 hcs (fun H locs hP1 hS hk1 => ?_)
      have hP2 := keepP hP2 hk1 (ap1 u v f)
      have hP3 := keepP hP3 hk1 (ap2 u v f)
      refine lv_aload_n hx hb dL_law_391 rfl (lv_at hl 2 rfl) ?_
      refine lv_aload_n hx hb dL_law_392 rfl (lv_at hl 0 rfl) ?_
      refine lv_iload hx hb dL_law_393 (lv_at hl 4 rfl) ?_
      refine lv_iconst (v := 1) hx hb dL_law_395 (by decide) ?_
      refine lv_iadd hx hb dL_law_396 ?_
      refine va_sld hx hb hX hbl hbA hS ix1 dL_law_397 ?_
      refine lv_aload_n hx hb dL_law_398 rfl (lv_at hl 0 rfl) ?_
      refine lv_iload hx hb dL_law_399 (lv_at hl 4 rfl) ?_
      refine lv_iconst (v := 2) hx hb dL_law_401 (by decide) ?_
      refine lv_iadd hx hb dL_law_402 ?_
      refine va_sld hx hb hX hbl hbA hS ix2 dL_law_403 ?_
      refine lawVI (C := RX3) (ci := 3) (q0 := 0) (As := [.int (xs (nI (5 * k) + 1).toNatClampNeg), .int (xs (nI (5 * k) + 2).toNatClampNeg)]) (rest := [.int r9]) ⟨hx, hb, hml, hown, hts⟩ (c_X3_set l dC dI cI cZ a2 v (xs (nI (5 * k) + 1).toNatClampNeg) (xs (nI (5 * k) + 2).toNatClampNeg) (r9, v9) e2) gL_law_X3_set rfl hd_X3_set rfl rfl rfl ⟨Nat.le_of_ble_eq_true rfl, Nat.le_of_ble_eq_true rfl⟩ True.intro hK2 hP2 (hD2 u v f) hS hA rfl hl.1 rfl (Nat.le_of_ble_eq_true rfl) dL_law_404 hcs (fun H locs hP2 hS hk1 => ?_)
      have hP1 := keepP hP1 hk1 (ap1 u9 v f).symm
      have hP3 := keepP hP3 hk1 (ap3 u v f)
      refine lv_icmp_eq (tgt := 577) hx hb dL_law_407 (by decide) (fun h9 => ?_) (fun h9 => ?_)
      · exact fin u9 v9 f H locs ls _ _ (by omega) (by omega) hI9 hP1 hP2 hP3 hS hl
      · exact absurd rfl h9
    by_cases g9 : sw = 9
    · refine lv_tableIn (tgt := 412) hx hb dL_law_39 (by rw [g9]; decide) (by rw [g9]; decide) (off := 373) (by rw [g9]; decide) (by decide) ?_
      obtain ⟨r9, u9, v9, e1, e2, hI9⟩ := (hAg u v hI).2.2.2.2.2.2.2.2.2.1 (xs (nI (5 * k) + 1).toNatClampNeg)
      refine lv_aload_n hx hb dL_law_412 rfl (lv_at hl 1 rfl) ?_
      refine lv_aload_n hx hb dL_law_413 rfl (lv_at hl 0 rfl) ?_
      refine lv_iload hx hb dL_law_414 (lv_at hl 4 rfl) ?_
      refine lv_iconst (v := 1) hx hb dL_law_416 (by decide) ?_
      refine lv_iadd hx hb dL_law_417 ?_
      refine va_sld hx hb hX hbl hbA hS ix1 dL_law_418 ?_
      refine lawVI (C := RX2) (ci := 2) (q0 := 14) (As := [.int (xs (nI (5 * k) + 1).toNatClampNeg)]) (rest := []) ⟨hx, hb, hml, hown, hts⟩ (c_X2_root l dC dI cI cZ a u (xs (nI (5 * k) + 1).toNatClampNeg) (r9, u9) e1) gL_law_X2_root rfl hd_X2_root rfl rfl rfl ⟨Nat.le_of_ble_eq_true rfl, Nat.le_of_ble_eq_true rfl⟩ True.intro hK2 hP1 (hD1 u v f) hS hA rfl hl.1 rfl (Nat.le_of_ble_eq_true rfl) dL_law_419 hcs (fun H locs hP1 hS hk1 => ?_)
      have hP2 := keepP hP2 hk1 (ap1 u v f)
      have hP3 := keepP hP3 hk1 (ap2 u v f)
      refine lv_aload_n hx hb dL_law_422 rfl (lv_at hl 2 rfl) ?_
      refine lv_aload_n hx hb dL_law_423 rfl (lv_at hl 0 rfl) ?_
      refine lv_iload hx hb dL_law_424 (lv_at hl 4 rfl) ?_
      refine lv_iconst (v := 1) hx hb dL_law_426 (by decide) ?_
      refine lv_iadd hx hb dL_law_427 ?_
      refine va_sld hx hb hX hbl hbA hS ix1 dL_law_428 ?_
      refine lawVI (C := RX3) (ci := 3) (q0 := 0) (As := [.int (xs (nI (5 * k) + 1).toNatClampNeg)]) (rest := [.int r9]) ⟨hx, hb, hml, hown, hts⟩ (c_X3_root l dC dI cI cZ a2 v (xs (nI (5 * k) + 1).toNatClampNeg) (r9, v9) e2) gL_law_X3_root rfl hd_X3_root rfl rfl rfl ⟨Nat.le_of_ble_eq_true rfl, Nat.le_of_ble_eq_true rfl⟩ True.intro hK2 hP2 (hD2 u v f) hS hA rfl hl.1 rfl (Nat.le_of_ble_eq_true rfl) dL_law_429 hcs (fun H locs hP2 hS hk1 => ?_)
      have hP1 := keepP hP1 hk1 (ap1 u9 v f).symm
      have hP3 := keepP hP3 hk1 (ap3 u v f)
      refine lv_icmp_eq (tgt := 577) hx hb dL_law_432 (by decide) (fun h9 => ?_) (fun h9 => ?_)
      · exact fin u9 v9 f H locs ls _ _ (by omega) (by omega) hI9 hP1 hP2 hP3 hS hl
      · exact absurd rfl h9
    by_cases g10 : sw = 10
    · refine lv_tableIn (tgt := 437) hx hb dL_law_39 (by rw [g10]; decide) (by rw [g10]; decide) (off := 398) (by rw [g10]; decide) (by decide) ?_
      obtain ⟨r9, u9, v9, e1, e2, hI9⟩ := (hAg u v hI).2.2.2.2.2.2.2.2.2.2.1
      refine lv_aload_n hx hb dL_law_437 rfl (lv_at hl 1 rfl) ?_
      refine lawVI (C := RX2) (ci := 2) (q0 := 14) (As := []) (rest := []) ⟨hx, hb, hml, hown, hts⟩ (c_X2_blocks l dC dI cI cZ a u (r9, u9) e1) gL_law_X2_blocks rfl hd_X2_blocks rfl rfl rfl ⟨Nat.le_of_ble_eq_true rfl, Nat.le_of_ble_eq_true rfl⟩ True.intro hK2 hP1 (hD1 u v f) hS hA rfl hl.1 rfl (Nat.le_of_ble_eq_true rfl) dL_law_438 hcs (fun H locs hP1 hS hk1 => ?_)
      have hP2 := keepP hP2 hk1 (ap1 u v f)
      have hP3 := keepP hP3 hk1 (ap2 u v f)
      refine lv_aload_n hx hb dL_law_441 rfl (lv_at hl 2 rfl) ?_
      refine lawVI (C := RX3) (ci := 3) (q0 := 0) (As := []) (rest := [.int r9]) ⟨hx, hb, hml, hown, hts⟩ (c_X3_blocks l dC dI cI cZ a2 v (r9, v9) e2) gL_law_X3_blocks rfl hd_X3_blocks rfl rfl rfl ⟨Nat.le_of_ble_eq_true rfl, Nat.le_of_ble_eq_true rfl⟩ True.intro hK2 hP2 (hD2 u v f) hS hA rfl hl.1 rfl (Nat.le_of_ble_eq_true rfl) dL_law_442 hcs (fun H locs hP2 hS hk1 => ?_)
      have hP1 := keepP hP1 hk1 (ap1 u9 v f).symm
      have hP3 := keepP hP3 hk1 (ap3 u v f)
      refine lv_icmp_eq (tgt := 577) hx hb dL_law_445 (by decide) (fun h9 => ?_) (fun h9 => ?_)
      · exact fin u9 v9 f H locs ls _ _ (by omega) (by omega) hI9 hP1 hP2 hP3 hS hl
      · exact absurd rfl h9
    by_cases g11 : sw = 11
    · refine lv_tableIn (tgt := 450) hx hb dL_law_39 (by rw [g11]; decide) (by rw [g11]; decide) (off := 411) (by rw [g11]; decide) (by decide) ?_
      obtain ⟨r9, u9, v9, e1, e2, hI9⟩ := (hAg u v hI).2.2.2.2.2.2.2.2.2.2.2.1 (xs (nI (5 * k) + 1).toNatClampNeg)
      refine lv_aload_n hx hb dL_law_450 rfl (lv_at hl 1 rfl) ?_
      refine lv_aload_n hx hb dL_law_451 rfl (lv_at hl 0 rfl) ?_
      refine lv_iload hx hb dL_law_452 (lv_at hl 4 rfl) ?_
      refine lv_iconst (v := 1) hx hb dL_law_454 (by decide) ?_
      refine lv_iadd hx hb dL_law_455 ?_
      refine va_sld hx hb hX hbl hbA hS ix1 dL_law_456 ?_
      refine lawVI (C := RX2) (ci := 2) (q0 := 14) (As := [.int (xs (nI (5 * k) + 1).toNatClampNeg)]) (rest := []) ⟨hx, hb, hml, hown, hts⟩ (c_X2_count l dC dI cI cZ a u (xs (nI (5 * k) + 1).toNatClampNeg) (r9, u9) e1) gL_law_X2_count rfl hd_X2_count rfl rfl rfl ⟨Nat.le_of_ble_eq_true rfl, Nat.le_of_ble_eq_true rfl⟩ True.intro hK2 hP1 (hD1 u v f) hS hA rfl hl.1 rfl (Nat.le_of_ble_eq_true rfl) dL_law_457 hcs (fun H locs hP1 hS hk1 => ?_)
      have hP2 := keepP hP2 hk1 (ap1 u v f)
      have hP3 := keepP hP3 hk1 (ap2 u v f)
      refine lv_aload_n hx hb dL_law_460 rfl (lv_at hl 2 rfl) ?_
      refine lv_aload_n hx hb dL_law_461 rfl (lv_at hl 0 rfl) ?_
      refine lv_iload hx hb dL_law_462 (lv_at hl 4 rfl) ?_
      refine lv_iconst (v := 1) hx hb dL_law_464 (by decide) ?_
      refine lv_iadd hx hb dL_law_465 ?_
      refine va_sld hx hb hX hbl hbA hS ix1 dL_law_466 ?_
      refine lawVI (C := RX3) (ci := 3) (q0 := 0) (As := [.int (xs (nI (5 * k) + 1).toNatClampNeg)]) (rest := [.int r9]) ⟨hx, hb, hml, hown, hts⟩ (c_X3_count l dC dI cI cZ a2 v (xs (nI (5 * k) + 1).toNatClampNeg) (r9, v9) e2) gL_law_X3_count rfl hd_X3_count rfl rfl rfl ⟨Nat.le_of_ble_eq_true rfl, Nat.le_of_ble_eq_true rfl⟩ True.intro hK2 hP2 (hD2 u v f) hS hA rfl hl.1 rfl (Nat.le_of_ble_eq_true rfl) dL_law_467 hcs (fun H locs hP2 hS hk1 => ?_)
      have hP1 := keepP hP1 hk1 (ap1 u9 v f).symm
      have hP3 := keepP hP3 hk1 (ap3 u v f)
      refine lv_icmp_eq (tgt := 577) hx hb dL_law_470 (by decide) (fun h9 => ?_) (fun h9 => ?_)
      · exact fin u9 v9 f H locs ls _ _ (by omega) (by omega) hI9 hP1 hP2 hP3 hS hl
      · exact absurd rfl h9
    by_cases g12 : sw = 12
    · refine lv_tableIn (tgt := 475) hx hb dL_law_39 (by rw [g12]; decide) (by rw [g12]; decide) (off := 436) (by rw [g12]; decide) (by decide) ?_
      obtain ⟨r9, u9, v9, e1, e2, hI9⟩ := (hAg u v hI).2.2.2.2.2.2.2.2.2.2.2.2.1 (xs (nI (5 * k) + 1).toNatClampNeg)
      refine lv_aload_n hx hb dL_law_475 rfl (lv_at hl 1 rfl) ?_
      refine lv_aload_n hx hb dL_law_476 rfl (lv_at hl 0 rfl) ?_
      refine lv_iload hx hb dL_law_477 (lv_at hl 4 rfl) ?_
      refine lv_iconst (v := 1) hx hb dL_law_479 (by decide) ?_
      refine lv_iadd hx hb dL_law_480 ?_
      refine va_sld hx hb hX hbl hbA hS ix1 dL_law_481 ?_
      refine lawVI (C := RX2) (ci := 2) (q0 := 14) (As := [.int (xs (nI (5 * k) + 1).toNatClampNeg)]) (rest := []) ⟨hx, hb, hml, hown, hts⟩ (c_X2_typeOf l dC dI cI cZ a u (xs (nI (5 * k) + 1).toNatClampNeg) (r9, u9) e1) gL_law_X2_typeOf rfl hd_X2_typeOf rfl rfl rfl ⟨Nat.le_of_ble_eq_true rfl, Nat.le_of_ble_eq_true rfl⟩ True.intro hK2 hP1 (hD1 u v f) hS hA rfl hl.1 rfl (Nat.le_of_ble_eq_true rfl) dL_law_482 hcs (fun H locs hP1 hS hk1 => ?_)
      have hP2 := keepP hP2 hk1 (ap1 u v f)
      have hP3 := keepP hP3 hk1 (ap2 u v f)
      refine lv_aload_n hx hb dL_law_485 rfl (lv_at hl 2 rfl) ?_
      refine lv_aload_n hx hb dL_law_486 rfl (lv_at hl 0 rfl) ?_
      refine lv_iload hx hb dL_law_487 (lv_at hl 4 rfl) ?_
      refine lv_iconst (v := 1) hx hb dL_law_489 (by decide) ?_
      refine lv_iadd hx hb dL_law_490 ?_
      refine va_sld hx hb hX hbl hbA hS ix1 dL_law_491 ?_
      refine lawVI (C := RX3) (ci := 3) (q0 := 0) (As := [.int (xs (nI (5 * k) + 1).toNatClampNeg)]) (rest := [.int r9]) ⟨hx, hb, hml, hown, hts⟩ (c_X3_typeOf l dC dI cI cZ a2 v (xs (nI (5 * k) + 1).toNatClampNeg) (r9, v9) e2) gL_law_X3_typeOf rfl hd_X3_typeOf rfl rfl rfl ⟨Nat.le_of_ble_eq_true rfl, Nat.le_of_ble_eq_true rfl⟩ True.intro hK2 hP2 (hD2 u v f) hS hA rfl hl.1 rfl (Nat.le_of_ble_eq_true rfl) dL_law_492 hcs (fun H locs hP2 hS hk1 => ?_)
      have hP1 := keepP hP1 hk1 (ap1 u9 v f).symm
      have hP3 := keepP hP3 hk1 (ap3 u v f)
      refine lv_icmp_eq (tgt := 577) hx hb dL_law_495 (by decide) (fun h9 => ?_) (fun h9 => ?_)
      · exact fin u9 v9 f H locs ls _ _ (by omega) (by omega) hI9 hP1 hP2 hP3 hS hl
      · exact absurd rfl h9
    by_cases g13 : sw = 13
    · refine lv_tableIn (tgt := 500) hx hb dL_law_39 (by rw [g13]; decide) (by rw [g13]; decide) (off := 461) (by rw [g13]; decide) (by decide) ?_
      obtain ⟨r9, u9, v9, e1, e2, hI9⟩ := (hAg u v hI).2.2.2.2.2.2.2.2.2.2.2.2.2.1 (xs (nI (5 * k) + 1).toNatClampNeg) (xs (nI (5 * k) + 2).toNatClampNeg)
      refine lv_aload_n hx hb dL_law_500 rfl (lv_at hl 1 rfl) ?_
      refine lv_aload_n hx hb dL_law_501 rfl (lv_at hl 0 rfl) ?_
      refine lv_iload hx hb dL_law_502 (lv_at hl 4 rfl) ?_
      refine lv_iconst (v := 1) hx hb dL_law_504 (by decide) ?_
      refine lv_iadd hx hb dL_law_505 ?_
      refine va_sld hx hb hX hbl hbA hS ix1 dL_law_506 ?_
      refine lv_aload_n hx hb dL_law_507 rfl (lv_at hl 0 rfl) ?_
      refine lv_iload hx hb dL_law_508 (lv_at hl 4 rfl) ?_
      refine lv_iconst (v := 2) hx hb dL_law_510 (by decide) ?_
      refine lv_iadd hx hb dL_law_511 ?_
      refine va_sld hx hb hX hbl hbA hS ix2 dL_law_512 ?_
      refine lawVL (C := RX2) (ci := 2) (q0 := 14) (As := [.int (xs (nI (5 * k) + 1).toNatClampNeg), .int (xs (nI (5 * k) + 2).toNatClampNeg)]) (rest := []) ⟨hx, hb, hml, hown, hts⟩ (c_X2_word l dC dI cI cZ a u (xs (nI (5 * k) + 1).toNatClampNeg) (xs (nI (5 * k) + 2).toNatClampNeg) (r9, u9) e1) gL_law_X2_word rfl hd_X2_word rfl rfl rfl ⟨Nat.le_of_ble_eq_true rfl, Nat.le_of_ble_eq_true rfl⟩ True.intro hK2 hP1 (hD1 u v f) hS hA rfl hl.1 rfl (Nat.le_of_ble_eq_true rfl) dL_law_513 hcs (fun H locs hP1 hS hk1 => ?_)
      have hP2 := keepP hP2 hk1 (ap1 u v f)
      have hP3 := keepP hP3 hk1 (ap2 u v f)
      refine lv_aload_n hx hb dL_law_516 rfl (lv_at hl 2 rfl) ?_
      refine lv_aload_n hx hb dL_law_517 rfl (lv_at hl 0 rfl) ?_
      refine lv_iload hx hb dL_law_518 (lv_at hl 4 rfl) ?_
      refine lv_iconst (v := 1) hx hb dL_law_520 (by decide) ?_
      refine lv_iadd hx hb dL_law_521 ?_
      refine va_sld hx hb hX hbl hbA hS ix1 dL_law_522 ?_
      refine lv_aload_n hx hb dL_law_523 rfl (lv_at hl 0 rfl) ?_
      refine lv_iload hx hb dL_law_524 (lv_at hl 4 rfl) ?_
      refine lv_iconst (v := 2) hx hb dL_law_526 (by decide) ?_
      refine lv_iadd hx hb dL_law_527 ?_
      refine va_sld hx hb hX hbl hbA hS ix2 dL_law_528 ?_
      refine lawVL (C := RX3) (ci := 3) (q0 := 0) (As := [.int (xs (nI (5 * k) + 1).toNatClampNeg), .int (xs (nI (5 * k) + 2).toNatClampNeg)]) (rest := [.long r9]) ⟨hx, hb, hml, hown, hts⟩ (c_X3_word l dC dI cI cZ a2 v (xs (nI (5 * k) + 1).toNatClampNeg) (xs (nI (5 * k) + 2).toNatClampNeg) (r9, v9) e2) gL_law_X3_word rfl hd_X3_word rfl rfl rfl ⟨Nat.le_of_ble_eq_true rfl, Nat.le_of_ble_eq_true rfl⟩ True.intro hK2 hP2 (hD2 u v f) hS hA rfl hl.1 rfl (Nat.le_of_ble_eq_true rfl) dL_law_529 hcs (fun H locs hP2 hS hk1 => ?_)
      have hP1 := keepP hP1 hk1 (ap1 u9 v f).symm
      have hP3 := keepP hP3 hk1 (ap3 u v f)
      refine W.lcmp hx hb dL_law_532 ?_
      refine lv_if_eq (tgt := 577) hx hb dL_law_533 (by decide) (fun h9 => ?_) (fun h9 => ?_)
      · exact fin u9 v9 f H locs ls _ _ (by omega) (by omega) hI9 hP1 hP2 hP3 hS hl
      · exact absurd (lg_cmp_self r9) h9
    by_cases g14 : sw = 14
    · refine lv_tableIn (tgt := 538) hx hb dL_law_39 (by rw [g14]; decide) (by rw [g14]; decide) (off := 499) (by rw [g14]; decide) (by decide) ?_
      obtain ⟨r9, u9, v9, e1, e2, hI9⟩ := (hAg u v hI).2.2.2.2.2.2.2.2.2.2.2.2.2.2.1
      refine lv_aload_n hx hb dL_law_538 rfl (lv_at hl 1 rfl) ?_
      refine lawVI (C := RX2) (ci := 2) (q0 := 14) (As := []) (rest := []) ⟨hx, hb, hml, hown, hts⟩ (c_X2_given l dC dI cI cZ a u (r9, u9) e1) gL_law_X2_given rfl hd_X2_given rfl rfl rfl ⟨Nat.le_of_ble_eq_true rfl, Nat.le_of_ble_eq_true rfl⟩ True.intro hK2 hP1 (hD1 u v f) hS hA rfl hl.1 rfl (Nat.le_of_ble_eq_true rfl) dL_law_539 hcs (fun H locs hP1 hS hk1 => ?_)
      have hP2 := keepP hP2 hk1 (ap1 u v f)
      have hP3 := keepP hP3 hk1 (ap2 u v f)
      refine lv_aload_n hx hb dL_law_542 rfl (lv_at hl 2 rfl) ?_
      refine lawVI (C := RX3) (ci := 3) (q0 := 0) (As := []) (rest := [.int r9]) ⟨hx, hb, hml, hown, hts⟩ (c_X3_given l dC dI cI cZ a2 v (r9, v9) e2) gL_law_X3_given rfl hd_X3_given rfl rfl rfl ⟨Nat.le_of_ble_eq_true rfl, Nat.le_of_ble_eq_true rfl⟩ True.intro hK2 hP2 (hD2 u v f) hS hA rfl hl.1 rfl (Nat.le_of_ble_eq_true rfl) dL_law_543 hcs (fun H locs hP2 hS hk1 => ?_)
      have hP1 := keepP hP1 hk1 (ap1 u9 v f).symm
      have hP3 := keepP hP3 hk1 (ap3 u v f)
      refine lv_icmp_eq (tgt := 577) hx hb dL_law_546 (by decide) (fun h9 => ?_) (fun h9 => ?_)
      · exact fin u9 v9 f H locs ls _ _ (by omega) (by omega) hI9 hP1 hP2 hP3 hS hl
      · exact absurd rfl h9
    by_cases g15 : sw = 15
    · refine lv_tableIn (tgt := 551) hx hb dL_law_39 (by rw [g15]; decide) (by rw [g15]; decide) (off := 512) (by rw [g15]; decide) (by decide) ?_
      obtain ⟨r9, u9, v9, e1, e2, hI9⟩ := (hAg u v hI).2.2.2.2.2.2.2.2.2.2.2.2.2.2.2.1
      refine lv_aload_n hx hb dL_law_551 rfl (lv_at hl 1 rfl) ?_
      refine lawVI (C := RX2) (ci := 2) (q0 := 14) (As := []) (rest := []) ⟨hx, hb, hml, hown, hts⟩ (c_X2_lost l dC dI cI cZ a u (r9, u9) e1) gL_law_X2_lost rfl hd_X2_lost rfl rfl rfl ⟨Nat.le_of_ble_eq_true rfl, Nat.le_of_ble_eq_true rfl⟩ True.intro hK2 hP1 (hD1 u v f) hS hA rfl hl.1 rfl (Nat.le_of_ble_eq_true rfl) dL_law_552 hcs (fun H locs hP1 hS hk1 => ?_)
      have hP2 := keepP hP2 hk1 (ap1 u v f)
      have hP3 := keepP hP3 hk1 (ap2 u v f)
      refine lv_aload_n hx hb dL_law_555 rfl (lv_at hl 2 rfl) ?_
      refine lawVI (C := RX3) (ci := 3) (q0 := 0) (As := []) (rest := [.int r9]) ⟨hx, hb, hml, hown, hts⟩ (c_X3_lost l dC dI cI cZ a2 v (r9, v9) e2) gL_law_X3_lost rfl hd_X3_lost rfl rfl rfl ⟨Nat.le_of_ble_eq_true rfl, Nat.le_of_ble_eq_true rfl⟩ True.intro hK2 hP2 (hD2 u v f) hS hA rfl hl.1 rfl (Nat.le_of_ble_eq_true rfl) dL_law_556 hcs (fun H locs hP2 hS hk1 => ?_)
      have hP1 := keepP hP1 hk1 (ap1 u9 v f).symm
      have hP3 := keepP hP3 hk1 (ap3 u v f)
      refine lv_icmp_eq (tgt := 577) hx hb dL_law_559 (by decide) (fun h9 => ?_) (fun h9 => ?_)
      · exact fin u9 v9 f H locs ls _ _ (by omega) (by omega) hI9 hP1 hP2 hP3 hS hl
      · exact absurd rfl h9
    by_cases g16 : sw = 16
    · refine lv_tableIn (tgt := 564) hx hb dL_law_39 (by rw [g16]; decide) (by rw [g16]; decide) (off := 525) (by rw [g16]; decide) (by decide) ?_
      obtain ⟨r9, u9, v9, e1, e2, hI9⟩ := (hAg u v hI).2.2.2.2.2.2.2.2.2.2.2.2.2.2.2.2
      refine lv_aload_n hx hb dL_law_564 rfl (lv_at hl 1 rfl) ?_
      refine lawVI (C := RX2) (ci := 2) (q0 := 14) (As := []) (rest := []) ⟨hx, hb, hml, hown, hts⟩ (c_X2_collect l dC dI cI cZ a u (r9, u9) e1) gL_law_X2_collect rfl hd_X2_collect rfl rfl rfl ⟨Nat.le_of_ble_eq_true rfl, Nat.le_of_ble_eq_true rfl⟩ True.intro hK2 hP1 (hD1 u v f) hS hA rfl hl.1 rfl (Nat.le_of_ble_eq_true rfl) dL_law_565 hcs (fun H locs hP1 hS hk1 => ?_)
      have hP2 := keepP hP2 hk1 (ap1 u v f)
      have hP3 := keepP hP3 hk1 (ap2 u v f)
      refine lv_aload_n hx hb dL_law_568 rfl (lv_at hl 2 rfl) ?_
      refine lawVI (C := RX3) (ci := 3) (q0 := 0) (As := []) (rest := [.int r9]) ⟨hx, hb, hml, hown, hts⟩ (c_X3_collect l dC dI cI cZ a2 v (r9, v9) e2) gL_law_X3_collect rfl hd_X3_collect rfl rfl rfl ⟨Nat.le_of_ble_eq_true rfl, Nat.le_of_ble_eq_true rfl⟩ True.intro hK2 hP2 (hD2 u v f) hS hA rfl hl.1 rfl (Nat.le_of_ble_eq_true rfl) dL_law_569 hcs (fun H locs hP2 hS hk1 => ?_)
      have hP1 := keepP hP1 hk1 (ap1 u9 v f).symm
      have hP3 := keepP hP3 hk1 (ap3 u v f)
      refine lv_icmp_eq (tgt := 577) hx hb dL_law_572 (by decide) (fun h9 => ?_) (fun h9 => ?_)
      · exact fin u9 v9 f H locs ls _ _ (by omega) (by omega) hI9 hP1 hP2 hP3 hS hl
      · exact absurd rfl h9
    refine lv_tableOut (tgt := 577) hx hb dL_law_39 (sw_out (fun w9 y1 y2 y3 => by
        have y4 : w9 = 0 ∨ w9 = 1 ∨ w9 = 2 ∨ w9 = 3 ∨ w9 = 4 ∨ w9 = 5 ∨ w9 = 6 ∨ w9 = 7 ∨ w9 = 8 ∨ w9 = 9 ∨ w9 = 10 ∨ w9 = 11 ∨ w9 = 12 ∨ w9 = 13 ∨ w9 = 14 ∨ w9 = 15 ∨ w9 = 16 := by omega
        rcases y4 with rfl | rfl | rfl | rfl | rfl | rfl | rfl | rfl | rfl | rfl | rfl | rfl | rfl | rfl | rfl | rfl | rfl
        · exact g0 (Int32.toInt_inj.mp (y3.trans (by decide)))
        · exact g1 (Int32.toInt_inj.mp (y3.trans (by decide)))
        · exact g2 (Int32.toInt_inj.mp (y3.trans (by decide)))
        · exact g3 (Int32.toInt_inj.mp (y3.trans (by decide)))
        · exact g4 (Int32.toInt_inj.mp (y3.trans (by decide)))
        · exact g5 (Int32.toInt_inj.mp (y3.trans (by decide)))
        · exact g6 (Int32.toInt_inj.mp (y3.trans (by decide)))
        · exact g7 (Int32.toInt_inj.mp (y3.trans (by decide)))
        · exact g8 (Int32.toInt_inj.mp (y3.trans (by decide)))
        · exact g9 (Int32.toInt_inj.mp (y3.trans (by decide)))
        · exact g10 (Int32.toInt_inj.mp (y3.trans (by decide)))
        · exact g11 (Int32.toInt_inj.mp (y3.trans (by decide)))
        · exact g12 (Int32.toInt_inj.mp (y3.trans (by decide)))
        · exact g13 (Int32.toInt_inj.mp (y3.trans (by decide)))
        · exact g14 (Int32.toInt_inj.mp (y3.trans (by decide)))
        · exact g15 (Int32.toInt_inj.mp (y3.trans (by decide)))
        · exact g16 (Int32.toInt_inj.mp (y3.trans (by decide))))) (by decide) ?_
    exact fin u v f H locs ls _ _ (by omega) (by omega) hI hP1 hP2 hP3 hS hl
