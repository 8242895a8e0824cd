/-! PURE: the checks before an instruction -/
theorem chk {u v : St} {sz ty : Nat → Nat} {us : Nat → Bool} {k11 : St → Int32 → Int32 → Int32 → Option (Int32 × St)} {p o i : Nat} {r x : Int32} (h : HI u sz ty us 0) (hM : MH u v sz ty us) (hT : F_X3_takes v (nI o) (nI i) = some (r, v)) (hr : r = 0 ∨ r = 1 ∨ r = 2 ∨ r = 3 ∨ r = 4) (hR : Rl r x) (hx : v 3 (4 * p + 1 + i) = x) (hp : p < 40) (hi : i < 3) :
    ∃ k v', k < 4 ∧ F_X2_checkOperand u r x = some (k, 0, u) ∧ Sc v v' ∧ F_X3_fault_11 k11 v (nI p) (nI o) (nI i) = (if k = 0 then k11 v' (nI p) (nI o) (nI (i + 1)) else some (nI k, v')) ∧ (k = 0 → (r = 1 ∨ r = 2) → ∃ c, Cell u sz ty us x c ∧ AZ (pt u sz ty) us c = decide (r = 2)) := by
  unfold F_X3_fault_11
  rw [if_neg (show ¬ (3 : Int32) ≤ nI i from nI_ge (b := 3) hi (by decide)), ob hT]
  dsimp only
  by_cases h12 : r = 1 ∨ r = 2
  · obtain ⟨k, v', hk, hC, hF, hS, hc⟩ := opdA h hM h12 (hR.1 h12)
    refine ⟨k, v', hk, hC, hS, ?_, fun h0 _ => hc h0⟩
    have e35 : F_X3_fault_35 k11 v (nI p) (nI o) (nI i) r = (if k = 0 then k11 v' (nI p) (nI o) (nI (i + 1)) else some (nI k, v')) := by
      unfold F_X3_fault_35
      have e1 : (4 : Int32) * nI p + 1 + nI i = nI (4 * p + 1 + i) := by rw [show (4 : Int32) * nI p = nI (4 * p) from pk_mul 4 p, show nI (4 * p) + 1 = nI (4 * p + 1) from nI_add _ 1, nI_add]
      rw [e1, if_neg (in_ck (show 4 * p + 1 + i < 160 by omega) (by decide)), nI_clamp (by omega), hx, ob hF]
      dsimp only
      unfold F_X3_fault_57
      rw [nI_1]
      by_cases hk0 : k = 0
      · rw [if_pos hk0, if_pos (show nI k ≤ 0 by rw [hk0]; decide)]
      · rw [if_neg hk0, if_neg (show ¬ nI k ≤ 0 from nI_nle (by omega) (by omega))]
    by_cases e1 : r = 1
    · rw [if_pos e1, e35]
    · rw [if_neg e1, if_pos (h12.resolve_left e1), e35]
  · refine ⟨0, v, by decide, ?_, Sc.rf, ?_, fun _ q => absurd q h12⟩
    · unfold F_X2_checkOperand
      rw [if_neg (fun q => h12 (Or.inl q)), if_neg (fun q => h12 (Or.inr q))]
    · rw [if_neg (fun q => h12 (Or.inl q)), if_neg (fun q => h12 (Or.inr q)), if_pos rfl]
      unfold F_X3_fault_57
      rw [if_pos (by decide), nI_1]
theorem ct_full {us : Nat → Bool} (h0 : us 0 = false) (h : ∀ x, 1 ≤ x → x ≤ 24 → us x = true) : ct us 25 = 24 := by
  rw [ct_congr (q := fun c => decide (c ≠ 0)) (fun c hc => by
    by_cases e : c = 0
    · simp [e, h0]
    · simp [e, h c (by omega) (by omega)])]
  decide
theorem ct_hole {us : Nat → Bool} {y : Nat} (h0 : us 0 = false) (h1 : 1 ≤ y) (h2 : y ≤ 24) (hy : us y = false) : ct us 25 ≤ 23 := by
  have h3 := ct_wo (p := fun c => decide (c ≠ 0)) (i := y) (n := 25) (by omega)
  rw [if_pos (by simp; omega), show ct (fun c => decide (c ≠ 0)) 25 = 24 by decide] at h3
  have h4 : ct us 25 ≤ ct (wo (fun c => decide (c ≠ 0)) y) 25 := ct_mono (fun c _ hc => by
    have e0 : c ≠ 0 := fun e => by rw [e, h0] at hc; cases hc
    have ey : c ≠ y := fun e => by rw [e, hy] at hc; cases hc
    simp [wo, e0, ey])
  omega
theorem room {u v : St} {sz ty : Nat → Nat} {us : Nat → Bool} {k11 : St → Int32 → Int32 → Int32 → Option (Int32 × St)} {nx dp o : Nat} {P : Int32} (h : HI u sz ty us 0) (hM : MH u v sz ty us) (hl : Pl u v nx dp) (ho : o < 15) :
    ∃ k, k < 5 ∧ F_X2_checkRoom u (nI o) = some (k, 0, u) ∧ F_X3_fault_11 k11 v P (nI o) (nI 3) = some (nI k, v) ∧ (k = 0 → (o = 9 → ∃ y, 1 ≤ y ∧ y ≤ 24 ∧ us y = false) ∧ (o = 13 → dp < 8) ∧ (o = 14 → 0 < dp)) := by
  have hne : ∀ n : Nat, n < 15 → o ≠ n → ¬ nI o = nI n := fun n hn hno q => hno ((nI_eq (by omega) (by omega)).mp q)
  unfold F_X2_checkRoom F_X3_fault_11
  rw [if_pos (show (3 : Int32) ≤ nI 3 by decide)]
  by_cases h9 : o = 9
  · subst h9
    rw [if_pos (show nI 9 = 9 from rfl), if_pos (show nI 9 = 9 from rfl)]
    have hF : F_X0_isFull u = some (if ct us 25 < 24 then 0 else 1, u) := by
      unfold F_X0_isFull
      have := ct24 h.1.2.2.2.1
      rw [h.2.1]
      by_cases hc : ct us 25 < 24
      · rw [if_pos (show nI (ct us 25) < 24 from nI_lt (b := 24) hc (by decide)), if_pos hc]
      · rw [if_neg (show ¬ nI (ct us 25) < 24 from nI_nlt (b := 24) (by omega) (by omega)), if_neg hc]
    rw [ob hF]
    dsimp only
    rcases rFree hM fuel 1 (by decide) (by decide) (by decide) (fun x x1 x2 => by omega) with ⟨y, hy, y1, y2, y3, _⟩ | ⟨hy, hall⟩
    · have hy' : F_X3_free v = some (nI y, v) := hy
      have := ct_hole h.1.2.2.2.1 y1 y2 y3
      rw [ob hy']
      dsimp only
      rw [if_pos (show ct us 25 < 24 by omega), if_pos rfl, if_neg (show ¬ nI y = 0 from nI_ne0 (by omega) (by omega))]
      exact ⟨0, by decide, rfl, rfl, fun _ => ⟨fun _ => ⟨y, y1, y2, y3⟩, fun q => absurd q (by decide), fun q => absurd q (by decide)⟩⟩
    · have hy' : F_X3_free v = some (0, v) := hy
      have := ct_full h.1.2.2.2.1 hall
      rw [ob hy']
      dsimp only
      rw [if_neg (show ¬ ct us 25 < 24 by omega), if_neg (by decide), if_pos rfl]
      exact ⟨4, by decide, rfl, rfl, fun q => absurd q (by decide)⟩
  · rw [if_neg (show ¬ nI o = 9 from hne 9 (by decide) h9), if_neg (show ¬ nI o = 9 from hne 9 (by decide) h9)]
    unfold F_X2_checkRoom_26 F_X3_fault_86
    obtain ⟨_, _, _, d1, d2, d3, _⟩ := hl
    by_cases h13 : o = 13
    · subst h13
      rw [if_pos (show nI 13 = 13 from rfl), if_pos (show nI 13 = 13 from rfl), d1, d2]
      by_cases h8 : dp = 8
      · rw [if_neg (show ¬ nI dp < 8 from nI_nlt (b := 8) (by omega) (by omega)), if_pos (show nI dp = 8 by rw [h8]; rfl)]
        exact ⟨4, by decide, rfl, rfl, fun q => absurd q (by decide)⟩
      · rw [if_pos (show nI dp < 8 from nI_lt (b := 8) (by omega) (by decide)), if_neg (show ¬ nI dp = 8 from fun q => h8 ((nI_eq (b := 8) (by omega) (by decide)).mp q))]
        exact ⟨0, by decide, rfl, rfl, fun _ => ⟨fun q => absurd q (by decide), fun _ => by omega, fun q => absurd q (by decide)⟩⟩
    · rw [if_neg (show ¬ nI o = 13 from hne 13 (by decide) h13), if_neg (show ¬ nI o = 13 from hne 13 (by decide) h13)]
      unfold F_X2_checkRoom_51 F_X3_fault_103
      by_cases h14 : o = 14
      · subst h14
        rw [if_pos (show nI 14 = 14 from rfl), if_pos (show nI 14 = 14 from rfl), d1, d2]
        by_cases h0 : dp = 0
        · rw [if_neg (show ¬ (0 : Int32) < nI dp from nI_nlt (a := 0) (by omega) (by omega)), if_pos (show nI dp = 0 by rw [h0]; rfl)]
          exact ⟨1, by decide, rfl, rfl, fun q => absurd q (by decide)⟩
        · rw [if_pos (show (0 : Int32) < nI dp from nI_lt (a := 0) (by omega) (by omega)), if_neg (show ¬ nI dp = 0 from nI_ne0 (by omega) (by omega))]
          exact ⟨0, by decide, rfl, rfl, fun _ => ⟨fun q => absurd q (by decide), fun q => absurd q (by decide), fun _ => by omega⟩⟩
      · rw [if_neg (show ¬ nI o = 14 from hne 14 (by decide) h14), if_neg (show ¬ nI o = 14 from hne 14 (by decide) h14)]
        exact ⟨0, by decide, rfl, rfl, fun _ => ⟨fun q => absurd q h9, fun q => absurd q h13, fun q => absurd q h14⟩⟩
/-- what the class does once the checks are passed -/
def bdC (u : St) (P : Int32) (o : Nat) (x y z : Int32) : Option (Nat × Int32 × St) :=
  if rlX o = 1 then (F_X0_cellOf u x).bind fun q34 => (F_X2_intResult q34.2 (nI o) y z).bind fun q36 => (F_X0_writeInt q36.2 q34.1 q36.1).bind fun q38 => F_X2_doInstruction_142 q38.2 P (nI o) x y
  else if rlX o = 2 then (F_X0_cellOf u x).bind fun q28 => (F_X2_pointerResult q28.2 (nI o) y).bind fun q30 => (F_X0_writePointer q30.2 q28.1 q30.1).bind fun q32 => F_X2_doInstruction_142 q32.2 P (nI o) x y
  else F_X2_doInstruction_142 u P (nI o) x y
theorem fltA {u v : St} {sz ty : Nat → Nat} {us : Nat → Bool} {nx dp p o : Nat} {x y z : Int32} (h : HI u sz ty us 0) (hM : MH u v sz ty us) (hl : Pl u v nx dp) (ho : o < 15) (hp : p < 40) (hop : u 10 p = nI o) (hux : u 11 p = x) (huy : u 12 p = y) (huz : u 13 p = z) (hRx : Rl (rlX o) x) (hRy : Rl (rlY o) y) (hRz : Rl (rlZ o) z) (hv0 : v 3 (4 * p) = nI o) (hv1 : v 3 (4 * p + 1) = x) (hv2 : v 3 (4 * p + 2) = y) (hv3 : v 3 (4 * p + 3) = z) :
    ∃ k v', k < 5 ∧ Sc v v' ∧ F_X3_fault v (nI p) = some (nI k, v') ∧ F_X2_doInstruction u (nI p) = (if k = 0 then bdC u (nI p) o x y z else some (k, 0, u)) ∧ (k = 0 → ((o = 9 → ∃ y, 1 ≤ y ∧ y ≤ 24 ∧ us y = false) ∧ (o = 13 → dp < 8) ∧ (o = 14 → 0 < dp)) ∧ ((rlX o = 1 ∨ rlX o = 2) → ∃ c, Cell u sz ty us x c ∧ AZ (pt u sz ty) us c = decide (rlX o = 2)) ∧ ((rlY o = 1 ∨ rlY o = 2) → ∃ c, Cell u sz ty us y c ∧ AZ (pt u sz ty) us c = decide (rlY o = 2)) ∧ ((rlZ o = 1 ∨ rlZ o = 2) → ∃ c, Cell u sz ty us z c ∧ AZ (pt u sz ty) us c = decide (rlZ o = 2))) := by
  obtain ⟨hrX, hrY, hrZ⟩ := rl_5 o ho
  obtain ⟨m, hm⟩ : ∃ m, fuel = m + 4 := ⟨996, rfl⟩
  have hL : ∀ n w a b c, L_X3_fault_11 (n + 1) w a b c = F_X3_fault_11 (L_X3_fault_11 n) w a b c := fun _ _ _ _ _ => rfl
  obtain ⟨k1, w1, l1, c1, s1, m1, e1⟩ := chk (k11 := L_X3_fault_11 (m + 3)) h hM (tkX v o ho) hrX hRx hv1 hp (i := 0) (by decide)
  have hM1 := hM.sc s1
  obtain ⟨k2, w2, l2, c2, s2, m2, e2⟩ := chk (k11 := L_X3_fault_11 (m + 2)) h hM1 (tkY w1 o ho) hrY hRy ((congrFun (s1.1 3 (by decide)) _).trans hv2) hp (i := 1) (by decide)
  have hM2 := hM1.sc s2
  have s12 := s1.tr s2
  obtain ⟨k3, w3, l3, c3, s3, m3, e3⟩ := chk (k11 := L_X3_fault_11 (m + 1)) h hM2 (tkZ w2 o ho) hrZ hRz ((congrFun (s12.1 3 (by decide)) _).trans hv3) hp (i := 2) (by decide)
  have hM3 := hM2.sc s3
  have s123 := s12.tr s3
  obtain ⟨k4, l4, c4, m4, e4⟩ := room (k11 := L_X3_fault_11 m) (P := nI p) h hM3 (hl.sc s123) ho
  have hFa : F_X3_fault v (nI p) = L_X3_fault_11 (m + 4) v (nI p) (nI o) (nI 0) := by
    unfold F_X3_fault
    rw [show (4 : Int32) * nI p = nI (4 * p) from pk_mul 4 p, if_neg (in_ck (show 4 * p < 160 by omega) (by decide)), nI_clamp (by omega), hv0, hm]
    rfl
  have hop' : F_X1_opAt u (nI p) = some (nI o, u) := by unfold F_X1_opAt; rw [if_neg (in_ck hp (by decide)), nI_clamp (by omega), hop]
  have hxp : F_X1_xAt u (nI p) = some (x, u) := by unfold F_X1_xAt; rw [if_neg (in_ck hp (by decide)), nI_clamp (by omega), hux]
  have hyp : F_X1_yAt u (nI p) = some (y, u) := by unfold F_X1_yAt; rw [if_neg (in_ck hp (by decide)), nI_clamp (by omega), huy]
  have hzp : F_X1_zAt u (nI p) = some (z, u) := by unfold F_X1_zAt; rw [if_neg (in_ck hp (by decide)), nI_clamp (by omega), huz]
  have hck : ¬ (nI o < 0 ∨ 15 ≤ o) := fun q => (okN ho (by decide)).mp q
  rw [hFa, hL, m1]
  unfold F_X2_doInstruction
  rw [ob hop']
  dsimp only
  rw [ob hxp]
  dsimp only
  rw [ob hyp]
  dsimp only
  rw [ob hzp]
  dsimp only
  rw [nI_clamp (show o < 2 ^ 31 by omega), if_neg hck, ob c1]
  dsimp only
  by_cases z1 : k1 = 0
  · rw [if_pos z1, if_pos z1, if_neg hck, ob c2]
    dsimp only
    rw [hL, m2]
    by_cases z2 : k2 = 0
    · rw [if_pos z2, if_pos z2, if_neg hck, ob c3]
      dsimp only
      rw [hL, m3]
      by_cases z3 : k3 = 0
      · rw [if_pos z3, if_pos z3, ob c4]
        dsimp only
        rw [hL, m4]
        refine ⟨k4, w3, l4, s123, rfl, ?_, fun z4 => ⟨e4 z4, e1 z1, e2 z2, e3 z3⟩⟩
        by_cases z4 : k4 = 0
        · rw [if_pos z4, if_pos z4, if_neg hck]
          unfold bdC
          by_cases hx1 : rlX o = 1
          · rw [if_pos hx1, if_pos hx1]
          · rw [if_neg hx1, if_neg hx1, if_neg hck]
        · rw [if_neg z4, if_neg z4]
      · rw [if_neg z3, if_neg z3]
        exact ⟨k3, w3, by omega, s123, rfl, by rw [if_neg z3], fun q => absurd q z3⟩
    · rw [if_neg z2, if_neg z2]
      exact ⟨k2, w2, by omega, s12, rfl, by rw [if_neg z2], fun q => absurd q z2⟩
  · rw [if_neg z1, if_neg z1]
    exact ⟨k1, w1, by omega, s1, rfl, by rw [if_neg z1], fun q => absurd q z1⟩
