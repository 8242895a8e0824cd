/-! PURE: run, the beginning, and the row that was open -/
theorem stA {u v : St} {sz ty : Nat → Nat} {us : Nat → Bool} {len nx dp p : Nat} {x y z : Int32} : ∀ o : Nat, 1 ≤ o → o < 15 → Ctx u v sz ty us len nx dp p o x y z → Out u v p o x y z
  | 0, h, _, _ => absurd h (by decide)
  | 1, _, _, H => st_1 H
  | 2, _, _, H => st_2 H
  | 3, _, _, H => st_3 H
  | 4, _, _, H => st_4 H
  | 5, _, _, H => st_5 H
  | 6, _, _, H => st_6 H
  | 7, _, _, H => st_7 H
  | 8, _, _, H => st_8 H
  | 9, _, _, H => st_9 H
  | 10, _, _, H => st_10 H
  | 11, _, _, H => st_11 H
  | 12, _, _, H => st_12 H
  | 13, _, _, H => st_13 H
  | 14, _, _, H => st_14 H
  | n + 15, _, h, _ => absurd h (by omega)
theorem Ix.sc {u v v' : St} (h : Ix u v) (k : Sc v v') : Ix u v' := by
  obtain ⟨⟨sz, ty, us, a1, a2⟩, b, ⟨len, c⟩, nx, dp, d⟩ := h
  exact ⟨⟨sz, ty, us, a1, a2.sc k⟩, (k.2 6 (by decide) (by decide)).trans b, ⟨len, c.sc k⟩, nx, dp, d.sc k⟩
theorem f11_0 (k : St → Int32 → Int32 → Int32 → Option (Int32 × St)) (v : St) (P : Int32) : F_X3_fault_11 k v P (nI 0) (nI 0) = k v P (nI 0) (nI 1) := rfl
theorem f11_1 (k : St → Int32 → Int32 → Int32 → Option (Int32 × St)) (v : St) (P : Int32) : F_X3_fault_11 k v P (nI 0) (nI 1) = k v P (nI 0) (nI 2) := rfl
theorem f11_2 (k : St → Int32 → Int32 → Int32 → Option (Int32 × St)) (v : St) (P : Int32) : F_X3_fault_11 k v P (nI 0) (nI 2) = k v P (nI 0) (nI 3) := rfl
theorem f11_3 (k : St → Int32 → Int32 → Int32 → Option (Int32 × St)) (v : St) (P : Int32) : F_X3_fault_11 k v P (nI 0) (nI 3) = some (0, v) := rfl
theorem flt0 {v : St} {p : Nat} (hp : p < 40) (hv0 : v 3 (4 * p) = nI 0) : F_X3_fault v (nI p) = some (0, v) := by
  obtain ⟨m, hm⟩ : ∃ m, fuel = m + 4 := ⟨996, rfl⟩
  have hL : ∀ n w a b c, L_X3_fault_11 (n + 1) w a b c = F_X3_fault_11 (L_X3_fault_11 n) w a b c := fun _ _ _ _ _ => rfl
  unfold F_X3_fault
  rw [show (4 : Int32) * nI p = nI (4 * p) from pk_mul 4 p, if_neg (in_ck (show 4 * p < 160 by omega) (by decide)), nI_clamp (by omega), hv0, hm]
  show L_X3_fault_11 (m + 4) v (nI p) (nI 0) (nI 0) = _
  rw [hL, f11_0, hL, f11_1, hL, f11_2, hL, f11_3]
theorem act0 {v : St} {p : Nat} (hp : p < 40) (hv0 : v 3 (4 * p) = nI 0) : F_X3_act v (nI p) = some (0, su (su v 0 4 (nI (p + 1))) 0 4 (nI p)) := by
  unfold F_X3_act
  rw [show (4 : Int32) * nI p = nI (4 * p) from pk_mul 4 p, show nI (4 * p) + 1 = nI (4 * p + 1) from nI_add _ 1, show nI (4 * p) + 2 = nI (4 * p + 2) from nI_add _ 2, show nI (4 * p) + 3 = nI (4 * p + 3) from nI_add _ 3, if_neg (in_ck (show 4 * p < 160 by omega) (by decide)), if_neg (in_ck (show 4 * p + 1 < 160 by omega) (by decide)), if_neg (in_ck (show 4 * p + 2 < 160 by omega) (by decide)), if_neg (in_ck (show 4 * p + 3 < 160 by omega) (by decide)), nI_clamp (show 4 * p < 2 ^ 31 by omega), hv0, nI_1]
  unfold sb
  dsimp only
  rw [if_pos (show nI 0 = 0 from rfl), t60_0]
theorem run3 {k27 : St → Int32 → Int32 → Int32 → Option (Int32 × St)} {v : St} {x1 x2 : Int32} : F_X3_run_27 k27 v x1 x2 0 = some (x2, v) := by
  unfold F_X3_run_27
  by_cases h : x1 ≤ x2
  · rw [if_pos h]
  · rw [if_neg h, if_pos rfl]
theorem runA {N : Nat} (hN : N ≤ 500) : ∀ (n m i : Nat) (u v : St), Ix u v → v 0 7 = 0 → i ≤ N → N + 1 ≤ n + i → N + 2 ≤ m + i →
    ∃ k r u2 r2 v2, L_X2_run_23 n u (nI N) (nI i) = some (k, r, u2) ∧ k < 5 ∧ L_X3_run_27 m v (nI N) (nI i) 1 = some (r2, v2) ∧ v2 0 7 = nI k ∧ (k = 0 → r = r2) ∧ Ix u2 v2 := by
  intro n
  induction n with
  | zero => intro m i u v _ _ h1 h2; omega
  | succ n ih =>
    intro m i u v hI h7 hi hn hm
    obtain ⟨m, rfl⟩ : ∃ m', m = m' + 1 := ⟨m - 1, by omega⟩
    have hC : L_X2_run_23 (n + 1) u (nI N) (nI i) = F_X2_run_23 (L_X2_run_23 n) u (nI N) (nI i) := rfl
    have hR : L_X3_run_27 (m + 1) v (nI N) (nI i) 1 = F_X3_run_27 (L_X3_run_27 m) v (nI N) (nI i) 1 := rfl
    rw [hC, hR]
    unfold F_X2_run_23 F_X3_run_27
    by_cases hiN : N ≤ i
    · rw [if_pos ((nI_leI (by omega) (by omega)).mpr hiN), if_pos ((nI_leI (by omega) (by omega)).mpr hiN)]
      exact ⟨0, nI N, u, nI i, v, rfl, by decide, rfl, h7, fun _ => by rw [show N = i by omega], hI⟩
    · have hle : ¬ nI N ≤ nI i := nI_ge (by omega) (by omega)
      rw [if_neg hle, if_neg hle, if_neg (show ¬ (1 : Int32) = 0 by decide)]
      obtain ⟨⟨sz, ty, us, a1, a2⟩, b, ⟨len, c⟩, p, dp, d⟩ := hI
      have hnx : u 14 4 = nI p := d.1
      have hvx : v 0 4 = nI p := d.2.1
      have hp40 := d.2.2.1
      have hl40 := c.2.2.1
      have hhas : F_X1_has u (nI p) = some (if len ≤ p then 0 else 1, u) := by
        unfold F_X1_has
        rw [if_neg (nI_pos (by omega)), c.1]
        by_cases q : len ≤ p
        · rw [if_pos ((nI_leI (by omega) (by omega)).mpr q), if_pos q]
        · rw [if_neg (nI_ge (by omega) (by omega)), if_neg q]
      rw [hnx, ob hhas]
      dsimp only
      rw [hnx]
      by_cases hpl : len ≤ p
      · rw [if_pos hpl, if_pos rfl, if_pos (show v 0 3 ≤ v 0 4 by rw [c.2.1, hvx]; exact (nI_leI (by omega) (by omega)).mpr hpl)]
        exact ⟨0, nI i, u, nI i, v, rfl, by decide, rfl, h7, fun _ => rfl, ⟨sz, ty, us, a1, a2⟩, b, ⟨len, c⟩, p, dp, d⟩
      · rw [if_neg hpl, if_neg (show ¬ (1 : Int32) = 0 by decide), if_neg (show ¬ v 0 3 ≤ v 0 4 by rw [c.2.1, hvx]; exact nI_ge (by omega) (by omega))]
        obtain ⟨o, ho, o1, ⟨o2, o3, o4⟩, o5, o6, o7, o8⟩ := c.2.2.2 p (by omega)
        have hp : p < 40 := by omega
        have hop : F_X1_opAt u (nI p) = some (nI o, u) := by unfold F_X1_opAt; rw [if_neg (in_ck hp (by decide)), nI_clamp (by omega), o1]
        rw [ob hop]
        dsimp only
        rw [hnx, hvx, nI_1]
        by_cases ho0 : o = 0
        · subst ho0
          rw [if_pos (show nI 0 = 0 from rfl), ob (flt0 hp (o5.trans o1))]
          dsimp only
          unfold sb
          dsimp only
          have e3 : su v 0 7 0 3 (4 * p) = nI 0 := by rw [su_c (by decide)]; exact o5.trans o1
          have e4 : su v 0 7 0 0 4 = nI p := (su_o (by decide)).trans hvx
          rw [if_pos (show su v 0 7 0 0 7 ≤ 0 by rw [su_e]; decide), e4, show (4 : Int32) * nI p = nI (4 * p) from pk_mul 4 p, if_neg (in_ck (show 4 * p < 160 by omega) (by decide)), nI_clamp (by omega), e3, if_pos (show nI 0 = 0 from rfl)]
          unfold F_X3_run_87
          rw [e4, ob (act0 hp e3)]
          dsimp only
          obtain ⟨m, rfl⟩ : ∃ m', m = m' + 1 := ⟨m - 1, by omega⟩
          have hR2 : L_X3_run_27 (m + 1) (su (su (su v 0 7 0) 0 4 (nI (p + 1))) 0 4 (nI p)) (nI N) (nI i + 1) 0 = F_X3_run_27 (L_X3_run_27 m) (su (su (su v 0 7 0) 0 4 (nI (p + 1))) 0 4 (nI p)) (nI N) (nI i + 1) 0 := rfl
          rw [← nI_1, hR2, run3]
          refine ⟨0, _, u, _, _, rfl, by decide, rfl, ?_, fun _ => rfl, ⟨sz, ty, us, a1, a2.w.w.w⟩, ?_, ⟨len, c.of (fun _ _ _ => rfl) ?_ ?_⟩, p, dp, d.of rfl rfl ?_ ?_ ?_⟩
          · rw [su_o (by decide), su_o (by decide)]; exact su_e
          · rw [su_o (by decide), su_o (by decide), su_o (by decide)]; exact b
          · rw [su_o (by decide), su_o (by decide), su_o (by decide)]
          · rw [su_c (by decide), su_c (by decide), su_c (by decide)]
          · rw [su_e]; exact hvx.symm
          · rw [su_o (by decide), su_o (by decide), su_o (by decide)]
          · rw [su_c (by decide), su_c (by decide), su_c (by decide)]
        · have ho1 : 1 ≤ o := by omega
          have hone : ¬ nI o = 0 := nI_ne0 (by omega) (by omega)
          rw [if_neg hone]
          obtain ⟨k, v', hk, hS, hF, hD, hk0⟩ := fltA a1 a2 d ho hp o1 rfl rfl rfl o2 o3 o4 (o5.trans o1) o6 o7 o8
          rw [ob hF, hD]
          dsimp only
          unfold sb
          dsimp only
          have e4 : su v' 0 7 (nI k) 0 4 = nI p := (su_o (by decide)).trans ((hS.2 4 (by decide) (by decide)).trans hvx)
          have hc3 : su v' 0 7 (nI k) 3 = v 3 := (su_c (by decide)).trans (hS.1 3 (by decide))
          have hIv : Ix u (su v' 0 7 (nI k)) := (Ix.sc ⟨⟨sz, ty, us, a1, a2⟩, b, ⟨len, c⟩, p, dp, d⟩ hS).v7
          by_cases hk1 : k = 0
          · subst hk1
            rw [if_pos rfl, if_pos (show su v' 0 7 (nI 0) 0 7 ≤ 0 by rw [su_e]; decide), e4, show (4 : Int32) * nI p = nI (4 * p) from pk_mul 4 p, if_neg (in_ck (show 4 * p < 160 by omega) (by decide)), nI_clamp (by omega), hc3, o5, o1, if_neg hone]
            unfold F_X3_run_87
            rw [e4]
            have hctx : Ctx u (su v' 0 7 (nI 0)) sz ty us len p dp p o (u 11 p) (u 12 p) (u 13 p) := by
              refine ⟨a1, (a2.sc hS).w, ?_, (c.sc hS).of (fun _ _ _ => rfl) (su_o (by decide)) (su_c (by decide)), (d.sc hS).of rfl rfl (su_o (by decide)) (su_o (by decide)) (su_c (by decide)), hp, ?_, ⟨o2, o3, o4⟩, hk0 rfl⟩
              · rw [su_o (by decide), hS.2 6 (by decide) (by decide)]; exact b
              · rw [hc3]; exact ⟨o5.trans o1, o6, o7, o8⟩
            obtain ⟨u2, v2, r, s1, s2, s3, s4⟩ := stA o ho1 ho hctx
            rw [ob s1, ob s2]
            dsimp only
            rw [if_pos rfl, nI_1]
            exact ih m (i + 1) u2 v2 s3 (s4.trans su_e) (by omega) (by omega) (by omega)
          · rw [if_neg hk1, if_neg (show ¬ su v' 0 7 (nI k) 0 7 ≤ 0 by rw [su_e]; exact nI_nle (by omega) (by omega))]
            have hb : ((some (k, (0 : Int32), u)).bind fun q8 => if q8.1 = 0 then L_X2_run_23 n q8.2.2 (nI N) (nI (i + 1)) else some (q8.1, 0, q8.2.2)) = some (k, 0, u) := by
              rw [ob rfl]
              dsimp only
              rw [if_neg hk1]
            refine ⟨k, 0, u, 0, _, hb, hk, rfl, su_e, fun q => absurd q hk1, hIv⟩
theorem ag_run {u v : St} (h : Ix u v) (x1 : Int32) : ∃ (k : Nat) (r : Int32) (u2 : St) (r2 : Int32) (v2 : St), F_X2_run u x1 = some (k, r, u2) ∧ k < 5 ∧ F_X3_run v x1 = some (r2, v2) ∧ F_X3_thrown v2 = some (nI k, v2) ∧ (k = 0 → r = r2) ∧ Ix u2 v2 := by
  unfold F_X2_run F_X3_run F_X3_thrown F_X2_run_11
  unfold sb
  dsimp only
  rcases rg x1 (N := 501) (by decide) with ⟨N, hN, e⟩ | hx
  · subst e
    rw [if_neg (nI_pos (show N < 2 ^ 31 by omega)), if_pos (show nI N ≤ 500 from (nI_leI (b := 500) (by omega) (by decide)).mpr (by omega)), ob (w_in (k := N) (a := 0) (b := 500) (A := 0) (B := 500) rfl rfl (by omega) (by omega) (by decide))]
    dsimp only
    rw [if_neg (show ¬ (1 : Int32) = 0 by decide)]
    obtain ⟨k, r, u2, r2, v2, c1, c2, c3, c4, c5, c6⟩ := runA (N := N) (by omega) fuel fuel 0 u (su v 0 7 0) h.v7 su_e (Nat.zero_le _) (show N + 1 ≤ 1000 + 0 by omega) (show N + 2 ≤ 1000 + 0 by omega)
    exact ⟨k, r, u2, r2, v2, c1, c2, c3, by rw [c4], c5, c6⟩
  · rw [ob (w_out (A := 0) (B := 500) (hx.imp id (fun h => (lt_le (n := 500) (by decide)).mpr h)))]
    dsimp only
    rw [if_pos rfl]
    refine ⟨3, 0, u, 0, su (su v 0 7 0) 0 7 3, ?_, by decide, rfl, by rw [su_e]; rfl, fun q => absurd q (by decide), h.v7.v7⟩
    by_cases h0 : x1 < 0
    · rw [if_pos h0]
    · have h1 := hx.resolve_left h0
      rw [if_neg h0, if_neg (show ¬ x1 ≤ 500 from fun q => by rw [Int32.le_iff_toInt_le, nT (by decide)] at h1; rw [Int32.le_iff_toInt_le] at q; simp at q; omega)]
theorem init104 : ∀ (n b : Nat) (v : St), 26 ≤ n + b → b ≤ 25 → ∃ v', L_X3_init_104 n v (nI b) = some (0, v') ∧ (∀ c, c ≠ 7 → v' c = v c) ∧ (∀ x, x < b → v' 7 x = v 7 x) ∧ ∀ x, b ≤ x → x ≤ 24 → v' 7 x = -1 := by
  intro n
  induction n with
  | zero => intro b v h1 h2; omega
  | succ n ih =>
    intro b v h1 h2
    have hF : L_X3_init_104 (n + 1) v (nI b) = F_X3_init_104 (L_X3_init_104 n) v (nI b) := rfl
    rw [hF]
    unfold F_X3_init_104
    by_cases hb : b = 25
    · subst hb
      rw [if_pos (by decide)]
      exact ⟨v, rfl, fun _ _ => rfl, fun _ _ => rfl, fun x a c => by omega⟩
    · rw [if_neg (show ¬ (25 : Int32) ≤ nI b from nI_ge (b := 25) (by omega) (by decide)), if_neg (in_ck (show b < 25 by omega) (by decide)), nI_clamp (by omega), nI_1]
      obtain ⟨v1, hF, a1, a2, a3⟩ := ih (b + 1) (su v 7 b (-1)) (by omega) (by omega)
      refine ⟨v1, hF, fun c hc => (a1 c hc).trans (su_c hc), fun x hx => ?_, fun x x1 x2 => ?_⟩
      · rw [a2 x (by omega), su_o (by omega)]
      · by_cases e : x = b
        · subst e; rw [a2 x (by omega)]; exact su_e
        · exact a3 x (by omega) x2
theorem init84 : ∀ (n t : Nat) (v : St), 5 ≤ n + t → t ≤ 4 → ∃ v', L_X3_init_84 n v (nI t) = some (0, v') ∧ (∀ c, c ≠ 1 → c ≠ 7 → v' c = v c) ∧ (∀ x, x < t → v' 1 x = v 1 x) ∧ (∀ x, t ≤ x → x < 4 → v' 1 x = 1) ∧ ∀ x, x ≤ 24 → v' 7 x = -1 := by
  intro n
  induction n with
  | zero => intro t v h1 h2; omega
  | succ n ih =>
    intro t v h1 h2
    have hF : L_X3_init_84 (n + 1) v (nI t) = F_X3_init_84 (L_X3_init_84 n) v (nI t) := rfl
    rw [hF]
    unfold F_X3_init_84
    by_cases hb : t = 4
    · subst hb
      rw [if_pos (by decide)]
      obtain ⟨v1, hF, a1, a2, a3⟩ := init104 fuel 0 v (by decide) (by decide)
      exact ⟨v1, hF, fun c _ c2 => a1 c c2, fun x _ => by rw [a1 1 (by decide)], fun x a c => by omega, fun x hx => a3 x (Nat.zero_le _) hx⟩
    · rw [if_neg (show ¬ (4 : Int32) ≤ nI t from nI_ge (b := 4) (by omega) (by decide)), if_neg (in_ck (show t < 4 by omega) (by decide)), nI_clamp (by omega), nI_1]
      obtain ⟨v1, hF, a1, a2, a3, a4⟩ := ih (t + 1) (su v 1 t 1) (by omega) (by omega)
      refine ⟨v1, hF, fun c c1 c2 => (a1 c c1 c2).trans (su_c c1), fun x hx => ?_, fun x x1 x2 => ?_, a4⟩
      · rw [a2 x (by omega), su_o (by omega)]
      · by_cases e : x = t
        · subst e; rw [a2 x (by omega)]; exact su_e
        · exact a3 x (by omega) x2
theorem agree : ∃ I : St → St → Prop, Agr I ∧ ∃ o : Int32 × St, F_X3_init (fun _ _ => 0) = some o ∧ I uC0 o.2 := by
  refine ⟨Ix, fun u v h => ⟨ag_type h, ag_add h, ag_clear h, ag_start h, ag_run h, ag_next h, ag_open h, ag_frame h, ag_set h, ag_root h, ag_blocks h, ag_count h, ag_typeOf h, ag_word h, ag_given h, ag_lost h, ag_collect h⟩, ?_⟩
  obtain ⟨v, hF, a1, a2, a3, a4⟩ := init84 fuel 0 (fun _ _ => 0) (by decide) (by decide)
  refine ⟨(0, v), hF, ?_⟩
  have z0 : ∀ c, c ≠ 1 → uC0 c = fun _ => 0 := fun c hc => by
    unfold uC0
    split
    · exact absurd rfl hc
    · rfl
  have z1 : ∀ t, t < 4 → uC0 1 t = nI 1 := fun t ht => by
    match t, ht with
    | 0, _ => rfl
    | 1, _ => rfl
    | 2, _ => rfl
    | 3, _ => rfl
  have hv : ∀ c, c ≠ 1 → c ≠ 7 → v c = fun _ => 0 := a1
  show Ix uC0 v
  refine ⟨⟨fun _ => 1, fun _ => 0, fun _ => false, ⟨⟨fun t ht => ⟨z1 t ht, Nat.le_refl 1, (by decide : 1 ≤ 6), (by rw [z0 2 (by decide)]; exact mz_0 _)⟩, fun b hb => ⟨(by rw [z0 5 (by decide)]; rfl), (by decide : 0 < 4)⟩, (fun b b1 b2 => by rw [z0 4 (by decide)]; rfl), rfl, fun _ _ => rfl⟩, ?_, fun c hc hA => ⟨0, by decide, (by rw [z0 3 (by decide)]; rfl), Or.inl rfl⟩, (fun x hx => by cases hx)⟩, ⟨fun t ht => ⟨a3 t (Nat.zero_le _) ht, Nat.le_refl 1, (by decide : 1 ≤ 6), (by rw [hv 2 (by decide) (by decide), z0 2 (by decide)])⟩, fun b b1 b2 => a4 b b2, (fun b hb => by cases hb), fun k hk => ?_, fun j j1 j2 => ?_⟩⟩, ?_, ⟨0, ?_, ?_, by decide, fun p hp => by omega⟩, 0, 0, ?_, ?_, by decide, ?_, ?_, by decide, fun p hp => by omega⟩
  · rw [z0 0 (by decide), ct_zero (fun _ _ => rfl)]; rfl
  · rw [hv 5 (by decide) (by decide), hv 6 (by decide) (by decide), z0 3 (by decide)]; exact ⟨rfl, rfl⟩
  · rw [hv 8 (by decide) (by decide), z0 3 (by decide)]
  · rw [hv 0 (by decide) (by decide), z0 0 (by decide)]
  · rw [z0 9 (by decide)]; rfl
  · rw [hv 0 (by decide) (by decide)]; rfl
  · rw [z0 14 (by decide)]; rfl
  · rw [hv 0 (by decide) (by decide)]; rfl
  · rw [z0 14 (by decide)]; rfl
  · rw [hv 0 (by decide) (by decide)]; rfl
