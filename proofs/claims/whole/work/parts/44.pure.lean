/-! PURE: type and add -/
theorem rt_eq {us : Nat → Bool} {ty : Nat → Nat} {b t : Nat} (ht : us b = true → ty b < 4) (h4 : t < 4) : ((if us b = true then nI (ty b) else -1) = nI t) ↔ (us b = true ∧ ty b = t) := by
  cases hub : us b with
  | true =>
    have := ht hub
    exact ⟨fun h => ⟨rfl, (nI_eq (by omega) (by omega)).mp h⟩, fun h => (nI_eq (by omega) (by omega)).mpr h.2⟩
  | false => exact ⟨fun h => absurd (h ▸ (by decide : (-1 : Int32) < 0) : nI t < 0) (nI_pos (by omega)), fun h => by cases h.1⟩
theorem rType39 {u v : St} {sz ty : Nat → Nat} {us : Nat → Bool} (hM : MH u v sz ty us) {t : Nat} (ht : t < 4) {x2 x3 : Int32} :
    ∀ (n b : Nat), 26 ≤ n + b → 1 ≤ b → b ≤ 25 → (∀ x, 1 ≤ x → x < b → ¬ (us x = true ∧ ty x = t)) → (L_X3_type_39 n v (nI t) x2 x3 (nI b) = some (0, v) ∧ ∃ x, us x = true ∧ ty x = t) ∨ (L_X3_type_39 n v (nI t) x2 x3 (nI b) = some (1, su (su v 1 t x2) 2 t x3) ∧ ∀ x, us x = true → ¬ ty x = t) := by
  intro n
  induction n with
  | zero => intro b h1 h2 h3; omega
  | succ n ih =>
    intro b h1 h2 h3 hno
    have hF : L_X3_type_39 (n + 1) v (nI t) x2 x3 (nI b) = F_X3_type_39 (L_X3_type_39 n) v (nI t) x2 x3 (nI b) := rfl
    rw [hF]
    unfold F_X3_type_39
    by_cases hb : b = 25
    · subst hb
      rw [if_pos (by decide)]
      simp only [nI_clamp (show t < 2 ^ 31 by omega), okN ht (by decide), ↓reduceIte, sb]
      exact Or.inr ⟨trivial, fun x hx e => by have := hM.2.2.1 x hx; exact hno x this.1 (by omega) ⟨hx, e⟩⟩
    · rw [if_neg (show ¬ (25 : Int32) ≤ nI b by rw [Int32.le_iff_toInt_le, nT (by omega)]; simp; omega)]
      simp only [okN (show b < 25 by omega) (by decide), ↓reduceIte, nI_clamp (show b < 2 ^ 31 by omega), hM.2.1 b h2 (by omega), nI_1, rt_eq (fun h => (hM.2.2.1 b h).2.2) ht]
      by_cases hc : us b = true ∧ ty b = t
      · rw [if_pos hc]
        exact Or.inl ⟨rfl, b, hc⟩
      · rw [if_neg hc]
        exact ih (b + 1) (by omega) (by omega) (by omega) (fun x x1 x2 => by
          by_cases e : x = b
          · rw [e]; exact hc
          · exact hno x x1 (by omega))
theorem AZ_ct {P P' : Nat → Nat → Bool} {Z : Nat → Bool} (h : ∀ b w, Z b = true → P b w = P' b w) : AZ P Z = AZ P' Z := funext fun c => by
  unfold AZ
  cases hz : Z ((c - 2) / 6) with
  | false => simp
  | true => rw [h _ _ hz]
theorem ag_type {u v : St} (h : Ix u v) (x1 x2 x3 : Int32) : ∃ (r : Int32) (u2 v2 : St), F_X2_type u x1 x2 x3 = some (r, u2) ∧ F_X3_type v x1 x2 x3 = some (r, v2) ∧ Ix u2 v2 := by
  have h7 := h.v7 (x := 0)
  unfold F_X2_type F_X3_type F_X2_isType
  simp only [sb]
  rcases rg x1 (N := 4) (by decide) with ⟨t, ht, e⟩ | hx
  · subst e
    rw [iti (N := 4) (C := 4) rfl ht (by decide), w_in (k := t) (a := 0) (b := 3) (A := 0) (B := 3) rfl rfl (by omega) (by omega) (by decide)]
    simp only [Option.bind_some, h10, ↓reduceIte]
    have bad : x2 < 1 ∨ 6 < x2 → ∃ (r : Int32) (u2 v2 : St), (if x2 < 1 then some ((0 : Int32), u) else (if x2 ≤ 6 then (if x3 < 0 then some (0, u) else (if (x3 >>> (x2 &&& 31)) = 0 then (F_X0_hasBlockOfType u (nI t)).bind fun q8 => (if q8.1 = 0 then (F_X0_changeType q8.2 (nI t) x2 x3).bind fun q11 => some (1, q11.2) else some (0, q8.2)) else some (0, u))) else some (0, u))) = some (r, u2) ∧ ((F_X3_within (su v 0 7 0) x2 1 6).bind fun q5 => if q5.1 = 0 then some (0, q5.2) else if x3 < 0 then some (0, q5.2) else if (x3 >>> (x2 &&& 31)) = 0 then L_X3_type_39 fuel q5.2 (nI t) x2 x3 1 else some (0, q5.2)) = some (r, v2) ∧ Ix u2 v2 := fun hb => by
      rw [w_out hb]
      refine ⟨0, u, su v 0 7 0, ?_, rfl, h7⟩
      by_cases h1 : x2 < 1
      · rw [if_pos h1]
      · have h2 := hb.resolve_left h1
        rw [if_neg h1, if_neg (show ¬ x2 ≤ 6 from fun q => by rw [Int32.le_iff_toInt_le] at q; rw [Int32.lt_iff_toInt_lt] at h2; omega)]
    rcases rg x2 (N := 7) (by decide) with ⟨k, hk, e⟩ | hx2
    · by_cases hk0 : k = 0
      · exact bad (Or.inl (by rw [e, hk0]; decide))
      · subst e
        rw [w_in (k := k) (a := 1) (b := 6) (A := 1) (B := 6) rfl rfl (by omega) (by omega) (by decide), if_neg (show ¬ nI k < 1 from nI_nlt (b := 1) (by omega) (by omega)), if_pos (show nI k ≤ 6 from (nI_leI (b := 6) (by omega) (by decide)).mpr (by omega))]
        simp only [Option.bind_some, h10, ↓reduceIte]
        by_cases h3 : x3 < 0
        · rw [if_pos h3, if_pos h3]; exact ⟨0, u, _, rfl, rfl, h7⟩
        · rw [if_neg h3, if_neg h3]
          by_cases h4 : (x3 >>> (nI k &&& 31)) = 0
          · rw [if_pos h4, if_pos h4]
            obtain ⟨⟨sz, ty, us, a1, a2⟩, b, ⟨len, c⟩, nx, dp, d⟩ := h7
            obtain ⟨r, hF, hc⟩ := sHasType a1.1 ht fuel 1 (by decide) (by decide) (by decide) (fun x x1 x2 => by omega)
            have hF' : F_X0_hasBlockOfType u (nI t) = some (r, u) := hF
            rw [hF']
            simp only [Option.bind_some]
            rcases rType39 a2 ht (x2 := nI k) (x3 := x3) fuel 1 (by decide) (by decide) (by decide) (fun x x1 x2 => by omega) with ⟨hG, y, hy1, hy2⟩ | ⟨hG, hno⟩
            · have hG' : L_X3_type_39 fuel (su v 0 7 0) (nI t) (nI k) x3 1 = some (0, su v 0 7 0) := hG
              rw [hG']
              have hr : r = 1 := by
                rcases hc with hc | hc
                · exact hc.1
                · exact absurd hy2 (hc.2 y hy1)
              rw [hr, if_neg (by decide)]
              exact ⟨0, u, _, rfl, rfl, ⟨sz, ty, us, a1, a2⟩, b, ⟨len, c⟩, nx, dp, d⟩
            · have hG' : L_X3_type_39 fuel (su v 0 7 0) (nI t) (nI k) x3 1 = some (1, su (su (su v 0 7 0) 1 t (nI k)) 2 t x3) := hG
              rw [hG']
              have hr : r = 0 := by
                rcases hc with ⟨_, y, hy1, hy2⟩ | hc
                · exact absurd hy2 (hno y hy1)
                · exact hc.1
              rw [hr, if_pos rfl]
              unfold F_X0_changeType
              simp only [nI_clamp (show t < 2 ^ 31 by omega), okN ht (by decide), ↓reduceIte, sb, Option.bind_some]
              have hA : AZ (pt (su (su u 1 t (nI k)) 2 t x3) (fun s => if s = t then k else sz s) ty) us = AZ (pt u sz ty) us := AZ_ct (fun b w hb => by
                unfold pt
                have := hno b hb
                simp only [su_v]
                simp [this])
              have e3 : su (su u 1 t (nI k)) 2 t x3 3 = u 3 := by rw [su_c (by decide), su_c (by decide)]
              have ev : vl (su (su u 1 t (nI k)) 2 t x3) = vl u := by funext c; unfold vl; rw [e3]
              refine ⟨_, _, _, rfl, rfl, ⟨fun s => if s = t then k else sz s, ty, us, ⟨⟨fun s hs => ?_, fun b hb => ?_, fun b b1 b2 => ?_, a1.1.2.2.2.1, a1.1.2.2.2.2⟩, ?_, fun c hc hA1 => ?_, fun x hx => ?_⟩, ⟨fun s hs => ?_, fun x x1 x2 => ?_, a2.2.2.1, fun j hj => ?_, fun j j1 j2 => ?_⟩⟩, ?_, ⟨len, c.of (fun c c1 c2 => ?_) ?_ ?_⟩, nx, dp, d.of ?_ ?_ ?_ ?_ ?_⟩
              · simp only [su_v]
                by_cases e : s = t
                · simp [e]; exact ⟨by omega, by omega, mz_type (by omega) h4⟩
                · simp [e]; exact a1.1.1 s hs
              · rw [su_c (by decide), su_c (by decide)]; exact a1.1.2.1 b hb
              · rw [su_c (by decide), su_c (by decide)]; exact a1.1.2.2.1 b b1 b2
              · rw [su_c (by decide), su_c (by decide)]; exact a1.2.1
              · rw [hA] at hA1; rw [e3]; exact a1.2.2.1 c hc hA1
              · rw [hA, ev, su_c (by decide), su_c (by decide)]; exact a1.2.2.2 x hx
              · have := a2.1 s hs
                simp only [su_v] at this ⊢
                by_cases e : s = t
                · simp [e]; omega
                · simp [e] at this ⊢; exact this
              · rw [su_c (by decide), su_c (by decide)]; exact a2.2.1 x x1 x2
              · have q5 : su (su (su v 0 7 0) 1 t (nI k)) 2 t x3 5 = su v 0 7 0 5 := by rw [su_c (i := 5) (by decide), su_c (i := 5) (by decide)]
                have q6 : su (su (su v 0 7 0) 1 t (nI k)) 2 t x3 6 = su v 0 7 0 6 := by rw [su_c (i := 6) (by decide), su_c (i := 6) (by decide)]
                rw [q5, q6, e3]; exact a2.2.2.2.1 j hj
              · rw [su_c (by decide), su_c (by decide), e3]; exact a2.2.2.2.2 j j1 j2
              · have q0 : su (su (su v 0 7 0) 1 t (nI k)) 2 t x3 0 = su v 0 7 0 0 := by rw [su_c (i := 0) (by decide), su_c (i := 0) (by decide)]
                have p0 : su (su u 1 t (nI k)) 2 t x3 0 = u 0 := by rw [su_c (i := 0) (by decide), su_c (i := 0) (by decide)]
                rw [q0, p0]; exact b
              · rw [su_c (by omega), su_c (by omega)]
              · rw [su_c (by decide), su_c (by decide)]
              · rw [su_c (by decide), su_c (by decide)]
              · rw [su_c (by decide), su_c (by decide)]
              · rw [su_c (by decide), su_c (by decide)]
              · rw [su_c (by decide), su_c (by decide)]
              · rw [su_c (by decide), su_c (by decide)]
              · rw [su_c (by decide), su_c (by decide)]
          · rw [if_neg h4, if_neg h4]; exact ⟨0, u, _, rfl, rfl, h7⟩
    · exact bad (hx2.imp (fun h => by rw [Int32.lt_iff_toInt_lt] at h ⊢; simp at h ⊢; omega) (fun h => (lt_le (n := 6) (by decide)).mpr h))
  · rw [ito (C := 4) hx, w_out (A := 0) (B := 3) (hx.imp id (fun h => (lt_le (n := 3) (by decide)).mpr h))]
    exact ⟨0, u, _, rfl, rfl, h7⟩
/-! add -/
theorem tkX (v : St) : ∀ o : Nat, o < 15 → F_X3_takes v (nI o) 0 = some (rlX o, v)
  | 0, _ => rfl
  | 1, _ => rfl
  | 2, _ => rfl
  | 3, _ => rfl
  | 4, _ => rfl
  | 5, _ => rfl
  | 6, _ => rfl
  | 7, _ => rfl
  | 8, _ => rfl
  | 9, _ => rfl
  | 10, _ => rfl
  | 11, _ => rfl
  | 12, _ => rfl
  | 13, _ => rfl
  | 14, _ => rfl
  | n + 15, h => absurd h (by omega)
theorem tkY (v : St) : ∀ o : Nat, o < 15 → F_X3_takes v (nI o) 1 = some (rlY o, v)
  | 0, _ => rfl
  | 1, _ => rfl
  | 2, _ => rfl
  | 3, _ => rfl
  | 4, _ => rfl
  | 5, _ => rfl
  | 6, _ => rfl
  | 7, _ => rfl
  | 8, _ => rfl
  | 9, _ => rfl
  | 10, _ => rfl
  | 11, _ => rfl
  | 12, _ => rfl
  | 13, _ => rfl
  | 14, _ => rfl
  | n + 15, h => absurd h (by omega)
theorem tkZ (v : St) : ∀ o : Nat, o < 15 → F_X3_takes v (nI o) 2 = some (rlZ o, v)
  | 0, _ => rfl
  | 1, _ => rfl
  | 2, _ => rfl
  | 3, _ => rfl
  | 4, _ => rfl
  | 5, _ => rfl
  | 6, _ => rfl
  | 7, _ => rfl
  | 8, _ => rfl
  | 9, _ => rfl
  | 10, _ => rfl
  | 11, _ => rfl
  | 12, _ => rfl
  | 13, _ => rfl
  | 14, _ => rfl
  | n + 15, h => absurd h (by omega)
theorem rl_5 : ∀ o : Nat, o < 15 → (rlX o = 0 ∨ rlX o = 1 ∨ rlX o = 2 ∨ rlX o = 3 ∨ rlX o = 4) ∧ (rlY o = 0 ∨ rlY o = 1 ∨ rlY o = 2 ∨ rlY o = 3 ∨ rlY o = 4) ∧ (rlZ o = 0 ∨ rlZ o = 1 ∨ rlZ o = 2 ∨ rlZ o = 3 ∨ rlZ o = 4) := by decide
theorem opnd (u v : St) (x : Int32) : ∃ z : Int32, F_X2_isOperand u x = some (z, u) ∧ F_X3_isOperand v x = some (z, v) ∧ (z = 0 ∨ (z = 1 ∧ Opd x)) := by
  unfold F_X2_isOperand F_X3_isOperand F_X2_isOperand_10
  rcases rg x (N := 48) (by decide) with ⟨k, hk, e⟩ | hx
  · subst e
    rw [if_neg (nI_pos (show k < 2 ^ 31 by omega))]
    by_cases h8 : k < 8
    · rw [if_pos (show nI k < 8 from nI_lt (b := 8) h8 (by decide)), w_in (k := k) (a := 0) (b := 7) (A := 0) (B := 7) rfl rfl (by omega) (by omega) (by decide)]
      exact ⟨1, rfl, rfl, Or.inr ⟨rfl, Or.inl ⟨k, h8, rfl⟩⟩⟩
    · rw [if_neg (show ¬ nI k < 8 from nI_nlt (b := 8) (by omega) (by omega)), w_out (x := nI k) (A := 0) (B := 7) (Or.inr (nI_lt (a := 7) (by omega) (by omega)))]
      by_cases h16 : k < 16
      · rw [if_pos (show nI k < 16 from nI_lt (b := 16) h16 (by decide))]
        simp only [Option.bind_some, ↓reduceIte]
        rw [w_out (x := nI k) (A := 16) (B := 47) (Or.inl (nI_lt (b := 16) h16 (by decide)))]
        exact ⟨0, rfl, rfl, Or.inl rfl⟩
      · rw [if_neg (show ¬ nI k < 16 from nI_nlt (b := 16) (by omega) (by omega)), if_neg (show ¬ (48 : Int32) ≤ nI k from nI_ge (b := 48) hk (by decide))]
        simp only [Option.bind_some, ↓reduceIte]
        rw [w_in (k := k) (a := 16) (b := 47) (A := 16) (B := 47) rfl rfl (by omega) (by omega) (by decide)]
        exact ⟨1, rfl, rfl, Or.inr ⟨rfl, Or.inr ⟨(k - 16) / 8, (k - 16) % 8, by omega, by omega, by congr 1; omega⟩⟩⟩
  · rw [w_out (A := 0) (B := 7) (hx.imp id (fun h => by rw [Int32.le_iff_toInt_le] at h; rw [Int32.lt_iff_toInt_lt]; rw [nT (by decide)] at h; simp; omega))]
    simp only [Option.bind_some, ↓reduceIte]
    rw [w_out (A := 16) (B := 47) (hx.imp (fun h => by rw [Int32.lt_iff_toInt_lt] at h ⊢; simp at h ⊢; omega) (fun h => (lt_le (n := 47) (by decide)).mpr h))]
    refine ⟨0, ?_, rfl, Or.inl rfl⟩
    by_cases h0 : x < 0
    · rw [if_pos h0, if_pos (show x < 16 by rw [Int32.lt_iff_toInt_lt] at h0 ⊢; simp at h0 ⊢; omega)]
    · have h1 := hx.resolve_left h0
      have h1' := h1
      rw [Int32.le_iff_toInt_le, nT (by decide)] at h1
      rw [if_neg h0, if_neg (show ¬ x < 8 by rw [Int32.lt_iff_toInt_lt]; simp; omega), if_neg (show ¬ x < 16 by rw [Int32.lt_iff_toInt_lt]; simp; omega), if_pos (show (48 : Int32) ≤ x from h1')]
theorem rngA (u v : St) (x : Int32) {N : Nat} (hN : N + 1 < 2 ^ 31) : ∃ z : Int32, (if x < 0 then some ((0 : Int32), u) else if nI (N + 1) ≤ x then some (0, u) else some (1, u)) = some (z, u) ∧ F_X3_within v x 0 (nI N) = some (z, v) ∧ (z = 0 ∨ (z = 1 ∧ ∃ k, k < N + 1 ∧ x = nI k)) := by
  rcases rg x (N := N + 1) hN with ⟨k, hk, e⟩ | hx
  · subst e
    rw [iti (N := N + 1) (C := nI (N + 1)) rfl hk hN, w_in (k := k) (a := 0) (b := N) (A := 0) (B := nI N) rfl rfl (by omega) (by omega) (by omega)]
    exact ⟨1, rfl, rfl, Or.inr ⟨rfl, k, hk, rfl⟩⟩
  · rw [ito (C := nI (N + 1)) hx, w_out (A := 0) (B := nI N) (hx.imp id (fun h => (lt_le hN).mpr h))]
    exact ⟨0, rfl, rfl, Or.inl rfl⟩
theorem fitsA {u v : St} {r op i : Int32} (x : Int32) (hr : r = 0 ∨ r = 1 ∨ r = 2 ∨ r = 3 ∨ r = 4) (hT : F_X3_takes v op i = some (r, v)) : ∃ z : Int32, F_X2_fits u r x = some (z, u) ∧ F_X3_isRight v op i x = some (z, v) ∧ (z = 0 ∨ (z = 1 ∧ Rl r x)) := by
  unfold F_X2_fits F_X3_isRight
  rw [hT]
  simp only [Option.bind_some]
  rcases hr with e | e | e | e | e
  · subst e
    exact ⟨1, rfl, rfl, Or.inr ⟨rfl, fun h => h.elim (fun h => absurd h (by decide)) (fun h => absurd h (by decide)), fun h => absurd h (by decide), fun h => absurd h (by decide)⟩⟩
  · subst e
    obtain ⟨z, h1, h2, h3⟩ := opnd u v x
    rw [if_pos rfl, if_neg (by decide), if_neg (by decide), h1, h2]
    rcases h3 with h3 | ⟨h3, h4⟩
    · subst h3; exact ⟨0, rfl, rfl, Or.inl rfl⟩
    · subst h3; exact ⟨1, rfl, rfl, Or.inr ⟨rfl, fun _ => h4, fun h => absurd h (by decide), fun h => absurd h (by decide)⟩⟩
  · subst e
    obtain ⟨z, h1, h2, h3⟩ := opnd u v x
    rw [if_neg (by decide), if_pos rfl, if_neg (by decide), if_neg (by decide), h1, h2]
    rcases h3 with h3 | ⟨h3, h4⟩
    · subst h3; exact ⟨0, rfl, rfl, Or.inl rfl⟩
    · subst h3; exact ⟨1, rfl, rfl, Or.inr ⟨rfl, fun _ => h4, fun h => absurd h (by decide), fun h => absurd h (by decide)⟩⟩
  · subst e
    obtain ⟨z, h1, h2, h3⟩ := rngA u v x (N := 39) (by decide)
    have h1' : F_X2_isPlace u x = some (z, u) := h1
    have h2' : F_X3_within v x 0 39 = some (z, v) := h2
    rw [if_neg (by decide), if_neg (by decide), if_pos rfl, if_neg (by decide), if_pos (by decide), if_pos rfl, h1', h2']
    rcases h3 with h3 | ⟨h3, h4⟩
    · subst h3; exact ⟨0, rfl, rfl, Or.inl rfl⟩
    · subst h3; exact ⟨1, rfl, rfl, Or.inr ⟨rfl, fun h => h.elim (fun h => absurd h (by decide)) (fun h => absurd h (by decide)), fun _ => h4, fun h => absurd h (by decide)⟩⟩
  · subst e
    obtain ⟨z, h1, h2, h3⟩ := rngA u v x (N := 3) (by decide)
    have h1' : F_X2_isType u x = some (z, u) := h1
    have h2' : F_X3_within v x 0 3 = some (z, v) := h2
    rw [if_neg (by decide), if_neg (by decide), if_neg (by decide), if_pos rfl, if_neg (by decide), if_pos (by decide), if_neg (by decide), h1', h2']
    rcases h3 with h3 | ⟨h3, h4⟩
    · subst h3; exact ⟨0, rfl, rfl, Or.inl rfl⟩
    · subst h3; exact ⟨1, rfl, rfl, Or.inr ⟨rfl, fun h => h.elim (fun h => absurd h (by decide)) (fun h => absurd h (by decide)), fun h => absurd h (by decide), fun _ => h4⟩⟩
theorem ag_add {u v : St} (h : Ix u v) (x1 x2 x3 x4 : Int32) : ∃ (r : Int32) (u2 v2 : St), F_X2_add u x1 x2 x3 x4 = some (r, u2) ∧ F_X3_add v x1 x2 x3 x4 = some (r, v2) ∧ Ix u2 v2 := by
  have h7 := h.v7 (x := 0)
  unfold F_X2_add F_X3_add
  simp only [sb]
  rcases rg x1 (N := 15) (by decide) with ⟨o, ho, e⟩ | hx
  · subst e
    obtain ⟨hrX, hrY, hrZ⟩ := rl_5 o ho
    rw [if_neg (nI_pos (show o < 2 ^ 31 by omega)), if_pos (show nI o < 15 from nI_lt (b := 15) ho (by decide)), w_in (k := o) (a := 0) (b := 14) (A := 0) (B := 14) rfl rfl (by omega) (by omega) (by decide)]
    simp only [Option.bind_some, h10, ↓reduceIte, nI_clamp (show o < 2 ^ 31 by omega), okN ho (by decide)]
    obtain ⟨z1, c1, m1, r1⟩ := fitsA (u := u) (v := su v 0 7 0) x2 hrX (tkX _ o ho)
    rw [c1, m1]
    simp only [Option.bind_some]
    rcases r1 with r1 | ⟨r1, R1⟩
    · subst r1; exact ⟨-2, u, _, rfl, rfl, h7⟩
    subst r1
    simp only [h10, ↓reduceIte]
    obtain ⟨z2, c2, m2, r2⟩ := fitsA (u := u) (v := su v 0 7 0) x3 hrY (tkY _ o ho)
    rw [c2, m2]
    simp only [Option.bind_some]
    rcases r2 with r2 | ⟨r2, R2⟩
    · subst r2; exact ⟨-2, u, _, rfl, rfl, h7⟩
    subst r2
    simp only [h10, ↓reduceIte]
    obtain ⟨z3, c3, m3, r3⟩ := fitsA (u := u) (v := su v 0 7 0) x4 hrZ (tkZ _ o ho)
    rw [c3, m3]
    simp only [Option.bind_some]
    rcases r3 with r3 | ⟨r3, R3⟩
    · subst r3; exact ⟨-2, u, _, rfl, rfl, h7⟩
    subst r3
    simp only [h10, ↓reduceIte]
    unfold F_X1_isFull F_X3_add_48
    obtain ⟨a, b, ⟨len, c⟩, nx, dp, d⟩ := h7
    rw [c.1, c.2.1]
    by_cases hl : len = 40
    · rw [hl, if_neg (by decide), if_pos (show nI 40 = 40 from rfl)]
      exact ⟨-3, u, _, rfl, rfl, a, b, ⟨len, c⟩, nx, dp, d⟩
    · have hl40 : len < 40 := by have := c.2.2.1; omega
      rw [if_pos (show nI len < 40 from nI_lt (b := 40) hl40 (by decide)), if_neg (show ¬ nI len = 40 from fun q => hl ((nI_eq (b := 40) (by omega) (by decide)).mp q))]
      unfold F_X1_append F_X3_add_60
      have e0 : su v 0 7 0 0 3 = nI len := c.2.1
      have f0 : (4 : Int32) * nI len = nI (4 * len) := pk_mul 4 len
      have f1 : nI (4 * len) + 1 = nI (4 * len + 1) := nI_add _ 1
      have f2 : nI (4 * len) + 2 = nI (4 * len + 2) := nI_add _ 2
      have f3 : nI (4 * len) + 3 = nI (4 * len + 3) := nI_add _ 3
      have e1 : ∀ (j : Nat) (y : Int32), su (su v 0 7 0) 3 j y 0 3 = nI len := fun j y => (su_o (by omega)).trans e0
      have e2 : ∀ (j i : Nat) (y z : Int32), su (su (su v 0 7 0) 3 j y) 3 i z 0 3 = nI len := fun j i y z => (su_o (by omega)).trans (e1 j y)
      have e3 : ∀ (j i k : Nat) (y z w : Int32), su (su (su (su v 0 7 0) 3 j y) 3 i z) 3 k w 0 3 = nI len := fun j i k y z w => (su_o (by omega)).trans (e2 j i y z)
      have e4 : ∀ (j i k l : Nat) (y z w q : Int32), su (su (su (su (su v 0 7 0) 3 j y) 3 i z) 3 k w) 3 l q 0 3 = nI len := fun j i k l y z w q => (su_o (by omega)).trans (e3 j i k y z w)
      have g4 : su (su (su (su u 10 len (nI o)) 11 len x2) 12 len x3) 13 len x4 9 4 = nI len := by
        rw [su_c (by decide), su_c (by decide), su_c (by decide), su_c (by decide)]; exact c.1
      simp only [Option.bind_some, ↓reduceIte, c.1, sb, nI_clamp (show len < 2 ^ 31 by omega), okN hl40 (by decide), e0, f0, f1, f2, f3, nI_clamp (show 4 * len < 2 ^ 31 by omega), okN (show 4 * len < 160 by omega) (by decide), e1, e2, e3, e4, nI_clamp (show 4 * len + 1 < 2 ^ 31 by omega), okN (show 4 * len + 1 < 160 by omega) (by decide), nI_clamp (show 4 * len + 2 < 2 ^ 31 by omega), okN (show 4 * len + 2 < 160 by omega) (by decide), nI_clamp (show 4 * len + 3 < 2 ^ 31 by omega), okN (show 4 * len + 3 < 160 by omega) (by decide), g4, su_e, nI_1]
      rw [nI_pred]
      refine ⟨nI len, _, _, rfl, rfl, a.of (fun c c1 c2 => ?_) ?_ (fun c hc => ?_), ?_, ⟨len + 1, ?_, ?_, by omega, fun p hp => ?_⟩, nx, dp, d.of ?_ ?_ ?_ ?_ ?_⟩
      · rw [su_c (by omega), su_c (by omega), su_c (by omega), su_c (by omega), su_c (by omega)]
      · rw [su_c (by decide), su_c (by decide), su_c (by decide), su_c (by decide), su_c (by decide)]
      · rw [su_c (by omega), su_c (by omega), su_c (by omega), su_c (by omega), su_c (by omega)]
      · simp only [su_v] at b ⊢; simp at b ⊢; exact b
      · exact su_e
      · exact su_e
      · by_cases hpl : p = len
        · subst hpl
          refine ⟨o, ho, ?_, ⟨?_, ?_, ?_⟩, ?_, ?_, ?_, ?_⟩
          · simp only [su_v]; simp
          · simp only [su_v]; simp; exact R1
          · simp only [su_v]; simp; exact R2
          · simp only [su_v]; simp; exact R3
          · simp only [su_v]; simp
          · simp only [su_v]; simp
          · simp only [su_v]; simp
          · simp only [su_v]; simp
        · obtain ⟨o', q1, q2, q3, q4, q5, q6, q7⟩ := c.2.2.2 p (by omega)
          simp only [su_v] at q4 q5 q6 q7
          simp at q4 q5 q6 q7
          refine ⟨o', q1, ?_, ?_, ?_, ?_, ?_, ?_⟩
          · simp only [su_v]; simp [hpl]; exact q2
          · simp only [su_v]; simp [hpl]; exact q3
          · simp only [su_v]; simp [hpl, show 4 * p ≠ 4 * len by omega, show 4 * p ≠ 4 * len + 1 by omega, show 4 * p ≠ 4 * len + 2 by omega, show 4 * p ≠ 4 * len + 3 by omega, show 4 * p + 1 ≠ 4 * len by omega, show 4 * p + 2 ≠ 4 * len by omega, show 4 * p + 3 ≠ 4 * len by omega, show 4 * p + 2 ≠ 4 * len + 1 by omega, show 4 * p + 3 ≠ 4 * len + 1 by omega, show 4 * p + 3 ≠ 4 * len + 2 by omega]; exact q4
          · simp only [su_v]; simp [hpl, show 4 * p ≠ 4 * len by omega, show 4 * p ≠ 4 * len + 1 by omega, show 4 * p ≠ 4 * len + 2 by omega, show 4 * p ≠ 4 * len + 3 by omega, show 4 * p + 1 ≠ 4 * len by omega, show 4 * p + 2 ≠ 4 * len by omega, show 4 * p + 3 ≠ 4 * len by omega, show 4 * p + 2 ≠ 4 * len + 1 by omega, show 4 * p + 3 ≠ 4 * len + 1 by omega, show 4 * p + 3 ≠ 4 * len + 2 by omega]; exact q5
          · simp only [su_v]; simp [hpl, show 4 * p ≠ 4 * len by omega, show 4 * p ≠ 4 * len + 1 by omega, show 4 * p ≠ 4 * len + 2 by omega, show 4 * p ≠ 4 * len + 3 by omega, show 4 * p + 1 ≠ 4 * len by omega, show 4 * p + 2 ≠ 4 * len by omega, show 4 * p + 3 ≠ 4 * len by omega, show 4 * p + 2 ≠ 4 * len + 1 by omega, show 4 * p + 3 ≠ 4 * len + 1 by omega, show 4 * p + 3 ≠ 4 * len + 2 by omega]; exact q6
          · simp only [su_v]; simp [hpl, show 4 * p ≠ 4 * len by omega, show 4 * p ≠ 4 * len + 1 by omega, show 4 * p ≠ 4 * len + 2 by omega, show 4 * p ≠ 4 * len + 3 by omega, show 4 * p + 1 ≠ 4 * len by omega, show 4 * p + 2 ≠ 4 * len by omega, show 4 * p + 3 ≠ 4 * len by omega, show 4 * p + 2 ≠ 4 * len + 1 by omega, show 4 * p + 3 ≠ 4 * len + 1 by omega, show 4 * p + 3 ≠ 4 * len + 2 by omega]; exact q7
      · rw [su_c (by decide), su_c (by decide), su_c (by decide), su_c (by decide), su_c (by decide)]
      · rw [su_c (by decide), su_c (by decide), su_c (by decide), su_c (by decide), su_c (by decide)]
      · simp only [su_v]; simp
      · simp only [su_v]; simp
      · rw [su_c (by decide), su_c (by decide), su_c (by decide), su_c (by decide), su_c (by decide)]
  · rw [w_out (A := 0) (B := 14) (hx.imp id (fun h => (lt_le (n := 14) (by decide)).mpr h))]
    refine ⟨-1, u, _, ?_, rfl, h7⟩
    by_cases h0 : x1 < 0
    · rw [if_pos h0]
    · have h1 := hx.resolve_left h0
      rw [if_neg h0, if_neg (show ¬ x1 < 15 from fun q => by rw [Int32.le_iff_toInt_le, nT (by decide)] at h1; rw [Int32.lt_iff_toInt_lt] at q; simp at q; omega)]
