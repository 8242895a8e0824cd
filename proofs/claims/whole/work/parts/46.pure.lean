/-! PURE: reading and writing an operand's cell -/
theorem Cell.lt {u v : St} {sz ty : Nat → Nat} {us : Nat → Bool} {x : Int32} {c : Nat} (hM : MH u v sz ty us) (h : Cell u sz ty us x c) : c < 152 := by
  rcases h with ⟨h, _⟩ | ⟨k, w, _, _, _, _, h5, h6, h7⟩
  · omega
  · have hr := hM.2.2.1 _ h5
    have hs := hM.1 _ hr.2.2
    omega
theorem sCellOf {u v : St} {sz ty : Nat → Nat} {us : Nat → Bool} {x : Int32} {c : Nat} (hM : MH u v sz ty us) (h : Cell u sz ty us x c) : F_X0_cellOf u x = some (nI c, u) := by
  unfold F_X0_cellOf
  rcases h with ⟨h, e⟩ | ⟨k, w, hk, hw, e, h4, h5, h6, h7⟩
  · subst e
    rw [if_neg (show ¬ (8 : Int32) ≤ nI c from nI_ge (b := 8) h (by decide))]
  · subst e
    have hr := hM.2.2.1 _ h5
    have hs := hM.1 _ hr.2.2
    rw [if_pos (show (8 : Int32) ≤ nI (16 + 8 * k + w) from (nI_leI (a := 8) (by decide) (by omega)).mpr (by omega)), ob (sBlockOf u hk hw)]
    dsimp only
    rw [ob (sWordOf u hk hw)]
    dsimp only
    rw [h4, ob (sCellOfWord u hr.1 hr.2.1 (by omega)), h7]
theorem sValueOf {u v : St} {sz ty : Nat → Nat} {us : Nat → Bool} {x : Int32} {c : Nat} (hM : MH u v sz ty us) (h : Cell u sz ty us x c) : F_X2_valueOf u x = some (u 3 c, u) := by
  unfold F_X2_valueOf
  rw [ob (sCellOf hM h)]
  dsimp only
  rw [ob (sRead u (h.lt hM))]
theorem f101 (s : St) (r z : Int32) : ∃ q : Int32, F_X3_find_101 s r z = some (q, s) := by
  unfold F_X3_find_101 F_X3_find_112
  split <;> split <;> exact ⟨_, rfl⟩
theorem fnd1 {u v : St} {sz ty : Nat → Nat} {us : Nat → Bool} {x : Int32} {c : Nat} (hM : MH u v sz ty us) (h : Cell u sz ty us x c) : ∃ q v1, F_X3_find v x 1 = some (q, v1) ∧ Sc v v1 ∧ ((c < 8 ∧ x = nI c ∧ v1 0 15 = -1) ∨ ∃ b w, 1 ≤ b ∧ b ≤ 24 ∧ w < 6 ∧ c = 6 * b + 2 + w ∧ v1 0 15 = nI b ∧ v1 0 16 = nI w) := by
  rcases h with ⟨h, e⟩ | ⟨k, w, hk, hw, e, h4, h5, h6, h7⟩
  · subst e
    obtain ⟨q, hq⟩ := f101 (su (su v 0 15 (-1)) 0 16 (nI c)) 1 (if 4 ≤ c then 1 else 0)
    exact ⟨q, _, (findF v h 1).trans hq, Sc.rf.s5.s6, Or.inl ⟨h, rfl, by rw [su_o (by decide)]; exact su_e⟩⟩
  · subst e
    have hr := hM.2.2.1 _ h5
    have hs := hM.1 _ hr.2.2
    have hfb := findB hM hk hw h4 1
    rw [if_neg (by omega), if_pos h5, if_pos h6] at hfb
    obtain ⟨q, hq⟩ := f101 (fs v (nI (16 + 8 * k + w)) (nI (vl u (4 + k))) (nI w)) 1 (if pb (u 2 (ty (vl u (4 + k)))) w = true then 1 else 0)
    exact ⟨q, _, hfb.trans hq, fs_sc, Or.inr ⟨vl u (4 + k), w, hr.1, hr.2.1, by omega, h7, fs_5, fs_6⟩⟩
theorem rRead {u v : St} {sz ty : Nat → Nat} {us : Nat → Bool} {x : Int32} {c : Nat} (hM : MH u v sz ty us) (h : Cell u sz ty us x c) : ∃ v', F_X3_read v x = some (u 3 c, v') ∧ Sc v v' := by
  obtain ⟨q, v1, hF, hS, hc⟩ := fnd1 hM h
  have hM1 := hM.sc hS
  unfold F_X3_read
  rw [ob hF]
  dsimp only
  rcases hc with ⟨h8, e, h15⟩ | ⟨b, w, b1, b2, hw, e, h15, h16⟩
  · subst e
    rw [if_pos h15]
    by_cases h4 : 4 ≤ c
    · rw [if_pos (show (4 : Int32) ≤ nI c from (nI_leI (a := 4) (by decide) (by omega)).mpr h4), show nI c - 4 = nI (c - 4) from pk_sub (a := c) (b := 4) h4]
      simp only [nI_clamp (show c - 4 < 2 ^ 31 by omega), okN (show c - 4 < 4 by omega) (by decide), ↓reduceIte]
      refine ⟨v1, ?_, hS⟩
      rw [(hM1.2.2.2.1 (c - 4) (by omega)).2, show 4 + (c - 4) = c by omega]
    · rw [if_neg (show ¬ (4 : Int32) ≤ nI c from nI_ge (b := 4) (by omega) (by decide))]
      simp only [nI_clamp (show c < 2 ^ 31 by omega), okN (show c < 4 by omega) (by decide), ↓reduceIte]
      exact ⟨v1, by rw [(hM1.2.2.2.1 c (by omega)).1], hS⟩
  · have e1 : (6 : Int32) * nI b + nI w = nI (6 * b + w) := by rw [show (6 : Int32) * nI b = nI (6 * b) from pk_mul 6 b, nI_add]
    rw [if_neg (show ¬ v1 0 15 = -1 from fun q => nI_pos (show b < 2 ^ 31 by omega) ((h15.symm.trans q) ▸ (by decide : (-1 : Int32) < 0)))]
    simp only [h15, h16, e1, nI_clamp (show 6 * b + w < 2 ^ 31 by omega), okN (show 6 * b + w < 150 by omega) (by decide), ↓reduceIte]
    exact ⟨v1, by rw [hM1.2.2.2.2 (6 * b + w) (by omega) (by omega), e, show 6 * b + w + 2 = 6 * b + 2 + w by omega], hS⟩
theorem rWrite {u v : St} {sz ty : Nat → Nat} {us : Nat → Bool} {x : Int32} {c : Nat} (hM : MH u v sz ty us) (h : Cell u sz ty us x c) (y : Int32) : ∃ v', F_X3_write v x y = some (0, v') ∧ MH (su u 3 c y) v' sz ty us ∧ v' 3 = v 3 ∧ v' 4 = v 4 ∧ ∀ j, j ≠ 15 → j ≠ 16 → v' 0 j = v 0 j := by
  obtain ⟨q, v1, hF, hS, hc⟩ := fnd1 hM h
  have hM1 := hM.sc hS
  unfold F_X3_write
  rw [ob hF]
  dsimp only
  rcases hc with ⟨h8, e, h15⟩ | ⟨b, w, b1, b2, hw, e, h15, h16⟩
  · subst e
    rw [if_pos h15]
    by_cases h4 : 4 ≤ c
    · rw [if_pos (show (4 : Int32) ≤ nI c from (nI_leI (a := 4) (by decide) (by omega)).mpr h4), show nI c - 4 = nI (c - 4) from pk_sub (a := c) (b := 4) h4]
      simp only [nI_clamp (show c - 4 < 2 ^ 31 by omega), okN (show c - 4 < 4 by omega) (by decide), ↓reduceIte]
      refine ⟨_, rfl, ⟨fun t ht => ?_, fun b b1 b2 => ?_, hM1.2.2.1, fun j hj => ⟨?_, ?_⟩, fun j j1 j2 => ?_⟩, (su_c (by decide)).trans (hS.1 3 (by decide)), (su_c (by decide)).trans (hS.1 4 (by decide)), fun j j1 j2 => by rw [su_c (by decide)]; exact hS.2 j j1 j2⟩
      · have := hM1.1 t ht
        simp only [su_v]; simp; exact this
      · rw [su_c (by decide)]; exact hM1.2.1 b b1 b2
      · simp only [su_v]; simp [show j ≠ c by omega, (hM1.2.2.2.1 j hj).1]
      · simp only [su_v]; simp [(hM1.2.2.2.1 j hj).2, show (j = c - 4) ↔ (4 + j = c) by omega]
      · simp only [su_v]; simp [show j + 2 ≠ c by omega, hM1.2.2.2.2 j j1 j2]
    · rw [if_neg (show ¬ (4 : Int32) ≤ nI c from nI_ge (b := 4) (by omega) (by decide))]
      simp only [nI_clamp (show c < 2 ^ 31 by omega), okN (show c < 4 by omega) (by decide), ↓reduceIte]
      refine ⟨_, rfl, ⟨fun t ht => ?_, fun b b1 b2 => ?_, hM1.2.2.1, fun j hj => ⟨?_, ?_⟩, fun j j1 j2 => ?_⟩, (su_c (by decide)).trans (hS.1 3 (by decide)), (su_c (by decide)).trans (hS.1 4 (by decide)), fun j j1 j2 => by rw [su_c (by decide)]; exact hS.2 j j1 j2⟩
      · have := hM1.1 t ht
        simp only [su_v]; simp; exact this
      · rw [su_c (by decide)]; exact hM1.2.1 b b1 b2
      · simp only [su_v]; simp [(hM1.2.2.2.1 j hj).1]
      · simp only [su_v]; simp [(hM1.2.2.2.1 j hj).2, show 4 + j ≠ c by omega]
      · simp only [su_v]; simp [show j + 2 ≠ c by omega, hM1.2.2.2.2 j j1 j2]
  · have e1 : (6 : Int32) * nI b + nI w = nI (6 * b + w) := by rw [show (6 : Int32) * nI b = nI (6 * b) from pk_mul 6 b, nI_add]
    rw [if_neg (show ¬ v1 0 15 = -1 from fun q => nI_pos (show b < 2 ^ 31 by omega) ((h15.symm.trans q) ▸ (by decide : (-1 : Int32) < 0)))]
    simp only [h15, h16, e1, nI_clamp (show 6 * b + w < 2 ^ 31 by omega), okN (show 6 * b + w < 150 by omega) (by decide), ↓reduceIte]
    refine ⟨_, rfl, ⟨fun t ht => ?_, fun b b1 b2 => ?_, hM1.2.2.1, fun j hj => ⟨?_, ?_⟩, fun j j1 j2 => ?_⟩, (su_c (by decide)).trans (hS.1 3 (by decide)), (su_c (by decide)).trans (hS.1 4 (by decide)), fun j j1 j2 => by rw [su_c (by decide)]; exact hS.2 j j1 j2⟩
    · have := hM1.1 t ht
      simp only [su_v]; simp; exact this
    · rw [su_c (by decide)]; exact hM1.2.1 b b1 b2
    · simp only [su_v]; simp [show j ≠ c by omega, (hM1.2.2.2.1 j hj).1]
    · simp only [su_v]; simp [(hM1.2.2.2.1 j hj).2, show 4 + j ≠ c by omega]
    · simp only [su_v]; simp [hM1.2.2.2.2 j j1 j2, show (j = 6 * b + w) ↔ (j + 2 = c) by omega]
