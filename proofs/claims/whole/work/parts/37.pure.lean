/-! PURE: findLost -/
theorem AZ_root {P : Nat → Nat → Bool} {Z : Nat → Bool} {j : Nat} (h : j < 4) : AZ P Z (4 + j) = true := by unfold AZ; simp; omega
theorem fl2 {u0 : St} {sz ty : Nat → Nat} {us : Nat → Bool} (hB : Bs u0 sz ty us) (hCl : Cl u0 sz ty us) :
    ∀ (n k : Nat) (u : St) (R : Nat → Bool) (q : Nat) (Q : Nat → Nat), 5 ≤ n + k → k ≤ 4 → RV u0 u us R q Q → Mn u0 sz ty R →
      ∃ u' R' q' Q', L_X0_findLost_28 n u (nI k) = L_X0_findLost_53 fuel u' 0 ∧ RV u0 u' us R' q' Q' ∧ (∀ x, R x = true → R' x = true) ∧ Mn u0 sz ty R' ∧ ∀ j, k ≤ j → j < 4 → vl u0 (4 + j) = 0 ∨ R' (vl u0 (4 + j)) = true := by
  intro n
  induction n with
  | zero => intro k u R q Q h1 h2; omega
  | succ n ih =>
    intro k u R q Q h1 h2 hR hM
    show ∃ u' R' q' Q', F_X0_findLost_28 (L_X0_findLost_28 n) u (nI k) = _ ∧ _
    unfold F_X0_findLost_28
    by_cases hk : k = 4
    · subst hk
      rw [if_pos (by decide)]
      exact ⟨u, R, q, Q, rfl, hR, fun _ h => h, hM, fun j a b => by omega⟩
    · rw [if_neg (by rw [Int32.le_iff_toInt_le, nT (by omega)]; simp; omega), show (4 : Int32) + nI k = nI (4 + k) from nI_add 4 k]
      simp only [okN (show 4 + k < 152 by omega) (by decide), ↓reduceIte, nI_clamp (show 4 + k < 2 ^ 31 by omega), hR.1 3 (by decide) (by decide) (by decide), nI_1]
      have hv := cl_val hCl (c := 4 + k) (by omega) (AZ_root (by omega))
      rw [hv.1]
      obtain ⟨u1, R1, q1, Q1, hF1, hR1, a1, a2, a3, a4, a5⟩ := sReach hB hR hv.2.1
      rw [hF1]
      show ∃ u' R' q' Q', L_X0_findLost_28 n u1 (nI (k + 1)) = _ ∧ _
      obtain ⟨u2, R2, q2, Q2, hF2, hR2, b1, b2, b3⟩ := ih (k + 1) u1 R1 q1 Q1 (by omega) (by omega) hR1 (fun V hV x hx => by
        rcases a3 x hx with h | ⟨h, h'⟩
        · exact hM V hV x h
        · rw [h]
          rcases hV (4 + k) (by omega) (AZ_root (by omega)) with h9 | h9
          · rw [h9, hB.2.2.2.1] at h'; cases h'
          · exact h9)
      refine ⟨u2, R2, q2, Q2, hF2, hR2, fun x hx => b1 x (a1 x hx), b2, fun j j1 j2 => ?_⟩
      by_cases hj : j = k
      · subst hj
        rcases hv.2.2 with h | h
        · exact Or.inl h
        · exact Or.inr (b1 _ (a2 h))
      · exact b3 j (by omega) j2
theorem fl1 : ∀ (n x : Nat) (u : St), 26 ≤ n + x → 1 ≤ x → x ≤ 25 → ∃ u', L_X0_findLost_7 n u (nI x) = L_X0_findLost_28 fuel u' 0 ∧ (∀ c, c ≠ 7 → u' c = u c) ∧ (∀ b, x ≤ b → b ≤ 24 → u' 7 b = 0) ∧ ∀ b, b < x → u' 7 b = u 7 b := by
  intro n
  induction n with
  | zero => intro x u h1 h2 h3; omega
  | succ n ih =>
    intro x u h1 h2 h3
    show ∃ u', F_X0_findLost_7 (L_X0_findLost_7 n) u (nI x) = _ ∧ _
    unfold F_X0_findLost_7
    by_cases hx : x = 25
    · subst hx
      rw [if_pos (by decide)]
      exact ⟨u, rfl, fun _ _ => rfl, fun b a c => by omega, fun _ _ => rfl⟩
    · rw [if_neg (by rw [Int32.lt_iff_toInt_lt, nT (by omega)]; simp; omega)]
      simp only [okN (show x < 25 by omega) (by decide), ↓reduceIte, nI_clamp (show x < 2 ^ 31 by omega), nI_1]
      obtain ⟨u1, hF, a1, a2, a3⟩ := ih (x + 1) (su u 7 x 0) (by omega) (by omega) (by omega)
      refine ⟨u1, hF, fun c hc => (a1 c hc).trans (su_c hc), fun b b1 b2 => ?_, fun b hb => ?_⟩
      · by_cases hb : b = x
        · subst hb; rw [a3 b (by omega), su_v]; simp
        · exact a2 b (by omega) b2
      · rw [a3 b (by omega), su_v]; simp [show b ≠ x by omega]
theorem sFindLost {u : St} {sz ty : Nat → Nat} {us : Nat → Bool} (hB : Bs u sz ty us) (hCl : Cl u sz ty us) (h9 : u 0 9 = nI (ct us 25)) :
    ∃ u' R, F_X0_findLost u = some (nI (ct us 25 - ct R 25), u') ∧ (∀ c, c ≠ 0 → c ≠ 7 → c ≠ 8 → u' c = u c) ∧ (u' 0 9 = u 0 9 ∧ u' 0 10 = u 0 10) ∧ (∀ b, 1 ≤ b → b ≤ 24 → u' 7 b = if R b = true then 1 else 0) ∧ (∀ x, R x = true → us x = true) ∧ Clo u sz ty R ∧ Mn u sz ty R := by
  obtain ⟨u1, hF1, a1, a2, a3⟩ := fl1 fuel 1 (su u 0 8 0) (by decide) (by decide) (by decide)
  have hR0 : RV u u1 us (fun _ => false) 0 (fun _ => 0) := by
    refine ⟨fun c c1 c2 c3 => ?_, ⟨?_, ?_⟩, ?_, fun b b1 b2 => ?_, fun i hi => by omega, fun x => ⟨(fun h => by cases h), fun ⟨i, h, _⟩ => by omega⟩, (ct_zero (fun _ _ => rfl)).symm, (fun x h => by cases h)⟩
    · rw [a1 c c2]; exact su_c c1
    · rw [a1 0 (by decide), su_v]; simp
    · rw [a1 0 (by decide), su_v]; simp
    · rw [a1 0 (by decide), su_v]; rfl
    · rw [a2 b b1 b2]; rfl
  obtain ⟨u2, R2, q2, Q2, hF2, hR2, b1, b2, b3⟩ := fl2 hB hCl fuel 0 u1 _ 0 _ (by decide) (by decide) hR0 (fun V hV x h => by cases h)
  obtain ⟨u3, R3, q3, Q3, hF3, hR3, c1, c2, c3⟩ := fl3 hB hCl fuel 0 u2 R2 q2 Q2 (by decide) (Nat.zero_le _) hR2 b2 (fun j hj => by omega)
  have hsub := hR3.2.2.2.2.2.2.2
  have hle : ct R3 25 ≤ ct us 25 := ct_mono (fun c _ hc => hsub c hc)
  refine ⟨u3, R3, ?_, hR3.1, hR3.2.1, hR3.2.2.2.1, hsub, fun c hc hA => ?_, c2⟩
  · unfold F_X0_findLost
    simp only [sb]
    refine hF1.trans (hF2.trans (hF3.trans ?_))
    unfold F_X0_findLost_83
    rw [hR3.2.1.1, h9, hR3.2.2.1, hR3.2.2.2.2.2.2.1, pk_sub hle]
  · have hg := AZ_ge hA
    by_cases h8 : c < 8
    · have := b3 (c - 4) (by omega) (by omega)
      rw [show 4 + (c - 4) = c by omega] at this
      rcases this with h | h
      · exact Or.inl h
      · exact Or.inr (c1 _ h)
    · unfold AZ at hA
      simp only [show ¬ c < 8 by omega, and_false, decide_false, Bool.false_or, Bool.and_eq_true, decide_eq_true_eq] at hA
      have := c3 ((c - 2) / 6) hA.2 ((c - 2) % 6) (by omega) hA.1.2
      rw [show 6 * ((c - 2) / 6) + 2 + (c - 2) % 6 = c by omega] at this
      exact this
/-- what is come to is pointed to from there -/
theorem Clo.sup {u : St} {sz ty : Nat → Nat} {R : Nat → Bool} (hC : Clo u sz ty R) (hM : Mn u sz ty R) (h0 : R 0 = false) : Sup u sz ty R := by
  intro x hx
  refine Classical.byContradiction fun hno => ?_
  have hV : Clo u sz ty (del R x) := fun c hc hA => by
    have hA2 := AZ_mono (Y := R) (fun z hz => by simp [del] at hz; exact hz.1) hA
    rcases hC c hc hA2 with h | h
    · exact Or.inl h
    · refine Or.inr ?_
      have : vl u c ≠ x := fun e => hno ⟨c, hc, hA2, e⟩
      simp [del, h, this]
  have := hM _ hV x hx
  simp [del] at this
/-! PURE: collect -/
def KV (u0 u : St) (sz ty : Nat → Nat) (us R : Nat → Bool) (n : Nat → Nat) (g : Int32) (T : Nat) : Prop :=
  Bs u sz ty us ∧ (∀ c, c ≠ 0 → c ≠ 4 → c ≠ 6 → u c = u0 c) ∧ u 0 9 = nI (ct us 25) ∧ u 0 10 = g + nI (T - ct us 25) ∧ ∀ x, R x = true → u 6 x = nI (n x)
theorem KV.n {u0 u : St} {sz ty : Nat → Nat} {us R : Nat → Bool} {n n' : Nat → Nat} {g : Int32} {T : Nat} (h : KV u0 u sz ty us R n g T) (he : ∀ x, R x = true → n x = n' x) : KV u0 u sz ty us R n' g T := ⟨h.1, h.2.1, h.2.2.1, h.2.2.2.1, fun x hx => (he x hx) ▸ h.2.2.2.2 x hx⟩
theorem tko {u0 : St} {sz ty : Nat → Nat} {us R : Nat → Bool} {g : Int32} {T b : Nat} {B : Nat → Bool} {Val : Nat → Nat} (hb : us b = true) (hRs : ∀ x, R x = true → us x = true) (h7 : ∀ x, 1 ≤ x → x ≤ 24 → u0 7 x = if R x = true then 1 else 0) (hB0 : ∀ c, c < 152 → 8 ≤ c → (c - 2) / 6 = b → B c = false)
    (hval : ∀ w, w < 6 → pt u0 sz ty b w = true → u0 3 (6 * b + 2 + w) = nI (Val (6 * b + 2 + w)) ∧ Val (6 * b + 2 + w) ≤ 24) :
    ∀ (n w : Nat) (u : St), 7 ≤ n + w → w ≤ 6 → KV u0 u sz ty us R (nA (AW B (pt u0 sz ty b) b w) Val) g T → ∃ u', L_X0_takeOffCountsOf_2 n u (nI b) (nI w) = some (0, u') ∧ KV u0 u' sz ty us R (nA B Val) g T := by
  intro n
  induction n with
  | zero => intro w u h1 h2; omega
  | succ n ih =>
    intro w u h1 h2 hK
    have hr := bs_rng hK.1 hb
    show ∃ u', F_X0_takeOffCountsOf_2 (L_X0_takeOffCountsOf_2 n) u (nI b) (nI w) = _ ∧ _
    unfold F_X0_takeOffCountsOf_2
    by_cases hw : w = 6
    · subst hw
      rw [if_pos (by decide)]
      refine ⟨u, rfl, hK.n (fun x _ => ct_congr (fun c hc => ?_))⟩
      have : ¬ 6 ≤ (c - 2) % 6 := by omega
      simp [AW, this]
    · have hw6 : w < 6 := by omega
      rw [if_neg (by rw [Int32.le_iff_toInt_le, nT (by omega)]; simp; omega)]
      have e2 : pt u sz ty = pt u0 sz ty := pt_static (hK.2.1 2 (by decide) (by decide) (by decide))
      rw [sIsPointerWord hK.1 hr.2 (show w < 100 by omega), e2]
      show ∃ u', (if (if us b = true ∧ pt u0 sz ty b w = true then (1 : Int32) else 0) = 0 then L_X0_takeOffCountsOf_2 n u (nI b) (nI w + 1) else _) = _ ∧ _
      rw [nI_1]
      by_cases hp : pt u0 sz ty b w = true
      · rw [if_pos (show us b = true ∧ pt u0 sz ty b w = true from ⟨hb, hp⟩), if_neg (by decide), sCellOfWord u hr.1 hr.2 hw6]
        have hv := hval w hw6 hp
        have hA0 : AW B (pt u0 sz ty b) b w (6 * b + 2 + w) = true := by simp [AW, hp, show (6 * b + 2 + w - 2) / 6 = b by omega, show (6 * b + 2 + w - 2) % 6 = w by omega, show 8 ≤ 6 * b + 2 + w by omega]
        have hA1 : AW B (pt u0 sz ty b) b (w + 1) (6 * b + 2 + w) = false := by
          simp [AW, hB0 (6 * b + 2 + w) (by omega) (by omega) (by omega), show (6 * b + 2 + w - 2) % 6 = w by omega]; intro _ _ h9; omega
        have hAo : ∀ c, c < 152 → c ≠ 6 * b + 2 + w → AW B (pt u0 sz ty b) b (w + 1) c = AW B (pt u0 sz ty b) b w c := fun c hc hne => by
          unfold AW
          by_cases h7 : (c - 2) / 6 = b ∧ 8 ≤ c
          · have h8 : (w + 1 ≤ (c - 2) % 6) ↔ (w ≤ (c - 2) % 6) := by omega
            simp [h8]
          · by_cases h8 : (c - 2) / 6 = b
            · have : ¬ 8 ≤ c := fun q => h7 ⟨h8, q⟩
              simp [this]
            · simp [h8]
        obtain ⟨y, hy⟩ : ∃ z, z = Val (6 * b + 2 + w) := ⟨_, rfl⟩
        rw [← hy] at hv
        have hny : nA (AW B (pt u0 sz ty b) b w) Val y = nA (AW B (pt u0 sz ty b) b (w + 1)) Val y + 1 := ct_del (c := 6 * b + 2 + w) (by omega) (by simp [hA0, hy]) (by simp [hA1]) (fun j hj hj2 => by simp [hAo j hj hj2])
        have hnx : ∀ x, x ≠ y → nA (AW B (pt u0 sz ty b) b w) Val x = nA (AW B (pt u0 sz ty b) b (w + 1)) Val x := fun x hx => ct_congr (fun c hc => by
          by_cases hcc : c = 6 * b + 2 + w
          · subst hcc; rw [hA1, ← hy]; simp [Ne.symm hx]
          · rw [hAo c hc hcc])
        show ∃ u', (if nI (6 * b + 2 + w) < 0 ∨ 152 ≤ (nI (6 * b + 2 + w)).toNatClampNeg then none else (F_X0_isBlock u (u 3 (nI (6 * b + 2 + w)).toNatClampNeg)).bind fun q8 => _) = _ ∧ _
        simp only [okN (show 6 * b + 2 + w < 152 by omega) (by decide), ↓reduceIte, nI_clamp (show 6 * b + 2 + w < 2 ^ 31 by omega), hK.2.1 3 (by decide) (by decide) (by decide)]
        rw [hv.1, sIsBlock hK.1, nI_clamp (show y < 2 ^ 31 by omega)]
        show ∃ u', (if (if us y = true then (1 : Int32) else 0) = 0 then _ else _) = _ ∧ _
        by_cases huy : us y = true
        · have hry := bs_rng hK.1 huy
          rw [if_pos huy, if_neg (by decide)]
          simp only [okN (show y < 25 by omega) (by decide), ↓reduceIte, nI_clamp (show y < 2 ^ 31 by omega), hK.2.1 7 (by decide) (by decide) (by decide), h7 y hry.1 hry.2]
          by_cases hRy : R y = true
          · rw [if_pos hRy, if_neg (by decide)]
            have h6 := hK.2.2.2.2 y hRy
            refine ih (w + 1) _ (by omega) (by omega) ⟨⟨fun t ht => ?_, fun z hz => ?_, fun z z1 z2 => ?_, hK.1.2.2.2.1, hK.1.2.2.2.2⟩, fun c c1 c2 c3 => ?_, ?_, ?_, fun x hx => ?_⟩
            · simp only [su_v]; simp; exact hK.1.1 t ht
            · simp only [su_v]; simp; exact hK.1.2.1 z hz
            · simp only [su_v]; simp; exact hK.1.2.2.1 z z1 z2
            · funext j; simp only [su_v]; simp [c3, hK.2.1 c c1 c2 c3]
            · simp only [su_v]; simp; exact hK.2.2.1
            · simp only [su_v]; simp; exact hK.2.2.2.1
            · simp only [su_v]; simp
              by_cases hxy : x = y
              · subst hxy
                simp only [if_true]
                rw [h6, hny]; exact pk_sub (a := nA (AW B (pt u0 sz ty b) b (w + 1)) Val x + 1) (b := 1) (by omega)
              · simp only [hxy, if_false]
                rw [hK.2.2.2.2 x hx, hnx x hxy]
          · rw [if_neg hRy, if_pos rfl]
            exact ih (w + 1) u (by omega) (by omega) (hK.n (fun x hx => hnx x (fun e => hRy (e ▸ hx))))
        · rw [if_neg huy, if_pos rfl]
          exact ih (w + 1) u (by omega) (by omega) (hK.n (fun x hx => hnx x (fun e => huy (e ▸ hRs x hx))))
      · rw [if_neg (show ¬ (us b = true ∧ pt u0 sz ty b w = true) from fun h => hp h.2), if_pos rfl]
        refine ih (w + 1) u (by omega) (by omega) (hK.n (fun x _ => ct_congr (fun c hc => ?_)))
        unfold AW
        by_cases h7 : (c - 2) % 6 = w
        · rw [h7]; simp [hp]
        · have h8 : (w ≤ (c - 2) % 6) ↔ (w + 1 ≤ (c - 2) % 6) := by omega
          simp [h8]
