/-! PURE: what can be come to -/
def RV (u0 u : St) (us R : Nat → Bool) (q : Nat) (Q : Nat → Nat) : Prop :=
  (∀ c, c ≠ 0 → c ≠ 7 → c ≠ 8 → u c = u0 c) ∧ (u 0 9 = u0 0 9 ∧ u 0 10 = u0 0 10) ∧ u 0 8 = nI q ∧ (∀ b, 1 ≤ b → b ≤ 24 → u 7 b = if R b = true then 1 else 0) ∧ (∀ i, i < q → u 8 i = nI (Q i)) ∧ (∀ x, R x = true ↔ ∃ i, i < q ∧ Q i = x) ∧ q = ct R 25 ∧ ∀ x, R x = true → us x = true
/-- V has what the frame points to, and what its blocks point to -/
def Clo (u : St) (sz ty : Nat → Nat) (V : Nat → Bool) : Prop := ∀ c, c < 152 → AZ (pt u sz ty) V c = true → vl u c = 0 ∨ V (vl u c) = true
def Mn (u : St) (sz ty : Nat → Nat) (R : Nat → Bool) : Prop := ∀ V : Nat → Bool, Clo u sz ty V → ∀ x, R x = true → V x = true
def add1 (R : Nat → Bool) (y : Nat) : Nat → Bool := fun x => R x || (x == y)
theorem Bs.of {u0 u : St} {sz ty : Nat → Nat} {us : Nat → Bool} (h : Bs u0 sz ty us) (h1 : u 1 = u0 1) (h2 : u 2 = u0 2) (h4 : u 4 = u0 4) (h5 : u 5 = u0 5) : Bs u sz ty us := by
  unfold Bs; rw [h1, h2, h4, h5]; exact h
theorem RV.bs {u0 u : St} {sz ty : Nat → Nat} {us R : Nat → Bool} {q : Nat} {Q : Nat → Nat} (h : RV u0 u us R q Q) (hB : Bs u0 sz ty us) : Bs u sz ty us := hB.of (h.1 1 (by decide) (by decide) (by decide)) (h.1 2 (by decide) (by decide) (by decide)) (h.1 4 (by decide) (by decide) (by decide)) (h.1 5 (by decide) (by decide) (by decide))
theorem sReach {u0 u : St} {sz ty : Nat → Nat} {us R : Nat → Bool} {q : Nat} {Q : Nat → Nat} (hB : Bs u0 sz ty us) (hR : RV u0 u us R q Q) {y : Nat} (hy : y ≤ 24) :
    ∃ u' R' q' Q', F_X0_reach u (nI y) = some (0, u') ∧ RV u0 u' us R' q' Q' ∧ (∀ x, R x = true → R' x = true) ∧ (us y = true → R' y = true) ∧ (∀ x, R' x = true → R x = true ∨ (x = y ∧ us y = true)) ∧ q ≤ q' ∧ ∀ i, i < q → Q' i = Q i := by
  have hBu := hR.bs hB
  unfold F_X0_reach
  rw [sIsBlock hBu, nI_clamp (by omega)]
  show ∃ u' R' q' Q', (if (if us y = true then (1 : Int32) else 0) = 0 then _ else _) = _ ∧ _
  cases hus : us y with
  | false => exact ⟨u, R, q, Q, rfl, hR, fun x h => h, (fun h => by cases h), fun x h => Or.inl h, Nat.le_refl _, fun _ _ => rfl⟩
  | true =>
    have hr := bs_rng hB hus
    rw [if_pos rfl, if_neg (by decide)]
    simp only [okN (show y < 25 by omega) (by decide), ↓reduceIte, nI_clamp (show y < 2 ^ 31 by omega), hR.2.2.2.1 y hr.1 hr.2]
    cases hRy : R y with
    | true =>
      rw [if_pos rfl, if_neg (by decide)]
      exact ⟨u, R, q, Q, rfl, hR, fun x h => h, fun _ => hRy, fun x h => Or.inl h, Nat.le_refl _, fun _ _ => rfl⟩
    | false =>
      obtain ⟨h1, h2, h8, h7, hQ, hiff, hq, hsub⟩ := hR
      have hct : ct (add1 R y) 25 = ct R 25 + 1 := ct_del (c := y) (by omega) (by simp [add1]) hRy (fun j _ hj => by simp [add1, hj])
      have hle : ct (add1 R y) 25 ≤ ct us 25 := ct_mono (fun c _ hc => by
        simp only [add1, Bool.or_eq_true, beq_iff_eq] at hc
        rcases hc with hc | hc
        · exact hsub c hc
        · rw [hc]; exact hus)
      have h24 := ct24 hB.2.2.2.1
      rw [if_pos (show (if false = true then (1 : Int32) else 0) = 0 from rfl)]
      simp only [sb]
      rw [sEnqueue (q := q) _ (by simp only [su_v]; simp [h8]) (by omega)]
      refine ⟨_, add1 R y, q + 1, ext Q q y, rfl, ⟨fun c c1 c2 c3 => ?_, ⟨?_, ?_⟩, ?_, fun b b1 b2 => ?_, fun i hi => ?_, fun x => ?_, by omega, fun x hx => ?_⟩, fun x hx => by simp [add1, hx], fun _ => by simp [add1], fun x hx => ?_, by omega, fun i hi => by simp [ext, Nat.ne_of_lt hi]⟩
      · funext j; simp only [su_v]; simp [c1, c2, c3, h1 c c1 c2 c3]
      · simp only [su_v]; simp [h2.1]
      · simp only [su_v]; simp [h2.2]
      · simp only [su_v]; simp
      · simp only [su_v]; simp
        by_cases hby : b = y
        · simp [hby, add1]
        · simp [hby, add1]; exact h7 b b1 b2
      · simp only [su_v]; simp
        by_cases hiq : i = q
        · simp [hiq, ext]
        · simp [hiq, ext]; exact hQ i (by omega)
      · simp only [add1, Bool.or_eq_true, beq_iff_eq, hiff x]
        constructor
        · rintro (⟨i, a, b⟩ | h)
          · exact ⟨i, by omega, by simp [ext, Nat.ne_of_lt a, b]⟩
          · exact ⟨q, by omega, by simp [ext, h]⟩
        · rintro ⟨i, a, b⟩
          by_cases hiq : i = q
          · subst hiq; simp [ext] at b; exact Or.inr b.symm
          · simp [ext, hiq] at b; exact Or.inl ⟨i, by omega, b⟩
      · simp only [add1, Bool.or_eq_true, beq_iff_eq] at hx
        rcases hx with hx | hx
        · exact hsub x hx
        · rw [hx]; exact hus
      · simp only [add1, Bool.or_eq_true, beq_iff_eq] at hx
        rcases hx with hx | hx
        · exact Or.inl hx
        · exact Or.inr ⟨hx, trivial⟩
theorem cl_val {u : St} {sz ty : Nat → Nat} {us : Nat → Bool} (h : Cl u sz ty us) {c : Nat} (hc : c < 152) (hA : AZ (pt u sz ty) us c = true) : u 3 c = nI (vl u c) ∧ vl u c ≤ 24 ∧ (vl u c = 0 ∨ us (vl u c) = true) := by
  obtain ⟨x, x1, x2, x3⟩ := h c hc hA
  rw [vl_of x2 x1]; exact ⟨x2, x1, x3⟩
theorem AZ_at {P : Nat → Nat → Bool} {Z : Nat → Bool} {b w : Nat} (hb : 1 ≤ b) (hw : w < 6) (hP : P b w = true) (hZ : Z b = true) : AZ P Z (6 * b + 2 + w) = true := by
  unfold AZ
  simp [show (6 * b + 2 + w - 2) / 6 = b by omega, show (6 * b + 2 + w - 2) % 6 = w by omega, hP, hZ]; omega
theorem rpo {u0 : St} {sz ty : Nat → Nat} {us : Nat → Bool} (hB : Bs u0 sz ty us) (hCl : Cl u0 sz ty us) {b : Nat} (hb : us b = true) :
    ∀ (n w : Nat) (u : St) (R : Nat → Bool) (q : Nat) (Q : Nat → Nat), 7 ≤ n + w → w ≤ 6 → RV u0 u us R q Q → R b = true → Mn u0 sz ty R →
      ∃ u' R' q' Q', L_X0_reachPointersOf_2 n u (nI b) (nI w) = some (0, u') ∧ RV u0 u' us R' q' Q' ∧ (∀ x, R x = true → R' x = true) ∧ Mn u0 sz ty R' ∧ (q ≤ q' ∧ ∀ i, i < q → Q' i = Q i) ∧ ∀ k, w ≤ k → k < 6 → pt u0 sz ty b k = true → vl u0 (6 * b + 2 + k) = 0 ∨ R' (vl u0 (6 * b + 2 + k)) = true := by
  have hr := bs_rng hB hb
  intro n
  induction n with
  | zero => intro w u R q Q h1 h2; omega
  | succ n ih =>
    intro w u R q Q h1 h2 hR hRb hM
    show ∃ u' R' q' Q', F_X0_reachPointersOf_2 (L_X0_reachPointersOf_2 n) u (nI b) (nI w) = some (0, u') ∧ _
    unfold F_X0_reachPointersOf_2
    by_cases hw : w = 6
    · subst hw
      rw [if_pos (by decide)]
      exact ⟨u, R, q, Q, rfl, hR, fun _ h => h, hM, ⟨Nat.le_refl _, fun _ _ => rfl⟩, fun k a c => by omega⟩
    · have hw6 : w < 6 := by omega
      rw [if_neg (by rw [Int32.le_iff_toInt_le, nT (by omega)]; simp; omega)]
      have e2 : pt u sz ty = pt u0 sz ty := pt_static (hR.1 2 (by decide) (by decide) (by decide))
      rw [sIsPointerWord (hR.bs hB) hr.2 (show w < 100 by omega), e2]
      show ∃ u' R' q' Q', (if (if us b = true ∧ pt u0 sz ty b w = true then (1 : Int32) else 0) = 0 then L_X0_reachPointersOf_2 n u (nI b) (nI w + 1) else _) = _ ∧ _
      rw [nI_1]
      by_cases hp : pt u0 sz ty b w = true
      · rw [if_pos (show us b = true ∧ pt u0 sz ty b w = true from ⟨hb, hp⟩), if_neg (by decide), sCellOfWord u hr.1 hr.2 hw6]
        show ∃ u' R' q' Q', (if nI (6 * b + 2 + w) < 0 ∨ 152 ≤ (nI (6 * b + 2 + w)).toNatClampNeg then none else (F_X0_reach u (u 3 (nI (6 * b + 2 + w)).toNatClampNeg)).bind fun q8 => L_X0_reachPointersOf_2 n q8.2 (nI b) (nI (w + 1))) = some (0, u') ∧ _
        have hAu := AZ_at (P := pt u0 sz ty) (Z := us) hr.1 hw6 hp hb
        have hv := cl_val hCl (c := 6 * b + 2 + w) (by omega) hAu
        simp only [okN (show 6 * b + 2 + w < 152 by omega) (by decide), ↓reduceIte, nI_clamp (show 6 * b + 2 + w < 2 ^ 31 by omega), hR.1 3 (by decide) (by decide) (by decide)]
        rw [hv.1]
        obtain ⟨u1, R1, q1, Q1, hF1, hR1, a1, a2, a3, a4, a5⟩ := sReach hB hR hv.2.1
        rw [hF1]
        show ∃ u' R' q' Q', L_X0_reachPointersOf_2 n u1 (nI b) (nI (w + 1)) = some (0, u') ∧ _
        obtain ⟨u2, R2, q2, Q2, hF2, hR2, b1, b2, b3, b4⟩ := ih (w + 1) u1 R1 q1 Q1 (by omega) (by omega) hR1 (a1 b hRb) (fun V hV x hx => by
          rcases a3 x hx with h | ⟨h, h'⟩
          · exact hM V hV x h
          · rw [h]
            rcases hV (6 * b + 2 + w) (by omega) (AZ_at hr.1 hw6 hp (hM V hV b hRb)) with h9 | h9
            · rw [h9, hB.2.2.2.1] at h'; cases h'
            · exact h9)
        refine ⟨u2, R2, q2, Q2, hF2, hR2, fun x hx => b1 x (a1 x hx), b2, ⟨by omega, fun i hi => (b3.2 i (by omega)).trans (a5 i hi)⟩, fun k k1 k2 k3 => ?_⟩
        by_cases hk : k = w
        · subst hk
          rcases hv.2.2 with h | h
          · exact Or.inl h
          · exact Or.inr (b1 _ (a2 h))
        · exact b4 k (by omega) k2 k3
      · rw [if_neg (show ¬ (us b = true ∧ pt u0 sz ty b w = true) from fun h => hp h.2), if_pos rfl]
        obtain ⟨u2, R2, q2, Q2, hF2, hR2, b1, b2, b3, b4⟩ := ih (w + 1) u R q Q (by omega) (by omega) hR hRb hM
        refine ⟨u2, R2, q2, Q2, hF2, hR2, b1, b2, b3, fun k k1 k2 k3 => ?_⟩
        by_cases hk : k = w
        · subst hk; exact absurd k3 hp
        · exact b4 k (by omega) k2 k3
/-- the third loop of findLost -/
theorem fl3 {u0 : St} {sz ty : Nat → Nat} {us : Nat → Bool} (hB : Bs u0 sz ty us) (hCl : Cl u0 sz ty us) :
    ∀ (n i : Nat) (u : St) (R : Nat → Bool) (q : Nat) (Q : Nat → Nat), 26 ≤ n + i → i ≤ q → RV u0 u us R q Q → Mn u0 sz ty R → (∀ j, j < i → ∀ k, k < 6 → pt u0 sz ty (Q j) k = true → vl u0 (6 * Q j + 2 + k) = 0 ∨ R (vl u0 (6 * Q j + 2 + k)) = true) →
      ∃ u' R' q' Q', L_X0_findLost_53 n u (nI i) = F_X0_findLost_83 u' ∧ RV u0 u' us R' q' Q' ∧ (∀ x, R x = true → R' x = true) ∧ Mn u0 sz ty R' ∧ ∀ b, R' b = true → ∀ k, k < 6 → pt u0 sz ty b k = true → vl u0 (6 * b + 2 + k) = 0 ∨ R' (vl u0 (6 * b + 2 + k)) = true := by
  intro n
  induction n with
  | zero =>
    intro i u R q Q h1 h2 hR
    have h3 : ct R 25 ≤ ct us 25 := ct_mono (fun c _ hc => hR.2.2.2.2.2.2.2 c hc)
    have h4 := ct24 hB.2.2.2.1
    have h5 := hR.2.2.2.2.2.2.1
    omega
  | succ n ih =>
    intro i u R q Q h1 h2 hR hM hdone
    have h3 : ct R 25 ≤ ct us 25 := ct_mono (fun c _ hc => hR.2.2.2.2.2.2.2 c hc)
    have h4 := ct24 hB.2.2.2.1
    have h5 := hR.2.2.2.2.2.2.1
    have hiff := hR.2.2.2.2.2.1
    show ∃ u' R' q' Q', F_X0_findLost_53 (L_X0_findLost_53 n) u (nI i) = _ ∧ _
    unfold F_X0_findLost_53
    simp only [hR.2.2.1, nI_leI (show q < 2 ^ 31 by omega) (show i < 2 ^ 31 by omega)]
    by_cases hqi : q ≤ i
    · rw [if_pos hqi]
      refine ⟨u, R, q, Q, rfl, hR, fun _ h => h, hM, fun b hb k k1 k2 => ?_⟩
      obtain ⟨j, j1, j2⟩ := (hiff b).mp hb
      have := hdone j (by omega) k k1
      rw [j2] at this; exact this k2
    · rw [if_neg hqi, if_neg (by rw [Int32.le_iff_toInt_le, nT (by omega)]; simp; omega)]
      simp only [okN (show i < 24 by omega) (by decide), ↓reduceIte, nI_clamp (show i < 2 ^ 31 by omega), hR.2.2.2.2.1 i (by omega), nI_1]
      have hRQ : R (Q i) = true := (hiff _).mpr ⟨i, by omega, rfl⟩
      obtain ⟨u1, R1, q1, Q1, hF1, hR1, a1, a2, a3, a4⟩ := rpo hB hCl (hR.2.2.2.2.2.2.2 _ hRQ) fuel 0 u R q Q (by decide) (by omega) hR hRQ hM
      have hF1' : F_X0_reachPointersOf u (nI (Q i)) = some (0, u1) := hF1
      rw [hF1']
      show ∃ u' R' q' Q', L_X0_findLost_53 n u1 (nI (i + 1)) = _ ∧ _
      obtain ⟨u2, R2, q2, Q2, hF2, hR2, b1, b2, b3⟩ := ih (i + 1) u1 R1 q1 Q1 (by omega) (by omega) hR1 a2 (fun j hj k k1 k2 => by
        by_cases hji : j = i
        · subst hji
          rw [a3.2 j (by omega)] at k2 ⊢
          exact a4 k (by omega) k1 k2
        · rw [a3.2 j (by omega)] at k2 ⊢
          rcases hdone j (by omega) k k1 k2 with h | h
          · exact Or.inl h
          · exact Or.inr (a1 _ h))
      exact ⟨u2, R2, q2, Q2, hF2, hR2, fun x hx => b1 x (a1 x hx), b2, b3⟩
