/-! PURE: the drop's two loops -/
def AW (B P : Nat → Bool) (b w : Nat) : Nat → Bool := fun c => B c || (decide ((c - 2) / 6 = b) && decide (8 ≤ c) && decide (w ≤ (c - 2) % 6) && P ((c - 2) % 6))
def AZ (P : Nat → Nat → Bool) (Z : Nat → Bool) : Nat → Bool := fun c => decide (4 ≤ c ∧ c < 8) || (decide (8 ≤ c) && P ((c - 2) / 6) ((c - 2) % 6) && Z ((c - 2) / 6))
theorem AZ_mono {P : Nat → Nat → Bool} {Z Y : Nat → Bool} (h : ∀ x, Z x = true → Y x = true) {c : Nat} (hc : AZ P Z c = true) : AZ P Y c = true := by
  simp only [AZ, Bool.or_eq_true, Bool.and_eq_true] at hc ⊢
  rcases hc with h1 | ⟨h1, h2⟩
  · exact Or.inl h1
  · exact Or.inr ⟨h1, h _ h2⟩
theorem AZ_congr {P : Nat → Nat → Bool} {Z Y : Nat → Bool} (h : ∀ x, Z x = true ↔ Y x = true) (c : Nat) : AZ P Z c = AZ P Y c := by
  have : Z = Y := funext fun x => by
    cases hz : Z x <;> cases hy : Y x
    · rfl
    · rw [(h x).mpr hy] at hz; cases hz
    · rw [(h x).mp hz] at hy; cases hy
    · rfl
  rw [this]
theorem pt_static {u0 u : St} {sz ty : Nat → Nat} (h : u 2 = u0 2) : pt u sz ty = pt u0 sz ty := by unfold pt; rw [h]
set_option maxHeartbeats 2000000 in
theorem dpo {u0 : St} {sz ty : Nat → Nat} {g : Int32} {B : Nat → Bool} {Val : Nat → Nat} {N b : Nat} (hN : N ≤ 24) (hb1 : 1 ≤ b) (hb2 : b ≤ 24) (hB0 : ∀ c, c < 152 → 8 ≤ c → (c - 2) / 6 = b → B c = false)
    (hval : ∀ w, w < 6 → pt u0 sz ty b w = true → u0 3 (6 * b + 2 + w) = nI (Val (6 * b + 2 + w)) ∧ Val (6 * b + 2 + w) ≤ 24) :
    ∀ (n w : Nat) (u : St) (us : Nat → Bool) (q : Nat) (Q : Nat → Nat), 7 ≤ n + w → w ≤ 6 → CS u0 u sz ty us q Q g (AW B (pt u0 sz ty b) b w) Val N →
      ∃ u' us' q' Q', L_X0_dropPointersOf_2 n u (nI b) (nI w) = some (0, u') ∧ CS u0 u' sz ty us' q' Q' g B Val N ∧ Mv us q Q us' q' Q' ∧ ∀ V : Nat → Bool, (∀ x, V x = true → us x = true) → (∀ x, V x = true → ∃ c, c < 152 ∧ B c = true ∧ Val c = x) → ∀ x, V x = true → us' x = true := by
  intro n
  induction n with
  | zero => intro w u us q Q h1 h2; omega
  | succ n ih =>
    intro w u us q Q h1 h2 hC
    have hV := hC.1
    have hBs := hV.1
    have h5 := hBs.2.1 b hb2
    have hz := hBs.1 (ty b) h5.2
    have e3 : u 3 = u0 3 := hV.2.1 3 (by decide) (by decide) (by decide) (by decide)
    have e2 : u 2 = u0 2 := hV.2.1 2 (by decide) (by decide) (by decide) (by decide)
    show ∃ u' us' q' Q', F_X0_dropPointersOf_2 (L_X0_dropPointersOf_2 n) u (nI b) (nI w) = some (0, u') ∧ _
    unfold F_X0_dropPointersOf_2
    by_cases hw : w = 6
    · subst hw
      rw [if_pos (by decide)]
      refine ⟨u, us, q, Q, rfl, hC.congr (fun c hc => ?_), Mv.rf, fun V h4 _ x hx => h4 x hx⟩
      unfold AW
      have h7 : ¬ 6 ≤ (c - 2) % 6 := by omega
      simp [h7]
    · have hw6 : w < 6 := by omega
      rw [if_neg (by rw [Int32.le_iff_toInt_le, nT (by omega)]; simp; omega), sIsMapped hBs hb2]
      show ∃ u' us' q' Q', (if (if pb (u 2 (ty b)) w = true then (1 : Int32) else 0) = 0 then L_X0_dropPointersOf_2 n u (nI b) (nI w + 1) else _) = _ ∧ _
      rw [nI_1]
      by_cases hp : pb (u 2 (ty b)) w = true
      · have hpt : pt u0 sz ty b w = true := by
          have hs : w < sz (ty b) := by
            rcases Nat.lt_or_ge w (sz (ty b)) with h9 | h9
            · exact h9
            · rw [hz.2.2.2 w hw6 h9] at hp; cases hp
          unfold pt; rw [← e2]; simp [hp, hs]
        have hv := hval w hw6 hpt
        rw [if_pos hp, if_neg (by decide), sCellOfWord u hb1 hb2 hw6]
        show ∃ u' us' q' Q', (if nI (6 * b + 2 + w) < 0 ∨ 152 ≤ (nI (6 * b + 2 + w)).toNatClampNeg then none else (F_X0_countLess u (u 3 (nI (6 * b + 2 + w)).toNatClampNeg)).bind fun q8 => L_X0_dropPointersOf_2 n q8.2 (nI b) (nI (w + 1))) = some (0, u') ∧ _
        simp only [okN (show 6 * b + 2 + w < 152 by omega) (by decide), ↓reduceIte, nI_clamp (show 6 * b + 2 + w < 2 ^ 31 by omega), e3, hv.1]
        obtain ⟨u1, us1, q1, Q1, hF, hC1, hM1, hV1⟩ := hC.step (B := AW B (pt u0 sz ty b) b (w + 1)) (c0 := 6 * b + 2 + w) (y := Val (6 * b + 2 + w)) hN (by omega)
          (by simp [AW, hpt, show (6 * b + 2 + w - 2) / 6 = b by omega, show (6 * b + 2 + w - 2) % 6 = w by omega, show 8 ≤ 6 * b + 2 + w by omega])
          (by simp [AW, hB0 (6 * b + 2 + w) (by omega) (by omega) (by omega), show (6 * b + 2 + w - 2) % 6 = w by omega]; intro _ _ h9; omega)
          (fun c hc hne => by
            unfold AW
            by_cases h7 : (c - 2) / 6 = b ∧ 8 ≤ c
            · have : (c - 2) % 6 ≠ w := by omega
              have h8 : (w + 1 ≤ (c - 2) % 6) ↔ (w ≤ (c - 2) % 6) := by omega
              simp [h8]
            · by_cases h8 : (c - 2) / 6 = b
              · have : ¬ 8 ≤ c := fun q => h7 ⟨h8, q⟩
                simp [this]
              · simp [h8])
          rfl hv.2
        rw [hF]
        show ∃ u' us' q' Q', L_X0_dropPointersOf_2 n u1 (nI b) (nI (w + 1)) = some (0, u') ∧ _
        obtain ⟨u2, us2, q2, Q2, hF2, hC2, hM2, hV2⟩ := ih (w + 1) u1 us1 q1 Q1 (by omega) (by omega) hC1
        exact ⟨u2, us2, q2, Q2, hF2, hC2, hM1.tr hM2, fun V h4 h5 => hV2 V (hV1 V h4 (fun x hx => by
          obtain ⟨c, c1, c2, c3⟩ := h5 x hx
          exact ⟨c, c1, by simp [AW, c2], c3⟩)) h5⟩
      · rw [if_neg hp, if_pos rfl]
        have hpt : pt u0 sz ty b w = false := by
          unfold pt; rw [← e2]; simp [hp]
        refine ih (w + 1) u us q Q (by omega) (by omega) (hC.congr (fun c hc => ?_))
        unfold AW
        by_cases h7 : (c - 2) % 6 = w
        · rw [h7, hpt]; simp
        · have h8 : (w ≤ (c - 2) % 6) ↔ (w + 1 ≤ (c - 2) % 6) := by omega
          simp [h8]
noncomputable def Zi (us : Nat → Bool) (i q : Nat) (Q : Nat → Nat) : Nat → Bool := fun x => us x || bdec (∃ j, i ≤ j ∧ j < q ∧ Q j = x)
theorem Zi_iff {us : Nat → Bool} {i q : Nat} {Q : Nat → Nat} {x : Nat} : Zi us i q Q x = true ↔ (us x = true ∨ ∃ j, i ≤ j ∧ j < q ∧ Q j = x) := by
  unfold Zi; rw [Bool.or_eq_true, bdec_iff]
theorem drops {u0 : St} {sz ty : Nat → Nat} {g : Int32} {Val : Nat → Nat} {N : Nat} {Z0 : Nat → Bool} (hN : N ≤ 24) (hval : ∀ c, c < 152 → AZ (pt u0 sz ty) Z0 c = true → u0 3 c = nI (Val c) ∧ Val c ≤ 24) :
    ∀ (n i : Nat) (u : St) (us : Nat → Bool) (q : Nat) (Q : Nat → Nat), 26 ≤ n + i → i ≤ q → CS u0 u sz ty us q Q g (AZ (pt u0 sz ty) (Zi us i q Q)) Val N → (∀ x, Zi us i q Q x = true → Z0 x = true) →
      ∃ u' us' q' Q', L_X0_dropPointer_12 n u (nI i) = some (0, u') ∧ CS u0 u' sz ty us' q' Q' g (AZ (pt u0 sz ty) us') Val N ∧ Mv us q Q us' q' Q' ∧ ∀ V : Nat → Bool, (∀ x, V x = true → us x = true) → (∀ x, V x = true → ∃ c, c < 152 ∧ AZ (pt u0 sz ty) V c = true ∧ Val c = x) → ∀ x, V x = true → us' x = true := by
  intro n
  induction n with
  | zero =>
    intro i u us q Q h1 h2 hC
    have := hC.2.2.1
    omega
  | succ n ih =>
    intro i u us q Q h1 h2 hC hZ
    have hV := hC.1
    have hq24 : q ≤ 24 := by have := hC.2.2.1; omega
    show ∃ u' us' q' Q', F_X0_dropPointer_12 (L_X0_dropPointer_12 n) u (nI i) = some (0, u') ∧ _
    unfold F_X0_dropPointer_12
    simp only [hV.2.2.2.1, nI_leI (show q < 2 ^ 31 by omega) (show i < 2 ^ 31 by omega)]
    by_cases hqi : q ≤ i
    · rw [if_pos hqi]
      have : i = q := by omega
      subst this
      refine ⟨u, us, i, Q, rfl, hC.congr (fun c _ => AZ_congr (fun x => ?_) c), Mv.rf, fun V h4 _ x hx => h4 x hx⟩
      rw [Zi_iff]
      exact ⟨fun h => h.elim id (fun ⟨j, a, b, _⟩ => by omega), Or.inl⟩
    · rw [if_neg hqi, if_neg (by rw [Int32.le_iff_toInt_le, nT (by omega)]; simp; omega)]
      simp only [okN (show i < 24 by omega) (by decide), ↓reduceIte, nI_clamp (show i < 2 ^ 31 by omega), hV.2.2.2.2.1 i (by omega), nI_1]
      have hQi := hC.2.2.2.1 i (by omega)
      have hQd := hC.2.2.2.2
      generalize hb : Q i = b at hQi
      have hbZ : Zi us i q Q b = true := Zi_iff.mpr (Or.inr ⟨i, Nat.le_refl _, by omega, hb⟩)
      have hZ'b : ∀ x, Zi us i q Q x = true ↔ (Zi us (i + 1) q Q x = true ∨ x = b) := fun x => by
        rw [Zi_iff, Zi_iff]
        constructor
        · rintro (h | ⟨j, a, c, d⟩)
          · exact Or.inl (Or.inl h)
          · by_cases hj : j = i
            · subst hj; exact Or.inr (d.symm.trans hb)
            · exact Or.inl (Or.inr ⟨j, by omega, c, d⟩)
        · rintro ((h | ⟨j, a, c, d⟩) | h)
          · exact Or.inl h
          · exact Or.inr ⟨j, by omega, c, d⟩
          · exact Or.inr ⟨i, Nat.le_refl _, by omega, hb.trans h.symm⟩
      have hbn : Zi us (i + 1) q Q b = false := by
        cases hh : Zi us (i + 1) q Q b with
        | false => rfl
        | true =>
          rcases Zi_iff.mp hh with h | ⟨j, a, c, d⟩
          · rw [hQi.2.2] at h; cases h
          · exact absurd (hb.trans d.symm) (hQd i j (by omega) c)
      have hstart : CS u0 u sz ty us q Q g (AW (AZ (pt u0 sz ty) (Zi us (i + 1) q Q)) (pt u0 sz ty b) b 0) Val N := hC.congr (fun c hc => by
        unfold AW
        by_cases h7 : (c - 2) / 6 = b ∧ 8 ≤ c
        · have hz1 : AZ (pt u0 sz ty) (Zi us i q Q) c = pt u0 sz ty b ((c - 2) % 6) := by
            unfold AZ; simp [h7.1, h7.2, hbZ, show ¬ c < 8 by omega]
          rw [hz1]; simp [AZ, h7.1, h7.2, hbn, show ¬ c < 8 by omega]
        · have h8 : (decide ((c - 2) / 6 = b) && decide (8 ≤ c)) = false := by
            by_cases h9 : (c - 2) / 6 = b
            · have : ¬ 8 ≤ c := fun q => h7 ⟨h9, q⟩
              simp [this]
            · simp [h9]
          rw [h8]; simp only [Bool.false_and, Bool.or_false]
          unfold AZ
          by_cases h9 : 8 ≤ c
          · have h10 : (c - 2) / 6 ≠ b := fun e => h7 ⟨e, h9⟩
            have h11 : Zi us i q Q ((c - 2) / 6) = Zi us (i + 1) q Q ((c - 2) / 6) := by
              have := hZ'b ((c - 2) / 6)
              cases ha : Zi us i q Q ((c - 2) / 6) <;> cases hbb : Zi us (i + 1) q Q ((c - 2) / 6) <;> simp_all
            rw [h11]
          · simp [h9])
      obtain ⟨u1, us1, q1, Q1, hF1, hC1, hM1, hV1⟩ := dpo (B := AZ (pt u0 sz ty) (Zi us (i + 1) q Q)) (b := b) hN hQi.1 hQi.2.1
        (fun c hc h8 hcb => by unfold AZ; simp [hcb, hbn, show ¬ c < 8 by omega])
        (fun w hw hpw => hval (6 * b + 2 + w) (by omega) (by
          unfold AZ
          have := hZ b hbZ
          simp [show (6 * b + 2 + w - 2) / 6 = b by omega, show (6 * b + 2 + w - 2) % 6 = w by omega, hpw, this]; omega))
        fuel 0 u us q Q (by decide) (by omega) hstart
      have hF1' : F_X0_dropPointersOf u (nI b) = some (0, u1) := hF1
      rw [hF1']
      show ∃ u' us' q' Q', L_X0_dropPointer_12 n u1 (nI (i + 1)) = some (0, u') ∧ _
      have hZeq : ∀ x, Zi us (i + 1) q Q x = true ↔ Zi us1 (i + 1) q1 Q1 x = true := fun x => by
        rw [Zi_iff, Zi_iff, hM1.2.2 x]
        have hq1 := hM1.1
        constructor
        · rintro ((h | ⟨j, a, c, d⟩) | ⟨j, a, c, d⟩)
          · exact Or.inl h
          · exact Or.inr ⟨j, by omega, c, d⟩
          · exact Or.inr ⟨j, a, by omega, (hM1.2.1 j c).trans d⟩
        · rintro (h | ⟨j, a, c, d⟩)
          · exact Or.inl (Or.inl h)
          · by_cases hj : j < q
            · exact Or.inr ⟨j, a, hj, (hM1.2.1 j hj).symm.trans d⟩
            · exact Or.inl (Or.inr ⟨j, by omega, c, d⟩)
      obtain ⟨u2, us2, q2, Q2, hF2, hC2, hM2, hV2⟩ := ih (i + 1) u1 us1 q1 Q1 (by omega) (by have := hM1.1; omega) (hC1.congr (fun c _ => AZ_congr hZeq c)) (fun x hx => hZ x ((hZ'b x).mpr (Or.inl ((hZeq x).mpr hx))))
      refine ⟨u2, us2, q2, Q2, hF2, hC2, hM1.tr hM2, fun V h4 h5 => hV2 V (hV1 V h4 (fun x hx => ?_)) h5⟩
      obtain ⟨c, c1, c2, c3⟩ := h5 x hx
      exact ⟨c, c1, AZ_mono (fun y hy => Zi_iff.mpr (Or.inl (h4 y hy))) c2, c3⟩
