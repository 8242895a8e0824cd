/-! PURE: the class's heap at rest, and the writing of a pointer -/
def wo (p : Nat → Bool) (i : Nat) : Nat → Bool := fun j => p j && !(j == i)
theorem ct_wo {p : Nat → Bool} {i n : Nat} (h : i < n) : ct p n = ct (wo p i) n + (if p i = true then 1 else 0) := by
  by_cases hp : p i = true
  · rw [if_pos hp]; exact ct_del h hp (by simp [wo]) (fun j _ hj => by simp [wo, hj])
  · rw [if_neg hp]
    exact ct_congr (fun c _ => by
      by_cases hc : c = i
      · subst hc; simp [wo, hp]
      · simp [wo, hc])
def vl (u : St) (c : Nat) : Nat := (u 3 c).toNatClampNeg
def Cl (u : St) (sz ty : Nat → Nat) (us : Nat → Bool) : Prop := ∀ c, c < 152 → AZ (pt u sz ty) us c = true → ∃ x, x ≤ 24 ∧ u 3 c = nI x ∧ (x = 0 ∨ us x = true)
/-- at rest; e may be a block without a pointer to it -/
def HI (u : St) (sz ty : Nat → Nat) (us : Nat → Bool) (e : Nat) : Prop :=
  Bs u sz ty us ∧ u 0 9 = nI (ct us 25) ∧ Cl u sz ty us ∧ ∀ x, us x = true → u 6 x = nI (nA (AZ (pt u sz ty) us) (vl u) x) ∧ (x ≠ e → 1 ≤ nA (AZ (pt u sz ty) us) (vl u) x)
/-- each block of V is pointed to, from the frame or from V -/
def Sup (u : St) (sz ty : Nat → Nat) (V : Nat → Bool) : Prop := ∀ x, V x = true → ∃ c, c < 152 ∧ AZ (pt u sz ty) V c = true ∧ vl u c = x
theorem ct24 {us : Nat → Bool} (h : us 0 = false) : ct us 25 ≤ 24 := by
  have h1 : ct us 25 ≤ ct (fun c => decide (c ≠ 0)) 25 := ct_mono (fun c _ hc => by
    by_cases h0 : c = 0
    · rw [h0, h] at hc; cases hc
    · simp [h0])
  exact Nat.le_trans h1 (by decide)
theorem AZ_ge {P : Nat → Nat → Bool} {Z : Nat → Bool} {c : Nat} (h : AZ P Z c = true) : 4 ≤ c := by
  simp only [AZ, Bool.or_eq_true, Bool.and_eq_true, decide_eq_true_eq] at h
  omega
theorem AZ_0 {P : Nat → Nat → Bool} {Z : Nat → Bool} : AZ P Z 0 = false := by simp [AZ]
theorem vl_of {u : St} {c x : Nat} (h : u 3 c = nI x) (hx : x ≤ 24) : vl u c = x := by unfold vl; rw [h, nI_clamp (by omega)]
set_option maxHeartbeats 2000000 in
theorem sWritePointer {u : St} {sz ty : Nat → Nat} {us : Nat → Bool} {c0 y : Nat} (h : HI u sz ty us y) (hc : c0 < 152) (hA : AZ (pt u sz ty) us c0 = true) (hy : y ≤ 24) (hyu : y = 0 ∨ us y = true) :
    ∃ u' us', F_X0_writePointer u (nI c0) (nI y) = some (0, u') ∧ HI u' sz ty us' 0 ∧ (∀ c, c ≠ 0 → c ≠ 3 → c ≠ 4 → c ≠ 6 → c ≠ 8 → u' c = u c) ∧ u' 3 = upd (u 3) c0 (nI y) ∧ u' 0 10 = u 0 10 + nI (ct us 25 - ct us' 25) ∧ (∀ x, us' x = true → us x = true) ∧ Sup u' sz ty us' ∧ (∀ V : Nat → Bool, (∀ x, V x = true → us x = true) → Sup u' sz ty V → ∀ x, V x = true → us' x = true) := by
  obtain ⟨hB, h9, hCl, hcnt⟩ := h
  obtain ⟨b0, hb24, hb0, hbu⟩ := hCl c0 hc hA
  have hc4 := AZ_ge hA
  -- the state when the drop begins
  obtain ⟨u1, hu1⟩ : ∃ z : St, z = su u 3 c0 (nI y) := ⟨_, rfl⟩
  have hB1 : Bs u1 sz ty us := by
    rw [hu1]
    refine ⟨fun t ht => ?_, fun b hb => ?_, fun b hb1 hb2 => ?_, hB.2.2.2.1, hB.2.2.2.2⟩
    · simp only [su_v]; simp; exact hB.1 t ht
    · simp only [su_v]; simp; exact hB.2.1 b hb
    · simp only [su_v]; simp; exact hB.2.2.1 b hb1 hb2
  obtain ⟨u2, hu2⟩ : ∃ z : St, z = if us y = true then su u1 6 y (u1 6 y + 1) else u1 := ⟨_, rfl⟩
  obtain ⟨u3, hu3⟩ : ∃ z : St, z = su u2 0 8 0 := ⟨_, rfl⟩
  have hFw : F_X0_writePointer u (nI c0) (nI y) = (F_X0_dropPointer u2 (nI b0)).bind fun q => some (0, q.2) := by
    unfold F_X0_writePointer
    simp only [okN hc (by decide), ↓reduceIte, nI_clamp (show c0 < 2 ^ 31 by omega), sb, hb0]
    rw [← hu1, sIsBlock hB1, nI_clamp (by omega)]
    show (if (if us y = true then (1 : Int32) else 0) = 0 then _ else _) = _
    by_cases hus : us y = true
    · rw [if_pos hus, if_neg (by decide), hu2, if_pos hus]
      simp only [okN (show y < 25 by omega) (by decide), ↓reduceIte, nI_clamp (show y < 2 ^ 31 by omega)]
      rfl
    · rw [if_neg hus, if_pos rfl, hu2, if_neg hus]; rfl
  have f1 : ∀ c, c ≠ 0 → c ≠ 3 → c ≠ 6 → u3 c = u c := fun c a1 a2 a3 => by
    funext j
    rw [hu3, hu2]
    by_cases hus : us y = true
    · rw [if_pos hus, hu1]; simp only [su_v]; simp [a1, a2, a3]
    · rw [if_neg hus, hu1]; simp only [su_v]; simp [a1, a2]
  have f3 : u3 3 = upd (u 3) c0 (nI y) := by
    funext j
    rw [hu3, hu2]
    by_cases hus : us y = true
    · rw [if_pos hus, hu1]; simp only [su_v]; simp [upd]
    · rw [if_neg hus, hu1]; simp only [su_v]; simp [upd]
  have f6 : ∀ x, u3 6 x = if x = y ∧ us y = true then u 6 x + 1 else u 6 x := fun x => by
    rw [hu3, hu2]
    by_cases hus : us y = true
    · rw [if_pos hus, hu1]; simp only [su_v]; simp [hus]
      by_cases hx : x = y
      · simp [hx]
      · simp [hx]
    · rw [if_neg hus, hu1]; simp only [su_v]; simp [hus]
  have f0 : u3 0 8 = 0 ∧ u3 0 9 = u 0 9 ∧ u3 0 10 = u 0 10 := by
    rw [hu3, hu2]
    by_cases hus : us y = true
    · rw [if_pos hus, hu1]; simp only [su_v]; simp
    · rw [if_neg hus, hu1]; simp only [su_v]; simp
  have hpt : pt u3 sz ty = pt u sz ty := pt_static (f1 2 (by decide) (by decide) (by decide))
  obtain ⟨Val, hVal⟩ : ∃ z : Nat → Nat, z = fun c => if c = 0 then b0 else if c = c0 then y else vl u c := ⟨_, rfl⟩
  obtain ⟨A', hA'⟩ : ∃ z : Nat → Bool, z = fun c => (c == 0) || AZ (pt u sz ty) us c := ⟨_, rfl⟩
  have hnA : ∀ x, nA A' Val x = nA (AZ (pt u sz ty) us) (vl u) x + (if x = y then 1 else 0) := fun x => by
    unfold nA
    rw [ct_wo (p := fun c => A' c && (Val c == x)) (i := 0) (n := 152) (by decide), ct_wo (p := wo (fun c => A' c && (Val c == x)) 0) (i := c0) (n := 152) hc, ct_wo (p := fun c => AZ (pt u sz ty) us c && (vl u c == x)) (i := 0) (n := 152) (by decide), ct_wo (p := wo (fun c => AZ (pt u sz ty) us c && (vl u c == x)) 0) (i := c0) (n := 152) hc]
    rw [ct_congr (p := wo (wo (fun c => A' c && (Val c == x)) 0) c0) (q := wo (wo (fun c => AZ (pt u sz ty) us c && (vl u c == x)) 0) c0) (fun c _ => by
      unfold wo
      by_cases e0 : c = 0
      · simp [e0]
      · by_cases e1 : c = c0
        · simp [e1]
        · have hz : (c == 0) = false := beq_false_of_ne e0
          simp [hA', hVal, e0, e1, hz])]
    have hv0 := vl_of hb0 hb24
    have hc0 : c0 ≠ 0 := by omega
    simp [wo, hA', hVal, AZ_0, hA, hc0, hv0]
    by_cases e1 : b0 = x <;> by_cases e2 : y = x <;> simp [e1, e2, eq_comm] <;> omega
  have hVw : Vw u3 u3 sz ty us (nA A' Val) 0 (fun _ => 0) (u 0 10) := by
    refine ⟨⟨fun t ht => ?_, fun b hb => ?_, fun b hb1 hb2 => ?_, hB.2.2.2.1, hB.2.2.2.2⟩, fun c _ _ _ _ => rfl, fun x hx => ?_, f0.1, fun i hi => by omega, ?_, ?_⟩
    · rw [f1 1 (by decide) (by decide) (by decide), f1 2 (by decide) (by decide) (by decide)]; exact hB.1 t ht
    · rw [f1 5 (by decide) (by decide) (by decide)]; exact hB.2.1 b hb
    · rw [f1 4 (by decide) (by decide) (by decide)]; exact hB.2.2.1 b hb1 hb2
    · rw [f6, hnA, (hcnt x hx).1]
      by_cases e : x = y
      · have : us y = true := by rw [← e]; exact hx
        simp [e, this, nI_1]
      · simp [e]
    · rw [f0.2.1]; exact h9
    · rw [f0.2.2]; exact (Int32.add_zero _).symm
  have hC : CS u3 u3 sz ty us 0 (fun _ => 0) (u 0 10) A' Val (ct us 25) := by
    refine ⟨hVw, fun x hx => ?_, by omega, fun i hi => by omega, fun i j _ hj => by omega⟩
    rw [hnA]
    by_cases e : x = y
    · simp [e]
    · have := (hcnt x hx).2 e; omega
  have hN := ct24 hB.2.2.2.1
  obtain ⟨u4, us4, q4, Q4, hF4, hC4, hM4, hV4⟩ := hC.step (B := AZ (pt u sz ty) us) (c0 := 0) (y := b0) hN (by decide) (by simp [hA']) AZ_0 (fun c _ hne => by simp [hA', hne]) (by simp [hVal]) hb24
  have hZ4 : ∀ x, us x = true ↔ Zi us4 0 q4 Q4 x = true := fun x => by
    rw [Zi_iff, hM4.2.2 x]
  have hval3 : ∀ c, c < 152 → AZ (pt u3 sz ty) us c = true → u3 3 c = nI (Val c) ∧ Val c ≤ 24 := fun c hc1 hc2 => by
    rw [hpt] at hc2
    have hg := AZ_ge hc2
    rw [f3, hVal]
    by_cases e : c = c0
    · subst e; simp [upd, show c ≠ 0 by omega]; exact hy
    · obtain ⟨x, x1, x2, _⟩ := hCl c hc1 hc2
      simp [upd, e, show c ≠ 0 by omega, vl_of x2 x1]; exact ⟨x2, x1⟩
  obtain ⟨u5, us5, q5, Q5, hF5, hC5, hM5, hV5⟩ := drops (u0 := u3) (Z0 := us) (Val := Val) (g := u 0 10) hN hval3 fuel 0 u4 us4 q4 Q4 (by decide) (Nat.zero_le _) (by rw [hpt]; exact hC4.congr (fun c _ => AZ_congr hZ4 c)) (fun x hx => (hZ4 x).mpr hx)
  rw [hpt] at hC5
  have hFd : F_X0_dropPointer u2 (nI b0) = some (0, u5) := by
    unfold F_X0_dropPointer
    simp only [sb]
    rw [← hu3, hF4]
    exact hF5
  have hst5 : ∀ c, c ≠ 0 → c ≠ 4 → c ≠ 6 → c ≠ 8 → u5 c = u3 c := hC5.1.2.1
  have e53 : u5 3 = upd (u 3) c0 (nI y) := (hst5 3 (by decide) (by decide) (by decide) (by decide)).trans f3
  have hpt5 : pt u5 sz ty = pt u sz ty := (pt_static (hst5 2 (by decide) (by decide) (by decide) (by decide))).trans hpt
  have hsub : ∀ x, us5 x = true → us x = true := fun x hx => by
    have h1 := (hM5.2.2 x).mpr (Or.inl hx)
    exact (hM4.2.2 x).mpr (Or.inl h1)
  have hvl5 : ∀ c, c < 152 → AZ (pt u sz ty) us c = true → vl u5 c = Val c := fun c a1 a2 => by
    have h1 := hval3 c a1 (by rw [hpt]; exact a2)
    exact vl_of (by rw [e53, ← f3]; exact h1.1) h1.2
  have hnA5 : nA (AZ (pt u sz ty) us5) (vl u5) = nA (AZ (pt u sz ty) us5) Val := by
    funext x
    exact ct_congr (fun c hc1 => by
      cases hz : AZ (pt u sz ty) us5 c with
      | false => rfl
      | true => rw [hvl5 c hc1 (AZ_mono hsub hz)])
  have hmax : ∀ V : Nat → Bool, (∀ x, V x = true → us x = true) → Sup u5 sz ty V → ∀ x, V x = true → us5 x = true := fun V hVu hS => by
    have hS' : ∀ x, V x = true → ∃ c, c < 152 ∧ AZ (pt u sz ty) V c = true ∧ Val c = x := fun x hx => by
      obtain ⟨c, a1, a2, a3⟩ := hS x hx
      rw [hpt5] at a2
      exact ⟨c, a1, a2, (hvl5 c a1 (AZ_mono hVu a2)).symm.trans a3⟩
    refine hV5 V (hV4 V hVu (fun x hx => ?_)) (by rw [hpt]; exact hS')
    obtain ⟨c, a1, a2, a3⟩ := hS' x hx
    exact ⟨c, a1, AZ_mono hVu a2, a3⟩
  have hsup : Sup u5 sz ty us5 := fun x hx => by
    have h1 := hC5.2.1 x hx
    obtain ⟨c, a1, a2⟩ := ct_ex h1
    simp only [Bool.and_eq_true, beq_iff_eq] at a2
    exact ⟨c, a1, by rw [hpt5]; exact a2.1, (hvl5 c a1 (AZ_mono hsub a2.1)).trans a2.2⟩
  refine ⟨u5, us5, ?_, ⟨hC5.1.1, hC5.1.2.2.2.2.2.1, fun c hc1 hc2 => ?_, fun x hx => ?_⟩, fun c a1 a2 a3 a4 a5 => (hst5 c a1 a3 a4 a5).trans (f1 c a1 a2 a4), e53, ?_, hsub, hsup, hmax⟩
  · rw [hFw, hFd]; rfl
  · rw [hpt5] at hc2
    have hcu := AZ_mono hsub hc2
    have h1 := hval3 c hc1 (by rw [hpt]; exact hcu)
    refine ⟨Val c, h1.2, by rw [e53, ← f3]; exact h1.1, ?_⟩
    by_cases e0 : Val c = 0
    · exact Or.inl e0
    · refine Or.inr (hmax (fun x => us5 x || (x == Val c)) (fun x hx => ?_) (fun x hx => ?_) (Val c) (by simp))
      · rw [Bool.or_eq_true] at hx
        rcases hx with hx | hx
        · exact hsub x hx
        · have hx : x = Val c := by simpa using hx
          rw [hx]
          by_cases e : c = c0
          · have : Val c = y := by simp [hVal, e, show c0 ≠ 0 by omega]
            rw [this]
            rcases hyu with h2 | h2
            · exact absurd (this.trans h2) e0
            · exact h2
          · obtain ⟨z, z1, z2, z3⟩ := hCl c hc1 hcu
            have hg := AZ_ge hcu
            have : Val c = z := by simp [hVal, e, show c ≠ 0 by omega, vl_of z2 z1]
            rw [this]
            rcases z3 with h2 | h2
            · exact absurd (this.trans h2) e0
            · exact h2
      · rw [Bool.or_eq_true] at hx
        have hmono : ∀ z, us5 z = true → (fun x => us5 x || (x == Val c)) z = true := fun z hz => by simp [hz]
        rcases hx with hx | hx
        · obtain ⟨c', a1, a2, a3⟩ := hsup x hx
          exact ⟨c', a1, AZ_mono hmono a2, a3⟩
        · have hx : x = Val c := by simpa using hx
          exact ⟨c, hc1, by rw [hpt5]; exact AZ_mono hmono hc2, (hvl5 c hc1 hcu).trans hx.symm⟩
  · rw [hpt5, hnA5]
    exact ⟨hC5.1.2.2.1 x hx, fun _ => hC5.2.1 x hx⟩
  · rw [hC5.1.2.2.2.2.2.2]
    have := hC5.2.2.1
    congr 2; omega
