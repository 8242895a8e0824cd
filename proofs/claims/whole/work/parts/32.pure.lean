/-! PURE: a pointer is dropped -/
def del (us : Nat → Bool) (y : Nat) : Nat → Bool := fun b => us b && !(b == y)
def ext (Q : Nat → Nat) (q y : Nat) : Nat → Nat := fun i => if i = q then y else Q i
def dec (n : Nat → Nat) (y : Nat) : Nat → Nat := fun b => if b = y then n y - 1 else n b
def Vw (u0 u : St) (sz ty : Nat → Nat) (us : Nat → Bool) (n : Nat → Nat) (q : Nat) (Q : Nat → Nat) (g : Int32) : Prop :=
  Bs u sz ty us ∧ (∀ c, c ≠ 0 → c ≠ 4 → c ≠ 6 → c ≠ 8 → u c = u0 c) ∧ (∀ b, us b = true → u 6 b = nI (n b)) ∧ u 0 8 = nI q ∧ (∀ i, i < q → u 8 i = nI (Q i)) ∧ u 0 9 = nI (ct us 25) ∧ u 0 10 = g + nI q
theorem del_ct {us : Nat → Bool} {y : Nat} (hy : us y = true) (h : y < 25) : ct us 25 = ct (del us y) 25 + 1 :=
  ct_del (c := y) h hy (by simp [del]) (fun j _ hj => by simp [del, hj])
theorem sCountLess {u0 u : St} {sz ty : Nat → Nat} {us : Nat → Bool} {n : Nat → Nat} {q : Nat} {Q : Nat → Nat} {g : Int32} (hV : Vw u0 u sz ty us n q Q g) (hq : q + ct us 25 ≤ 24) (hn : ∀ b, us b = true → 1 ≤ n b ∧ n b ≤ 200) {y : Nat} (hy : y ≤ 24) :
    ∃ u', F_X0_countLess u (nI y) = some (0, u') ∧ ((us y = false ∧ u' = u) ∨ (us y = true ∧ n y = 1 ∧ Vw u0 u' sz ty (del us y) n (q + 1) (ext Q q y) g) ∨ (us y = true ∧ 2 ≤ n y ∧ Vw u0 u' sz ty us (dec n y) q Q g)) := by
  obtain ⟨hB, hst, h6, h8, hQ, h9, h10⟩ := hV
  unfold F_X0_countLess
  rw [sIsBlock hB, nI_clamp (by omega)]
  show ∃ u', (if (if us y = true then (1 : Int32) else 0) = 0 then _ else _) = _ ∧ _
  cases hus : us y with
  | false => exact ⟨u, rfl, Or.inl ⟨rfl, rfl⟩⟩
  | true =>
    have hr := bs_rng hB hus
    have hny := hn y hus
    rw [if_pos rfl, if_neg (by decide)]
    simp only [okN (show y < 25 by omega) (by decide), ↓reduceIte, nI_clamp (show y < 2 ^ 31 by omega), sb, h6 y hus, su_v, and_self]
    have e1 : nI (n y) - 1 = nI (n y - 1) := pk_sub (a := n y) (b := 1) hny.1
    rw [e1]
    by_cases h1 : n y = 1
    · have e2 : nI (n y - 1) = 0 := by rw [h1]; rfl
      rw [if_pos e2, sGiveBack _ hy]
      show ∃ u', (Option.bind (F_X0_enqueue _ (nI y)) _) = _ ∧ _
      rw [sEnqueue (q := q) _ (by simp only [su_v]; simp [h8]) (by have := ct_pos (p := us) (n := 25) (c := y) (by omega) hus; omega)]
      refine ⟨_, rfl, Or.inr (Or.inl ⟨trivial, h1, ?_⟩)⟩
      have hct := del_ct hus (show y < 25 by omega)
      refine ⟨⟨fun t ht => ?_, fun b hb => ?_, fun b hb1 hb2 => ?_, ?_, fun b hb => ?_⟩, fun c c1 c2 c3 c4 => ?_, fun b hb => ?_, ?_, fun i hi => ?_, ?_, ?_⟩
      · simp only [su_v]; simp; exact hB.1 t ht
      · simp only [su_v]; simp; exact hB.2.1 b hb
      · simp only [su_v]; simp
        by_cases hby : b = y
        · simp [hby, del]
        · simp [hby, del]; exact hB.2.2.1 b hb1 hb2
      · simp [del, hB.2.2.2.1]
      · simp [del, hB.2.2.2.2 b hb]
      · funext j; simp only [su_v]; simp [c1, c2, c3, c4, hst c c1 c2 c3 c4]
      · simp only [su_v]; simp
        simp [del] at hb
        simp [hb.2, h6 b hb.1]
      · simp only [su_v]; simp
      · simp only [su_v]; simp
        by_cases hiq : i = q
        · simp [hiq, ext]
        · simp [hiq, ext]; exact hQ i (by omega)
      · simp only [su_v]; simp
        rw [h9, hct]; exact pk_sub (a := ct (del us y) 25 + 1) (b := 1) (by omega)
      · simp only [su_v]; simp
        rw [h10, Int32.add_assoc, nI_1]
    · rw [if_neg (nI_ne0 (by omega) (by omega))]
      refine ⟨_, rfl, Or.inr (Or.inr ⟨trivial, by omega, ?_⟩)⟩
      refine ⟨⟨fun t ht => ?_, fun b hb => ?_, fun b hb1 hb2 => ?_, hB.2.2.2.1, hB.2.2.2.2⟩, fun c c1 c2 c3 c4 => ?_, fun b hb => ?_, ?_, fun i hi => ?_, ?_, ?_⟩
      · simp only [su_v]; simp; exact hB.1 t ht
      · simp only [su_v]; simp; exact hB.2.1 b hb
      · simp only [su_v]; simp; exact hB.2.2.1 b hb1 hb2
      · funext j; simp only [su_v]; simp [c3, hst c c1 c2 c3 c4]
      · simp only [su_v]; simp
        by_cases hby : b = y
        · simp [hby, dec]
        · simp [hby, dec]; exact h6 b hb
      · simp only [su_v]; simp; exact h8
      · simp only [su_v]; simp; exact hQ i hi
      · simp only [su_v]; simp; exact h9
      · simp only [su_v]; simp; exact h10
