/-! PURE: collect, and the making of a block -/
theorem gbl {u0 : St} {sz ty : Nat → Nat} {us R : Nat → Bool} {g : Int32} {T : Nat} {Val : Nat → Nat} {r : Int32} (hus : ∀ x, us x = true → 1 ≤ x ∧ x ≤ 24) (hRs : ∀ x, R x = true → us x = true) (h7 : ∀ x, 1 ≤ x → x ≤ 24 → u0 7 x = if R x = true then 1 else 0)
    (hval : ∀ c, c < 152 → AZ (pt u0 sz ty) us c = true → u0 3 c = nI (Val c) ∧ Val c ≤ 24) :
    ∀ (n b : Nat) (u : St) (us' : Nat → Bool), 26 ≤ n + b → 1 ≤ b → b ≤ 25 → KV u0 u sz ty us' R (nA (AZ (pt u0 sz ty) us') Val) g T → (∀ x, us' x = true ↔ (us x = true ∧ (R x = true ∨ b ≤ x))) → ct us' 25 ≤ T →
      ∃ u', L_X0_giveBackLost_7 n u r (nI b) = some (r, u') ∧ KV u0 u' sz ty R R (nA (AZ (pt u0 sz ty) R) Val) g T := by
  intro n
  induction n with
  | zero => intro b u us' h1 h2 h3; omega
  | succ n ih =>
    intro b u us' h1 h2 h3 hK hiff hT
    show ∃ u', F_X0_giveBackLost_7 (L_X0_giveBackLost_7 n) u r (nI b) = _ ∧ _
    unfold F_X0_giveBackLost_7
    by_cases hb : b = 25
    · subst hb
      rw [if_pos (by decide)]
      have : us' = R := funext fun x => by
        have h4 := hiff x
        cases ha : us' x <;> cases hb : R x
        · rfl
        · rw [hb] at h4; have := h4.mpr ⟨hRs x hb, Or.inl rfl⟩; rw [ha] at this; cases this
        · rw [ha, hb] at h4; have := h4.mp rfl
          rcases this.2 with h5 | h5
          · cases h5
          · have := hus x this.1; omega
        · rfl
      subst this
      exact ⟨u, rfl, hK⟩
    · rw [if_neg (by rw [Int32.lt_iff_toInt_lt, nT (by omega)]; simp; omega)]
      simp only [okN (show b < 25 by omega) (by decide), ↓reduceIte, nI_clamp (show b < 2 ^ 31 by omega), hK.1.2.2.1 b h2 (by omega), nI_1]
      by_cases hub : us' b = true
      · rw [if_pos hub, if_neg (by decide), hK.2.1 7 (by decide) (by decide) (by decide), h7 b h2 (by omega)]
        by_cases hRb : R b = true
        · rw [if_pos hRb, if_neg (by decide)]
          refine ih (b + 1) u us' (by omega) (by omega) (by omega) hK (fun x => ?_) hT
          rw [hiff x]
          constructor
          · rintro ⟨a, c | c⟩
            · exact ⟨a, Or.inl c⟩
            · by_cases e : x = b
              · exact ⟨a, Or.inl (e ▸ hRb)⟩
              · exact ⟨a, Or.inr (by omega)⟩
          · rintro ⟨a, c | c⟩
            · exact ⟨a, Or.inl c⟩
            · exact ⟨a, Or.inr (by omega)⟩
        · rw [if_neg hRb, if_pos rfl]
          have hdb : del us' b b = false := by simp [del]
          obtain ⟨u1, hF1, hK1⟩ := tko (B := AZ (pt u0 sz ty) (del us' b)) (Val := Val) hub (fun x hx => (hiff x).mpr ⟨hRs x hx, Or.inl hx⟩) h7
            (fun c hc h8 hcb => by unfold AZ; simp [hcb, hdb, show ¬ c < 8 by omega])
            (fun w hw hpw => hval (6 * b + 2 + w) (by omega) (AZ_at h2 hw hpw ((hiff b).mp hub).1))
            fuel 0 u (by decide) (by omega) (hK.n (fun x _ => ct_congr (fun c hc => by
              congr 1
              unfold AW
              by_cases h7 : (c - 2) / 6 = b ∧ 8 ≤ c
              · simp [AZ, h7.1, h7.2, hub, hdb, show ¬ c < 8 by omega]
              · have h8 : (decide ((c - 2) / 6 = b) && decide (8 ≤ c)) = false := by
                  by_cases h9 : (c - 2) / 6 = b
                  · have : ¬ 8 ≤ c := fun q => h7 ⟨h9, q⟩
                    simp [this]
                  · simp [h9]
                rw [h8]; simp only [Bool.false_and, Bool.or_false]
                unfold AZ
                by_cases h9 : 8 ≤ c
                · have h10 : ((c - 2) / 6 == b) = false := beq_false_of_ne (fun e => h7 ⟨e, h9⟩)
                  simp [del, h10]
                · simp [h9])))
          have hF1' : F_X0_takeOffCountsOf u (nI b) = some (0, u1) := hF1
          rw [hF1']
          show ∃ u', (F_X0_giveBack u1 (nI b)).bind (fun q8 => L_X0_giveBackLost_7 n q8.2 r (nI (b + 1))) = _ ∧ _
          rw [sGiveBack u1 (by omega)]
          have hct := del_ct hub (show b < 25 by omega)
          refine ih (b + 1) _ (del us' b) (by omega) (by omega) (by omega) ⟨⟨fun t ht => ?_, fun z hz => ?_, fun z z1 z2 => ?_, ?_, fun z hz => ?_⟩, fun c c1 c2 c3 => ?_, ?_, ?_, fun x hx => ?_⟩ (fun x => ?_) (by omega)
          · simp only [su_v]; simp; exact hK1.1.1 t ht
          · simp only [su_v]; simp; exact hK1.1.2.1 z hz
          · simp only [su_v]; simp
            by_cases e : z = b
            · simp [e, del]
            · simp [e, del]; exact hK1.1.2.2.1 z z1 z2
          · simp [del, hK1.1.2.2.2.1]
          · simp [del, hK1.1.2.2.2.2 z hz]
          · funext j; simp only [su_v]; simp [c1, c2, hK1.2.1 c c1 c2 c3]
          · simp only [su_v]; simp
            rw [hK1.2.2.1, hct]; exact pk_sub (a := ct (del us' b) 25 + 1) (b := 1) (by omega)
          · simp only [su_v]; simp
            rw [hK1.2.2.2.1, Int32.add_assoc, nI_1]
            congr 2; omega
          · simp only [su_v]; simp
            exact hK1.2.2.2.2 x hx
          · simp only [del, Bool.and_eq_true, hiff x]
            constructor
            · rintro ⟨⟨a, c⟩, d⟩
              have d : x ≠ b := by simpa using d
              rcases c with c | c
              · exact ⟨a, Or.inl c⟩
              · exact ⟨a, Or.inr (by omega)⟩
            · rintro ⟨a, c⟩
              refine ⟨⟨a, ?_⟩, ?_⟩
              · rcases c with c | c
                · exact Or.inl c
                · exact Or.inr (by omega)
              · have : x ≠ b := fun e => by
                  rcases c with c | c
                  · exact hRb (e ▸ c)
                  · omega
                simp [this]
      · rw [if_neg hub, if_pos rfl]
        refine ih (b + 1) u us' (by omega) (by omega) (by omega) hK (fun x => ?_) hT
        rw [hiff x]
        constructor
        · rintro ⟨a, c | c⟩
          · exact ⟨a, Or.inl c⟩
          · by_cases e : x = b
            · subst e; exact absurd ((hiff x).mpr ⟨a, Or.inr c⟩) hub
            · exact ⟨a, Or.inr (by omega)⟩
        · rintro ⟨a, c | c⟩
          · exact ⟨a, Or.inl c⟩
          · exact ⟨a, Or.inr (by omega)⟩
theorem sCollect {u : St} {sz ty : Nat → Nat} {us : Nat → Bool} (h : HI u sz ty us 0) :
    ∃ u' R, F_X0_giveBackLost u = some (nI (ct us 25 - ct R 25), u') ∧ HI u' sz ty R 0 ∧ (∀ c, c ≠ 0 → c ≠ 4 → c ≠ 6 → c ≠ 7 → c ≠ 8 → u' c = u c) ∧ u' 0 10 = u 0 10 + nI (ct us 25 - ct R 25) ∧ (∀ x, R x = true → us x = true) ∧ Clo u sz ty R ∧ Mn u sz ty R := by
  obtain ⟨hB, h9, hCl, hcnt⟩ := h
  obtain ⟨u1, R, hF1, a1, a2, a3, a4, a5, a6⟩ := sFindLost hB hCl h9
  have h0 : R 0 = false := by
    cases hR : R 0 with
    | false => rfl
    | true => have := a4 0 hR; rw [hB.2.2.2.1] at this; cases this
  have hpt1 : pt u1 sz ty = pt u sz ty := pt_static (a1 2 (by decide) (by decide) (by decide))
  have e3 : u1 3 = u 3 := a1 3 (by decide) (by decide) (by decide)
  have hle : ct R 25 ≤ ct us 25 := ct_mono (fun c _ hc => a4 c hc)
  have hK1 : KV u1 u1 sz ty us R (nA (AZ (pt u1 sz ty) us) (vl u)) (u 0 10) (ct us 25) := by
    refine ⟨hB.of (a1 1 (by decide) (by decide) (by decide)) (a1 2 (by decide) (by decide) (by decide)) (a1 4 (by decide) (by decide) (by decide)) (a1 5 (by decide) (by decide) (by decide)), fun _ _ _ _ => rfl, a2.1.trans h9, ?_, fun x hx => ?_⟩
    · rw [a2.2, Nat.sub_self]; exact (Int32.add_zero _).symm
    · rw [a1 6 (by decide) (by decide) (by decide), hpt1]; exact (hcnt x (a4 x hx)).1
  obtain ⟨u2, hF2, hK2⟩ := gbl (u0 := u1) (us := us) (R := R) (Val := vl u) (r := nI (ct us 25 - ct R 25)) (fun x hx => bs_rng hB hx) a4 a3 (fun c hc hA => by
    rw [hpt1] at hA
    have := cl_val hCl hc hA
    rw [e3]; exact ⟨this.1, this.2.1⟩) fuel 1 u1 us (by decide) (by decide) (by decide) hK1 (fun x => ⟨fun hx => ⟨hx, Or.inr (bs_rng hB hx).1⟩, fun hx => hx.1⟩) (Nat.le_refl _)
  have hpt2 : pt u2 sz ty = pt u sz ty := (pt_static (hK2.2.1 2 (by decide) (by decide) (by decide))).trans hpt1
  have e32 : u2 3 = u 3 := (hK2.2.1 3 (by decide) (by decide) (by decide)).trans e3
  have hvl : vl u2 = vl u := by funext c; unfold vl; rw [e32]
  refine ⟨u2, R, ?_, ⟨hK2.1, hK2.2.2.1, fun c hc hA => ?_, fun x hx => ?_⟩, fun c c1 c2 c3 c4 c5 => (hK2.2.1 c c1 c2 c3).trans (a1 c c1 c4 c5), hK2.2.2.2.1, a4, a5, a6⟩
  · unfold F_X0_giveBackLost
    rw [hF1]
    exact hF2
  · rw [hpt2] at hA
    have hv := cl_val hCl hc (AZ_mono a4 hA)
    exact ⟨vl u c, hv.2.1, by rw [e32]; exact hv.1, a5 c hc hA⟩
  · rw [hpt2, hvl]
    refine ⟨by rw [hK2.2.2.2.2 x hx, hpt1], fun _ => ?_⟩
    obtain ⟨c, c1, c2, c3⟩ := a5.sup a6 h0 x hx
    exact ct_pos c1 (by simp [c2, c3])
theorem sEmpty {b : Nat} (h1 : 1 ≤ b) (h2 : b ≤ 24) : ∀ (n w : Nat) (u : St), 7 ≤ n + w → w ≤ 6 → ∃ u', L_X0_emptyWords_2 n u (nI b) (nI w) = some (0, u') ∧ (∀ c, c ≠ 3 → u' c = u c) ∧ ∀ j, u' 3 j = if 6 * b + 2 + w ≤ j ∧ j < 6 * b + 8 then 0 else u 3 j := by
  intro n
  induction n with
  | zero => intro w u h1 h2; omega
  | succ n ih =>
    intro w u h3 h4
    show ∃ u', F_X0_emptyWords_2 (L_X0_emptyWords_2 n) u (nI b) (nI w) = _ ∧ _
    unfold F_X0_emptyWords_2
    by_cases hw : w = 6
    · subst hw
      rw [if_pos (by decide)]
      exact ⟨u, rfl, fun _ _ => rfl, fun j => by rw [if_neg (by omega)]⟩
    · rw [if_neg (by rw [Int32.le_iff_toInt_le, nT (by omega)]; simp; omega), sCellOfWord u h1 h2 (by omega)]
      show ∃ u', (if nI (6 * b + 2 + w) < 0 ∨ 152 ≤ (nI (6 * b + 2 + w)).toNatClampNeg then none else L_X0_emptyWords_2 n (su u 3 (nI (6 * b + 2 + w)).toNatClampNeg 0) (nI b) (nI w + 1)) = _ ∧ _
      simp only [okN (show 6 * b + 2 + w < 152 by omega) (by decide), ↓reduceIte, nI_clamp (show 6 * b + 2 + w < 2 ^ 31 by omega), nI_1]
      obtain ⟨u1, hF, a1, a2⟩ := ih (w + 1) (su u 3 (6 * b + 2 + w) 0) (by omega) (by omega)
      refine ⟨u1, hF, fun c hc => (a1 c hc).trans (su_c hc), fun j => ?_⟩
      rw [a2 j, su_v]
      by_cases e : j = 6 * b + 2 + w
      · subst e; rw [if_neg (by omega), if_pos (by omega), if_pos (by omega)]
      · by_cases e2 : 6 * b + 2 + (w + 1) ≤ j ∧ j < 6 * b + 8
        · rw [if_pos e2, if_pos (by omega)]
        · rw [if_neg e2, if_neg (show ¬ (6 * b + 2 + w ≤ j ∧ j < 6 * b + 8) by omega)]; simp [e]
theorem sMake {sz ty : Nat → Nat} {us : Nat → Bool} {t : Int32} : ∀ (n b : Nat) (u : St), 26 ≤ n + b → 1 ≤ b → b ≤ 25 → Bs u sz ty us → (∀ x, 1 ≤ x → x < b → us x = true) → (∃ x, b ≤ x ∧ x ≤ 24 ∧ us x = false) →
    ∃ u' y, L_X0_makeBlock_2 n u t (nI b) = some (nI y, u') ∧ 1 ≤ y ∧ y ≤ 24 ∧ us y = false ∧ (∀ x, 1 ≤ x → x < y → us x = true) ∧ (∀ c, c ≠ 0 → c ≠ 3 → c ≠ 4 → c ≠ 5 → c ≠ 6 → u' c = u c) ∧ u' 4 = upd (u 4) y 1 ∧ u' 5 = upd (u 5) y t ∧ u' 6 = upd (u 6) y 0 ∧ u' 0 9 = u 0 9 + 1 ∧ u' 0 10 = u 0 10 ∧ ∀ j, u' 3 j = if 6 * y + 2 ≤ j ∧ j < 6 * y + 8 then 0 else u 3 j := by
  intro n
  induction n with
  | zero => intro b u h1 h2 h3 _ _ h6; obtain ⟨x, a, c, _⟩ := h6; omega
  | succ n ih =>
    intro b u h1 h2 h3 hB hall hex
    show ∃ u' y, F_X0_makeBlock_2 (L_X0_makeBlock_2 n) u t (nI b) = _ ∧ _
    unfold F_X0_makeBlock_2
    have hb24 : b ≤ 24 := by obtain ⟨x, a, c, _⟩ := hex; omega
    rw [if_neg (by rw [Int32.lt_iff_toInt_lt, nT (by omega)]; simp; omega)]
    simp only [okN (show b < 25 by omega) (by decide), ↓reduceIte, nI_clamp (show b < 2 ^ 31 by omega), hB.2.2.1 b h2 hb24, nI_1, sb]
    cases hub : us b with
    | true =>
      rw [if_neg (by decide)]
      refine ih (b + 1) u (by omega) (by omega) (by omega) hB (fun x x1 x2 => ?_) ?_
      · by_cases e : x = b
        · rw [e]; exact hub
        · exact hall x x1 (by omega)
      · obtain ⟨x, x1, x2, x3⟩ := hex
        refine ⟨x, ?_, x2, x3⟩
        have : x ≠ b := fun e => by rw [e, hub] at x3; cases x3
        omega
    | false =>
      rw [if_pos (show (if false = true then (1 : Int32) else 0) = 0 from rfl)]
      obtain ⟨u1, hF, a1, a2⟩ := sEmpty h2 hb24 fuel 0 (su (su (su (su u 4 b 1) 5 b t) 6 b 0) 0 9 (su (su (su u 4 b 1) 5 b t) 6 b 0 0 9 + 1)) (by decide) (by decide)
      have hF' : F_X0_emptyWords (su (su (su (su u 4 b 1) 5 b t) 6 b 0) 0 9 (su (su (su u 4 b 1) 5 b t) 6 b 0 0 9 + 1)) (nI b) = some (0, u1) := hF
      rw [hF']
      refine ⟨u1, b, rfl, h2, hb24, hub, hall, fun c c1 c2 c3 c4 c5 => ?_, ?_, ?_, ?_, ?_, ?_, fun j => ?_⟩
      · rw [a1 c c2]; funext j; simp only [su_v]; simp [c1, c3, c4, c5]
      · rw [a1 4 (by decide)]; funext j; simp only [su_v]; simp [upd]
      · rw [a1 5 (by decide)]; funext j; simp only [su_v]; simp [upd]
      · rw [a1 6 (by decide)]; funext j; simp only [su_v]; simp [upd]
      · rw [a1 0 (by decide)]; simp only [su_v]; simp
      · rw [a1 0 (by decide)]; simp only [su_v]; simp
      · rw [a2 j]; simp only [su_v]; simp
theorem sHasType {sz ty : Nat → Nat} {us : Nat → Bool} {u : St} (hB : Bs u sz ty us) {t : Nat} (ht : t < 4) : ∀ (n b : Nat), 26 ≤ n + b → 1 ≤ b → b ≤ 25 → (∀ x, 1 ≤ x → x < b → ¬ (us x = true ∧ ty x = t)) →
    ∃ r : Int32, L_X0_hasBlockOfType_2 n u (nI t) (nI b) = some (r, u) ∧ ((r = 1 ∧ ∃ x, us x = true ∧ ty x = t) ∨ (r = 0 ∧ ∀ x, us x = true → ¬ ty x = t)) := by
  intro n
  induction n with
  | zero => intro b h1 h2 h3; omega
  | succ n ih =>
    intro b h1 h2 h3 hno
    show ∃ r : Int32, F_X0_hasBlockOfType_2 (L_X0_hasBlockOfType_2 n) u (nI t) (nI b) = _ ∧ _
    unfold F_X0_hasBlockOfType_2
    by_cases hb : b = 25
    · subst hb
      rw [if_pos (by decide)]
      refine ⟨0, rfl, Or.inr ⟨rfl, fun x hx e => ?_⟩⟩
      have := bs_rng hB hx
      exact hno x this.1 (by omega) ⟨hx, e⟩
    · rw [if_neg (by rw [Int32.lt_iff_toInt_lt, nT (by omega)]; simp; omega)]
      have h5 := hB.2.1 b (by omega)
      simp only [okN (show b < 25 by omega) (by decide), ↓reduceIte, nI_clamp (show b < 2 ^ 31 by omega), hB.2.2.1 b h2 (by omega), nI_1, h5.1, nI_eq (show ty b < 2 ^ 31 by omega) (show t < 2 ^ 31 by omega)]
      have go : ¬ (us b = true ∧ ty b = t) → ∃ r : Int32, L_X0_hasBlockOfType_2 n u (nI t) (nI (b + 1)) = some (r, u) ∧ ((r = 1 ∧ ∃ x, us x = true ∧ ty x = t) ∨ (r = 0 ∧ ∀ x, us x = true → ¬ ty x = t)) := fun hn => ih (b + 1) (by omega) (by omega) (by omega) (fun x x1 x2 => by
        by_cases e : x = b
        · rw [e]; exact hn
        · exact hno x x1 (by omega))
      by_cases hub : us b = true
      · rw [if_pos hub, if_neg (by decide)]
        by_cases hty : ty b = t
        · rw [if_pos hty]; exact ⟨1, rfl, Or.inl ⟨rfl, b, hub, hty⟩⟩
        · rw [if_neg hty]; exact go (fun h => hty h.2)
      · rw [if_neg hub, if_pos rfl]; exact go (fun h => hub h.1)
