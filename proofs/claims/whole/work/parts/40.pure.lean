/-! PURE: the reference's giving back -/
theorem VC.mono {u : St} {sz ty : Nat → Nat} {us us' : Nat → Bool} (h : VC u sz ty us) (hs : ∀ x, us' x = true → us x = true) : VC u sz ty us' := fun c hc hA => h c hc (AZ_mono hs hA)
set_option maxHeartbeats 1000000 in
theorem rGb22 {u : St} {sz ty : Nat → Nat} {k4 : St → Int32 → Int32 → Option (Int32 × St)} {n9 : Nat → Nat} (hn9 : ∀ x, n9 x ≤ 200) {i : Int32} :
    ∀ (n b : Nat) (v : St) (us : Nat → Bool) (f : Int32), 26 ≤ n + b → 1 ≤ b → b ≤ 25 → MH u v sz ty us → (∀ x, x ≤ 24 → v 9 x = nI (n9 x)) →
      ∃ v' us' f', L_X3_giveBack_22 k4 n v f i (nI b) = k4 v' f' (i + 1) ∧ MH u v' sz ty us' ∧ (∀ c, c ≠ 0 → c ≠ 7 → v' c = v c) ∧ (∀ j, j ≠ 6 → v' 0 j = v 0 j) ∧ v' 0 6 = v 0 6 + nI (ct us 25 - ct us' 25) ∧ (∀ x, us' x = true ↔ (us x = true ∧ (x < b ∨ 1 ≤ n9 x))) ∧ ((f' = f ∧ us' = us) ∨ (f' = 1 ∧ ct us' 25 + 1 ≤ ct us 25)) := by
  intro n
  induction n with
  | zero => intro b v us f h1 h2 h3; omega
  | succ n ih =>
    intro b v us f h1 h2 h3 hM h9
    show ∃ v' us' f', F_X3_giveBack_22 k4 (L_X3_giveBack_22 k4 n) v f i (nI b) = _ ∧ _
    unfold F_X3_giveBack_22
    by_cases hb : b = 25
    · subst hb
      rw [if_pos (by decide)]
      refine ⟨v, us, f, rfl, hM, fun _ _ _ => rfl, fun _ _ => rfl, ?_, fun x => ⟨fun hx => ⟨hx, Or.inl (by have := hM.2.2.1 x hx; omega)⟩, fun hx => hx.1⟩, Or.inl ⟨rfl, rfl⟩⟩
      rw [Nat.sub_self]; exact (Int32.add_zero _).symm
    · rw [if_neg (by rw [Int32.le_iff_toInt_le, nT (by omega)]; simp; omega)]
      simp only [okN (show b < 25 by omega) (by decide), ↓reduceIte, nI_clamp (show b < 2 ^ 31 by omega), hM.2.1 b h2 (by omega), nI_1, sb, h9 b (by omega)]
      have keep : (us b = false ∨ 1 ≤ n9 b) → ∃ v' us' f', L_X3_giveBack_22 k4 n v f i (nI (b + 1)) = k4 v' f' (i + 1) ∧ MH u v' sz ty us' ∧ (∀ c, c ≠ 0 → c ≠ 7 → v' c = v c) ∧ (∀ j, j ≠ 6 → v' 0 j = v 0 j) ∧ v' 0 6 = v 0 6 + nI (ct us 25 - ct us' 25) ∧ (∀ x, us' x = true ↔ (us x = true ∧ (x < b ∨ 1 ≤ n9 x))) ∧ ((f' = f ∧ us' = us) ∨ (f' = 1 ∧ ct us' 25 + 1 ≤ ct us 25)) := fun hk => by
        obtain ⟨v', us', f', a1, a2, a3, a4, a5, a6, a7⟩ := ih (b + 1) v us f (by omega) (by omega) (by omega) hM h9
        refine ⟨v', us', f', a1, a2, a3, a4, a5, fun x => ?_, a7⟩
        rw [a6 x]
        constructor
        · rintro ⟨c1, c2 | c2⟩
          · by_cases e : x = b
            · subst e
              rcases hk with hk | hk
              · rw [hk] at c1; cases c1
              · exact ⟨c1, Or.inr hk⟩
            · exact ⟨c1, Or.inl (by omega)⟩
          · exact ⟨c1, Or.inr c2⟩
        · rintro ⟨c1, c2 | c2⟩
          · exact ⟨c1, Or.inl (by omega)⟩
          · exact ⟨c1, Or.inr c2⟩
      cases hub : us b with
      | false =>
        rw [if_pos (show (if false = true then nI (ty b) else -1) < 0 from (by decide : (-1 : Int32) < 0))]
        exact keep (Or.inl hub)
      | true =>
        have hr := hM.2.2.1 b hub
        rw [if_neg (show ¬ (if true = true then nI (ty b) else -1) < 0 from nI_pos (by omega))]
        by_cases hz : n9 b = 0
        · rw [if_pos (show nI (n9 b) ≤ 0 by rw [hz]; decide)]
          have hct := del_ct hub (show b < 25 by omega)
          have hsub : ∀ x, del us b x = true → us x = true := fun x hx => by simp [del] at hx; exact hx.1
          obtain ⟨v', us', f', a1, a2, a3, a4, a5, a6, a7⟩ := ih (b + 1) (su (su v 7 b (-1)) 0 6 (su v 7 b (-1) 0 6 + 1)) (del us b) 1 (by omega) (by omega) (by omega) (by
            refine ⟨fun t ht => ?_, fun x x1 x2 => ?_, fun x hx => hM.2.2.1 x (hsub x hx), fun k hk => ?_, fun j j1 j2 => ?_⟩
            · simp only [su_v]; simp; exact hM.1 t ht
            · simp only [su_v]; simp
              by_cases e : x = b
              · simp [e, del]
              · simp [e, del, hM.2.1 x x1 x2]
            · simp only [su_v]; simp; exact hM.2.2.2.1 k hk
            · simp only [su_v]; simp; exact hM.2.2.2.2 j j1 j2) (fun x hx => by simp only [su_v]; simp; exact h9 x hx)
          have hle : ct us' 25 ≤ ct (del us b) 25 := ct_mono (fun c _ hc => ((a6 c).mp hc).1)
          refine ⟨v', us', f', a1, a2, fun c c1 c2 => ?_, fun j hj => ?_, ?_, fun x => ?_, ?_⟩
          · rw [a3 c c1 c2]; funext j; simp only [su_v]; simp [c1, c2]
          · rw [a4 j hj]; simp only [su_v]; simp [hj]
          · rw [a5]; simp only [su_v]; simp
            rw [Int32.add_assoc, show (1 : Int32) = nI 1 from rfl, nI_add]
            congr 2; omega
          · rw [a6 x]
            simp only [del, Bool.and_eq_true]
            constructor
            · rintro ⟨⟨c1, c2⟩, c3⟩
              have c2 : x ≠ b := by simpa using c2
              rcases c3 with c3 | c3
              · exact ⟨c1, Or.inl (by omega)⟩
              · exact ⟨c1, Or.inr c3⟩
            · rintro ⟨c1, c2⟩
              have : x ≠ b := fun e => by
                rw [e, hz] at c2; omega
              refine ⟨⟨c1, by simp [this]⟩, ?_⟩
              rcases c2 with c2 | c2
              · exact Or.inl (by omega)
              · exact Or.inr c2
          · rcases a7 with ⟨e1, e2⟩ | ⟨e1, e2⟩
            · exact Or.inr ⟨e1, by rw [e2]; omega⟩
            · exact Or.inr ⟨e1, by omega⟩
        · rw [if_neg (show ¬ nI (n9 b) ≤ 0 from fun h => hz (by have := (nI_leI (a := n9 b) (b := 0) (by have := hn9 b; omega) (by omega)).mp h; omega))]
          exact keep (Or.inr (by omega))
theorem rGb4 {u : St} {sz ty : Nat → Nat} :
    ∀ (n i : Nat) (v : St) (us : Nat → Bool) (f : Int32), 27 ≤ n + i → MH u v sz ty us → VC u sz ty us → ((f = 0 ∧ Sup u sz ty us ∧ i ≤ 25) ∨ (f = 1 ∧ i + ct us 25 ≤ 24)) →
      ∃ v' us', L_X3_giveBack_4 n v f (nI i) = some (0, v') ∧ MH u v' sz ty us' ∧ (∀ c, c ≠ 0 → c ≠ 7 → c ≠ 9 → v' c = v c) ∧ (∀ j, j ≠ 6 → v' 0 j = v 0 j) ∧ v' 0 6 = v 0 6 + nI (ct us 25 - ct us' 25) ∧ (∀ x, us' x = true → us x = true) ∧ Sup u sz ty us' ∧ ∀ V : Nat → Bool, (∀ x, V x = true → us x = true) → Sup u sz ty V → ∀ x, V x = true → us' x = true := by
  intro n
  induction n with
  | zero => intro i v us f h1 _ _ h4; rcases h4 with h | h <;> omega
  | succ n ih =>
    intro i v us f h1 hM hV hc
    show ∃ v' us', F_X3_giveBack_4 (L_X3_giveBack_4 n) v f (nI i) = _ ∧ _
    unfold F_X3_giveBack_4
    rw [if_neg (show ¬ (26 : Int32) ≤ nI i by rw [Int32.le_iff_toInt_le, nT (by omega)]; simp; omega)]
    rcases hc with ⟨hf, hS, hi⟩ | ⟨hf, hi⟩
    · rw [if_pos hf]
      refine ⟨v, us, rfl, hM, fun _ _ _ _ => rfl, fun _ _ => rfl, ?_, fun _ h => h, hS, fun V h _ => h⟩
      rw [Nat.sub_self]; exact (Int32.add_zero _).symm
    · rw [if_neg (show ¬ f = 0 by rw [hf]; decide)]
      obtain ⟨v1, hF1, a1, a2⟩ := rCountAll hV hM
      rw [hF1]
      simp only [Option.bind_some]
      obtain ⟨v2, us2, f2, hF2, b1, b2, b3, b4, b5, b6⟩ := rGb22 (k4 := L_X3_giveBack_4 n) (i := nI i) (fun x => nA_le (AZ (pt u sz ty) us) (vl u) x) fuel 1 v1 us 0 (by decide) (by decide) (by decide) (hM.of (a1 1 (by decide)) (a1 2 (by decide)) (a1 5 (by decide)) (a1 6 (by decide)) (a1 7 (by decide)) (a1 8 (by decide))) a2
      rw [nI_1] at hF2
      have hsub : ∀ x, us2 x = true → us x = true := fun x hx => ((b5 x).mp hx).1
      have hle : ct us2 25 ≤ ct us 25 := ct_mono (fun c _ hc => hsub c hc)
      obtain ⟨v3, us3, hF3, c1, c2, c3, c4, c5, c6, c7⟩ := ih (i + 1) v2 us2 f2 (by omega) b1 (hV.mono hsub) (by
        rcases b6 with ⟨e1, e2⟩ | ⟨e1, e2⟩
        · refine Or.inl ⟨e1, fun x hx => ?_, by omega⟩
          have h5 := (b5 x).mp hx
          have hr := hM.2.2.1 x h5.1
          have h6 : 1 ≤ nA (AZ (pt u sz ty) us) (vl u) x := by rcases h5.2 with h | h <;> omega
          obtain ⟨c, d1, d2⟩ := ct_ex h6
          simp only [Bool.and_eq_true, beq_iff_eq] at d2
          exact ⟨c, d1, by rw [e2]; exact d2.1, d2.2⟩
        · exact Or.inr ⟨e1, by omega⟩)
      have hle3 : ct us3 25 ≤ ct us2 25 := ct_mono (fun c _ hc => c5 c hc)
      refine ⟨v3, us3, hF2.trans hF3, c1, fun c d1 d2 d3 => (c2 c d1 d2 d3).trans ((b2 c d1 d2).trans (a1 c d3)), fun j hj => (c3 j hj).trans ((b3 j hj).trans (by rw [a1 0 (by decide)])), ?_, fun x hx => hsub x (c5 x hx), c6, fun V hVu hS x hx => c7 V (fun y hy => ?_) hS x hx⟩
      · rw [c4, b4, a1 0 (by decide), Int32.add_assoc, nI_add]
        congr 2; omega
      · obtain ⟨c, d1, d2, d3⟩ := hS y hy
        exact (b5 y).mpr ⟨hVu y hy, Or.inr (ct_pos d1 (by simp [AZ_mono hVu d2, d3]))⟩
theorem rGiveBack {u v : St} {sz ty : Nat → Nat} {us : Nat → Bool} (hM : MH u v sz ty us) (hV : VC u sz ty us) :
    ∃ v' us', F_X3_giveBack v = some (0, v') ∧ MH u v' sz ty us' ∧ (∀ c, c ≠ 0 → c ≠ 7 → c ≠ 9 → v' c = v c) ∧ (∀ j, j ≠ 6 → v' 0 j = v 0 j) ∧ v' 0 6 = v 0 6 + nI (ct us 25 - ct us' 25) ∧ (∀ x, us' x = true → us x = true) ∧ Sup u sz ty us' ∧ ∀ V : Nat → Bool, (∀ x, V x = true → us x = true) → Sup u sz ty V → ∀ x, V x = true → us' x = true := by
  have h0 : us 0 = false := by
    cases h : us 0 with
    | false => rfl
    | true => have := hM.2.2.1 0 h; omega
  exact rGb4 fuel 0 v us 1 (by decide) hM hV (Or.inr ⟨rfl, by have := ct24 h0; omega⟩)
