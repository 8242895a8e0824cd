/-! PURE: what the reference comes to -/
def CsV (u : St) (sz ty : Nat → Nat) (us V : Nat → Bool) : Prop := (∀ j, j < 4 → V (vl u (4 + j)) = true) ∧ ∀ b, us b = true → V b = true → ∀ w, w < 6 → pt u sz ty b w = true → V (vl u (6 * b + 2 + w)) = true
def SV (v : St) (S : Nat → Bool) : Prop := ∀ x, x ≤ 24 → v 10 x = if S x = true then 1 else 0
theorem SV.add {v : St} {S : Nat → Bool} {y : Nat} (h : SV v S) : SV (su v 10 y 1) (add1 S y) := fun x hx => by
  rw [su_v, h x hx]
  by_cases e : x = y
  · simp [e, add1]
  · simp [e, add1]
theorem ct_eqv {p q : Nat → Bool} {n : Nat} (h : ∀ c, c < n → p c = true → q c = true) (he : ct q n ≤ ct p n) {c : Nat} (hc : c < n) (hq : q c = true) : p c = true := by
  cases hp : p c with
  | true => rfl
  | false =>
    have h1 := ct_wo (p := q) (i := c) (n := n) hc
    rw [if_pos hq] at h1
    have h2 : ct p n ≤ ct (wo q c) n := ct_mono (fun d hd hpd => by
      have : d ≠ c := fun e => by rw [e, hp] at hpd; cases hpd
      simp [wo, h d hd hpd, this])
    omega
set_option maxHeartbeats 1000000 in
theorem rRe85 {u : St} {sz ty : Nat → Nat} {us : Nat → Bool} (hV : VC u sz ty us) {b : Nat} (hb : us b = true) {k56 : St → Int32 → Int32 → Option (Int32 × St)} {i : Int32} :
    ∀ (n w : Nat) (v : St) (S : Nat → Bool), 7 ≤ n + w → w ≤ sz (ty b) → MH u v sz ty us → SV v S → S b = true →
      ∃ v' S', L_X3_reach_85 k56 n v i (nI b) (nI w) = k56 v' i (nI (b + 1)) ∧ (∀ c, c ≠ 10 → v' c = v c) ∧ SV v' S' ∧ (∀ x, S x = true → S' x = true) ∧ (∀ V, CsV u sz ty us V → (∀ x, S x = true → V x = true) → ∀ x, S' x = true → V x = true) ∧ ∀ k, w ≤ k → k < 6 → pt u sz ty b k = true → S' (vl u (6 * b + 2 + k)) = true := by
  intro n
  induction n with
  | zero =>
    intro w v S h1 h2 hM
    have := hM.1 (ty b) (hM.2.2.1 b hb).2.2
    omega
  | succ n ih =>
    intro w v S h1 h2 hM hS hSb
    have hr := hM.2.2.1 b hb
    have hs := hM.1 (ty b) hr.2.2
    show ∃ v' S', F_X3_reach_85 k56 (L_X3_reach_85 k56 n) v i (nI b) (nI w) = _ ∧ _
    unfold F_X3_reach_85
    simp only [okN (show b < 25 by omega) (by decide), ↓reduceIte, nI_clamp (show b < 2 ^ 31 by omega), hM.2.1 b hr.1 hr.2.1, hb]
    simp only [okN hr.2.2 (by decide), ↓reduceIte, nI_clamp (show ty b < 2 ^ 31 by omega), hs.1, nI_leI (show sz (ty b) < 2 ^ 31 by omega) (show w < 2 ^ 31 by omega), nI_1]
    by_cases hw : sz (ty b) ≤ w
    · rw [if_pos hw]
      exact ⟨v, S, rfl, fun _ _ => rfl, hS, fun _ h => h, fun V _ h => h, fun k k1 _ k3 => by rw [pt_ge (by omega)] at k3; cases k3⟩
    · rw [if_neg hw, rIsPtr hM hb]
      have hw6 : w < 6 := by omega
      have hpp : pt u sz ty b w = pb (u 2 (ty b)) w := pt_pb (by omega)
      by_cases hp : pb (u 2 (ty b)) w = true
      · have hA : AZ (pt u sz ty) us (6 * b + 2 + w) = true := by rw [AZ_eq hr.1 hw6, hpp, hp, hb]; rfl
        have hv := hV (6 * b + 2 + w) (by omega) hA
        have e1 : (6 : Int32) * nI b + nI w = nI (6 * b + w) := by rw [show (6 : Int32) * nI b = nI (6 * b) from pk_mul 6 b, nI_add]
        rw [if_pos hp]
        simp only [Option.bind_some, show ¬ ((1 : Int32) = 0) by decide, ↓reduceIte, e1, nI_clamp (show 6 * b + w < 2 ^ 31 by omega), okN (show 6 * b + w < 150 by omega) (by decide), hM.2.2.2.2 (6 * b + w) (by omega) (by omega), show 6 * b + w + 2 = 6 * b + 2 + w by omega]
        generalize hy : vl u (6 * b + 2 + w) = y at hv
        simp only [hv.1, nI_clamp (show y < 2 ^ 31 by omega), okN (show y < 25 by omega) (by decide), ↓reduceIte]
        obtain ⟨v1, S1, hF, a1, a2, a3, a4, a5⟩ := ih (w + 1) (su v 10 y 1) (add1 S y) (by omega) (by omega) (hM.of (su_c (by decide)) (su_c (by decide)) (su_c (by decide)) (su_c (by decide)) (su_c (by decide)) (su_c (by decide))) hS.add (by simp [add1, hSb])
        refine ⟨v1, S1, hF, fun c hc => (a1 c hc).trans (su_c hc), a2, fun x hx => a3 x (by simp [add1, hx]), fun V hC hSV => a4 V hC (fun x hx => ?_), fun k k1 k2 k3 => ?_⟩
        · simp only [add1, Bool.or_eq_true, beq_iff_eq] at hx
          rcases hx with hx | hx
          · exact hSV x hx
          · rw [hx, ← hy]; exact hC.2 b hb (hSV b hSb) w hw6 (hpp.trans hp)
        · by_cases e : k = w
          · subst e; rw [hy]; exact a3 y (by simp [add1])
          · exact a5 k (by omega) k2 k3
      · rw [if_neg hp]
        simp only [Option.bind_some, ↓reduceIte]
        obtain ⟨v1, S1, hF, a1, a2, a3, a4, a5⟩ := ih (w + 1) v S (by omega) (by omega) hM hS hSb
        refine ⟨v1, S1, hF, a1, a2, a3, a4, fun k k1 k2 k3 => ?_⟩
        by_cases e : k = w
        · subst e; rw [hpp] at k3; exact absurd k3 hp
        · exact a5 k (by omega) k2 k3
theorem MH.f10 {u v v' : St} {sz ty : Nat → Nat} {us : Nat → Bool} (h : MH u v sz ty us) (a1 : ∀ c, c ≠ 10 → v' c = v c) : MH u v' sz ty us := h.of (a1 1 (by decide)) (a1 2 (by decide)) (a1 5 (by decide)) (a1 6 (by decide)) (a1 7 (by decide)) (a1 8 (by decide))
set_option maxHeartbeats 1000000 in
theorem rRe56 {u : St} {sz ty : Nat → Nat} {us : Nat → Bool} (hV : VC u sz ty us) {k48 : St → Int32 → Option (Int32 × St)} {i : Int32} :
    ∀ (n b : Nat) (v : St) (S : Nat → Bool), 26 ≤ n + b → 1 ≤ b → b ≤ 25 → MH u v sz ty us → SV v S →
      ∃ v' S', L_X3_reach_56 k48 n v i (nI b) = k48 v' (i + 1) ∧ (∀ c, c ≠ 10 → v' c = v c) ∧ SV v' S' ∧ (∀ x, S x = true → S' x = true) ∧ (∀ V, CsV u sz ty us V → (∀ x, S x = true → V x = true) → ∀ x, S' x = true → V x = true) ∧ ∀ x, b ≤ x → us x = true → S x = true → ∀ k, k < 6 → pt u sz ty x k = true → S' (vl u (6 * x + 2 + k)) = true := by
  intro n
  induction n with
  | zero => intro b v S h1 h2 h3; omega
  | succ n ih =>
    intro b v S h1 h2 h3 hM hS
    show ∃ v' S', F_X3_reach_56 k48 (L_X3_reach_56 k48 n) v i (nI b) = _ ∧ _
    unfold F_X3_reach_56
    by_cases hb : b = 25
    · subst hb
      rw [if_pos (by decide)]
      exact ⟨v, S, rfl, fun _ _ => rfl, hS, fun _ h => h, fun V _ h => h, fun x x1 x2 => by have := hM.2.2.1 x x2; omega⟩
    · rw [if_neg (by rw [Int32.le_iff_toInt_le, nT (by omega)]; simp; omega)]
      simp only [okN (show b < 25 by omega) (by decide), ↓reduceIte, nI_clamp (show b < 2 ^ 31 by omega), hM.2.1 b h2 (by omega), nI_1, hS b (by omega)]
      have skip : ¬ (us b = true ∧ S b = true) → ∃ v' S', L_X3_reach_56 k48 n v i (nI (b + 1)) = k48 v' (i + 1) ∧ (∀ c, c ≠ 10 → v' c = v c) ∧ SV v' S' ∧ (∀ x, S x = true → S' x = true) ∧ (∀ V, CsV u sz ty us V → (∀ x, S x = true → V x = true) → ∀ x, S' x = true → V x = true) ∧ ∀ x, b ≤ x → us x = true → S x = true → ∀ k, k < 6 → pt u sz ty x k = true → S' (vl u (6 * x + 2 + k)) = true := fun hn => by
        obtain ⟨v1, S1, hF, a1, a2, a3, a4, a5⟩ := ih (b + 1) v S (by omega) (by omega) (by omega) hM hS
        refine ⟨v1, S1, hF, a1, a2, a3, a4, fun x x1 x2 x3 => ?_⟩
        by_cases e : x = b
        · subst e; exact absurd ⟨x2, x3⟩ hn
        · exact a5 x (by omega) x2 x3
      by_cases hSb : S b = true
      · rw [if_pos hSb, if_neg (show ¬ (1 : Int32) = 0 by decide)]
        by_cases hub : us b = true
        · rw [if_pos hub, if_pos (show (0 : Int32) ≤ nI (ty b) from (nI_leI (a := 0) (b := ty b) (by omega) (by have := hM.2.2.1 b hub; omega)).mpr (Nat.zero_le _))]
          obtain ⟨v1, S1, hF, a1, a2, a3, a4, a5⟩ := rRe85 (k56 := L_X3_reach_56 k48 n) (i := i) hV hub fuel 0 v S (by decide) (Nat.zero_le _) hM hS hSb
          obtain ⟨v2, S2, hF2, b1, b2, b3, b4, b5⟩ := ih (b + 1) v1 S1 (by omega) (by omega) (by omega) (hM.f10 a1) a2
          refine ⟨v2, S2, hF.trans hF2, fun c hc => (b1 c hc).trans (a1 c hc), b2, fun x hx => b3 x (a3 x hx), fun V hC h => b4 V hC (a4 V hC h), fun x x1 x2 x3 k k1 k2 => ?_⟩
          by_cases e : x = b
          · subst e; exact b3 _ (a5 k (Nat.zero_le _) k1 k2)
          · exact b5 x (by omega) x2 (a3 x x3) k k1 k2
        · rw [if_neg hub, if_neg (show ¬ (0 : Int32) ≤ -1 by decide)]
          exact skip (fun h => hub h.1)
      · rw [if_neg hSb, if_pos rfl]
        exact skip (fun h => hSb h.2)
theorem rRe48 {u : St} {sz ty : Nat → Nat} {us : Nat → Bool} (hV : VC u sz ty us) :
    ∀ (n i : Nat) (v : St) (S : Nat → Bool), 26 ≤ n + i → i ≤ 25 → MH u v sz ty us → SV v S → (∀ j, j < 4 → S (vl u (4 + j)) = true) → (CsV u sz ty us S ∨ i + 1 ≤ ct S 25) →
      ∃ v' S', L_X3_reach_48 n v (nI i) = some (0, v') ∧ (∀ c, c ≠ 10 → v' c = v c) ∧ SV v' S' ∧ (∀ V, CsV u sz ty us V → (∀ x, S x = true → V x = true) → ∀ x, S' x = true → V x = true) ∧ CsV u sz ty us S' := by
  intro n
  induction n with
  | zero => intro i v S h1 h2; omega
  | succ n ih =>
    intro i v S h1 h2 hM hS hroot hc
    show ∃ v' S', F_X3_reach_48 (L_X3_reach_48 n) v (nI i) = _ ∧ _
    unfold F_X3_reach_48
    by_cases hi : i = 25
    · subst hi
      rw [if_pos (by decide)]
      refine ⟨v, S, rfl, fun _ _ => rfl, hS, fun V _ h => h, ?_⟩
      rcases hc with h | h
      · exact h
      · have := ct_le S 25; omega
    · rw [if_neg (by rw [Int32.le_iff_toInt_le, nT (by omega)]; simp; omega)]
      obtain ⟨v1, S1, hF, a1, a2, a3, a4, a5⟩ := rRe56 (k48 := L_X3_reach_48 n) (i := nI i) hV fuel 1 v S (by decide) (by decide) (by decide) hM hS
      rw [nI_1] at hF
      have hroot1 : ∀ j, j < 4 → S1 (vl u (4 + j)) = true := fun j hj => a3 _ (hroot j hj)
      have hc1 : CsV u sz ty us S1 ∨ i + 1 + 1 ≤ ct S1 25 := by
        have same : (∀ x, x < 25 → S1 x = true → S x = true) → CsV u sz ty us S1 := fun h => ⟨hroot1, fun b b1 b2 w w1 w2 => by
          have hr := hM.2.2.1 b b1
          exact a5 b hr.1 b1 (h b (by omega) b2) w w1 w2⟩
        rcases hc with h | h
        · exact Or.inl (same (fun x _ hx => a4 S h (fun _ h => h) x hx))
        · by_cases h6 : ct S1 25 ≤ ct S 25
          · exact Or.inl (same (fun x hx hx1 => ct_eqv (fun c _ hc => a3 c hc) h6 hx hx1))
          · exact Or.inr (by omega)
      obtain ⟨v2, S2, hF2, b1, b2, b3, b4⟩ := ih (i + 1) v1 S1 (by omega) (by omega) (hM.f10 a1) a2 hroot1 hc1
      exact ⟨v2, S2, hF.trans hF2, fun c hc => (b1 c hc).trans (a1 c hc), b2, fun V hC h => b3 V hC (a4 V hC h), b4⟩
theorem rRe23 {u : St} {sz ty : Nat → Nat} {us : Nat → Bool} (hV : VC u sz ty us) :
    ∀ (n k : Nat) (v : St) (S : Nat → Bool), 5 ≤ n + k → k ≤ 4 → MH u v sz ty us → SV v S →
      ∃ v' S', L_X3_reach_23 n v (nI k) = L_X3_reach_48 fuel v' 0 ∧ (∀ c, c ≠ 10 → v' c = v c) ∧ SV v' S' ∧ (∀ x, S x = true → S' x = true) ∧ (∀ V, CsV u sz ty us V → (∀ x, S x = true → V x = true) → ∀ x, S' x = true → V x = true) ∧ ∀ j, k ≤ j → j < 4 → S' (vl u (4 + j)) = true := by
  intro n
  induction n with
  | zero => intro k v S h1 h2; omega
  | succ n ih =>
    intro k v S h1 h2 hM hS
    show ∃ v' S', F_X3_reach_23 (L_X3_reach_23 n) v (nI k) = _ ∧ _
    unfold F_X3_reach_23
    by_cases hk : k = 4
    · subst hk
      rw [if_pos (by decide)]
      exact ⟨v, S, rfl, fun _ _ => rfl, hS, fun _ h => h, fun V _ h => h, fun j j1 j2 => by omega⟩
    · rw [if_neg (by rw [Int32.le_iff_toInt_le, nT (by omega)]; simp; omega)]
      have hA : AZ (pt u sz ty) us (4 + k) = true := AZ_root (by omega)
      have hv := hV (4 + k) (by omega) hA
      simp only [okN (show k < 4 by omega) (by decide), ↓reduceIte, nI_clamp (show k < 2 ^ 31 by omega), (hM.2.2.2.1 k (by omega)).2, nI_1]
      generalize hy : vl u (4 + k) = y at hv
      simp only [hv.1, nI_clamp (show y < 2 ^ 31 by omega), okN (show y < 25 by omega) (by decide), ↓reduceIte]
      obtain ⟨v1, S1, hF, a1, a2, a3, a4, a5⟩ := ih (k + 1) (su v 10 y 1) (add1 S y) (by omega) (by omega) (hM.of (su_c (by decide)) (su_c (by decide)) (su_c (by decide)) (su_c (by decide)) (su_c (by decide)) (su_c (by decide))) hS.add
      refine ⟨v1, S1, hF, fun c hc => (a1 c hc).trans (su_c hc), a2, fun x hx => a3 x (by simp [add1, hx]), fun V hC hSV => a4 V hC (fun x hx => ?_), fun j j1 j2 => ?_⟩
      · simp only [add1, Bool.or_eq_true, beq_iff_eq] at hx
        rcases hx with hx | hx
        · exact hSV x hx
        · rw [hx, ← hy]; exact hC.1 k (by omega)
      · by_cases e : j = k
        · subst e; rw [hy]; exact a3 y (by simp [add1])
        · exact a5 j (by omega) j2
theorem rRe2 : ∀ (n b : Nat) (v : St), 26 ≤ n + b → b ≤ 25 → ∃ v', L_X3_reach_2 n v (nI b) = L_X3_reach_23 fuel v' 0 ∧ (∀ c, c ≠ 10 → v' c = v c) ∧ (∀ x, x < b → v' 10 x = v 10 x) ∧ ∀ x, b ≤ x → x ≤ 24 → v' 10 x = 0 := by
  intro n
  induction n with
  | zero => intro b v h1 h2; omega
  | succ n ih =>
    intro b v h1 h2
    show ∃ v', F_X3_reach_2 (L_X3_reach_2 n) v (nI b) = _ ∧ _
    unfold F_X3_reach_2
    by_cases hb : b = 25
    · subst hb
      rw [if_pos (by decide)]
      exact ⟨v, rfl, fun _ _ => rfl, fun _ _ => rfl, fun x a c => by omega⟩
    · rw [if_neg (by rw [Int32.le_iff_toInt_le, nT (by omega)]; simp; omega)]
      simp only [okN (show b < 25 by omega) (by decide), ↓reduceIte, nI_clamp (show b < 2 ^ 31 by omega), nI_1]
      obtain ⟨v1, hF, a1, a2, a3⟩ := ih (b + 1) (su v 10 b 0) (by omega) (by omega)
      refine ⟨v1, hF, fun c hc => (a1 c hc).trans (su_c hc), fun x hx => ?_, fun x x1 x2 => ?_⟩
      · rw [a2 x (by omega), su_v]; simp [show x ≠ b by omega]
      · by_cases e : x = b
        · subst e; rw [a2 x (by omega), su_v]; simp
        · exact a3 x (by omega) x2
theorem rReach {u v : St} {sz ty : Nat → Nat} {us : Nat → Bool} (hV : VC u sz ty us) (hM : MH u v sz ty us) :
    ∃ v' S, F_X3_reach v = some (0, v') ∧ (∀ c, c ≠ 10 → v' c = v c) ∧ SV v' S ∧ CsV u sz ty us S ∧ ∀ V, CsV u sz ty us V → ∀ x, S x = true → V x = true := by
  obtain ⟨v1, hF, a1, a2, a3⟩ := rRe2 fuel 0 v (by decide) (by decide)
  obtain ⟨v2, S2, hF2, b1, b2, b3, b4, b5⟩ := rRe23 hV fuel 0 v1 (fun _ => false) (by decide) (by decide) (hM.f10 a1) (fun x hx => a3 x (Nat.zero_le _) hx)
  have hv := hV 4 (by decide) (AZ_root (j := 0) (by decide))
  obtain ⟨v3, S3, hF3, c1, c2, c3, c4⟩ := rRe48 hV fuel 0 v2 S2 (by decide) (by decide) ((hM.f10 a1).f10 b1) b2 (fun j hj => b5 j (Nat.zero_le _) hj) (Or.inr (ct_pos (c := vl u 4) (by omega) (b5 0 (by decide) (by decide))))
  exact ⟨v3, S3, hF.trans (hF2.trans hF3), fun c hc => (c1 c hc).trans ((b1 c hc).trans (a1 c hc)), c2, c4, fun V hC => c3 V hC (b4 V hC (fun x hx => by cases hx))⟩
