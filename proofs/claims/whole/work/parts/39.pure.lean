/-! PURE: the reference's heap -/
def MH (u v : St) (sz ty : Nat → Nat) (us : Nat → Bool) : Prop :=
  (∀ t, t < 4 → v 1 t = nI (sz t) ∧ 1 ≤ sz t ∧ sz t ≤ 6 ∧ v 2 t = u 2 t) ∧ (∀ b, 1 ≤ b → b ≤ 24 → v 7 b = if us b = true then nI (ty b) else -1) ∧ (∀ b, us b = true → 1 ≤ b ∧ b ≤ 24 ∧ ty b < 4) ∧ (∀ k, k < 4 → v 5 k = u 3 k ∧ v 6 k = u 3 (4 + k)) ∧ ∀ j, 6 ≤ j → j < 150 → v 8 j = u 3 (j + 2)
def VC (u : St) (sz ty : Nat → Nat) (us : Nat → Bool) : Prop := ∀ c, c < 152 → AZ (pt u sz ty) us c = true → u 3 c = nI (vl u c) ∧ vl u c ≤ 24
theorem MH.of {u v v' : St} {sz ty : Nat → Nat} {us : Nat → Bool} (h : MH u v sz ty us) (h1 : v' 1 = v 1) (h2 : v' 2 = v 2) (h5 : v' 5 = v 5) (h6 : v' 6 = v 6) (h7 : v' 7 = v 7) (h8 : v' 8 = v 8) : MH u v' sz ty us := by
  unfold MH; rw [h1, h2, h5, h6, h7, h8]; exact h
theorem rIsPtr {u v : St} {sz ty : Nat → Nat} {us : Nat → Bool} (h : MH u v sz ty us) {b w : Nat} (hb : us b = true) : F_X3_isPointer v (nI b) (nI w) = some (if pb (u 2 (ty b)) w = true then 1 else 0, v) := by
  have hr := h.2.2.1 b hb
  unfold F_X3_isPointer
  simp only [okN (show b < 25 by omega) (by decide), ↓reduceIte, nI_clamp (show b < 2 ^ 31 by omega), h.2.1 b hr.1 hr.2.1, hb]
  simp only [okN hr.2.2 (by decide), ↓reduceIte, nI_clamp (show ty b < 2 ^ 31 by omega), (h.1 (ty b) hr.2.2).2.2.2]
  by_cases hp : (u 2 (ty b) >>> (nI w &&& 31)) &&& 1 = 1
  · rw [if_pos hp, if_pos (by simp [pb, hp])]
  · rw [if_neg hp, if_neg (by simp [pb, hp])]
theorem pt_pb {u : St} {sz ty : Nat → Nat} {b w : Nat} (h : w < sz (ty b)) : pt u sz ty b w = pb (u 2 (ty b)) w := by unfold pt; simp [h]
theorem pt_ge {u : St} {sz ty : Nat → Nat} {b w : Nat} (h : sz (ty b) ≤ w) : pt u sz ty b w = false := by unfold pt; simp; omega
theorem AZ_eq {P : Nat → Nat → Bool} {Z : Nat → Bool} {b w : Nat} (hb : 1 ≤ b) (hw : w < 6) : AZ P Z (6 * b + 2 + w) = (P b w && Z b) := by
  unfold AZ
  simp [show (6 * b + 2 + w - 2) / 6 = b by omega, show (6 * b + 2 + w - 2) % 6 = w by omega, show ¬ 6 * b + 2 + w < 8 by omega, show 8 ≤ 6 * b + 2 + w by omega]
/-- the counts so far: of the cells below n -/
def cx (u : St) (sz ty : Nat → Nat) (us : Nat → Bool) (x n : Nat) : Nat := ct (fun c => AZ (pt u sz ty) us c && (vl u c == x)) n
theorem cx_s {u : St} {sz ty : Nat → Nat} {us : Nat → Bool} {x n : Nat} : cx u sz ty us x (n + 1) = cx u sz ty us x n + (if (AZ (pt u sz ty) us n && (vl u n == x)) = true then 1 else 0) := rfl
theorem cx_off {u : St} {sz ty : Nat → Nat} {us : Nat → Bool} {b x : Nat} (hb : 1 ≤ b) : ∀ (d w : Nat), w + d = 6 → (∀ k, w ≤ k → k < 6 → (pt u sz ty b k && us b) = false) → cx u sz ty us x (6 * b + 8) = cx u sz ty us x (6 * b + 2 + w)
  | 0, w, h, _ => by rw [show 6 * b + 2 + w = 6 * b + 8 by omega]
  | d + 1, w, h, hz => by
    rw [cx_off hb d (w + 1) (by omega) (fun k k1 k2 => hz k (by omega) k2), show 6 * b + 2 + (w + 1) = 6 * b + 2 + w + 1 by omega, cx_s, AZ_eq hb (by omega), hz w (by omega) (by omega)]
    simp
set_option maxHeartbeats 1000000 in
theorem rCount71 {u : St} {sz ty : Nat → Nat} {us : Nat → Bool} (hV : VC u sz ty us) {b : Nat} (hb : us b = true) {k51 : St → Int32 → Option (Int32 × St)} :
    ∀ (n w : Nat) (v : St), 7 ≤ n + w → w ≤ sz (ty b) → MH u v sz ty us → (∀ x, x ≤ 24 → v 9 x = nI (cx u sz ty us x (6 * b + 2 + w))) →
      ∃ v', L_X3_countAll_71 k51 n v (nI b) (nI w) = k51 v' (nI (b + 1)) ∧ (∀ c, c ≠ 9 → v' c = v c) ∧ ∀ x, x ≤ 24 → v' 9 x = nI (cx u sz ty us x (6 * b + 8)) := by
  intro n
  induction n with
  | zero =>
    intro w v h1 h2 hM
    have := hM.1 (ty b) (hM.2.2.1 b hb).2.2
    omega
  | succ n ih =>
    intro w v h1 h2 hM hx
    have hr := hM.2.2.1 b hb
    have hs := hM.1 (ty b) hr.2.2
    show ∃ v', F_X3_countAll_71 k51 (L_X3_countAll_71 k51 n) v (nI b) (nI w) = _ ∧ _
    unfold F_X3_countAll_71
    simp only [okN (show b < 25 by omega) (by decide), ↓reduceIte, nI_clamp (show b < 2 ^ 31 by omega), hM.2.1 b hr.1 hr.2.1, hb]
    simp only [okN hr.2.2 (by decide), ↓reduceIte, nI_clamp (show ty b < 2 ^ 31 by omega), hs.1, nI_leI (show sz (ty b) < 2 ^ 31 by omega) (show w < 2 ^ 31 by omega), nI_1]
    by_cases hw : sz (ty b) ≤ w
    · rw [if_pos hw]
      exact ⟨v, rfl, fun _ _ => rfl, fun x hx2 => by rw [hx x hx2, cx_off hr.1 (6 - w) w (by omega) (fun k k1 k2 => by rw [pt_ge (by omega)]; rfl)]⟩
    · rw [if_neg hw, rIsPtr hM hb]
      have hw6 : w < 6 := by omega
      have hpp : pt u sz ty b w = pb (u 2 (ty b)) w := pt_pb (by omega)
      by_cases hp : pb (u 2 (ty b)) w = true
      · have hA : AZ (pt u sz ty) us (6 * b + 2 + w) = true := by rw [AZ_eq hr.1 hw6, hpp, hp, hb]; rfl
        have hv := hV (6 * b + 2 + w) (by omega) hA
        have e1 : (6 : Int32) * nI b + nI w = nI (6 * b + w) := by rw [show (6 : Int32) * nI b = nI (6 * b) from pk_mul 6 b, nI_add]
        rw [if_pos hp]
        simp only [Option.bind_some, show ¬ ((1 : Int32) = 0) by decide, ↓reduceIte, e1, nI_clamp (show 6 * b + w < 2 ^ 31 by omega), okN (show 6 * b + w < 150 by omega) (by decide), hM.2.2.2.2 (6 * b + w) (by omega) (by omega), show 6 * b + w + 2 = 6 * b + 2 + w by omega]
        generalize hy : vl u (6 * b + 2 + w) = y at hv
        simp only [hv.1, nI_clamp (show y < 2 ^ 31 by omega), okN (show y < 25 by omega) (by decide), ↓reduceIte]
        obtain ⟨v1, hF, a1, a2⟩ := ih (w + 1) (su v 9 y (v 9 y + 1)) (by omega) (by omega) (hM.of (su_c (by decide)) (su_c (by decide)) (su_c (by decide)) (su_c (by decide)) (su_c (by decide)) (su_c (by decide))) (fun x hx2 => by
          rw [su_v, show 6 * b + 2 + (w + 1) = 6 * b + 2 + w + 1 by omega, cx_s, hA, hy]
          by_cases e : x = y
          · subst e; simp [hx x hx2, nI_1]
          · simp [e, hx x hx2, Ne.symm e])
        exact ⟨v1, hF, fun c hc => (a1 c hc).trans (su_c hc), a2⟩
      · have hA : AZ (pt u sz ty) us (6 * b + 2 + w) = false := by rw [AZ_eq hr.1 hw6, hpp]; simp [hp]
        rw [if_neg hp]
        simp only [Option.bind_some, ↓reduceIte]
        exact ih (w + 1) v (by omega) (by omega) hM (fun x hx2 => by
          rw [show 6 * b + 2 + (w + 1) = 6 * b + 2 + w + 1 by omega, cx_s, hA]; exact hx x hx2)
theorem rCount51 {u : St} {sz ty : Nat → Nat} {us : Nat → Bool} (hV : VC u sz ty us) :
    ∀ (n b : Nat) (v : St), 26 ≤ n + b → 1 ≤ b → b ≤ 25 → MH u v sz ty us → (∀ x, x ≤ 24 → v 9 x = nI (cx u sz ty us x (6 * b + 2))) →
      ∃ v', L_X3_countAll_51 n v (nI b) = some (0, v') ∧ (∀ c, c ≠ 9 → v' c = v c) ∧ ∀ x, x ≤ 24 → v' 9 x = nI (nA (AZ (pt u sz ty) us) (vl u) x) := by
  intro n
  induction n with
  | zero => intro b v h1 h2 h3; omega
  | succ n ih =>
    intro b v h1 h2 h3 hM hx
    show ∃ v', F_X3_countAll_51 (L_X3_countAll_51 n) v (nI b) = _ ∧ _
    unfold F_X3_countAll_51
    by_cases hb : b = 25
    · subst hb
      rw [if_pos (by decide)]
      exact ⟨v, rfl, fun _ _ => rfl, hx⟩
    · rw [if_neg (by rw [Int32.le_iff_toInt_le, nT (by omega)]; simp; omega)]
      simp only [okN (show b < 25 by omega) (by decide), ↓reduceIte, nI_clamp (show b < 2 ^ 31 by omega), hM.2.1 b h2 (by omega), nI_1]
      cases hub : us b with
      | true =>
        have hr := hM.2.2.1 b hub
        rw [if_pos rfl, if_pos (show (0 : Int32) ≤ nI (ty b) from (nI_leI (a := 0) (b := ty b) (by omega) (by omega)).mpr (Nat.zero_le _))]
        obtain ⟨v1, hF, a1, a2⟩ := rCount71 (k51 := L_X3_countAll_51 n) hV hub fuel 0 v (by decide) (Nat.zero_le _) hM hx
        obtain ⟨v2, hF2, b1, b2⟩ := ih (b + 1) v1 (by omega) (by omega) (by omega) (hM.of (a1 1 (by decide)) (a1 2 (by decide)) (a1 5 (by decide)) (a1 6 (by decide)) (a1 7 (by decide)) (a1 8 (by decide))) a2
        exact ⟨v2, hF.trans hF2, fun c hc => (b1 c hc).trans (a1 c hc), b2⟩
      | false =>
        rw [if_neg (show ¬ (0 : Int32) ≤ (if false = true then nI (ty b) else -1) from (by decide : ¬ (0 : Int32) ≤ -1))]
        exact ih (b + 1) v (by omega) (by omega) (by omega) hM (fun x hx2 => by
          rw [show 6 * (b + 1) + 2 = 6 * b + 8 by omega, cx_off h2 6 0 (by omega) (fun k _ _ => by rw [hub, Bool.and_false])]; exact hx x hx2)
theorem rCount23 {u : St} {sz ty : Nat → Nat} {us : Nat → Bool} (hV : VC u sz ty us) :
    ∀ (n k : Nat) (v : St), 5 ≤ n + k → k ≤ 4 → MH u v sz ty us → (∀ x, x ≤ 24 → v 9 x = nI (cx u sz ty us x (4 + k))) →
      ∃ v', L_X3_countAll_23 n v (nI k) = some (0, v') ∧ (∀ c, c ≠ 9 → v' c = v c) ∧ ∀ x, x ≤ 24 → v' 9 x = nI (nA (AZ (pt u sz ty) us) (vl u) x) := by
  intro n
  induction n with
  | zero => intro k v h1 h2; omega
  | succ n ih =>
    intro k v h1 h2 hM hx
    show ∃ v', F_X3_countAll_23 (L_X3_countAll_23 n) v (nI k) = _ ∧ _
    unfold F_X3_countAll_23
    by_cases hk : k = 4
    · subst hk
      rw [if_pos (by decide)]
      exact rCount51 hV fuel 1 v (by decide) (by decide) (by decide) hM hx
    · rw [if_neg (by rw [Int32.le_iff_toInt_le, nT (by omega)]; simp; omega)]
      have hA : AZ (pt u sz ty) us (4 + k) = true := AZ_root (by omega)
      have hv := hV (4 + k) (by omega) hA
      simp only [okN (show k < 4 by omega) (by decide), ↓reduceIte, nI_clamp (show k < 2 ^ 31 by omega), (hM.2.2.2.1 k (by omega)).2, nI_1]
      generalize hy : vl u (4 + k) = y at hv
      simp only [hv.1, nI_clamp (show y < 2 ^ 31 by omega), okN (show y < 25 by omega) (by decide), ↓reduceIte]
      obtain ⟨v1, hF, a1, a2⟩ := ih (k + 1) (su v 9 y (v 9 y + 1)) (by omega) (by omega) (hM.of (su_c (by decide)) (su_c (by decide)) (su_c (by decide)) (su_c (by decide)) (su_c (by decide)) (su_c (by decide))) (fun x hx2 => by
        rw [su_v, show 4 + (k + 1) = 4 + k + 1 by omega, cx_s, hA, hy]
        by_cases e : x = y
        · subst e; simp [hx x hx2, nI_1]
        · simp [e, hx x hx2, Ne.symm e])
      exact ⟨v1, hF, fun c hc => (a1 c hc).trans (su_c hc), a2⟩
theorem rCount2 : ∀ (n b : Nat) (v : St), 26 ≤ n + b → b ≤ 25 → ∃ v', L_X3_countAll_2 n v (nI b) = L_X3_countAll_23 fuel v' 0 ∧ (∀ c, c ≠ 9 → v' c = v c) ∧ (∀ x, x < b → v' 9 x = v 9 x) ∧ ∀ x, b ≤ x → x ≤ 24 → v' 9 x = 0 := by
  intro n
  induction n with
  | zero => intro b v h1 h2; omega
  | succ n ih =>
    intro b v h1 h2
    show ∃ v', F_X3_countAll_2 (L_X3_countAll_2 n) v (nI b) = _ ∧ _
    unfold F_X3_countAll_2
    by_cases hb : b = 25
    · subst hb
      rw [if_pos (by decide)]
      exact ⟨v, rfl, fun _ _ => rfl, fun _ _ => rfl, fun x a c => by omega⟩
    · rw [if_neg (by rw [Int32.le_iff_toInt_le, nT (by omega)]; simp; omega)]
      simp only [okN (show b < 25 by omega) (by decide), ↓reduceIte, nI_clamp (show b < 2 ^ 31 by omega), nI_1]
      obtain ⟨v1, hF, a1, a2, a3⟩ := ih (b + 1) (su v 9 b 0) (by omega) (by omega)
      refine ⟨v1, hF, fun c hc => (a1 c hc).trans (su_c hc), fun x hx => ?_, fun x x1 x2 => ?_⟩
      · rw [a2 x (by omega), su_v]; simp [show x ≠ b by omega]
      · by_cases e : x = b
        · subst e; rw [a2 x (by omega), su_v]; simp
        · exact a3 x (by omega) x2
theorem rCountAll {u v : St} {sz ty : Nat → Nat} {us : Nat → Bool} (hV : VC u sz ty us) (hM : MH u v sz ty us) :
    ∃ v', F_X3_countAll v = some (0, v') ∧ (∀ c, c ≠ 9 → v' c = v c) ∧ ∀ x, x ≤ 24 → v' 9 x = nI (nA (AZ (pt u sz ty) us) (vl u) x) := by
  obtain ⟨v1, hF, a1, a2, a3⟩ := rCount2 fuel 0 v (by decide) (by decide)
  obtain ⟨v2, hF2, b1, b2⟩ := rCount23 hV fuel 0 v1 (by decide) (by decide) (hM.of (a1 1 (by decide)) (a1 2 (by decide)) (a1 5 (by decide)) (a1 6 (by decide)) (a1 7 (by decide)) (a1 8 (by decide))) (fun x hx => by
    rw [a3 x (Nat.zero_le _) hx]
    have : cx u sz ty us x (4 + 0) = 0 := ct_zero (fun c hc => by
      have : AZ (pt u sz ty) us c = false := by
        cases h : AZ (pt u sz ty) us c with
        | false => rfl
        | true => have := AZ_ge h; omega
      simp [this])
    rw [this]; rfl)
  exact ⟨v2, hF.trans hF2, fun c hc => (b1 c hc).trans (a1 c hc), b2⟩
