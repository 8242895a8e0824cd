/-! PURE: counting -/
def ct (p : Nat → Bool) : Nat → Nat
  | 0 => 0
  | n + 1 => ct p n + (if p n = true then 1 else 0)
theorem ct_congr {p q : Nat → Bool} : ∀ {n : Nat}, (∀ c, c < n → p c = q c) → ct p n = ct q n
  | 0, _ => rfl
  | n + 1, h => by
    show ct p n + _ = ct q n + _
    rw [ct_congr (fun c hc => h c (by omega)), h n (by omega)]
theorem ct_le (p : Nat → Bool) : ∀ n : Nat, ct p n ≤ n
  | 0 => Nat.le_refl 0
  | n + 1 => by
    have := ct_le p n
    show ct p n + _ ≤ n + 1
    split <;> omega
theorem ct_pos {p : Nat → Bool} : ∀ {n c : Nat}, c < n → p c = true → 1 ≤ ct p n
  | 0, c, h, _ => by omega
  | n + 1, c, h, hp => by
    show 1 ≤ ct p n + _
    by_cases hc : c = n
    · subst hc; rw [if_pos hp]; omega
    · have := ct_pos (p := p) (n := n) (c := c) (by omega) hp
      omega
theorem ct_ex {p : Nat → Bool} : ∀ {n : Nat}, 1 ≤ ct p n → ∃ c, c < n ∧ p c = true
  | 0, h => by simp [ct] at h
  | n + 1, h => by
    by_cases hp : p n = true
    · exact ⟨n, by omega, hp⟩
    · have h1 : 1 ≤ ct p n := by
        have h2 : 1 ≤ ct p n + (if p n = true then 1 else 0) := h
        rw [if_neg hp] at h2; omega
      obtain ⟨c, h3, h4⟩ := ct_ex h1
      exact ⟨c, by omega, h4⟩
theorem ct_zero {p : Nat → Bool} {n : Nat} (h : ∀ c, c < n → p c = false) : ct p n = 0 := by
  rcases Nat.eq_zero_or_pos (ct p n) with h1 | h1
  · exact h1
  · obtain ⟨c, h2, h3⟩ := ct_ex h1
    rw [h c h2] at h3; cases h3
theorem ct_mono {p q : Nat → Bool} : ∀ {n : Nat}, (∀ c, c < n → p c = true → q c = true) → ct p n ≤ ct q n
  | 0, _ => Nat.le_refl 0
  | n + 1, h => by
    have h1 := ct_mono (p := p) (q := q) (n := n) (fun c hc => h c (by omega))
    show ct p n + _ ≤ ct q n + _
    by_cases hp : p n = true
    · rw [if_pos hp, if_pos (h n (by omega) hp)]; omega
    · rw [if_neg hp]; omega
/-- q is p but for c, which p has and q hasn't -/
theorem ct_del {p q : Nat → Bool} {c : Nat} : ∀ {n : Nat}, c < n → p c = true → q c = false → (∀ j, j < n → j ≠ c → q j = p j) → ct p n = ct q n + 1
  | 0, h, _, _, _ => by omega
  | n + 1, h, hp, hq, ho => by
    show ct p n + _ = ct q n + _ + 1
    by_cases hc : c = n
    · subst hc
      rw [if_pos hp, if_neg (by rw [hq]; decide), ct_congr (p := p) (q := q) (fun j hj => (ho j (by omega) (by omega)).symm)]
    · have h1 := ct_del (p := p) (q := q) (n := n) (c := c) (by omega) hp hq (fun j hj => ho j (by omega))
      rw [h1, ho n (by omega) (fun e => hc e.symm)]
      omega
theorem ct_split {p q r : Nat → Bool} : ∀ {n : Nat}, (∀ c, c < n → p c = (q c || r c)) → (∀ c, c < n → q c = true → r c = false) → ct p n = ct q n + ct r n
  | 0, _, _ => rfl
  | n + 1, h, hd => by
    have h1 := ct_split (p := p) (q := q) (r := r) (n := n) (fun c hc => h c (by omega)) (fun c hc => hd c (by omega))
    show ct p n + _ = ct q n + _ + (ct r n + _)
    rw [h1, h n (by omega)]
    have h2 := hd n (by omega)
    cases hq : q n <;> cases hr : r n <;> simp_all <;> omega
/-! PURE: numbers -/
theorem su_c {u : St} {c k : Nat} {v : Int32} {i : Nat} (h : ¬ i = c) : su u c k v i = u i := by
  show (bif Nat.beq i c then upd (u i) k v else u i) = u i
  rw [show Nat.beq i c = false by rcases hb : Nat.beq i c with _ | _; rfl; exact absurd (Nat.eq_of_beq_eq_true hb) h]; rfl
theorem su_s {u : St} {c k : Nat} {v : Int32} : su u c k v c = upd (u c) k v := by
  show (bif Nat.beq c c then upd (u c) k v else u c) = upd (u c) k v
  rw [Nat.beq_refl]; rfl
theorem su_v (u : St) (c k : Nat) (v : Int32) (i j : Nat) : su u c k v i j = if i = c ∧ j = k then v else u i j := by
  by_cases h : i = c
  · subst h; rw [su_s]; simp [upd]
  · rw [su_c h]; simp [h]
theorem nI_01 : (nI 0 = 0) ∧ (nI 1 = 1) := ⟨rfl, rfl⟩
/-! PURE: the class's heap -/
def pb (m : Int32) (w : Nat) : Bool := decide (((m >>> (nI w &&& 31)) &&& 1) = 1)
/-- a map has no bit from its type's size on -/
def mz (m : Int32) (s : Nat) : Prop := ∀ w, w < 6 → s ≤ w → pb m w = false
def Bs (u : St) (sz ty : Nat → Nat) (us : Nat → Bool) : Prop :=
  (∀ t, t < 4 → u 1 t = nI (sz t) ∧ 1 ≤ sz t ∧ sz t ≤ 6 ∧ mz (u 2 t) (sz t)) ∧ (∀ b, b ≤ 24 → u 5 b = nI (ty b) ∧ ty b < 4) ∧ (∀ b, 1 ≤ b → b ≤ 24 → u 4 b = if us b = true then 1 else 0) ∧ us 0 = false ∧ ∀ b, 24 < b → us b = false
def pt (u : St) (sz ty : Nat → Nat) (b w : Nat) : Bool := decide (w < sz (ty b)) && pb (u 2 (ty b)) w
theorem sIsBlock {u : St} {sz ty : Nat → Nat} {us : Nat → Bool} (h : Bs u sz ty us) (x : Int32) : F_X0_isBlock u x = some (if us x.toNatClampNeg = true then 1 else 0, u) := by
  obtain ⟨-, -, hu, h0, h24⟩ := h
  have hN : x.toNatClampNeg = x.toInt.toNat := rfl
  unfold F_X0_isBlock
  by_cases h1 : x < 1
  · rw [if_pos h1]
    rw [Int32.lt_iff_toInt_lt] at h1
    have h2 : x.toInt.toNat = 0 := by simp at h1; omega
    rw [hN, h2, h0]; rfl
  · rw [if_neg h1]
    rw [Int32.lt_iff_toInt_lt] at h1
    simp at h1
    by_cases h2 : 24 < x
    · rw [if_pos h2]
      rw [Int32.lt_iff_toInt_lt] at h2
      simp at h2
      rw [hN, h24 _ (by omega)]; rfl
    · rw [if_neg h2]
      rw [Int32.lt_iff_toInt_lt] at h2
      simp at h2
      rw [if_neg (by rw [Int32.lt_iff_toInt_lt, hN]; simp; omega), hu x.toNatClampNeg (by rw [hN]; omega) (by rw [hN]; omega)]
      cases us x.toNatClampNeg <;> rfl
/-! PURE: maps -/
theorem shr_bv (m : Int32) {j : Nat} (hj : j < 7) : (m >>> (nI j &&& 31)).toBitVec = m.toBitVec.sshiftRight j := by
  have e : ∀ j, j < 7 → ((nI j &&& 31).toBitVec.smod 32).toNat = j := by decide +kernel
  show m.toBitVec.sshiftRight (((nI j &&& 31).toBitVec.smod 32).toNat) = _
  rw [e j hj]
theorem mz_type {m : Int32} {k : Nat} (hk : k < 7) (h : m >>> (nI k &&& 31) = 0) : mz m k := by
  intro w hw hkw
  have e1 : (m >>> (nI w &&& 31)) = 0 := by
    apply Int32.toBitVec_inj.mp
    have h2 : m.toBitVec.sshiftRight k = 0#32 := by rw [← shr_bv m hk, h]; rfl
    rw [shr_bv m (by omega), show w = k + (w - k) by omega, BitVec.sshiftRight_add, h2]
    simp
  unfold pb
  rw [e1]; decide
theorem mz_0 (s : Nat) : mz 0 s := by
  have e : ∀ w, w < 6 → pb 0 w = false := by decide +kernel
  exact fun w hw _ => e w hw
