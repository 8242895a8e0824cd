/-! PURE: the class's small methods -/
theorem nT {n : Nat} (h : n < 2 ^ 31) : (nI n).toInt = (n : Int) := nI_toInt h
theorem bs_rng {u : St} {sz ty : Nat → Nat} {us : Nat → Bool} (h : Bs u sz ty us) {b : Nat} (hb : us b = true) : 1 ≤ b ∧ b ≤ 24 := by
  obtain ⟨-, -, -, h0, h24⟩ := h
  constructor
  · rcases Nat.eq_zero_or_pos b with h1 | h1
    · rw [h1, h0] at hb; cases hb
    · exact h1
  · rcases Nat.lt_or_ge 24 b with h1 | h1
    · rw [h24 b h1] at hb; cases hb
    · exact h1
theorem of_clamp {x : Int32} (h : 1 ≤ x.toNatClampNeg) : x = nI x.toNatClampNeg := by
  apply Int32.toInt_inj.mp
  have hN : x.toNatClampNeg = x.toInt.toNat := rfl
  have hlt : x.toInt < 2 ^ 31 := Int32.toInt_lt x
  rw [nT (by rw [hN]; omega), hN]
  omega
theorem in_ck {n N : Nat} (h : n < N) (hN : N < 2 ^ 31) : ¬ (nI n < 0 ∨ N ≤ (nI n).toNatClampNeg) := nI_in h hN
theorem okI {n N : Nat} (h : n < N) (hN : N < 2 ^ 31) : (nI n < 0 ∨ N ≤ (nI n).toNatClampNeg) ↔ False := ⟨fun q => in_ck h hN q, fun q => q.elim⟩
theorem okN {n N : Nat} (h : n < N) (hN : N < 2 ^ 31) : (nI n < 0 ∨ N ≤ n) ↔ False := ⟨fun q => q.elim (nI_pos (by omega)) (fun q => by omega), fun q => q.elim⟩
theorem sCellOfWord (u : St) {b w : Nat} (h1 : 1 ≤ b) (h2 : b ≤ 24) (hw : w < 6) : F_X0_cellOfWord u (nI b) (nI w) = some (nI (6 * b + 2 + w), u) := by
  unfold F_X0_cellOfWord
  have e1 : nI b - 1 = nI (b - 1) := pk_sub (a := b) (b := 1) h1
  have e2 : nI (b - 1) * 6 = nI ((b - 1) * 6) := pk_mul (b - 1) 6
  have e3 : (8 : Int32) + nI ((b - 1) * 6) = nI (8 + (b - 1) * 6) := nI_add 8 _
  rw [e1, e2, e3, nI_add, show 8 + (b - 1) * 6 + w = 6 * b + 2 + w by omega]
theorem sRead (u : St) {c : Nat} (h : c < 152) : F_X0_read u (nI c) = some (u 3 c, u) := by
  unfold F_X0_read
  rw [if_neg (in_ck h (by decide)), nI_clamp (by omega)]
theorem sHasWord {u : St} {sz ty : Nat → Nat} {us : Nat → Bool} (h : Bs u sz ty us) (x y : Int32) : F_X0_hasWord u x y = some (if us x.toNatClampNeg = true ∧ 0 ≤ y.toInt ∧ y.toInt < sz (ty x.toNatClampNeg) then 1 else 0, u) := by
  unfold F_X0_hasWord
  rw [sIsBlock h]
  show (if (if us x.toNatClampNeg = true then (1 : Int32) else 0) = 0 then _ else _) = _
  by_cases hb : us x.toNatClampNeg = true
  · have hr := bs_rng h hb
    have hx := of_clamp hr.1
    generalize x.toNatClampNeg = b at hb hr hx
    subst hx
    rw [if_pos hb, if_neg (by decide)]
    have h5 := h.2.1 b hr.2
    have h1 := h.1 (ty b) h5.2
    by_cases hy : y < 0
    · rw [if_pos hy, if_neg]
      rw [Int32.lt_iff_toInt_lt] at hy; simp at hy; omega
    · rw [if_neg hy]
      simp only [okN (show b < 25 by omega) (by decide), ↓reduceIte, nI_clamp (show b < 2 ^ 31 by omega), h5.1]
      simp only [okN h5.2 (by decide), ↓reduceIte, nI_clamp (show ty b < 2 ^ 31 by omega), h1.1]
      rw [Int32.lt_iff_toInt_lt] at hy; simp at hy
      by_cases hz : nI (sz (ty b)) ≤ y
      · rw [if_pos hz, if_neg]
        rw [Int32.le_iff_toInt_le, nT (by omega)] at hz; omega
      · rw [if_neg hz, if_pos]
        rw [Int32.le_iff_toInt_le, nT (by omega)] at hz
        exact ⟨hb, by omega, by omega⟩
  · rw [if_neg hb, if_pos rfl, if_neg (fun q => hb q.1)]
theorem sHasWordN {u : St} {sz ty : Nat → Nat} {us : Nat → Bool} (h : Bs u sz ty us) {b w : Nat} (hb : b ≤ 24) (hw : w < 100) : F_X0_hasWord u (nI b) (nI w) = some (if us b = true ∧ w < sz (ty b) then 1 else 0, u) := by
  rw [sHasWord h, nI_clamp (by omega), nT (by omega)]
  congr 2
  by_cases h1 : us b = true ∧ w < sz (ty b)
  · rw [if_pos h1, if_pos ⟨h1.1, by omega, by omega⟩]
  · rw [if_neg h1, if_neg (fun q => h1 ⟨q.1, by omega⟩)]
theorem sIsMapped {u : St} {sz ty : Nat → Nat} {us : Nat → Bool} (h : Bs u sz ty us) {b w : Nat} (hb : b ≤ 24) : F_X0_isMapped u (nI b) (nI w) = some (if pb (u 2 (ty b)) w = true then 1 else 0, u) := by
  have h5 := h.2.1 b hb
  unfold F_X0_isMapped
  simp only [okN (show b < 25 by omega) (by decide), ↓reduceIte, nI_clamp (show b < 2 ^ 31 by omega), h5.1]
  simp only [okN h5.2 (by decide), ↓reduceIte, nI_clamp (show ty b < 2 ^ 31 by omega)]
  by_cases hp : (u 2 (ty b) >>> (nI w &&& 31)) &&& 1 = 1
  · rw [if_pos hp, if_pos (by simp [pb, hp])]
  · rw [if_neg hp, if_neg (by simp [pb, hp])]
theorem sIsPointerWord {u : St} {sz ty : Nat → Nat} {us : Nat → Bool} (h : Bs u sz ty us) {b w : Nat} (hb : b ≤ 24) (hw : w < 100) : F_X0_isPointerWord u (nI b) (nI w) = some (if us b = true ∧ pt u sz ty b w = true then 1 else 0, u) := by
  unfold F_X0_isPointerWord
  rw [sHasWordN h hb hw]
  show (if (if us b = true ∧ w < sz (ty b) then (1 : Int32) else 0) = 0 then _ else (F_X0_isMapped u (nI b) (nI w)).bind _) = _
  by_cases h1 : us b = true ∧ w < sz (ty b)
  · rw [if_pos h1, if_neg (by decide), sIsMapped h hb]
    show (if (if pb (u 2 (ty b)) w = true then (1 : Int32) else 0) = 0 then _ else _) = _
    by_cases hp : pb (u 2 (ty b)) w = true
    · rw [if_pos hp, if_neg (by decide), if_pos ⟨h1.1, by simp [pt, h1.2, hp]⟩]
    · rw [if_neg hp, if_pos rfl, if_neg (fun q => hp (by have := q.2; simp [pt] at this; exact this.2))]
  · rw [if_neg h1, if_pos rfl, if_neg (fun q => h1 ⟨q.1, by have := q.2; simp [pt] at this; exact this.1⟩)]
/-- an operand is a cell of the frame, or word w behind pointer k -/
theorem sWordOf (u : St) {k w : Nat} (hk : k < 4) (hw : w < 8) : F_X0_wordOf u (nI (16 + 8 * k + w)) = some (nI w, u) := by
  unfold F_X0_wordOf
  have e1 : nI (16 + 8 * k + w) - 16 = nI (8 * k + w) := by
    rw [show nI (16 + 8 * k + w) - 16 = nI (16 + 8 * k + w - 16) from pk_sub (a := 16 + 8 * k + w) (b := 16) (by omega)]
    congr 1; omega
  have e2 : nI (8 * k + w) - nI (8 * k + w) / 8 * 8 = nI ((8 * k + w) % 8) := pk_rem (d := 8) (by omega) (by decide) (by decide)
  rw [e1, e2, show (8 * k + w) % 8 = w by omega]
theorem sBlockOf (u : St) {k w : Nat} (hk : k < 4) (hw : w < 8) : F_X0_blockOf u (nI (16 + 8 * k + w)) = some (u 3 (4 + k), u) := by
  unfold F_X0_blockOf
  have e1 : nI (16 + 8 * k + w) - 16 = nI (8 * k + w) := by
    rw [show nI (16 + 8 * k + w) - 16 = nI (16 + 8 * k + w - 16) from pk_sub (a := 16 + 8 * k + w) (b := 16) (by omega)]
    congr 1; omega
  have e2 : nI (8 * k + w) / 8 = nI ((8 * k + w) / 8) := pk_div (d := 8) (by omega) (by decide) (by decide)
  have e3 : (4 : Int32) + nI k = nI (4 + k) := nI_add 4 k
  rw [e1, e2, show (8 * k + w) / 8 = k by omega, e3, if_neg (in_ck (by omega) (by decide)), nI_clamp (by omega)]
/-! PURE: what changes counts -/
theorem sGiveBack (u : St) {b : Nat} (hb : b ≤ 24) : F_X0_giveBack u (nI b) = some (0, su (su (su u 4 b 0) 0 9 (u 0 9 - 1)) 0 10 (u 0 10 + 1)) := by
  unfold F_X0_giveBack
  rw [if_neg (in_ck (by omega) (by decide)), nI_clamp (by omega)]
  simp only [sb, su_v]
  simp
theorem sEnqueue (u : St) {b q : Nat} (hq : u 0 8 = nI q) (h : q < 24) : F_X0_enqueue u (nI b) = some (0, su (su u 8 q (nI b)) 0 8 (nI (q + 1))) := by
  unfold F_X0_enqueue
  rw [hq, if_neg (by rw [Int32.le_iff_toInt_le, nT (by omega)]; simp; omega), if_neg (in_ck h (by decide)), nI_clamp (by omega)]
  simp only [sb, su_v]
  simp [hq, nI_1]
