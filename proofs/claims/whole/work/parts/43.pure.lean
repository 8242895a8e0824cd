/-! PURE: the invariant, and the small calls -/
def Opd (x : Int32) : Prop := (∃ o, o < 8 ∧ x = nI o) ∨ ∃ k w, k < 4 ∧ w < 8 ∧ x = nI (16 + 8 * k + w)
def Rl (r x : Int32) : Prop := (r = 1 ∨ r = 2 → Opd x) ∧ (r = 3 → ∃ p, p < 40 ∧ x = nI p) ∧ (r = 4 → ∃ t, t < 4 ∧ x = nI t)
def Hp (u v : St) : Prop := ∃ sz ty us, HI u sz ty us 0 ∧ MH u v sz ty us
def Pg (u v : St) (len : Nat) : Prop := u 9 4 = nI len ∧ v 0 3 = nI len ∧ len ≤ 40 ∧ ∀ p, p < len → ∃ o, o < 15 ∧ u 10 p = nI o ∧ (Rl (rlX o) (u 11 p) ∧ Rl (rlY o) (u 12 p) ∧ Rl (rlZ o) (u 13 p)) ∧ v 3 (4 * p) = u 10 p ∧ v 3 (4 * p + 1) = u 11 p ∧ v 3 (4 * p + 2) = u 12 p ∧ v 3 (4 * p + 3) = u 13 p
def Pl (u v : St) (nx dp : Nat) : Prop := u 14 4 = nI nx ∧ v 0 4 = nI nx ∧ nx ≤ 40 ∧ u 14 3 = nI dp ∧ v 0 5 = nI dp ∧ dp ≤ 8 ∧ ∀ i, i < dp → ∃ p, p ≤ 40 ∧ u 15 i = nI p ∧ v 4 i = nI p
def Ix (u v : St) : Prop := Hp u v ∧ v 0 6 = u 0 10 ∧ (∃ len, Pg u v len) ∧ ∃ nx dp, Pl u v nx dp
theorem HI.of {u u' : St} {sz ty : Nat → Nat} {us : Nat → Bool} {e : Nat} (h : HI u sz ty us e) (hu : ∀ c, 1 ≤ c → c ≤ 6 → u' c = u c) (h9 : u' 0 9 = u 0 9) : HI u' sz ty us e := by
  have e2 : pt u' sz ty = pt u sz ty := pt_static (hu 2 (by decide) (by decide))
  have e3 := hu 3 (by decide) (by decide)
  have ev : vl u' = vl u := by funext c; unfold vl; rw [e3]
  obtain ⟨a, b, c, d⟩ := h
  refine ⟨a.of (hu 1 (by decide) (by decide)) (hu 2 (by decide) (by decide)) (hu 4 (by decide) (by decide)) (hu 5 (by decide) (by decide)), h9.trans b, fun x x1 x2 => ?_, fun x hx => ?_⟩
  · rw [e2] at x2; rw [e3]; exact c x x1 x2
  · rw [e2, ev, hu 6 (by decide) (by decide)]; exact d x hx
theorem MH.ofu {u u' v : St} {sz ty : Nat → Nat} {us : Nat → Bool} (h : MH u v sz ty us) (h2 : u' 2 = u 2) (h3 : u' 3 = u 3) : MH u' v sz ty us := by
  unfold MH; rw [h2, h3]; exact h
theorem Hp.of {u v u' v' : St} (h : Hp u v) (hu : ∀ c, 1 ≤ c → c ≤ 6 → u' c = u c) (h9 : u' 0 9 = u 0 9) (hv : ∀ c, c = 1 ∨ c = 2 ∨ c = 5 ∨ c = 6 ∨ c = 7 ∨ c = 8 → v' c = v c) : Hp u' v' := by
  obtain ⟨sz, ty, us, a, b⟩ := h
  exact ⟨sz, ty, us, a.of hu h9, (b.of (hv 1 (by decide)) (hv 2 (by decide)) (hv 5 (by decide)) (hv 6 (by decide)) (hv 7 (by decide)) (hv 8 (by decide))).ofu (hu 2 (by decide) (by decide)) (hu 3 (by decide) (by decide))⟩
theorem Pg.of {u v u' v' : St} {len : Nat} (h : Pg u v len) (hu : ∀ c, 9 ≤ c → c ≤ 13 → u' c = u c) (h0 : v' 0 3 = v 0 3) (h3 : v' 3 = v 3) : Pg u' v' len := by
  unfold Pg; rw [hu 9 (by decide) (by decide), hu 10 (by decide) (by decide), hu 11 (by decide) (by decide), hu 12 (by decide) (by decide), hu 13 (by decide) (by decide), h0, h3]; exact h
theorem Pl.of {u v u' v' : St} {nx dp : Nat} (h : Pl u v nx dp) (h14 : u' 14 = u 14) (h15 : u' 15 = u 15) (h4 : v' 0 4 = v 0 4) (h5 : v' 0 5 = v 0 5) (hs : v' 4 = v 4) : Pl u' v' nx dp := by
  unfold Pl; rw [h14, h15, h4, h5, hs]; exact h
theorem su_o {u : St} {c k : Nat} {x : Int32} {i j : Nat} (h : ¬ (i = c ∧ j = k)) : su u c k x i j = u i j := by rw [su_v, if_neg h]
theorem su_e {u : St} {c k : Nat} {x : Int32} : su u c k x c k = x := by rw [su_v, if_pos ⟨rfl, rfl⟩]
theorem Ix.v7 {u v : St} {x : Int32} (h : Ix u v) : Ix u (su v 0 7 x) := by
  obtain ⟨a, b, ⟨len, c⟩, nx, dp, d⟩ := h
  exact ⟨a.of (fun _ _ _ => rfl) rfl (fun c hc => su_c (by omega)), (su_o (by decide)).trans b, ⟨len, c.of (fun _ _ _ => rfl) (su_o (by decide)) (su_c (by decide))⟩, nx, dp, d.of rfl rfl (su_o (by decide)) (su_o (by decide)) (su_c (by decide))⟩
theorem h10 : ((1 : Int32) = 0) ↔ False := ⟨fun h => absurd h (by decide), False.elim⟩
theorem rg (x : Int32) {N : Nat} (hN : N < 2 ^ 31) : (∃ k, k < N ∧ x = nI k) ∨ (x < 0 ∨ nI N ≤ x) := by
  by_cases h : x < 0
  · exact Or.inr (Or.inl h)
  · by_cases h2 : nI N ≤ x
    · exact Or.inr (Or.inr h2)
    · left
      rw [Int32.lt_iff_toInt_lt] at h
      rw [Int32.le_iff_toInt_le, nT hN] at h2
      simp at h
      refine ⟨x.toInt.toNat, by omega, Int32.toInt_inj.mp ?_⟩
      rw [nT (by omega)]; omega
theorem lt_le {n : Nat} {x : Int32} (h : n + 1 < 2 ^ 31) : nI n < x ↔ nI (n + 1) ≤ x := by
  rw [Int32.le_iff_toInt_le, Int32.lt_iff_toInt_lt, nT (by omega), nT h]; omega
theorem w_in {v : St} {a b k : Nat} {A B : Int32} (hA : A = nI a) (hB : B = nI b) (h1 : a ≤ k) (h2 : k ≤ b) (h3 : b < 2 ^ 31) : F_X3_within v (nI k) A B = some (1, v) := by
  unfold F_X3_within
  rw [hA, hB, if_neg (nI_nlt h1 (by omega)), if_neg (nI_nlt h2 (by omega))]
theorem w_out {v : St} {x A B : Int32} (h : x < A ∨ B < x) : F_X3_within v x A B = some (0, v) := by
  unfold F_X3_within
  by_cases h1 : x < A
  · rw [if_pos h1]
  · rw [if_neg h1, if_pos (h.resolve_left h1)]
theorem ito {α : Type} {x C : Int32} {A B : α} (h : x < 0 ∨ C ≤ x) : (if x < 0 then A else if C ≤ x then A else B) = A := by
  by_cases h1 : x < 0
  · rw [if_pos h1]
  · rw [if_neg h1, if_pos (h.resolve_left h1)]
theorem iti {α : Type} {k N : Nat} {C : Int32} {A B D : α} (hC : C = nI N) (h : k < N) (hN : N < 2 ^ 31) : (if nI k < 0 then A else if C ≤ nI k then D else B) = B := by
  rw [if_neg (nI_pos (by omega)), if_neg (by rw [hC, nI_leI hN (by omega)]; omega)]
theorem rIsBlock {u v : St} {sz ty : Nat → Nat} {us : Nat → Bool} (hM : MH u v sz ty us) (x : Int32) : F_X3_isBlock v x = some (if us x.toNatClampNeg = true then 1 else 0, v) := by
  unfold F_X3_isBlock
  rcases rg x (N := 25) (by decide) with ⟨k, hk, e⟩ | h
  · subst e
    rw [nI_clamp (by omega)]
    by_cases h0 : k = 0
    · subst h0
      rw [w_out (Or.inl (by decide))]
      have : us 0 = false := by
        cases h : us 0 with
        | false => rfl
        | true => have := hM.2.2.1 0 h; omega
      rw [this]; rfl
    · rw [w_in (k := k) (a := 1) (b := 24) (A := 1) (B := 24) rfl rfl (by omega) (by omega) (by decide)]
      simp only [Option.bind_some, h10, ↓reduceIte, okN hk (by decide), hM.2.1 k (by omega) (by omega), rneg (fun h => (hM.2.2.1 k h).2.2)]
      cases us k <;> rfl
  · rw [w_out (A := 1) (B := 24) (h.imp (fun h => by rw [Int32.lt_iff_toInt_lt] at h ⊢; simp at h ⊢; omega) (fun h => (lt_le (n := 24) (by decide)).mpr h))]
    have : us x.toNatClampNeg = false := by
      cases h2 : us x.toNatClampNeg with
      | false => rfl
      | true =>
        have h3 := hM.2.2.1 _ h2
        rw [of_clamp h3.1] at h
        rcases h with h | h
        · exact absurd h (nI_pos (by omega))
        · rw [nI_leI (by decide) (by omega)] at h; omega
    rw [this]; rfl
theorem nA_cv {A : Nat → Bool} {V W : Nat → Nat} (h : ∀ z, z < 152 → A z = true → V z = W z) : nA A V = nA A W := by
  funext y
  unfold nA
  refine ct_congr (fun z hz => ?_)
  cases hh : A z with
  | false => rfl
  | true => rw [h z hz hh]
theorem HI.wr {u : St} {sz ty : Nat → Nat} {us : Nat → Bool} {e c : Nat} {x : Int32} (h : HI u sz ty us e) (hc : AZ (pt u sz ty) us c = false) : HI (su u 3 c x) sz ty us e := by
  obtain ⟨a, b, d, f⟩ := h
  have e2 : pt (su u 3 c x) sz ty = pt u sz ty := pt_static (su_c (by decide))
  have ev : ∀ z, AZ (pt u sz ty) us z = true → su u 3 c x 3 z = u 3 z := fun z hz => su_o (fun q => by rw [q.2, hc] at hz; cases hz)
  have ev2 : nA (AZ (pt u sz ty) us) (vl (su u 3 c x)) = nA (AZ (pt u sz ty) us) (vl u) := nA_cv (fun z _ hh => by unfold vl; rw [ev z hh])
  refine ⟨a.of (su_c (by decide)) (su_c (by decide)) (su_c (by decide)) (su_c (by decide)), (su_o (by omega)).trans b, fun z z1 z2 => ?_, fun z hz => ?_⟩
  · rw [e2] at z2; rw [ev z z2]; exact d z z1 z2
  · rw [e2, ev2, su_c (by decide)]; exact f z hz
theorem mn_eq {u : St} {sz ty : Nat → Nat} {R S : Nat → Bool} (h1 : Clo u sz ty R) (h2 : Mn u sz ty R) (h3 : Clo u sz ty S) (h4 : Mn u sz ty S) : R = S := funext fun x => by
  cases hr : R x <;> cases hs : S x
  · rfl
  · rw [h4 R h1 x hs] at hr; cases hr
  · rw [h2 S h3 x hr] at hs; cases hs
  · rfl
theorem Mn.cg {u u' : St} {sz ty : Nat → Nat} {R : Nat → Bool} (h2 : u' 2 = u 2) (h3 : u' 3 = u 3) : (Clo u' sz ty R ↔ Clo u sz ty R) ∧ (Mn u' sz ty R ↔ Mn u sz ty R) := by
  have e2 : pt u' sz ty = pt u sz ty := pt_static h2
  have ev : vl u' = vl u := by funext c; unfold vl; rw [h3]
  unfold Mn Clo; rw [e2, ev]; exact ⟨Iff.rfl, Iff.rfl⟩
/-! the small calls -/
theorem ag_clear {u v : St} (h : Ix u v) : ∃ (r : Int32) (u2 v2 : St), F_X2_clear u = some (r, u2) ∧ F_X3_clear v = some (r, v2) ∧ Ix u2 v2 := by
  obtain ⟨a, b, ⟨len, c⟩, nx, dp, d⟩ := h
  refine ⟨nI len, su (su (su u 14 4 0) 14 3 0) 9 4 0, su (su (su (su v 0 7 0) 0 3 0) 0 4 0) 0 5 0, ?_, ?_, ?_⟩
  · unfold F_X2_clear F_X2_goTo F_X1_removeAll
    simp only [sb, Option.bind_some, su_v]
    simp [c.1]
  · unfold F_X3_clear
    simp only [sb, su_v]
    simp [c.2.1]
  · refine ⟨a.of (fun c c1 c2 => ?_) ?_ (fun c hc => ?_), ?_, ⟨0, ?_, ?_, by omega, fun p hp => by omega⟩, 0, 0, ?_, ?_, by omega, ?_, ?_, by omega, fun p hp => by omega⟩
    · rw [su_c (by omega), su_c (by omega), su_c (by omega)]
    · simp only [su_v]; simp
    · rw [su_c (by omega), su_c (by omega), su_c (by omega), su_c (by omega)]
    · simp only [su_v]; simp [b]
    · simp only [su_v]; simp; rfl
    · simp only [su_v]; simp; rfl
    · simp only [su_v]; simp; rfl
    · simp only [su_v]; simp; rfl
    · simp only [su_v]; simp; rfl
    · simp only [su_v]; simp; rfl
theorem ag_start {u v : St} (h : Ix u v) (x1 : Int32) : ∃ (r : Int32) (u2 v2 : St), F_X2_start u x1 = some (r, u2) ∧ F_X3_start v x1 = some (r, v2) ∧ Ix u2 v2 := by
  unfold F_X2_start F_X3_start F_X2_isPlace F_X2_goTo
  simp only [sb]
  rcases rg x1 (N := 40) (by decide) with ⟨k, hk, e⟩ | hx
  · subst e
    obtain ⟨a, b, ⟨len, c⟩, nx, dp, d⟩ := h
    rw [iti (N := 40) (C := 40) rfl hk (by decide), w_in (k := k) (a := 0) (b := 39) (A := 0) (B := 39) rfl rfl (by omega) (by omega) (by decide)]
    simp only [Option.bind_some, h10, ↓reduceIte]
    refine ⟨_, _, _, rfl, rfl, a.of (fun c c1 c2 => ?_) ?_ (fun c hc => ?_), ?_, ⟨len, c.of (fun c c1 c2 => ?_) ?_ ?_⟩, k, 0, ?_, ?_, by omega, ?_, ?_, by omega, fun p hp => by omega⟩
    · rw [su_c (by omega), su_c (by omega)]
    · simp only [su_v]; simp
    · rw [su_c (by omega), su_c (by omega), su_c (by omega)]
    · simp only [su_v]; simp [b]
    · rw [su_c (by omega), su_c (by omega)]
    · simp only [su_v]; simp
    · rw [su_c (by omega), su_c (by omega), su_c (by omega)]
    · simp only [su_v]; simp
    · simp only [su_v]; simp
    · simp only [su_v]; simp; rfl
    · simp only [su_v]; simp; rfl
  · rw [ito (C := 40) hx, w_out (A := 0) (B := 39) (hx.imp id (fun h => (lt_le (n := 39) (by decide)).mpr h))]
    exact ⟨0, u, _, rfl, rfl, h.v7⟩
theorem ag_next {u v : St} (h : Ix u v) : ∃ (r : Int32) (u2 v2 : St), F_X2_next u = some (r, u2) ∧ F_X3_next v = some (r, v2) ∧ Ix u2 v2 := by
  refine ⟨u 14 4, u, su v 0 7 0, rfl, ?_, h.v7⟩
  obtain ⟨a, b, c, nx, dp, d⟩ := h
  unfold F_X3_next
  simp only [sb, su_v]
  simp [d.1, d.2.1]
theorem ag_open {u v : St} (h : Ix u v) : ∃ (r : Int32) (u2 v2 : St), F_X2_open u = some (r, u2) ∧ F_X3_open v = some (r, v2) ∧ Ix u2 v2 := by
  refine ⟨u 14 3, u, su v 0 7 0, rfl, ?_, h.v7⟩
  obtain ⟨a, b, c, nx, dp, d⟩ := h
  unfold F_X3_open
  simp only [sb, su_v]
  simp [d.2.2.2.1, d.2.2.2.2.1]
theorem ag_given {u v : St} (h : Ix u v) : ∃ (r : Int32) (u2 v2 : St), F_X2_given u = some (r, u2) ∧ F_X3_given v = some (r, v2) ∧ Ix u2 v2 := by
  refine ⟨u 0 10, u, su v 0 7 0, rfl, ?_, h.v7⟩
  unfold F_X3_given
  simp only [sb, su_v]
  simp [h.2.1]
theorem ag_frame {u v : St} (h : Ix u v) (x1 : Int32) : ∃ (r : Int32) (u2 v2 : St), F_X2_frame u x1 = some (r, u2) ∧ F_X3_frame v x1 = some (r, v2) ∧ Ix u2 v2 := by
  unfold F_X2_frame F_X3_frame F_X2_isFrameInt
  simp only [sb]
  rcases rg x1 (N := 4) (by decide) with ⟨k, hk, e⟩ | hx
  · subst e
    obtain ⟨sz, ty, us, a1, a2⟩ := h.1
    rw [iti (N := 4) (C := 4) rfl hk (by decide), w_in (k := k) (a := 0) (b := 3) (A := 0) (B := 3) rfl rfl (by omega) (by omega) (by decide)]
    simp only [Option.bind_some, h10, ↓reduceIte, sRead u (show k < 152 by omega), nI_clamp (show k < 2 ^ 31 by omega), okN hk (by decide)]
    refine ⟨_, _, _, rfl, ?_, h.v7 (x := 0)⟩
    rw [su_o (by omega), (a2.2.2.2.1 k hk).1]
  · rw [ito (C := 4) hx, w_out (A := 0) (B := 3) (hx.imp id (fun h => (lt_le (n := 3) (by decide)).mpr h))]
    exact ⟨0, u, _, rfl, rfl, h.v7⟩
theorem ag_set {u v : St} (h : Ix u v) (x1 x2 : Int32) : ∃ (r : Int32) (u2 v2 : St), F_X2_set u x1 x2 = some (r, u2) ∧ F_X3_set v x1 x2 = some (r, v2) ∧ Ix u2 v2 := by
  unfold F_X2_set F_X3_set F_X2_isFrameInt F_X0_writeInt
  simp only [sb]
  rcases rg x1 (N := 4) (by decide) with ⟨k, hk, e⟩ | hx
  · subst e
    obtain ⟨⟨sz, ty, us, a1, a2⟩, b, ⟨len, c⟩, nx, dp, d⟩ := h
    rw [iti (N := 4) (C := 4) rfl hk (by decide), w_in (k := k) (a := 0) (b := 3) (A := 0) (B := 3) rfl rfl (by omega) (by omega) (by decide)]
    simp only [Option.bind_some, h10, ↓reduceIte, nI_clamp (show k < 2 ^ 31 by omega), okN hk (by decide), okN (show k < 152 by omega) (by decide)]
    have hA : AZ (pt u sz ty) us k = false := by
      cases hh : AZ (pt u sz ty) us k with
      | false => rfl
      | true => have := AZ_ge hh; omega
    refine ⟨_, _, _, rfl, rfl, ⟨sz, ty, us, a1.wr hA, ⟨fun t ht => ?_, fun x x1 x2 => ?_, a2.2.2.1, fun j hj => ⟨?_, ?_⟩, fun j j1 j2 => ?_⟩⟩, ?_, ⟨len, c.of (fun c c1 c2 => su_c (by omega)) ?_ ?_⟩, nx, dp, d.of (su_c (by decide)) (su_c (by decide)) ?_ ?_ ?_⟩
    · simp only [su_v]; simp; exact a2.1 t ht
    · simp only [su_v]; simp; exact a2.2.1 x x1 x2
    · simp only [su_v]; simp [(a2.2.2.2.1 j hj).1]
    · simp only [su_v]; simp [show 4 + j ≠ k by omega, (a2.2.2.2.1 j hj).2]
    · simp only [su_v]; simp [show j + 2 ≠ k by omega, a2.2.2.2.2 j j1 j2]
    · simp only [su_v]; simp [b]
    · simp only [su_v]; simp
    · rw [su_c (by decide), su_c (by decide)]
    · simp only [su_v]; simp
    · simp only [su_v]; simp
    · rw [su_c (by decide), su_c (by decide)]
  · rw [ito (C := 4) hx, w_out (A := 0) (B := 3) (hx.imp id (fun h => (lt_le (n := 3) (by decide)).mpr h))]
    exact ⟨0, u, _, rfl, rfl, h.v7⟩
theorem ag_root {u v : St} (h : Ix u v) (x1 : Int32) : ∃ (r : Int32) (u2 v2 : St), F_X2_root u x1 = some (r, u2) ∧ F_X3_root v x1 = some (r, v2) ∧ Ix u2 v2 := by
  unfold F_X2_root F_X3_root
  simp only [sb]
  rcases rg x1 (N := 4) (by decide) with ⟨k, hk, e⟩ | hx
  · subst e
    obtain ⟨sz, ty, us, a1, a2⟩ := h.1
    rw [iti (N := 4) (C := 4) rfl hk (by decide), w_in (k := k) (a := 0) (b := 3) (A := 0) (B := 3) rfl rfl (by omega) (by omega) (by decide), show (4 : Int32) + nI k = nI (4 + k) from nI_add 4 k]
    simp only [Option.bind_some, h10, ↓reduceIte, sRead u (show 4 + k < 152 by omega), nI_clamp (show k < 2 ^ 31 by omega), okN hk (by decide)]
    refine ⟨_, _, _, rfl, ?_, h.v7 (x := 0)⟩
    rw [su_o (by omega), (a2.2.2.2.1 k hk).2]
  · rw [ito (C := 4) hx, w_out (A := 0) (B := 3) (hx.imp id (fun h => (lt_le (n := 3) (by decide)).mpr h))]
    exact ⟨-1, u, _, rfl, rfl, h.v7⟩
theorem ag_blocks {u v : St} (h : Ix u v) : ∃ (r : Int32) (u2 v2 : St), F_X2_blocks u = some (r, u2) ∧ F_X3_blocks v = some (r, v2) ∧ Ix u2 v2 := by
  have h7 := h.v7 (x := 0)
  obtain ⟨sz, ty, us, a1, a2⟩ := h7.1
  refine ⟨nI (ct us 25), u, su v 0 7 0, ?_, ?_, h7⟩
  · unfold F_X2_blocks F_X0_blockTotal
    rw [Option.bind_some, a1.2.1]
  · have := rBlocks a2 fuel 1 (by decide) (by decide) (by decide)
    have h1 : ct us 1 = 0 := ct_zero (fun c hc => by rw [show c = 0 by omega, a1.1.2.2.2.1])
    rw [h1] at this
    exact this
theorem ag_count {u v : St} (h : Ix u v) (x1 : Int32) : ∃ (r : Int32) (u2 v2 : St), F_X2_count u x1 = some (r, u2) ∧ F_X3_count v x1 = some (r, v2) ∧ Ix u2 v2 := by
  have h7 := h.v7 (x := 0)
  obtain ⟨⟨sz, ty, us, a1, a2⟩, b, ⟨len, c⟩, nx, dp, d⟩ := h7
  unfold F_X2_count F_X3_count F_X0_countOf
  simp only [sb, sIsBlock a1.1, rIsBlock a2, Option.bind_some]
  cases hub : us x1.toNatClampNeg with
  | false =>
    rw [if_pos (show (if false = true then (1 : Int32) else 0) = 0 from rfl), if_pos (show (if false = true then (1 : Int32) else 0) = 0 from rfl)]
    exact ⟨-1, u, _, rfl, rfl, ⟨sz, ty, us, a1, a2⟩, b, ⟨len, c⟩, nx, dp, d⟩
  | true =>
    have hr := bs_rng a1.1 hub
    have hx := of_clamp hr.1
    generalize x1.toNatClampNeg = k at hub hr hx
    subst hx
    obtain ⟨v1, hF, c1, c2⟩ := rCountAll (Cl.vc a1.2.2.1) a2
    rw [if_pos rfl, if_neg (show ¬ (1 : Int32) = 0 by decide), if_neg (show ¬ (1 : Int32) = 0 by decide)]
    simp only [hF, Option.bind_some, okN (show k < 25 by omega) (by decide), ↓reduceIte, nI_clamp (show k < 2 ^ 31 by omega)]
    refine ⟨_, _, _, rfl, by rw [c2 k hr.2, (a1.2.2.2 k hub).1], ⟨sz, ty, us, a1, a2.of (c1 1 (by decide)) (c1 2 (by decide)) (c1 5 (by decide)) (c1 6 (by decide)) (c1 7 (by decide)) (c1 8 (by decide))⟩, by rw [c1 0 (by decide)]; exact b, ⟨len, c.of (fun _ _ _ => rfl) (by rw [c1 0 (by decide)]) (c1 3 (by decide))⟩, nx, dp, d.of rfl rfl (by rw [c1 0 (by decide)]) (by rw [c1 0 (by decide)]) (c1 4 (by decide))⟩
theorem ag_typeOf {u v : St} (h : Ix u v) (x1 : Int32) : ∃ (r : Int32) (u2 v2 : St), F_X2_typeOf u x1 = some (r, u2) ∧ F_X3_typeOf v x1 = some (r, v2) ∧ Ix u2 v2 := by
  have h7 := h.v7 (x := 0)
  obtain ⟨sz, ty, us, a1, a2⟩ := h7.1
  unfold F_X2_typeOf F_X3_typeOf F_X0_blockType
  simp only [sb, sIsBlock a1.1, rIsBlock a2, Option.bind_some]
  cases hub : us x1.toNatClampNeg with
  | false =>
    rw [if_pos (show (if false = true then (1 : Int32) else 0) = 0 from rfl), if_pos (show (if false = true then (1 : Int32) else 0) = 0 from rfl)]
    exact ⟨-1, u, _, rfl, rfl, h7⟩
  | true =>
    have hr := bs_rng a1.1 hub
    have hx := of_clamp hr.1
    generalize x1.toNatClampNeg = k at hub hr hx
    subst hx
    rw [if_pos rfl, if_neg (show ¬ (1 : Int32) = 0 by decide), if_neg (show ¬ (1 : Int32) = 0 by decide)]
    simp only [Option.bind_some, okN (show k < 25 by omega) (by decide), ↓reduceIte, nI_clamp (show k < 2 ^ 31 by omega)]
    exact ⟨_, _, _, rfl, by rw [a2.2.1 k hr.1 hr.2, if_pos hub, (a1.1.2.1 k hr.2).1], h7⟩
theorem ag_word {u v : St} (h : Ix u v) (x1 x2 : Int32) : ∃ (r : Int64) (u2 v2 : St), F_X2_word u x1 x2 = some (r, u2) ∧ F_X3_word v x1 x2 = some (r, v2) ∧ Ix u2 v2 := by
  have h7 := h.v7 (x := 0)
  obtain ⟨sz, ty, us, a1, a2⟩ := h7.1
  unfold F_X2_word F_X3_word
  simp only [sb, sHasWord a1.1, rIsBlock a2, Option.bind_some]
  cases hub : us x1.toNatClampNeg with
  | false =>
    rw [if_neg (show ¬ (false = true ∧ 0 ≤ x2.toInt ∧ x2.toInt < sz (ty x1.toNatClampNeg)) from fun q => by cases q.1), if_pos rfl, if_pos (show (if false = true then (1 : Int32) else 0) = 0 from rfl)]
    exact ⟨_, u, _, rfl, rfl, h7⟩
  | true =>
    have hr := bs_rng a1.1 hub
    have hx := of_clamp hr.1
    generalize x1.toNatClampNeg = k at hub hr hx
    subst hx
    have ht := a2.2.2.1 k hub
    have hs := a2.1 (ty k) ht.2.2
    rw [if_neg (show ¬ (if true = true then (1 : Int32) else 0) = 0 from (by decide : ¬ (1 : Int32) = 0))]
    simp only [Option.bind_some, okN (show k < 25 by omega) (by decide), ↓reduceIte, nI_clamp (show k < 2 ^ 31 by omega), a2.2.1 k hr.1 hr.2, hub]
    simp only [okN ht.2.2 (by decide), ↓reduceIte, nI_clamp (show ty k < 2 ^ 31 by omega), hs.1, show nI (sz (ty k)) - 1 = nI (sz (ty k) - 1) from pk_sub (a := sz (ty k)) (b := 1) hs.2.1]
    rcases rg x2 (N := sz (ty k)) (by omega) with ⟨w, hw, e⟩ | hx
    · subst e
      have e1 : (6 : Int32) * nI k + nI w = nI (6 * k + w) := by rw [show (6 : Int32) * nI k = nI (6 * k) from pk_mul 6 k, nI_add]
      rw [if_pos (show (True ∧ 0 ≤ (nI w).toInt ∧ (nI w).toInt < ((sz (ty k) : Nat) : Int)) from ⟨trivial, by rw [nT (by omega)]; omega, by rw [nT (by omega)]; omega⟩), w_in (k := w) (a := 0) (b := sz (ty k) - 1) (A := 0) rfl rfl (by omega) (by omega) (by omega), sCellOfWord u hr.1 hr.2 (by omega), e1]
      simp only [Option.bind_some, h10, ↓reduceIte, sRead u (show 6 * k + 2 + w < 152 by omega), nI_clamp (show 6 * k + w < 2 ^ 31 by omega), okN (show 6 * k + w < 150 by omega) (by decide)]
      exact ⟨_, _, _, rfl, by rw [a2.2.2.2.2 (6 * k + w) (by omega) (by omega), show 6 * k + w + 2 = 6 * k + 2 + w by omega], h7⟩
    · rw [if_neg (show ¬ (True ∧ 0 ≤ x2.toInt ∧ x2.toInt < ((sz (ty k) : Nat) : Int)) from fun q => by
        rcases hx with hx | hx
        · rw [Int32.lt_iff_toInt_lt] at hx; simp at hx; omega
        · rw [Int32.le_iff_toInt_le, nT (by omega)] at hx; omega), if_pos rfl, w_out (hx.imp id (fun h => (lt_le (n := sz (ty k) - 1) (by omega)).mpr (by rw [show sz (ty k) - 1 + 1 = sz (ty k) by omega]; exact h)))]
      exact ⟨_, u, _, rfl, rfl, h7⟩
theorem ag_lost {u v : St} (h : Ix u v) : ∃ (r : Int32) (u2 v2 : St), F_X2_lost u = some (r, u2) ∧ F_X3_lost v = some (r, v2) ∧ Ix u2 v2 := by
  obtain ⟨⟨sz, ty, us, a1, a2⟩, b, ⟨len, c⟩, nx, dp, d⟩ := h
  obtain ⟨u1, R, hF, b1, b2, b3, b4, b5, b6⟩ := sFindLost a1.1 a1.2.2.1 a1.2.1
  obtain ⟨v1, S, hG, c1, c2, c3, c4, c5⟩ := rLost a1.2.2.1 a2
  have hRS := mn_eq b5 b6 c4 c5
  refine ⟨nI (ct us 25 - ct R 25), u1, v1, ?_, by rw [hRS]; exact hG, ⟨sz, ty, us, a1.of (fun c d1 d2 => b1 c (by omega) (by omega) (by omega)) b2.1, (a2.of (c1 1 (by decide) (by decide)) (c1 2 (by decide) (by decide)) (c1 5 (by decide) (by decide)) (c1 6 (by decide) (by decide)) (c1 7 (by decide) (by decide)) (c1 8 (by decide) (by decide))).ofu (b1 2 (by decide) (by decide) (by decide)) (b1 3 (by decide) (by decide) (by decide))⟩, ?_, ⟨len, c.of (fun c d1 d2 => b1 c (by omega) (by omega) (by omega)) (by rw [c2]; rfl) (c1 3 (by decide) (by decide))⟩, nx, dp, d.of (b1 14 (by decide) (by decide) (by decide)) (b1 15 (by decide) (by decide) (by decide)) (by rw [c2]; rfl) (by rw [c2]; rfl) (c1 4 (by decide) (by decide))⟩
  · unfold F_X2_lost
    rw [hF]; rfl
  · rw [c2, b2.2]; exact b
theorem ag_collect {u v : St} (h : Ix u v) : ∃ (r : Int32) (u2 v2 : St), F_X2_collect u = some (r, u2) ∧ F_X3_collect v = some (r, v2) ∧ Ix u2 v2 := by
  obtain ⟨⟨sz, ty, us, a1, a2⟩, b, ⟨len, c⟩, nx, dp, d⟩ := h
  obtain ⟨u1, R, hF, b1, b2, b3, b4, b5, b6⟩ := sCollect a1
  obtain ⟨v1, S, hG, c0, c1, c2, c3, c4, c5⟩ := rCollect a1.2.2.1 a2
  have hRS := mn_eq b5 b6 c4 c5
  subst hRS
  refine ⟨nI (ct us 25 - ct R 25), u1, v1, ?_, hG, ⟨sz, ty, R, b1, c0.ofu (b2 2 (by decide) (by decide) (by decide) (by decide) (by decide)) (b2 3 (by decide) (by decide) (by decide) (by decide) (by decide))⟩, ?_, ⟨len, c.of (fun c d1 d2 => b2 c (by omega) (by omega) (by omega) (by omega) (by omega)) (by rw [c2]; rfl) (c1 3 (by decide) (by decide) (by decide))⟩, nx, dp, d.of (b2 14 (by decide) (by decide) (by decide) (by decide) (by decide)) (b2 15 (by decide) (by decide) (by decide) (by decide) (by decide)) (by rw [c2]; rfl) (by rw [c2]; rfl) (c1 4 (by decide) (by decide) (by decide))⟩
  · unfold F_X2_collect
    rw [hF]; rfl
  · rw [c2, b3, ← b]; rfl
