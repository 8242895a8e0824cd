/-! PURE: the drop of a pointer, with all that follows -/
noncomputable def bdec (P : Prop) : Bool := @decide P (Classical.propDecidable P)
theorem bdec_iff {P : Prop} : bdec P = true ↔ P := by unfold bdec; exact @decide_eq_true_iff P (Classical.propDecidable P)
def nA (A : Nat → Bool) (Val : Nat → Nat) (x : Nat) : Nat := ct (fun c => A c && (Val c == x)) 152
def CS (u0 u : St) (sz ty : Nat → Nat) (us : Nat → Bool) (q : Nat) (Q : Nat → Nat) (g : Int32) (A : Nat → Bool) (Val : Nat → Nat) (N : Nat) : Prop :=
  Vw u0 u sz ty us (nA A Val) q Q g ∧ (∀ x, us x = true → 1 ≤ nA A Val x) ∧ q + ct us 25 = N ∧ (∀ i, i < q → 1 ≤ Q i ∧ Q i ≤ 24 ∧ us (Q i) = false) ∧ (∀ i j, i < j → j < q → Q i ≠ Q j)
/-- from one state of the drop to a later one: blocks leave us for the queue's end -/
def Mv (us : Nat → Bool) (q : Nat) (Q : Nat → Nat) (us' : Nat → Bool) (q' : Nat) (Q' : Nat → Nat) : Prop :=
  q ≤ q' ∧ (∀ i, i < q → Q' i = Q i) ∧ ∀ x, us x = true ↔ (us' x = true ∨ ∃ i, q ≤ i ∧ i < q' ∧ Q' i = x)
theorem Mv.rf {us : Nat → Bool} {q : Nat} {Q : Nat → Nat} : Mv us q Q us q Q := ⟨Nat.le_refl _, fun _ _ => rfl, fun x => ⟨fun h => Or.inl h, fun h => h.elim id (fun ⟨i, h1, h2, _⟩ => by omega)⟩⟩
theorem Mv.tr {us us1 us2 : Nat → Bool} {q q1 q2 : Nat} {Q Q1 Q2 : Nat → Nat} (h : Mv us q Q us1 q1 Q1) (k : Mv us1 q1 Q1 us2 q2 Q2) : Mv us q Q us2 q2 Q2 := by
  obtain ⟨a1, a2, a3⟩ := h
  obtain ⟨b1, b2, b3⟩ := k
  refine ⟨by omega, fun i hi => (b2 i (by omega)).trans (a2 i hi), fun x => ⟨fun hx => ?_, fun hx => ?_⟩⟩
  · rcases (a3 x).mp hx with h1 | ⟨i, h1, h2, h3⟩
    · rcases (b3 x).mp h1 with h4 | ⟨i, h4, h5, h6⟩
      · exact Or.inl h4
      · exact Or.inr ⟨i, by omega, h5, h6⟩
    · exact Or.inr ⟨i, h1, by omega, (b2 i h2).trans h3⟩
  · rcases hx with h1 | ⟨i, h1, h2, h3⟩
    · exact (a3 x).mpr (Or.inl ((b3 x).mpr (Or.inl h1)))
    · by_cases h4 : i < q1
      · exact (a3 x).mpr (Or.inr ⟨i, h1, h4, (b2 i h4).symm.trans h3⟩)
      · exact (a3 x).mpr (Or.inl ((b3 x).mpr (Or.inr ⟨i, by omega, h2, h3⟩)))
theorem nA_congr {A B : Nat → Bool} {Val : Nat → Nat} (h : ∀ c, c < 152 → A c = B c) : nA A Val = nA B Val := by
  funext x; exact ct_congr (fun c hc => by rw [h c hc])
theorem CS.congr {u0 u : St} {sz ty : Nat → Nat} {us : Nat → Bool} {q : Nat} {Q : Nat → Nat} {g : Int32} {A B : Nat → Bool} {Val : Nat → Nat} {N : Nat} (h : ∀ c, c < 152 → A c = B c) (k : CS u0 u sz ty us q Q g A Val N) : CS u0 u sz ty us q Q g B Val N := by
  unfold CS at k ⊢; rw [← nA_congr (Val := Val) h]; exact k
theorem nA_le (A : Nat → Bool) (Val : Nat → Nat) (x : Nat) : nA A Val x ≤ 200 := Nat.le_trans (ct_le _ 152) (by decide)
/-- one edge is dropped -/
theorem CS.step {u0 u : St} {sz ty : Nat → Nat} {us : Nat → Bool} {q : Nat} {Q : Nat → Nat} {g : Int32} {A B : Nat → Bool} {Val : Nat → Nat} {N c0 y : Nat} (hC : CS u0 u sz ty us q Q g A Val N) (hN : N ≤ 24) (h0 : c0 < 152) (hA : A c0 = true) (hB0 : B c0 = false) (hB : ∀ c, c < 152 → c ≠ c0 → B c = A c) (hy : Val c0 = y) (hy24 : y ≤ 24) :
    ∃ u' us' q' Q', F_X0_countLess u (nI y) = some (0, u') ∧ CS u0 u' sz ty us' q' Q' g B Val N ∧ Mv us q Q us' q' Q' ∧ ∀ V : Nat → Bool, (∀ x, V x = true → us x = true) → (∀ x, V x = true → ∃ c, c < 152 ∧ B c = true ∧ Val c = x) → ∀ x, V x = true → us' x = true := by
  obtain ⟨hV, hpos, hsum, hQ, hQd⟩ := hC
  have hny : nA A Val y = nA B Val y + 1 := ct_del (c := c0) h0 (by simp [hA, hy]) (by simp [hB0]) (fun j hj hj2 => by simp [hB j hj hj2])
  have hnx : ∀ x, x ≠ y → nA A Val x = nA B Val x := fun x hx => ct_congr (fun c hc => by
    by_cases hcc : c = c0
    · subst hcc; rw [hB0, hy]; simp [Ne.symm hx]
    · rw [hB c hc hcc])
  obtain ⟨u', hF, hcase⟩ := sCountLess hV (by omega) (fun b hb => ⟨hpos b hb, nA_le _ _ _⟩) hy24
  rcases hcase with ⟨h1, h2⟩ | ⟨h1, h2, h3⟩ | ⟨h1, h2, h3⟩
  · subst h2
    refine ⟨u', us, q, Q, hF, ⟨?_, fun x hx => ?_, hsum, hQ, hQd⟩, Mv.rf, fun V h4 _ x hx => h4 x hx⟩
    · obtain ⟨a1, a2, a3, a4⟩ := hV
      refine ⟨a1, a2, fun b hb => ?_, a4⟩
      rw [a3 b hb, hnx b (fun e => by rw [e, h1] at hb; cases hb)]
    · rw [← hnx x (fun e => by rw [e, h1] at hx; cases hx)]; exact hpos x hx
  · have hr := bs_rng hV.1 h1
    have hct := del_ct h1 (show y < 25 by omega)
    have hdel : ∀ x, del us y x = true → us x = true ∧ x ≠ y := fun x hx => by simp [del] at hx; exact hx
    refine ⟨u', del us y, q + 1, ext Q q y, hF, ⟨?_, fun x hx => ?_, by omega, fun i hi => ?_, fun i j hij hj => ?_⟩, ⟨by omega, fun i hi => by simp [ext, Nat.ne_of_lt hi], fun x => ⟨fun hx => ?_, fun hx => ?_⟩⟩, fun V h4 h5 x hx => ?_⟩
    · obtain ⟨a1, a2, a3, a4⟩ := h3
      refine ⟨a1, a2, fun b hb => ?_, a4⟩
      rw [a3 b hb, hnx b (hdel b hb).2]
    · rw [← hnx x (hdel x hx).2]; exact hpos x (hdel x hx).1
    · by_cases hiq : i = q
      · subst hiq; simp [ext, del]; exact ⟨hr.1, hr.2⟩
      · have h6 := hQ i (by omega)
        simp [ext, hiq, del, h6.2.2]; exact ⟨h6.1, h6.2.1⟩
    · by_cases hjq : j = q
      · subst hjq
        have h6 := hQ i (by omega)
        simp [ext, Nat.ne_of_lt hij]
        intro e; rw [e, h1] at h6; exact absurd h6.2.2 (by decide)
      · simp [ext, hjq, show i ≠ q by omega]; exact hQd i j hij (by omega)
    · by_cases hxy : x = y
      · exact Or.inr ⟨q, Nat.le_refl _, by omega, by simp [ext, hxy]⟩
      · exact Or.inl (by simp [del, hx, hxy])
    · rcases hx with hx | ⟨i, h6, h7, h8⟩
      · exact (hdel x hx).1
      · have : i = q := by omega
        subst this; simp [ext] at h8; rw [← h8]; exact h1
    · have hx1 := h4 x hx
      by_cases hxy : x = y
      · subst hxy
        obtain ⟨c, h6, h7, h8⟩ := h5 x hx
        have := ct_pos (p := fun c => B c && (Val c == x)) (n := 152) (c := c) h6 (by simp [h7, h8])
        have h9 : nA B Val x = ct (fun c => B c && (Val c == x)) 152 := rfl
        omega
      · simp [del, hx1, hxy]
  · refine ⟨u', us, q, Q, hF, ⟨?_, fun x hx => ?_, hsum, hQ, hQd⟩, Mv.rf, fun V h4 _ x hx => h4 x hx⟩
    · obtain ⟨a1, a2, a3, a4⟩ := h3
      refine ⟨a1, a2, fun b hb => ?_, a4⟩
      rw [a3 b hb]
      by_cases hby : b = y
      · subst hby; simp only [dec, if_pos]; rw [hny]; simp
      · simp only [dec, if_neg hby]; rw [hnx b hby]
    · by_cases hxy : x = y
      · subst hxy; omega
      · rw [← hnx x hxy]; exact hpos x hx
