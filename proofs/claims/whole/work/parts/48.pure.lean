/-! PURE: a new block -/
theorem HI.e {u : St} {sz ty : Nat → Nat} {us : Nat → Bool} (h : HI u sz ty us 0) (e : Nat) : HI u sz ty us e := ⟨h.1, h.2.1, h.2.2.1, fun x hx => ⟨(h.2.2.2 x hx).1, fun _ => (h.2.2.2 x hx).2 (by have := bs_rng h.1 hx; omega)⟩⟩
def tyB (ty : Nat → Nat) (b t : Nat) : Nat → Nat := fun i => if i = b then t else ty i
theorem tyB_o {ty : Nat → Nat} {b t i : Nat} (h : i ≠ b) : tyB ty b t i = ty i := by unfold tyB; rw [if_neg h]
theorem tyB_b {ty : Nat → Nat} {b t : Nat} : tyB ty b t b = t := by unfold tyB; rw [if_pos rfl]
theorem add1_o {R : Nat → Bool} {y x : Nat} (h : x ≠ y) : add1 R y x = R x := by simp [add1, h]
theorem add1_y {R : Nat → Bool} {y : Nat} : add1 R y y = true := by simp [add1]
/-- the cells in use beyond the new block's are those of before -/
theorem AZ_mk {u u1 : St} {sz ty : Nat → Nat} {us : Nat → Bool} {b t : Nat} (h2 : u1 2 = u 2) {c : Nat} (hc : ¬ (6 * b + 2 ≤ c ∧ c < 6 * b + 8)) : AZ (pt u1 sz (tyB ty b t)) (add1 us b) c = AZ (pt u sz ty) us c := by
  unfold AZ
  by_cases h8 : 8 ≤ c
  · have hne : (c - 2) / 6 ≠ b := by omega
    have hp : pt u1 sz (tyB ty b t) ((c - 2) / 6) ((c - 2) % 6) = pt u sz ty ((c - 2) / 6) ((c - 2) % 6) := by unfold pt; rw [tyB_o hne, h2]
    rw [hp, add1_o hne]
  · simp [h8]
theorem mkHI {u u1 : St} {sz ty : Nat → Nat} {us : Nat → Bool} {b t : Nat} (h : HI u sz ty us 0) (hb1 : 1 ≤ b) (hb2 : b ≤ 24) (hub : us b = false) (ht : t < 4) (hu : ∀ c, c ≠ 0 → c ≠ 3 → c ≠ 4 → c ≠ 5 → c ≠ 6 → u1 c = u c) (h4 : u1 4 = upd (u 4) b 1) (h5 : u1 5 = upd (u 5) b (nI t)) (h6 : u1 6 = upd (u 6) b 0) (h9 : u1 0 9 = u 0 9 + 1) (h3 : ∀ j, u1 3 j = if 6 * b + 2 ≤ j ∧ j < 6 * b + 8 then 0 else u 3 j) : HI u1 sz (tyB ty b t) (add1 us b) b := by
  obtain ⟨a, k, d, f⟩ := h
  have h2 := hu 2 (by decide) (by decide) (by decide) (by decide) (by decide)
  have hvo : ∀ c, ¬ (6 * b + 2 ≤ c ∧ c < 6 * b + 8) → vl u1 c = vl u c := fun c hc => by unfold vl; rw [h3, if_neg hc]
  have hvi : ∀ c, (6 * b + 2 ≤ c ∧ c < 6 * b + 8) → vl u1 c = 0 := fun c hc => by unfold vl; rw [h3, if_pos hc]; rfl
  have hin : ∀ c, (6 * b + 2 ≤ c ∧ c < 6 * b + 8) → AZ (pt u sz ty) us c = false := fun c hc => by
    unfold AZ
    rw [show (c - 2) / 6 = b by omega, hub]
    simp; omega
  have hnA : ∀ x, x ≠ 0 → nA (AZ (pt u1 sz (tyB ty b t)) (add1 us b)) (vl u1) x = nA (AZ (pt u sz ty) us) (vl u) x := fun x hx => by
    unfold nA
    refine ct_congr (fun c hc => ?_)
    by_cases hcb : 6 * b + 2 ≤ c ∧ c < 6 * b + 8
    · rw [hvi c hcb, hin c hcb]
      simp [Ne.symm hx]
    · rw [AZ_mk h2 hcb, hvo c hcb]
  have hct : ct (add1 us b) 25 = ct us 25 + 1 := ct_del (c := b) (by omega) add1_y hub (fun j _ hj => (add1_o hj).symm)
  refine ⟨⟨fun s hs => ?_, fun x hx => ?_, fun x x1 x2 => ?_, ?_, fun x hx => ?_⟩, ?_, fun c hc hA => ?_, fun x hx => ?_⟩
  · rw [hu 1 (by decide) (by decide) (by decide) (by decide) (by decide), h2]; exact a.1 s hs
  · rw [h5]
    by_cases e : x = b
    · subst e; rw [tyB_b]; exact ⟨by simp [upd], ht⟩
    · rw [tyB_o e]; simp only [upd, e, ↓reduceIte]; exact a.2.1 x hx
  · rw [h4]
    by_cases e : x = b
    · subst e; rw [add1_y]; simp [upd]
    · rw [add1_o e]; simp only [upd, e, ↓reduceIte]; exact a.2.2.1 x x1 x2
  · rw [add1_o (by omega)]; exact a.2.2.2.1
  · rw [add1_o (by omega)]; exact a.2.2.2.2 x hx
  · rw [h9, k, hct, nI_1]
  · by_cases hcb : 6 * b + 2 ≤ c ∧ c < 6 * b + 8
    · exact ⟨0, by omega, by rw [h3, if_pos hcb]; rfl, Or.inl rfl⟩
    · rw [AZ_mk h2 hcb] at hA
      obtain ⟨z, z1, z2, z3⟩ := d c hc hA
      exact ⟨z, z1, by rw [h3, if_neg hcb]; exact z2, z3.imp id (fun q => by simp [add1, q])⟩
  · have hx0 : x ≠ 0 := fun e => by
      rw [e, add1_o (by omega), a.2.2.2.1] at hx; cases hx
    rw [hnA x hx0, h6]
    by_cases e : x = b
    · subst e
      have hz : nA (AZ (pt u sz ty) us) (vl u) x = 0 := ct_zero (fun c hc => by
        cases hA : AZ (pt u sz ty) us c with
        | false => rfl
        | true =>
          have hv := cl_val d hc hA
          have : vl u c ≠ x := fun q => by
            rcases hv.2.2 with z | z
            · omega
            · rw [q, hub] at z; cases z
          simp [this])
      rw [hz]
      exact ⟨by simp [upd]; rfl, fun q => absurd rfl q⟩
    · have hxu : us x = true := by rw [add1_o e] at hx; exact hx
      simp only [upd, e, ↓reduceIte]
      exact ⟨(f x hxu).1, fun _ => (f x hxu).2 hx0⟩
theorem mkCell {u u1 : St} {sz ty : Nat → Nat} {us : Nat → Bool} {b t : Nat} (hb1 : 1 ≤ b) (hub : us b = false) (h3 : ∀ j, u1 3 j = if 6 * b + 2 ≤ j ∧ j < 6 * b + 8 then 0 else u 3 j) {x : Int32} {c : Nat} (h : Cell u sz ty us x c) : Cell u1 sz (tyB ty b t) (add1 us b) x c := by
  rcases h with h | ⟨k, w, a1, a2, a3, a4, a5, a6, a7⟩
  · exact Or.inl h
  · have e3 : u1 3 (4 + k) = u 3 (4 + k) := by rw [h3, if_neg (by omega)]
    have ev : vl u1 (4 + k) = vl u (4 + k) := by unfold vl; rw [e3]
    have hne : vl u (4 + k) ≠ b := fun q => by rw [q, hub] at a5; cases a5
    exact Or.inr ⟨k, w, a1, a2, a3, by rw [e3, ev]; exact a4, by rw [ev, add1_o hne]; exact a5, by rw [ev, tyB_o hne]; exact a6, by rw [ev]; exact a7⟩
theorem rAct204 {P op x3 : Int32} {b : Nat} (hb : b ≤ 24) : ∀ (n w : Nat) (v : St), 7 ≤ n + w → w ≤ 6 → ∃ v', L_X3_act_204 n v P op x3 (nI b) (nI w) = ((F_X3_write v' x3 (nI b)).bind fun q2 => F_X3_act_238 q2.2 P op x3) ∧ (∀ c, c ≠ 8 → v' c = v c) ∧ ∀ j, v' 8 j = if 6 * b + w ≤ j ∧ j < 6 * b + 6 then 0 else v 8 j := by
  intro n
  induction n with
  | zero => intro w v h1 h2; omega
  | succ n ih =>
    intro w v h1 h2
    have hF : L_X3_act_204 (n + 1) v P op x3 (nI b) (nI w) = F_X3_act_204 (L_X3_act_204 n) v P op x3 (nI b) (nI w) := rfl
    rw [hF]
    unfold F_X3_act_204
    by_cases hw : w = 6
    · subst hw
      rw [if_pos (by decide)]
      exact ⟨v, rfl, fun _ _ => rfl, fun j => by rw [if_neg (by omega)]⟩
    · have e1 : (6 : Int32) * nI b + nI w = nI (6 * b + w) := by rw [show (6 : Int32) * nI b = nI (6 * b) from pk_mul 6 b, nI_add]
      rw [if_neg (show ¬ (6 : Int32) ≤ nI w from nI_ge (b := 6) (by omega) (by decide)), e1, if_neg (in_ck (show 6 * b + w < 150 by omega) (by decide)), nI_clamp (by omega), nI_1]
      obtain ⟨v', a1, a2, a3⟩ := ih (w + 1) (su v 8 (6 * b + w) 0) (by omega) (by omega)
      refine ⟨v', a1, fun c hc => (a2 c hc).trans (su_c hc), fun j => ?_⟩
      rw [a3 j, su_v]
      by_cases e : j = 6 * b + w
      · subst e; rw [if_neg (by omega), if_pos (by omega), if_pos (by omega)]
      · by_cases e2 : 6 * b + (w + 1) ≤ j ∧ j < 6 * b + 6
        · rw [if_pos e2, if_pos (by omega)]
        · rw [if_neg e2, if_neg (show ¬ (6 * b + w ≤ j ∧ j < 6 * b + 6) by omega)]; simp [e]
theorem mkMH {u u1 v v1 : St} {sz ty : Nat → Nat} {us : Nat → Bool} {b t : Nat} (hM : MH u v sz ty us) (hb1 : 1 ≤ b) (hb2 : b ≤ 24) (ht : t < 4) (h2 : u1 2 = u 2) (h3 : ∀ j, u1 3 j = if 6 * b + 2 ≤ j ∧ j < 6 * b + 8 then 0 else u 3 j) (hv : ∀ c, c ≠ 0 → c ≠ 7 → c ≠ 8 → v1 c = v c) (h7 : v1 7 = upd (v 7) b (nI t)) (h8 : ∀ j, v1 8 j = if 6 * b + 0 ≤ j ∧ j < 6 * b + 6 then 0 else v 8 j) : MH u1 v1 sz (tyB ty b t) (add1 us b) := by
  refine ⟨fun s hs => ?_, fun x x1 x2 => ?_, fun x hx => ?_, fun k hk => ?_, fun j j1 j2 => ?_⟩
  · rw [hv 1 (by decide) (by decide) (by decide), hv 2 (by decide) (by decide) (by decide), h2]; exact hM.1 s hs
  · rw [h7]
    by_cases e : x = b
    · subst e; rw [add1_y, tyB_b]; simp [upd]
    · rw [add1_o e, tyB_o e]; simp only [upd, e, ↓reduceIte]; exact hM.2.1 x x1 x2
  · by_cases e : x = b
    · subst e; rw [tyB_b]; exact ⟨hb1, hb2, ht⟩
    · rw [add1_o e] at hx; rw [tyB_o e]; exact hM.2.2.1 x hx
  · rw [hv 5 (by decide) (by decide) (by decide), hv 6 (by decide) (by decide) (by decide), h3, h3, if_neg (by omega), if_neg (by omega)]; exact hM.2.2.2.1 k hk
  · rw [h8, h3]
    by_cases e : 6 * b + 0 ≤ j ∧ j < 6 * b + 6
    · rw [if_pos e, if_pos (by omega)]
    · rw [if_neg e, if_neg (by omega)]; exact hM.2.2.2.2 j j1 j2
/-! a pointer is written, on both sides -/
theorem Sup.cg {u u' : St} {sz ty : Nat → Nat} {V : Nat → Bool} (h2 : u' 2 = u 2) (h3 : u' 3 = u 3) : Sup u' sz ty V ↔ Sup u sz ty V := by
  have e2 : pt u' sz ty = pt u sz ty := pt_static h2
  have ev : vl u' = vl u := by funext c; unfold vl; rw [h3]
  unfold Sup; rw [e2, ev]
theorem wpA {u v : St} {sz ty : Nat → Nat} {us : Nat → Bool} {c0 y : Nat} {x : Int32} (h : HI u sz ty us y) (hM : MH u v sz ty us) (hc : Cell u sz ty us x c0) (hA : AZ (pt u sz ty) us c0 = true) (hy : y ≤ 24) (hyu : y = 0 ∨ us y = true) :
    ∃ u' v1 v' us', F_X0_writePointer u (nI c0) (nI y) = some (0, u') ∧ F_X3_write v x (nI y) = some (0, v1) ∧ F_X3_giveBack v1 = some (0, v') ∧ HI u' sz ty us' 0 ∧ MH u' v' sz ty us' ∧ (∀ c, c ≠ 0 → c ≠ 3 → c ≠ 4 → c ≠ 6 → c ≠ 8 → u' c = u c) ∧ (v' 3 = v 3 ∧ v' 4 = v 4 ∧ ∀ j, j ≠ 6 → j ≠ 15 → j ≠ 16 → v' 0 j = v 0 j) ∧ (v 0 6 = u 0 10 → v' 0 6 = u' 0 10) := by
  have hlt := hc.lt hM
  obtain ⟨u', us', hF, a1, a2, a3, a4, a5, a6, a7⟩ := sWritePointer h hlt hA hy hyu
  obtain ⟨v1, hW, b1, b2, b3, b4⟩ := rWrite hM hc (nI y)
  have e2 : pt (su u 3 c0 (nI y)) sz ty = pt u sz ty := pt_static (su_c (by decide))
  have hVC : VC (su u 3 c0 (nI y)) sz ty us := fun c hc1 hA1 => by
    rw [e2] at hA1
    by_cases e : c = c0
    · subst e
      have : su u 3 c (nI y) 3 c = nI y := su_e
      rw [vl_of this hy]; exact ⟨this, hy⟩
    · have hv := cl_val h.2.2.1 hc1 hA1
      have : su u 3 c0 (nI y) 3 c = nI (vl u c) := (su_o (fun q => e q.2)).trans hv.1
      rw [vl_of this hv.2.1]; exact ⟨this, hv.2.1⟩
  obtain ⟨v', us2, hG, c1, c2, c3, c4, c5, c6, c7⟩ := rGiveBack b1 hVC
  have q2 : u' 2 = su u 3 c0 (nI y) 2 := by rw [su_c (by decide)]; exact a2 2 (by decide) (by decide) (by decide) (by decide) (by decide)
  have q3 : u' 3 = su u 3 c0 (nI y) 3 := by rw [su_s]; exact a3
  have heq : us' = us2 := funext fun z => by
    cases h1 : us' z <;> cases h2 : us2 z
    · rfl
    · rw [a7 us2 c5 ((Sup.cg q2 q3).mpr c6) z h2] at h1; cases h1
    · rw [c7 us' a5 ((Sup.cg q2 q3).mp a6) z h1] at h2; cases h2
    · rfl
  subst heq
  refine ⟨u', v1, v', us', hF, hW, hG, a1, c1.ofu q2 q3, a2, ⟨(c2 3 (by decide) (by decide) (by decide)).trans b2, (c2 4 (by decide) (by decide) (by decide)).trans b3, fun j j1 j2 j3 => (c3 j j1).trans (b4 j j2 j3)⟩, fun hg => ?_⟩
  rw [c4, b4 6 (by decide) (by decide), hg, a4]
