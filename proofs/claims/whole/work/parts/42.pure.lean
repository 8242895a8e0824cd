/-! PURE: the reference's lost, collect, blocks, free -/
theorem Cl.vc {u : St} {sz ty : Nat → Nat} {us : Nat → Bool} (h : Cl u sz ty us) : VC u sz ty us := fun c hc hA => ⟨(cl_val h hc hA).1, (cl_val h hc hA).2.1⟩
theorem rneg {us : Nat → Bool} {ty : Nat → Nat} {b : Nat} (ht : us b = true → ty b < 4) : ((if us b = true then nI (ty b) else -1) < 0) ↔ us b = false := by
  cases hub : us b with
  | true =>
    have := ht hub
    exact ⟨fun h => absurd h (nI_pos (by omega)), fun h => by cases h⟩
  | false => exact ⟨fun _ => rfl, fun _ => (by decide : (-1 : Int32) < 0)⟩
theorem rneg' {us : Nat → Bool} {ty : Nat → Nat} {b : Nat} (ht : us b = true → ty b < 4) : ((0 : Int32) ≤ (if us b = true then nI (ty b) else -1)) ↔ us b = true := by
  cases hub : us b with
  | true =>
    have := ht hub
    exact ⟨fun _ => rfl, fun _ => (nI_leI (a := 0) (b := ty b) (by omega) (by omega)).mpr (Nat.zero_le _)⟩
  | false => exact ⟨fun h => absurd h (by decide : ¬ (0 : Int32) ≤ -1), fun h => by cases h⟩
theorem rLost13 {u v : St} {sz ty : Nat → Nat} {us S : Nat → Bool} (hM : MH u v sz ty us) (hS : SV v S) :
    ∀ (n b : Nat), 26 ≤ n + b → 1 ≤ b → b ≤ 25 → L_X3_lost_13 n v (nI (ct (fun x => us x && !(S x)) b)) (nI b) = some (nI (ct (fun x => us x && !(S x)) 25), v) := by
  intro n
  induction n with
  | zero => intro b h1 h2 h3; omega
  | succ n ih =>
    intro b h1 h2 h3
    show F_X3_lost_13 (L_X3_lost_13 n) v _ _ = _
    unfold F_X3_lost_13
    by_cases hb : b = 25
    · subst hb
      rw [if_pos (by decide)]
    · rw [if_neg (by rw [Int32.le_iff_toInt_le, nT (by omega)]; simp; omega)]
      simp only [okN (show b < 25 by omega) (by decide), ↓reduceIte, nI_clamp (show b < 2 ^ 31 by omega), hM.2.1 b h2 (by omega), nI_1, hS b (by omega), rneg (fun h => (hM.2.2.1 b h).2.2)]
      have hs : ct (fun x => us x && !(S x)) (b + 1) = ct (fun x => us x && !(S x)) b + (if (us b && !(S b)) = true then 1 else 0) := rfl
      have := ih (b + 1) (by omega) (by omega) (by omega)
      rw [hs] at this
      cases hub : us b with
      | false =>
        rw [if_pos rfl]
        simp [hub] at this; exact this
      | true =>
        rw [if_neg (by decide)]
        cases hSb : S b with
        | false =>
          rw [if_pos (show (if false = true then (1 : Int32) else 0) = 0 from rfl)]
          simp [hub, hSb] at this; exact this
        | true =>
          rw [if_neg (show ¬ (if true = true then (1 : Int32) else 0) = 0 from (by decide : ¬ (1 : Int32) = 0))]
          simp [hub, hSb] at this; exact this
def cap (us S : Nat → Bool) : Nat → Bool := fun x => us x && S x
theorem rLost {u v : St} {sz ty : Nat → Nat} {us : Nat → Bool} (hC : Cl u sz ty us) (hM : MH u v sz ty us) :
    ∃ v' S, F_X3_lost v = some (nI (ct us 25 - ct (cap us S) 25), v') ∧ (∀ c, c ≠ 0 → c ≠ 10 → v' c = v c) ∧ v' 0 = upd (v 0) 7 0 ∧ SV v' S ∧ Clo u sz ty (cap us S) ∧ Mn u sz ty (cap us S) := by
  have h0 : us 0 = false := by
    cases h : us 0 with
    | false => rfl
    | true => have := hM.2.2.1 0 h; omega
  have hM0 : MH u (su v 0 7 0) sz ty us := hM.of (su_c (by decide)) (su_c (by decide)) (su_c (by decide)) (su_c (by decide)) (su_c (by decide)) (su_c (by decide))
  obtain ⟨v1, S, hF, a1, a2, a3, a4⟩ := rReach hC.vc hM0
  have hL := rLost13 (hM0.f10 a1) a2 fuel 1 (by decide) (by decide) (by decide)
  have h1 : ct (fun x => us x && !(S x)) 1 = 0 := ct_zero (fun c hc => by rw [show c = 0 by omega, h0]; rfl)
  rw [h1] at hL
  have hsp : ct us 25 = ct (cap us S) 25 + ct (fun x => us x && !(S x)) 25 := ct_split (fun c _ => by unfold cap; cases us c <;> cases S c <;> rfl) (fun c _ h => by unfold cap at h; revert h; cases us c <;> cases S c <;> simp)
  refine ⟨v1, S, ?_, fun c c1 c2 => (a1 c c2).trans (su_c c1), ?_, a2, fun c hc hA => ?_, fun V hVc x hx => ?_⟩
  · unfold F_X3_lost
    simp only [sb, hF, Option.bind_some]
    rw [show ct us 25 - ct (cap us S) 25 = ct (fun x => us x && !(S x)) 25 by omega]
    exact hL
  · rw [a1 0 (by decide)]; exact su_s
  · have hAu := AZ_mono (Y := us) (fun x hx => by unfold cap at hx; rw [Bool.and_eq_true] at hx; exact hx.1) hA
    have hv := cl_val hC hc hAu
    have hSv : S (vl u c) = true := by
      have hg := AZ_ge hA
      by_cases h8 : c < 8
      · have := a3.1 (c - 4) (by omega)
        rw [show 4 + (c - 4) = c by omega] at this; exact this
      · unfold AZ at hA
        simp only [show ¬ c < 8 by omega, and_false, decide_false, Bool.false_or, Bool.and_eq_true, decide_eq_true_eq, cap] at hA
        have := a3.2 ((c - 2) / 6) hA.2.1 hA.2.2 ((c - 2) % 6) (by omega) hA.1.2
        rw [show 6 * ((c - 2) / 6) + 2 + (c - 2) % 6 = c by omega] at this
        exact this
    rcases hv.2.2 with h | h
    · exact Or.inl h
    · exact Or.inr (by unfold cap; rw [h, hSv]; rfl)
  · have hx' : us x = true ∧ S x = true := by unfold cap at hx; rw [Bool.and_eq_true] at hx; exact hx
    have := a4 (fun x => V x || x == 0) ⟨fun j hj => ?_, fun b b1 b2 w w1 w2 => ?_⟩ x hx'.2
    · simp only [Bool.or_eq_true, beq_iff_eq] at this
      rcases this with h | h
      · exact h
      · rw [h, h0] at hx'; cases hx'.1
    · simp only [Bool.or_eq_true, beq_iff_eq]
      exact (hVc (4 + j) (by omega) (AZ_root hj)).symm
    · simp only [Bool.or_eq_true, beq_iff_eq] at b2 ⊢
      have hr := hM.2.2.1 b b1
      rcases b2 with h | h
      · exact (hVc (6 * b + 2 + w) (by omega) (AZ_at hr.1 w1 w2 h)).symm
      · omega
theorem rCol7 {u : St} {sz ty : Nat → Nat} {us S : Nat → Bool} {r : Int32} (hus : ∀ x, us x = true → x ≤ 24) :
    ∀ (n b : Nat) (v : St), 26 ≤ n + b → 1 ≤ b → b ≤ 25 → SV v S → MH u v sz ty (fun x => us x && (S x || decide (b ≤ x))) →
      ∃ v', L_X3_collect_7 n v r (nI b) = some (r, v') ∧ MH u v' sz ty (cap us S) ∧ (∀ c, c ≠ 0 → c ≠ 7 → v' c = v c) ∧ v' 0 = upd (v 0) 6 (v 0 6 + r) := by
  intro n
  induction n with
  | zero => intro b v h1 h2 h3; omega
  | succ n ih =>
    intro b v h1 h2 h3 hS hM
    show ∃ v', F_X3_collect_7 (L_X3_collect_7 n) v r (nI b) = _ ∧ _
    unfold F_X3_collect_7
    by_cases hb : b = 25
    · subst hb
      rw [if_pos (by decide)]
      have : (fun x => us x && (S x || decide (25 ≤ x))) = cap us S := funext fun x => by
        unfold cap
        cases hx : us x with
        | false => rfl
        | true => have := hus x hx; simp; omega
      rw [this] at hM
      exact ⟨_, rfl, hM.of (su_c (by decide)) (su_c (by decide)) (su_c (by decide)) (su_c (by decide)) (su_c (by decide)) (su_c (by decide)), fun c c1 _ => su_c c1, su_s⟩
    · rw [if_neg (by rw [Int32.le_iff_toInt_le, nT (by omega)]; simp; omega)]
      simp only [okN (show b < 25 by omega) (by decide), ↓reduceIte, nI_clamp (show b < 2 ^ 31 by omega), nI_1, hS b (by omega)]
      cases hSb : S b with
      | false =>
        rw [if_pos (show (if false = true then (1 : Int32) else 0) = 0 from rfl)]
        obtain ⟨v1, hF, a1, a2, a3⟩ := ih (b + 1) (su v 7 b (-1)) (by omega) (by omega) (by omega) (fun x hx => by rw [su_v]; simp; exact hS x hx) (by
          refine ⟨fun t ht => ?_, fun x x1 x2 => ?_, fun x hx => hM.2.2.1 x ?_, fun k hk => ?_, fun j j1 j2 => ?_⟩
          · simp only [su_v]; simp; exact hM.1 t ht
          · simp only [su_v]
            by_cases e : x = b
            · simp [e, hSb]; intro _ q; omega
            · have h7 := hM.2.1 x x1 x2
              have h8 : (b + 1 ≤ x) ↔ (b ≤ x) := by omega
              simp only [e, and_false, ↓reduceIte, h8, h7]
          · simp only [Bool.and_eq_true, Bool.or_eq_true, decide_eq_true_eq] at hx ⊢
            exact ⟨hx.1, hx.2.elim Or.inl (fun h => Or.inr (by omega))⟩
          · simp only [su_v]; simp; exact hM.2.2.2.1 k hk
          · simp only [su_v]; simp; exact hM.2.2.2.2 j j1 j2)
        exact ⟨v1, hF, a1, fun c c1 c2 => (a2 c c1 c2).trans (su_c c2), by rw [a3, su_c (by decide)]⟩
      | true =>
        rw [if_neg (show ¬ (if true = true then (1 : Int32) else 0) = 0 from (by decide : ¬ (1 : Int32) = 0))]
        refine ih (b + 1) v (by omega) (by omega) (by omega) hS ?_
        have : (fun x => us x && (S x || decide (b ≤ x))) = (fun x => us x && (S x || decide (b + 1 ≤ x))) := funext fun x => by
          by_cases e : x = b
          · simp [e, hSb]
          · have h8 : (b + 1 ≤ x) ↔ (b ≤ x) := by omega
            simp only [h8]
        rw [← this]; exact hM
theorem rCollect {u v : St} {sz ty : Nat → Nat} {us : Nat → Bool} (hC : Cl u sz ty us) (hM : MH u v sz ty us) :
    ∃ v' R, F_X3_collect v = some (nI (ct us 25 - ct R 25), v') ∧ MH u v' sz ty R ∧ (∀ c, c ≠ 0 → c ≠ 7 → c ≠ 10 → v' c = v c) ∧ v' 0 = upd (upd (v 0) 7 0) 6 (v 0 6 + nI (ct us 25 - ct R 25)) ∧ (∀ x, R x = true → us x = true) ∧ Clo u sz ty R ∧ Mn u sz ty R := by
  obtain ⟨v1, S, hF, a1, a2, a3, a4, a5⟩ := rLost hC hM
  have hM1 : MH u v1 sz ty us := hM.of (a1 1 (by decide) (by decide)) (a1 2 (by decide) (by decide)) (a1 5 (by decide) (by decide)) (a1 6 (by decide) (by decide)) (a1 7 (by decide) (by decide)) (a1 8 (by decide) (by decide))
  have he : (fun x => us x && (S x || decide (1 ≤ x))) = us := funext fun x => by
    cases hx : us x with
    | false => rfl
    | true => have := hM.2.2.1 x hx; simp; exact Or.inr (by omega)
  obtain ⟨v2, hF2, b1, b2, b3⟩ := rCol7 (u := u) (sz := sz) (ty := ty) (us := us) (S := S) (r := nI (ct us 25 - ct (cap us S) 25)) (fun x hx => (hM.2.2.1 x hx).2.1) fuel 1 v1 (by decide) (by decide) (by decide) a3 (by rw [he]; exact hM1)
  refine ⟨v2, cap us S, ?_, b1, fun c c1 c2 c3 => (b2 c c1 c2).trans (a1 c c1 c3), ?_, fun x hx => by unfold cap at hx; rw [Bool.and_eq_true] at hx; exact hx.1, a4, a5⟩
  · unfold F_X3_collect
    rw [hF]
    exact hF2
  · rw [b3, a2]; rfl
theorem rBlocks {u v : St} {sz ty : Nat → Nat} {us : Nat → Bool} (hM : MH u v sz ty us) :
    ∀ (n b : Nat), 26 ≤ n + b → 1 ≤ b → b ≤ 25 → L_X3_blocks_9 n v (nI (ct us b)) (nI b) = some (nI (ct us 25), v) := by
  intro n
  induction n with
  | zero => intro b h1 h2 h3; omega
  | succ n ih =>
    intro b h1 h2 h3
    show F_X3_blocks_9 (L_X3_blocks_9 n) v _ _ = _
    unfold F_X3_blocks_9
    by_cases hb : b = 25
    · subst hb
      rw [if_pos (by decide)]
    · rw [if_neg (by rw [Int32.le_iff_toInt_le, nT (by omega)]; simp; omega)]
      simp only [okN (show b < 25 by omega) (by decide), ↓reduceIte, nI_clamp (show b < 2 ^ 31 by omega), hM.2.1 b h2 (by omega), nI_1, rneg (fun h => (hM.2.2.1 b h).2.2)]
      have hs : ct us (b + 1) = ct us b + (if us b = true then 1 else 0) := rfl
      have := ih (b + 1) (by omega) (by omega) (by omega)
      rw [hs] at this
      cases hub : us b with
      | false =>
        rw [if_pos rfl]
        simp [hub] at this; exact this
      | true =>
        rw [if_neg (by decide)]
        simp [hub] at this; exact this
theorem rFree {u v : St} {sz ty : Nat → Nat} {us : Nat → Bool} (hM : MH u v sz ty us) :
    ∀ (n b : Nat), 26 ≤ n + b → 1 ≤ b → b ≤ 25 → (∀ x, 1 ≤ x → x < b → us x = true) → (∃ y, L_X3_free_2 n v (nI b) = some (nI y, v) ∧ 1 ≤ y ∧ y ≤ 24 ∧ us y = false ∧ ∀ x, 1 ≤ x → x < y → us x = true) ∨ (L_X3_free_2 n v (nI b) = some (0, v) ∧ ∀ x, 1 ≤ x → x ≤ 24 → us x = true) := by
  intro n
  induction n with
  | zero => intro b h1 h2 h3; omega
  | succ n ih =>
    intro b h1 h2 h3 hall
    have hF : L_X3_free_2 (n + 1) v (nI b) = F_X3_free_2 (L_X3_free_2 n) v (nI b) := rfl
    rw [hF]
    unfold F_X3_free_2
    by_cases hb : b = 25
    · subst hb
      rw [if_pos (by decide)]
      exact Or.inr ⟨rfl, fun x x1 x2 => hall x x1 (by omega)⟩
    · rw [if_neg (by rw [Int32.le_iff_toInt_le, nT (by omega)]; simp; omega)]
      simp only [okN (show b < 25 by omega) (by decide), ↓reduceIte, nI_clamp (show b < 2 ^ 31 by omega), hM.2.1 b h2 (by omega), nI_1, rneg' (fun h => (hM.2.2.1 b h).2.2)]
      cases hub : us b with
      | true =>
        rw [if_pos rfl]
        refine ih (b + 1) (by omega) (by omega) (by omega) (fun x x1 x2 => ?_)
        by_cases e : x = b
        · rw [e]; exact hub
        · exact hall x x1 (by omega)
      | false =>
        rw [if_neg (by decide)]
        exact Or.inl ⟨b, rfl, h2, by omega, hub, hall⟩
