/-! PURE: operands -/
/-- the same but for the reference's two scratch fields -/
def Sc (v v' : St) : Prop := (∀ c, c ≠ 0 → v' c = v c) ∧ ∀ j, j ≠ 15 → j ≠ 16 → v' 0 j = v 0 j
theorem Sc.rf {v : St} : Sc v v := ⟨fun _ _ => rfl, fun _ _ _ => rfl⟩
theorem Sc.tr {v v1 v2 : St} (h : Sc v v1) (k : Sc v1 v2) : Sc v v2 := ⟨fun c hc => (k.1 c hc).trans (h.1 c hc), fun j h1 h2 => (k.2 j h1 h2).trans (h.2 j h1 h2)⟩
theorem Sc.s5 {v v' : St} {x : Int32} (h : Sc v v') : Sc v (su v' 0 15 x) := ⟨fun c hc => (su_c hc).trans (h.1 c hc), fun j h1 h2 => (su_o (by omega)).trans (h.2 j h1 h2)⟩
theorem Sc.s6 {v v' : St} {x : Int32} (h : Sc v v') : Sc v (su v' 0 16 x) := ⟨fun c hc => (su_c hc).trans (h.1 c hc), fun j h1 h2 => (su_o (by omega)).trans (h.2 j h1 h2)⟩
theorem MH.sc {u v v' : St} {sz ty : Nat → Nat} {us : Nat → Bool} (h : MH u v sz ty us) (k : Sc v v') : MH u v' sz ty us := h.of (k.1 1 (by decide)) (k.1 2 (by decide)) (k.1 5 (by decide)) (k.1 6 (by decide)) (k.1 7 (by decide)) (k.1 8 (by decide))
theorem Pg.sc {u v v' : St} {len : Nat} (h : Pg u v len) (k : Sc v v') : Pg u v' len := h.of (fun _ _ _ => rfl) (k.2 3 (by decide) (by decide)) (k.1 3 (by decide))
theorem Pl.sc {u v v' : St} {nx dp : Nat} (h : Pl u v nx dp) (k : Sc v v') : Pl u v' nx dp := h.of rfl rfl (k.2 4 (by decide) (by decide)) (k.2 5 (by decide) (by decide)) (k.1 4 (by decide))
theorem ob {α β : Type} {o : Option α} {a : α} {f : α → Option β} (h : o = some a) : o.bind f = f a := by rw [h]; rfl
def Cell (u : St) (sz ty : Nat → Nat) (us : Nat → Bool) (x : Int32) (c : Nat) : Prop :=
  (c < 8 ∧ x = nI c) ∨ ∃ k w, k < 4 ∧ w < 8 ∧ x = nI (16 + 8 * k + w) ∧ u 3 (4 + k) = nI (vl u (4 + k)) ∧ us (vl u (4 + k)) = true ∧ w < sz (ty (vl u (4 + k))) ∧ c = 6 * vl u (4 + k) + 2 + w
def fs (v : St) (x β ω : Int32) : St := su (su (su (su v 0 15 (-1)) 0 16 x) 0 15 β) 0 16 ω
theorem fs_sc {v : St} {x β ω : Int32} : Sc v (fs v x β ω) := Sc.rf.s5.s6.s5.s6
theorem fs_5 {v : St} {x β ω : Int32} : fs v x β ω 0 15 = β := by unfold fs; rw [su_o (by decide)]; exact su_e
theorem fs_6 {v : St} {x β ω : Int32} : fs v x β ω 0 16 = ω := su_e
theorem findF (v : St) {o : Nat} (ho : o < 8) (r : Int32) : F_X3_find v (nI o) r = F_X3_find_101 (su (su v 0 15 (-1)) 0 16 (nI o)) r (if 4 ≤ o then 1 else 0) := by
  unfold F_X3_find F_X3_find_28
  simp only [sb]
  rw [if_neg (show ¬ (16 : Int32) ≤ nI o from nI_ge (b := 16) (by omega) (by decide))]
  by_cases h : 4 ≤ o
  · rw [if_neg (show ¬ nI o ≤ 3 from nI_ge (a := 3) (by omega) (by omega)), if_pos h]
  · rw [if_pos (show nI o ≤ 3 from (nI_leI (b := 3) (by omega) (by decide)).mpr (by omega)), if_neg h]
theorem findB {u v : St} {sz ty : Nat → Nat} {us : Nat → Bool} (hM : MH u v sz ty us) {k w b : Nat} (hk : k < 4) (hw : w < 8) (hb : u 3 (4 + k) = nI b) (r : Int32) :
    F_X3_find v (nI (16 + 8 * k + w)) r = (if b = 0 then some (1, fs v (nI (16 + 8 * k + w)) (nI b) (nI w)) else if us b = true then (if w < sz (ty b) then F_X3_find_101 (fs v (nI (16 + 8 * k + w)) (nI b) (nI w)) r (if pb (u 2 (ty b)) w = true then 1 else 0) else some (2, fs v (nI (16 + 8 * k + w)) (nI b) (nI w))) else F_X3_find v (nI (16 + 8 * k + w)) r) := by
  have e1 : nI (16 + 8 * k + w) - 16 = nI (8 * k + w) := by
    rw [show nI (16 + 8 * k + w) - 16 = nI (16 + 8 * k + w - 16) from pk_sub (a := 16 + 8 * k + w) (b := 16) (by omega)]
    congr 1; omega
  have e2 : nI (8 * k + w) / 8 = nI ((8 * k + w) / 8) := pk_div (d := 8) (by omega) (by decide) (by decide)
  have e3 : nI (16 + 8 * k + w) - nI (16 + 8 * k + w) / 8 * 8 = nI ((16 + 8 * k + w) % 8) := pk_rem (d := 8) (by omega) (by decide) (by decide)
  rw [show (8 * k + w) / 8 = k by omega] at e2
  rw [show (16 + 8 * k + w) % 8 = w by omega] at e3
  have hv6 : su (su v 0 15 (-1)) 0 16 (nI (16 + 8 * k + w)) 6 k = nI b := by rw [su_c (by decide), su_c (by decide), (hM.2.2.2.1 k hk).2]; exact hb
  have hMf : MH u (fs v (nI (16 + 8 * k + w)) (nI b) (nI w)) sz ty us := hM.sc fs_sc
  by_cases hb0 : b = 0
  · rw [if_pos hb0]
    unfold F_X3_find
    simp only [sb]
    rw [if_pos (show (16 : Int32) ≤ nI (16 + 8 * k + w) from (nI_leI (a := 16) (by decide) (by omega)).mpr (by omega)), e1, e2, e3]
    simp only [nI_clamp (show k < 2 ^ 31 by omega), okN hk (by decide), ↓reduceIte, hv6]
    rw [if_pos]
    · rfl
    · exact fs_5.trans (by rw [hb0]; rfl)
  · rw [if_neg hb0]
    by_cases hub : us b = true
    · rw [if_pos hub]
      have hr := hM.2.2.1 b hub
      have hs := hMf.1 (ty b) hr.2.2
      unfold F_X3_find
      simp only [sb]
      rw [if_pos (show (16 : Int32) ≤ nI (16 + 8 * k + w) from (nI_leI (a := 16) (by decide) (by omega)).mpr (by omega)), e1, e2, e3]
      simp only [nI_clamp (show k < 2 ^ 31 by omega), okN hk (by decide), ↓reduceIte, hv6]
      show (if fs v (nI (16 + 8 * k + w)) (nI b) (nI w) 0 15 = 0 then _ else if fs v (nI (16 + 8 * k + w)) (nI b) (nI w) 0 15 < 0 ∨ 25 ≤ (fs v (nI (16 + 8 * k + w)) (nI b) (nI w) 0 15).toNatClampNeg then none else if fs v (nI (16 + 8 * k + w)) (nI b) (nI w) 7 (fs v (nI (16 + 8 * k + w)) (nI b) (nI w) 0 15).toNatClampNeg < 0 ∨ 4 ≤ (fs v (nI (16 + 8 * k + w)) (nI b) (nI w) 7 (fs v (nI (16 + 8 * k + w)) (nI b) (nI w) 0 15).toNatClampNeg).toNatClampNeg then none else if fs v (nI (16 + 8 * k + w)) (nI b) (nI w) 0 16 < fs v (nI (16 + 8 * k + w)) (nI b) (nI w) 1 (fs v (nI (16 + 8 * k + w)) (nI b) (nI w) 7 (fs v (nI (16 + 8 * k + w)) (nI b) (nI w) 0 15).toNatClampNeg).toNatClampNeg then (F_X3_isPointer (fs v (nI (16 + 8 * k + w)) (nI b) (nI w)) (fs v (nI (16 + 8 * k + w)) (nI b) (nI w) 0 15) (fs v (nI (16 + 8 * k + w)) (nI b) (nI w) 0 16)).bind (fun q11 => F_X3_find_101 q11.2 r q11.1) else some (2, fs v (nI (16 + 8 * k + w)) (nI b) (nI w))) = _
      rw [fs_5, fs_6, if_neg (show ¬ nI b = 0 from nI_ne0 (by omega) (by omega)), nI_clamp (show b < 2 ^ 31 by omega), if_neg (show ¬ (nI b < 0 ∨ 25 ≤ b) from fun q => (okN (show b < 25 by omega) (by decide)).mp q), hMf.2.1 b hr.1 hr.2.1, if_pos hub, nI_clamp (show ty b < 2 ^ 31 by omega), if_neg (show ¬ (nI (ty b) < 0 ∨ 4 ≤ ty b) from fun q => (okN hr.2.2 (by decide)).mp q), hs.1]
      by_cases hws : w < sz (ty b)
      · rw [if_pos (nI_lt hws (by omega)), if_pos hws, rIsPtr hMf hub]; rfl
      · rw [if_neg (nI_nlt (by omega) (by omega)), if_neg hws]
    · rw [if_neg hub]
theorem k51 {r : Int32} (hr : r = 1 ∨ r = 2) (bz : Bool) (u : St) : (if r = 2 then F_X2_checkOperand_51 u 1 (if bz = true then 1 else 0) else F_X2_checkOperand_51 u 0 (if bz = true then 1 else 0)) = some (if bz = decide (r = 2) then 0 else 3, 0, u) := by
  rcases hr with e | e <;> subst e <;> cases bz <;> rfl
theorem k101 {r : Int32} (hr : r = 1 ∨ r = 2) (bz : Bool) (v : St) : F_X3_find_101 v r (if bz = true then 1 else 0) = some (nI (if bz = decide (r = 2) then 0 else 3), v) := by
  rcases hr with e | e <;> subst e <;> cases bz <;> rfl
set_option maxHeartbeats 1000000 in
theorem opdA {u v : St} {sz ty : Nat → Nat} {us : Nat → Bool} (h : HI u sz ty us 0) (hM : MH u v sz ty us) {r x : Int32} (hr : r = 1 ∨ r = 2) (hx : Opd x) : ∃ k v', k < 4 ∧ F_X2_checkOperand u r x = some (k, 0, u) ∧ F_X3_find v x r = some (nI k, v') ∧ Sc v v' ∧ (k = 0 → ∃ c, Cell u sz ty us x c ∧ AZ (pt u sz ty) us c = decide (r = 2)) := by
  have h11 : F_X2_checkOperand u r x = F_X2_checkOperand_11 u r x := by
    unfold F_X2_checkOperand
    rcases hr with e | e
    · rw [if_pos e]
    · by_cases e1 : r = 1
      · rw [if_pos e1]
      · rw [if_neg e1, if_pos e]
  rw [h11]
  unfold F_X2_checkOperand_11
  rcases hx with ⟨o, ho, e⟩ | ⟨k, w, hk, hw, e⟩
  · subst e
    have hz : (if 4 ≤ o then (1 : Int32) else 0) = if decide (4 ≤ o) = true then 1 else 0 := by by_cases h4 : 4 ≤ o <;> simp [h4]
    have hh : F_X0_holdsPointer u (nI o) = some (if decide (4 ≤ o) = true then 1 else 0, u) := by
      unfold F_X0_holdsPointer
      rw [if_neg (show ¬ (8 : Int32) ≤ nI o from nI_ge (b := 8) ho (by decide))]
      by_cases h4 : 4 ≤ o
      · rw [if_neg (show ¬ nI o < 4 from nI_nlt (b := 4) h4 (by omega)), if_pos (decide_eq_true h4)]
      · rw [if_pos (show nI o < 4 from nI_lt (b := 4) (by omega) (by decide)), if_neg (by simp; omega)]
    rw [if_pos (show nI o < 16 from nI_lt (b := 16) (by omega) (by decide)), findF v ho r, hz, k101 hr]
    unfold F_X2_checkOperand_33
    rw [hh]
    simp only [Option.bind_some]
    rw [k51 hr]
    refine ⟨_, _, ?_, rfl, rfl, Sc.rf.s5.s6, fun h0 => ⟨o, Or.inl ⟨ho, rfl⟩, ?_⟩⟩
    · split <;> decide
    · have hA : AZ (pt u sz ty) us o = decide (4 ≤ o) := by
        unfold AZ
        by_cases h4 : 4 ≤ o
        · simp [h4, ho]
        · simp [h4, show ¬ 8 ≤ o by omega]
      rw [hA]
      by_cases hq : decide (4 ≤ o) = decide (r = 2)
      · exact hq
      · rw [if_neg hq] at h0; omega
  · subst e
    have hv := cl_val h.2.2.1 (c := 4 + k) (by omega) (AZ_root hk)
    obtain ⟨b, hbb⟩ : ∃ b, b = vl u (4 + k) := ⟨_, rfl⟩
    rw [← hbb] at hv
    rw [if_neg (show ¬ nI (16 + 8 * k + w) < 16 from nI_nlt (b := 16) (by omega) (by omega)), ob (sBlockOf u hk hw)]
    dsimp only
    rw [ob (sWordOf u hk hw)]
    dsimp only
    rw [hv.1]
    have hfb := findB hM hk hw hv.1 r
    by_cases hb0 : b = 0
    · rw [if_pos hb0] at hfb
      have hw0 : F_X2_checkWord u (nI b) (nI w) = some (1, 0, u) := by unfold F_X2_checkWord; rw [if_pos (show nI b = 0 by rw [hb0]; rfl)]
      rw [ob hw0]
      exact ⟨1, _, by decide, rfl, hfb, fs_sc, fun q => by cases q⟩
    · have hub := hv.2.2.resolve_left hb0
      have hrb := bs_rng h.1 hub
      rw [if_neg hb0, if_pos hub] at hfb
      by_cases hws : w < sz (ty b)
      · rw [if_pos hws, k101 hr] at hfb
        have hw0 : F_X2_checkWord u (nI b) (nI w) = some (0, 0, u) := by
          unfold F_X2_checkWord
          rw [if_neg (show ¬ nI b = 0 from nI_ne0 (by omega) (by omega)), ob (sHasWordN h.1 hrb.2 (by omega))]
          dsimp only
          rw [if_pos (show us b = true ∧ w < sz (ty b) from ⟨hub, hws⟩), if_neg (by decide)]
        have hz : (if us b = true ∧ pt u sz ty b w = true then (1 : Int32) else 0) = if pb (u 2 (ty b)) w = true then 1 else 0 := by rw [pt_pb hws, hub]; simp
        have hh : F_X0_holdsPointer u (nI (16 + 8 * k + w)) = some (if pb (u 2 (ty b)) w = true then 1 else 0, u) := by
          unfold F_X0_holdsPointer
          rw [if_pos (show (8 : Int32) ≤ nI (16 + 8 * k + w) from (nI_leI (a := 8) (by decide) (by omega)).mpr (by omega)), ob (sBlockOf u hk hw)]
          dsimp only
          rw [ob (sWordOf u hk hw)]
          dsimp only
          rw [hv.1, ob (sIsPointerWord h.1 hrb.2 (show w < 100 by omega))]
          dsimp only
          rw [hz, if_neg (show ¬ ¬ ((if pb (u 2 (ty b)) w = true then (1 : Int32) else 0) = 0 ∨ (if pb (u 2 (ty b)) w = true then (1 : Int32) else 0) = 1) by cases pb (u 2 (ty b)) w <;> simp)]
        have h33 : F_X2_checkOperand_33 u r (nI (16 + 8 * k + w)) = some (if pb (u 2 (ty b)) w = decide (r = 2) then 0 else 3, 0, u) := by
          unfold F_X2_checkOperand_33
          rw [ob hh]
          exact k51 hr _ u
        rw [ob hw0]
        dsimp only
        rw [if_pos rfl, h33]
        refine ⟨_, _, ?_, rfl, hfb, fs_sc, fun h0 => ⟨6 * b + 2 + w, Or.inr ⟨k, w, hk, hw, rfl, by rw [← hbb]; exact hv.1, by rw [← hbb]; exact hub, by rw [← hbb]; exact hws, by rw [← hbb]⟩, ?_⟩⟩
        · split <;> decide
        · have hs := hM.1 (ty b) (hM.2.2.1 b hub).2.2
          rw [AZ_eq hrb.1 (by omega), pt_pb hws, hub, Bool.and_true]
          by_cases hq : pb (u 2 (ty b)) w = decide (r = 2)
          · exact hq
          · rw [if_neg hq] at h0; omega
      · rw [if_neg hws] at hfb
        have hw0 : F_X2_checkWord u (nI b) (nI w) = some (2, 0, u) := by
          unfold F_X2_checkWord
          rw [if_neg (show ¬ nI b = 0 from nI_ne0 (by omega) (by omega)), ob (sHasWordN h.1 hrb.2 (by omega))]
          dsimp only
          rw [if_neg (show ¬ (us b = true ∧ w < sz (ty b)) from fun q => hws q.2), if_pos rfl]
        rw [ob hw0]
        exact ⟨2, _, by decide, rfl, hfb, fs_sc, fun q => by cases q⟩
