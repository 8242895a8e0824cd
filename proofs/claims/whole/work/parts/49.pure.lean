/-! PURE: one instruction -/
theorem fin {u v u' v' : St} {sz ty : Nat → Nat} {us : Nat → Bool} {len nx dp n' : Nat} (hH : HI u' sz ty us 0) (hM : MH u' v' sz ty us) (hg : v' 0 6 = u' 0 10) (hP : Pg u v len) (hl : Pl u v nx dp) (hu : ∀ c, 9 ≤ c → c ≤ 15 → u' c = u c) (h3 : v' 3 = v 3) (h4 : v' 4 = v 4) (h03 : v' 0 3 = v 0 3) (h05 : v' 0 5 = v 0 5) (hn : n' ≤ 40) (h04 : v' 0 4 = nI n') : Ix (su u' 14 4 (nI n')) v' := by
  refine ⟨⟨sz, ty, us, hH.of (fun c c1 c2 => su_c (by omega)) (su_o (by decide)), hM.ofu (su_c (by decide)) (su_c (by decide))⟩, hg.trans (su_o (by decide)).symm, ⟨len, hP.of (fun c c1 c2 => (su_c (by omega)).trans (hu c c1 (by omega))) h03 h3⟩, n', dp, su_e, h04, hn, ?_, ?_, hl.2.2.2.2.2.1, fun i hi => ?_⟩
  · rw [su_o (by decide), hu 14 (by decide) (by decide)]; exact hl.2.2.2.1
  · rw [h05]; exact hl.2.2.2.2.1
  · rw [su_c (by decide), hu 15 (by decide) (by decide), h4]; exact hl.2.2.2.2.2.2 i hi
theorem actP {v : St} {p o : Nat} {x y z : Int32} (hp : p < 40) (ho : o < 15) (ho1 : 1 ≤ o) (hv0 : v 3 (4 * p) = nI o) (hv1 : v 3 (4 * p + 1) = x) (hv2 : v 3 (4 * p + 2) = y) (hv3 : v 3 (4 * p + 3) = z) : F_X3_act v (nI p) = F_X3_act_60 (su v 0 4 (nI (p + 1))) (nI p) (nI o) x y z := by
  unfold F_X3_act
  rw [show (4 : Int32) * nI p = nI (4 * p) from pk_mul 4 p, show nI (4 * p) + 1 = nI (4 * p + 1) from nI_add _ 1, show nI (4 * p) + 2 = nI (4 * p + 2) from nI_add _ 2, show nI (4 * p) + 3 = nI (4 * p + 3) from nI_add _ 3, if_neg (in_ck (show 4 * p < 160 by omega) (by decide)), if_neg (in_ck (show 4 * p + 1 < 160 by omega) (by decide)), if_neg (in_ck (show 4 * p + 2 < 160 by omega) (by decide)), if_neg (in_ck (show 4 * p + 3 < 160 by omega) (by decide)), nI_clamp (show 4 * p < 2 ^ 31 by omega), nI_clamp (show 4 * p + 1 < 2 ^ 31 by omega), nI_clamp (show 4 * p + 2 < 2 ^ 31 by omega), nI_clamp (show 4 * p + 3 < 2 ^ 31 by omega), hv0, hv1, hv2, hv3, nI_1]
  unfold sb
  dsimp only
  rw [if_neg (show ¬ nI o = 0 from nI_ne0 (by omega) (by omega))]
theorem MH.w {u v : St} {sz ty : Nat → Nat} {us : Nat → Bool} {j : Nat} {x : Int32} (h : MH u v sz ty us) : MH u (su v 0 j x) sz ty us := h.of (su_c (by decide)) (su_c (by decide)) (su_c (by decide)) (su_c (by decide)) (su_c (by decide)) (su_c (by decide))
theorem c142 {u u' : St} {P op x y n : Int32} (h : F_X2_placeAfter u op P x y = some (n, u')) : F_X2_doInstruction_142 u P op x y = some (0, 0, su u' 14 4 n) := by
  unfold F_X2_doInstruction_142
  rw [ob h]
theorem stpI {u v : St} {sz ty : Nat → Nat} {us : Nat → Bool} {len nx dp p o c : Nat} {x y z val : Int32} (h : HI u sz ty us 0) (hM : MH u v sz ty us) (hg : v 0 6 = u 0 10) (hP : Pg u v len) (hl : Pl u v nx dp) (hp : p < 40) (hxo : rlX o = 1) (hc : Cell u sz ty us x c) (hA : AZ (pt u sz ty) us c = false) (hI : F_X2_intResult u (nI o) y z = some (val, u)) (hpa : ∀ s, F_X2_placeAfter s (nI o) (nI p) x y = some (nI p + 1, s)) (hact : ∃ w', Sc (su v 0 4 (nI (p + 1))) w' ∧ F_X3_act v (nI p) = (F_X3_write w' x val).bind fun q => some (0, q.2)) :
    ∃ u2 v2 r, bdC u (nI p) o x y z = some (0, 0, u2) ∧ F_X3_act v (nI p) = some (r, v2) ∧ Ix u2 v2 ∧ v2 0 7 = v 0 7 := by
  obtain ⟨w', hS, hact⟩ := hact
  have hlt := hc.lt hM
  have hMw : MH u w' sz ty us := hM.w.sc hS
  obtain ⟨v2, hW, a1, a2, a3, a4⟩ := rWrite hMw hc val
  have hwi : F_X0_writeInt u (nI c) val = some (0, su u 3 c val) := by unfold F_X0_writeInt; rw [if_neg (in_ck hlt (by decide)), nI_clamp (by omega)]
  have b0 : ∀ j, j ≠ 4 → j ≠ 15 → j ≠ 16 → v2 0 j = v 0 j := fun j j1 j2 j3 => (a4 j j2 j3).trans ((hS.2 j j2 j3).trans (su_o (fun q => j1 q.2)))
  refine ⟨su (su u 3 c val) 14 4 (nI (p + 1)), v2, 0, ?_, ?_, fin (v := v) (h.wr hA) a1 ((b0 6 (by decide) (by decide) (by decide)).trans (hg.trans (su_o (by omega)).symm)) hP hl (fun c c1 c2 => su_c (by omega)) (a2.trans ((hS.1 3 (by decide)).trans (su_c (by decide)))) (a3.trans ((hS.1 4 (by decide)).trans (su_c (by decide)))) (b0 3 (by decide) (by decide) (by decide)) (b0 5 (by decide) (by decide) (by decide)) (by omega) ((a4 4 (by decide) (by decide)).trans ((hS.2 4 (by decide) (by decide)).trans su_e)), b0 7 (by decide) (by decide) (by decide)⟩
  · unfold bdC
    rw [if_pos hxo, ob (sCellOf hM hc)]
    dsimp only
    rw [ob hI]
    dsimp only
    rw [ob hwi]
    dsimp only
    rw [c142 (hpa _), nI_1]
  · rw [hact, ob hW]
theorem stpP {u v u1 w1 : St} {sz ty sz1 ty1 : Nat → Nat} {us us1 : Nat → Bool} {len nx dp p o c b : Nat} {x y z : Int32} (hg : v 0 6 = u 0 10) (hP : Pg u v len) (hl : Pl u v nx dp) (hp : p < 40) (hxo : rlX o = 2) (hM : MH u v sz ty us) (hcu : Cell u sz ty us x c) (hR : F_X2_pointerResult u (nI o) y = some (nI b, u1)) (hpa : ∀ s, F_X2_placeAfter s (nI o) (nI p) x y = some (nI p + 1, s)) (h1 : HI u1 sz1 ty1 us1 b) (hM1 : MH u1 w1 sz1 ty1 us1) (hc : Cell u1 sz1 ty1 us1 x c) (hA : AZ (pt u1 sz1 ty1) us1 c = true) (hb : b ≤ 24) (hbu : b = 0 ∨ us1 b = true)
    (hu : ∀ c, 9 ≤ c → c ≤ 15 → u1 c = u c) (hu10 : u1 0 10 = u 0 10) (hw3 : w1 3 = v 3) (hw4 : w1 4 = v 4) (hw04 : w1 0 4 = nI (p + 1)) (hw0 : ∀ j, j ≠ 4 → j ≠ 15 → j ≠ 16 → w1 0 j = v 0 j) (hact : F_X3_act v (nI p) = (F_X3_write w1 x (nI b)).bind fun q => (F_X3_giveBack q.2).bind fun q4 => some (0, q4.2)) :
    ∃ u2 v2 r, bdC u (nI p) o x y z = some (0, 0, u2) ∧ F_X3_act v (nI p) = some (r, v2) ∧ Ix u2 v2 ∧ v2 0 7 = v 0 7 := by
  obtain ⟨u', v1, v', us', a1, a2, a3, a4, a5, a6, ⟨a7, a8, a9⟩, a10⟩ := wpA h1 hM1 hc hA hb hbu
  refine ⟨su u' 14 4 (nI (p + 1)), v', 0, ?_, ?_, fin (v := v) (u := u) a4 a5 (a10 (by rw [hw0 6 (by decide) (by decide) (by decide), hg, hu10])) hP hl (fun c c1 c2 => (a6 c (by omega) (by omega) (by omega) (by omega) (by omega)).trans (hu c c1 c2)) (a7.trans hw3) (a8.trans hw4) ((a9 3 (by decide) (by decide) (by decide)).trans (hw0 3 (by decide) (by decide) (by decide))) ((a9 5 (by decide) (by decide) (by decide)).trans (hw0 5 (by decide) (by decide) (by decide))) (by omega) ((a9 4 (by decide) (by decide) (by decide)).trans hw04), (a9 7 (by decide) (by decide) (by decide)).trans (hw0 7 (by decide) (by decide) (by decide))⟩
  · unfold bdC
    rw [if_neg (by rw [hxo]; decide), if_pos hxo, ob (sCellOf hM hcu)]
    dsimp only
    rw [ob hR]
    dsimp only
    rw [ob a1]
    dsimp only
    rw [c142 (hpa _), nI_1]
  · rw [hact, ob a2]
    dsimp only
    rw [ob a3]
