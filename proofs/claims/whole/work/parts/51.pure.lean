/-! PURE: the instructions, one by one, on both sides -/
def Ctx (u v : St) (sz ty : Nat → Nat) (us : Nat → Bool) (len nx dp p o : Nat) (x y z : Int32) : Prop :=
  HI u sz ty us 0 ∧ MH u v sz ty us ∧ v 0 6 = u 0 10 ∧ Pg u v len ∧ Pl u v nx dp ∧ p < 40 ∧ (v 3 (4 * p) = nI o ∧ v 3 (4 * p + 1) = x ∧ v 3 (4 * p + 2) = y ∧ v 3 (4 * p + 3) = z) ∧ (Rl (rlX o) x ∧ Rl (rlY o) y ∧ Rl (rlZ o) z) ∧
  (((o = 9 → ∃ y, 1 ≤ y ∧ y ≤ 24 ∧ us y = false) ∧ (o = 13 → dp < 8) ∧ (o = 14 → 0 < dp)) ∧ ((rlX o = 1 ∨ rlX o = 2) → ∃ c, Cell u sz ty us x c ∧ AZ (pt u sz ty) us c = decide (rlX o = 2)) ∧ ((rlY o = 1 ∨ rlY o = 2) → ∃ c, Cell u sz ty us y c ∧ AZ (pt u sz ty) us c = decide (rlY o = 2)) ∧ ((rlZ o = 1 ∨ rlZ o = 2) → ∃ c, Cell u sz ty us z c ∧ AZ (pt u sz ty) us c = decide (rlZ o = 2)))
def Out (u v : St) (p o : Nat) (x y z : Int32) : Prop := ∃ u2 v2 r, bdC u (nI p) o x y z = some (0, 0, u2) ∧ F_X3_act v (nI p) = some (r, v2) ∧ Ix u2 v2 ∧ v2 0 7 = v 0 7
theorem st_1 {u v : St} {sz ty : Nat → Nat} {us : Nat → Bool} {len nx dp p : Nat} {x y z : Int32} (H : Ctx u v sz ty us len nx dp p 1 x y z) : Out u v p 1 x y z := by
  obtain ⟨h, hM, hg, hP, hl, hp, ⟨e0, e1, e2, e3⟩, ⟨rx, ry, rz⟩, ⟨rm9, rm13, rm14⟩, cx, cy, cz⟩ := H
  have hac := actP hp (by decide) (by decide) e0 e1 e2 e3
  obtain ⟨c, hc, hA⟩ := cx (Or.inl rfl)
  refine stpI h hM hg hP hl hp rfl hc (hA.trans (by decide)) (val := y) rfl (fun s => rfl) ⟨_, Sc.rf, ?_⟩
  rw [hac, t60_1]
  exact congrArg _ (funext fun q => t72_1 _ _ _ _ _)
theorem st_2 {u v : St} {sz ty : Nat → Nat} {us : Nat → Bool} {len nx dp p : Nat} {x y z : Int32} (H : Ctx u v sz ty us len nx dp p 2 x y z) : Out u v p 2 x y z := by
  obtain ⟨h, hM, hg, hP, hl, hp, ⟨e0, e1, e2, e3⟩, ⟨rx, ry, rz⟩, ⟨rm9, rm13, rm14⟩, cx, cy, cz⟩ := H
  have hac := actP hp (by decide) (by decide) e0 e1 e2 e3
  obtain ⟨c, hc, hA⟩ := cx (Or.inl rfl)
  obtain ⟨d, hd, _⟩ := cy (Or.inl rfl)
  obtain ⟨w1, hr, hs⟩ := rRead (hM.w (j := 4) (x := nI (p + 1))) hd
  have hI : F_X2_intResult u (nI 2) y z = (F_X2_valueOf u y).bind fun q3 => some (q3.1, q3.2) := rfl
  refine stpI h hM hg hP hl hp rfl hc (hA.trans (by decide)) (val := u 3 d) (by rw [hI, ob (sValueOf hM hd)]) (fun s => rfl) ⟨w1, hs, ?_⟩
  rw [hac, t60_2]
  unfold F_X3_act_83
  rw [ob hr]
  exact congrArg _ (funext fun q => t98_2 _ _ _ _ _)
theorem st_3 {u v : St} {sz ty : Nat → Nat} {us : Nat → Bool} {len nx dp p : Nat} {x y z : Int32} (H : Ctx u v sz ty us len nx dp p 3 x y z) : Out u v p 3 x y z := by
  obtain ⟨h, hM, hg, hP, hl, hp, ⟨e0, e1, e2, e3⟩, ⟨rx, ry, rz⟩, ⟨rm9, rm13, rm14⟩, cx, cy, cz⟩ := H
  have hac := actP hp (by decide) (by decide) e0 e1 e2 e3
  obtain ⟨c, hc, hA⟩ := cx (Or.inl rfl)
  obtain ⟨d, hd, _⟩ := cy (Or.inl rfl)
  obtain ⟨e, he, _⟩ := cz (Or.inl rfl)
  obtain ⟨w1, hr1, hs1⟩ := rRead (hM.w (j := 4) (x := nI (p + 1))) hd
  obtain ⟨w2, hr2, hs2⟩ := rRead (hM.w.sc hs1) he
  have hI : F_X2_intResult u (nI 3) y z = (F_X2_valueOf u y).bind fun q6 => (F_X2_valueOf q6.2 z).bind fun q8 => some (q6.1 + q8.1, q8.2) := rfl
  have hI2 : F_X2_intResult u (nI 3) y z = some (u 3 d + u 3 e, u) := by
    rw [hI, ob (sValueOf hM hd)]
    dsimp only
    rw [ob (sValueOf hM he)]
  have hV : ∀ (w : St) (a b : Int32), F_X3_value w (nI 3) a b = some (a + b, w) := fun _ _ _ => rfl
  have hV2 : F_X3_value w2 (nI 3) (u 3 d) (u 3 e) = some (u 3 d + u 3 e, w2) := by
    rw [hV]
  refine stpI h hM hg hP hl hp rfl hc (hA.trans (by decide)) hI2 (fun s => rfl) ⟨w2, hs1.tr hs2, ?_⟩
  rw [hac, t60_3]
  unfold F_X3_act_114
  rw [ob hr1]
  dsimp only
  rw [ob hr2]
  dsimp only
  rw [ob hV2]
  exact congrArg _ (funext fun q => t143_3 _ _ _ _)
theorem st_4 {u v : St} {sz ty : Nat → Nat} {us : Nat → Bool} {len nx dp p : Nat} {x y z : Int32} (H : Ctx u v sz ty us len nx dp p 4 x y z) : Out u v p 4 x y z := by
  obtain ⟨h, hM, hg, hP, hl, hp, ⟨e0, e1, e2, e3⟩, ⟨rx, ry, rz⟩, ⟨rm9, rm13, rm14⟩, cx, cy, cz⟩ := H
  have hac := actP hp (by decide) (by decide) e0 e1 e2 e3
  obtain ⟨c, hc, hA⟩ := cx (Or.inl rfl)
  obtain ⟨d, hd, _⟩ := cy (Or.inl rfl)
  obtain ⟨e, he, _⟩ := cz (Or.inl rfl)
  obtain ⟨w1, hr1, hs1⟩ := rRead (hM.w (j := 4) (x := nI (p + 1))) hd
  obtain ⟨w2, hr2, hs2⟩ := rRead (hM.w.sc hs1) he
  have hI : F_X2_intResult u (nI 4) y z = (F_X2_valueOf u y).bind fun q6 => (F_X2_valueOf q6.2 z).bind fun q8 => some (q6.1 - q8.1, q8.2) := rfl
  have hI2 : F_X2_intResult u (nI 4) y z = some (u 3 d - u 3 e, u) := by
    rw [hI, ob (sValueOf hM hd)]
    dsimp only
    rw [ob (sValueOf hM he)]
  have hV : ∀ (w : St) (a b : Int32), F_X3_value w (nI 4) a b = some (a - b, w) := fun _ _ _ => rfl
  have hV2 : F_X3_value w2 (nI 4) (u 3 d) (u 3 e) = some (u 3 d - u 3 e, w2) := by
    rw [hV]
  refine stpI h hM hg hP hl hp rfl hc (hA.trans (by decide)) hI2 (fun s => rfl) ⟨w2, hs1.tr hs2, ?_⟩
  rw [hac, t60_4]
  unfold F_X3_act_114
  rw [ob hr1]
  dsimp only
  rw [ob hr2]
  dsimp only
  rw [ob hV2]
  exact congrArg _ (funext fun q => t143_4 _ _ _ _)
theorem st_5 {u v : St} {sz ty : Nat → Nat} {us : Nat → Bool} {len nx dp p : Nat} {x y z : Int32} (H : Ctx u v sz ty us len nx dp p 5 x y z) : Out u v p 5 x y z := by
  obtain ⟨h, hM, hg, hP, hl, hp, ⟨e0, e1, e2, e3⟩, ⟨rx, ry, rz⟩, ⟨rm9, rm13, rm14⟩, cx, cy, cz⟩ := H
  have hac := actP hp (by decide) (by decide) e0 e1 e2 e3
  obtain ⟨c, hc, hA⟩ := cx (Or.inl rfl)
  obtain ⟨d, hd, _⟩ := cy (Or.inl rfl)
  obtain ⟨e, he, _⟩ := cz (Or.inl rfl)
  obtain ⟨w1, hr1, hs1⟩ := rRead (hM.w (j := 4) (x := nI (p + 1))) hd
  obtain ⟨w2, hr2, hs2⟩ := rRead (hM.w.sc hs1) he
  have hI : F_X2_intResult u (nI 5) y z = (F_X2_valueOf u y).bind fun q6 => (F_X2_valueOf q6.2 z).bind fun q8 => some (q6.1 * q8.1, q8.2) := rfl
  have hI2 : F_X2_intResult u (nI 5) y z = some (u 3 d * u 3 e, u) := by
    rw [hI, ob (sValueOf hM hd)]
    dsimp only
    rw [ob (sValueOf hM he)]
  have hV : ∀ (w : St) (a b : Int32), F_X3_value w (nI 5) a b = some (a * b, w) := fun _ _ _ => rfl
  have hV2 : F_X3_value w2 (nI 5) (u 3 d) (u 3 e) = some (u 3 d * u 3 e, w2) := by
    rw [hV]
  refine stpI h hM hg hP hl hp rfl hc (hA.trans (by decide)) hI2 (fun s => rfl) ⟨w2, hs1.tr hs2, ?_⟩
  rw [hac, t60_5]
  unfold F_X3_act_114
  rw [ob hr1]
  dsimp only
  rw [ob hr2]
  dsimp only
  rw [ob hV2]
  exact congrArg _ (funext fun q => t143_5 _ _ _ _)
theorem st_6 {u v : St} {sz ty : Nat → Nat} {us : Nat → Bool} {len nx dp p : Nat} {x y z : Int32} (H : Ctx u v sz ty us len nx dp p 6 x y z) : Out u v p 6 x y z := by
  obtain ⟨h, hM, hg, hP, hl, hp, ⟨e0, e1, e2, e3⟩, ⟨rx, ry, rz⟩, ⟨rm9, rm13, rm14⟩, cx, cy, cz⟩ := H
  have hac := actP hp (by decide) (by decide) e0 e1 e2 e3
  obtain ⟨c, hc, hA⟩ := cx (Or.inl rfl)
  obtain ⟨d, hd, _⟩ := cy (Or.inl rfl)
  obtain ⟨e, he, _⟩ := cz (Or.inl rfl)
  obtain ⟨w1, hr1, hs1⟩ := rRead (hM.w (j := 4) (x := nI (p + 1))) hd
  obtain ⟨w2, hr2, hs2⟩ := rRead (hM.w.sc hs1) he
  have hI : F_X2_intResult u (nI 6) y z = (F_X2_valueOf u y).bind fun q6 => (F_X2_valueOf q6.2 z).bind fun q8 => if q8.1 ≤ q6.1 then some (0, q8.2) else some (1, q8.2) := rfl
  have hI2 : F_X2_intResult u (nI 6) y z = some (if u 3 e ≤ u 3 d then 0 else 1, u) := by
    rw [hI, ob (sValueOf hM hd)]
    dsimp only
    rw [ob (sValueOf hM he)]
    dsimp only
    split <;> rfl
  have hV : ∀ (w : St) (a b : Int32), F_X3_value w (nI 6) a b = if b ≤ a then some (0, w) else some (1, w) := fun _ _ _ => rfl
  have hV2 : F_X3_value w2 (nI 6) (u 3 d) (u 3 e) = some (if u 3 e ≤ u 3 d then 0 else 1, w2) := by
    rw [hV]
    split <;> rfl
  refine stpI h hM hg hP hl hp rfl hc (hA.trans (by decide)) hI2 (fun s => rfl) ⟨w2, hs1.tr hs2, ?_⟩
  rw [hac, t60_6]
  unfold F_X3_act_114
  rw [ob hr1]
  dsimp only
  rw [ob hr2]
  dsimp only
  rw [ob hV2]
  exact congrArg _ (funext fun q => t143_6 _ _ _ _)
theorem st_12 {u v : St} {sz ty : Nat → Nat} {us : Nat → Bool} {len nx dp p : Nat} {x y z : Int32} (H : Ctx u v sz ty us len nx dp p 12 x y z) : Out u v p 12 x y z := by
  obtain ⟨h, hM, hg, hP, hl, hp, ⟨e0, e1, e2, e3⟩, ⟨rx, ry, rz⟩, ⟨rm9, rm13, rm14⟩, cx, cy, cz⟩ := H
  have hac := actP hp (by decide) (by decide) e0 e1 e2 e3
  obtain ⟨c, hc, hA⟩ := cx (Or.inl rfl)
  obtain ⟨d, hd, _⟩ := cy (Or.inr rfl)
  obtain ⟨e, he, _⟩ := cz (Or.inr rfl)
  obtain ⟨w1, hr1, hs1⟩ := rRead (hM.w (j := 4) (x := nI (p + 1))) hd
  obtain ⟨w2, hr2, hs2⟩ := rRead (hM.w.sc hs1) he
  have hI : F_X2_intResult u (nI 12) y z = (F_X2_valueOf u y).bind fun q6 => (F_X2_valueOf q6.2 z).bind fun q8 => if q6.1 = q8.1 then some (1, q8.2) else some (0, q8.2) := rfl
  have hI2 : F_X2_intResult u (nI 12) y z = some (if u 3 d = u 3 e then 1 else 0, u) := by
    rw [hI, ob (sValueOf hM hd)]
    dsimp only
    rw [ob (sValueOf hM he)]
    dsimp only
    split <;> rfl
  have hV : ∀ (w : St) (a b : Int32), F_X3_value w (nI 12) a b = if a = b then some (1, w) else some (0, w) := fun _ _ _ => rfl
  have hV2 : F_X3_value w2 (nI 12) (u 3 d) (u 3 e) = some (if u 3 d = u 3 e then 1 else 0, w2) := by
    rw [hV]
    split <;> rfl
  refine stpI h hM hg hP hl hp rfl hc (hA.trans (by decide)) hI2 (fun s => rfl) ⟨w2, hs1.tr hs2, ?_⟩
  rw [hac, t60_12]
  unfold F_X3_act_114
  rw [ob hr1]
  dsimp only
  rw [ob hr2]
  dsimp only
  rw [ob hV2]
  exact congrArg _ (funext fun q => t143_12 _ _ _ _)
theorem st_7 {u v : St} {sz ty : Nat → Nat} {us : Nat → Bool} {len nx dp p : Nat} {x y z : Int32} (H : Ctx u v sz ty us len nx dp p 7 x y z) : Out u v p 7 x y z := by
  obtain ⟨h, hM, hg, hP, hl, hp, ⟨e0, e1, e2, e3⟩, ⟨rx, ry, rz⟩, ⟨rm9, rm13, rm14⟩, cx, cy, cz⟩ := H
  have hac := actP hp (by decide) (by decide) e0 e1 e2 e3
  obtain ⟨q, hq, eq⟩ := rx.2.1 rfl
  subst eq
  refine ⟨su u 14 4 (nI q), su (su v 0 4 (nI (p + 1))) 0 4 (nI q), 0, ?_, hac.trans (t60_7 _ _ _ _ _), fin (v := v) (u := u) h hM.w.w ?_ hP hl (fun _ _ _ => rfl) ?_ ?_ ?_ ?_ (by omega) su_e, ?_⟩
  · unfold bdC
    rw [if_neg (by decide), if_neg (by decide)]
    exact c142 rfl
  · rw [su_o (by decide), su_o (by decide)]; exact hg
  · rw [su_c (by decide), su_c (by decide)]
  · rw [su_c (by decide), su_c (by decide)]
  · rw [su_o (by decide), su_o (by decide)]
  · rw [su_o (by decide), su_o (by decide)]
  · rw [su_o (by decide), su_o (by decide)]
theorem st_8 {u v : St} {sz ty : Nat → Nat} {us : Nat → Bool} {len nx dp p : Nat} {x y z : Int32} (H : Ctx u v sz ty us len nx dp p 8 x y z) : Out u v p 8 x y z := by
  obtain ⟨h, hM, hg, hP, hl, hp, ⟨e0, e1, e2, e3⟩, ⟨rx, ry, rz⟩, ⟨rm9, rm13, rm14⟩, cx, cy, cz⟩ := H
  have hac := actP hp (by decide) (by decide) e0 e1 e2 e3
  obtain ⟨q, hq, eq⟩ := rx.2.1 rfl
  subst eq
  obtain ⟨d, hd, _⟩ := cy (Or.inl rfl)
  obtain ⟨w1, hr, hs⟩ := rRead (hM.w (j := 4) (x := nI (p + 1))) hd
  have b0 : ∀ j, j ≠ 4 → j ≠ 15 → j ≠ 16 → w1 0 j = v 0 j := fun j j1 j2 j3 => (hs.2 j j2 j3).trans (su_o (fun q => j1 q.2))
  have b3 : w1 3 = v 3 := (hs.1 3 (by decide)).trans (su_c (by decide))
  have b4 : w1 4 = v 4 := (hs.1 4 (by decide)).trans (su_c (by decide))
  have hpl : F_X2_placeAfter u (nI 8) (nI p) (nI q) y = (F_X2_valueOf u y).bind fun q3 => (if q3.1 = 0 then (some ((nI p + 1), q3.2)) else (some (nI q, q3.2))) := rfl
  rw [ob (sValueOf hM hd)] at hpl
  dsimp only at hpl
  have hac2 : F_X3_act v (nI p) = if u 3 d = 0 then some (0, w1) else some (0, su w1 0 4 (nI q)) := by
    rw [hac, t60_8]
    unfold F_X3_act_160
    rw [if_pos (show nI 8 = 8 from rfl), ob hr]
    dsimp only
    rw [t180_8, t180_8]
  have hbd : bdC u (nI p) 8 (nI q) y z = F_X2_doInstruction_142 u (nI p) (nI 8) (nI q) y := by
    unfold bdC
    rw [if_neg (by decide), if_neg (by decide)]
  unfold Out
  rw [hbd, hac2]
  by_cases h0 : u 3 d = 0
  · rw [if_pos h0, nI_1] at hpl
    rw [if_pos h0, c142 hpl]
    exact ⟨_, w1, 0, rfl, rfl, fin (v := v) (u := u) h (hM.w.sc hs) ((b0 6 (by decide) (by decide) (by decide)).trans hg) hP hl (fun _ _ _ => rfl) b3 b4 (b0 3 (by decide) (by decide) (by decide)) (b0 5 (by decide) (by decide) (by decide)) (by omega) ((hs.2 4 (by decide) (by decide)).trans su_e), b0 7 (by decide) (by decide) (by decide)⟩
  · rw [if_neg h0] at hpl
    rw [if_neg h0, c142 hpl]
    exact ⟨_, _, 0, rfl, rfl, fin (v := v) (u := u) h (hM.w.sc hs).w ((su_o (by decide)).trans ((b0 6 (by decide) (by decide) (by decide)).trans hg)) hP hl (fun _ _ _ => rfl) ((su_c (by decide)).trans b3) ((su_c (by decide)).trans b4) ((su_o (by decide)).trans (b0 3 (by decide) (by decide) (by decide))) ((su_o (by decide)).trans (b0 5 (by decide) (by decide) (by decide))) (by omega) su_e, (su_o (by decide)).trans (b0 7 (by decide) (by decide) (by decide))⟩
theorem st_9 {u v : St} {sz ty : Nat → Nat} {us : Nat → Bool} {len nx dp p : Nat} {x y z : Int32} (H : Ctx u v sz ty us len nx dp p 9 x y z) : Out u v p 9 x y z := by
  obtain ⟨h, hM, hg, hP, hl, hp, ⟨e0, e1, e2, e3⟩, ⟨rx, ry, rz⟩, ⟨rm9, rm13, rm14⟩, cx, cy, cz⟩ := H
  have hac := actP hp (by decide) (by decide) e0 e1 e2 e3
  obtain ⟨c, hc, hA⟩ := cx (Or.inr rfl)
  have hA : AZ (pt u sz ty) us c = true := hA.trans (by decide)
  obtain ⟨t, ht, et⟩ := ry.2.2 rfl
  subst et
  obtain ⟨y0, g1, g2, g3⟩ := rm9 rfl
  obtain ⟨u1, b, hmk, b1, b2, b3, b4, b5, b6, b7, b8, b9, b10, b11⟩ := sMake (t := nI t) fuel 1 u (by decide) (by decide) (by decide) h.1 (fun x x1 x2 => by omega) ⟨y0, g1, g2, g3⟩
  have hmk' : F_X0_makeBlock u (nI t) = some (nI b, u1) := hmk
  have hMw := hM.w (j := 4) (x := nI (p + 1))
  have hfr : F_X3_free (su v 0 4 (nI (p + 1))) = some (nI b, su v 0 4 (nI (p + 1))) := by
    rcases rFree hMw fuel 1 (by decide) (by decide) (by decide) (fun x x1 x2 => by omega) with ⟨y1, k1, k2, k3, k4, k5⟩ | ⟨k1, k2⟩
    · have : y1 = b := by
        rcases Nat.lt_trichotomy y1 b with q | q | q
        · rw [b4 y1 k2 q] at k4; cases k4
        · exact q
        · rw [k5 b b1 q] at b3; cases b3
      rw [this] at k1
      exact k1
    · rw [k2 y0 g1 g2] at g3; cases g3
  obtain ⟨w1, j1, j2, j3⟩ := rAct204 (P := nI p) (op := nI 9) (x3 := x) b2 fuel 0 (su (su v 0 4 (nI (p + 1))) 7 b (nI t)) (by decide) (by decide)
  have hv0 : ∀ c, c ≠ 7 → c ≠ 8 → w1 c = su v 0 4 (nI (p + 1)) c := fun c c1 c2 => (j2 c c2).trans (su_c c1)
  have h2 := b5 2 (by decide) (by decide) (by decide) (by decide) (by decide)
  have hnc : ¬ (6 * b + 2 ≤ c ∧ c < 6 * b + 8) := fun q => by
    unfold AZ at hA
    rw [show (c - 2) / 6 = b by omega, b3] at hA
    simp at hA; omega
  refine stpP (u1 := u1) (w1 := w1) (sz1 := sz) (ty1 := tyB ty b t) (us1 := add1 us b) hg hP hl hp rfl hM hc (b := b) ?_ (fun s => rfl) (mkHI h b1 b2 b3 ht b5 b6 b7 b8 b9 b11) (mkMH hM b1 b2 ht h2 b11 (fun c c1 c2 c3 => (hv0 c c2 c3).trans (su_c c1)) ?_ (fun j => ?_)) (mkCell b1 b3 b11 hc) (by rw [AZ_mk h2 hnc]; exact hA) b2 (Or.inr add1_y) (fun c c1 c2 => b5 c (by omega) (by omega) (by omega) (by omega) (by omega)) b10 ((hv0 3 (by decide) (by decide)).trans (su_c (by decide))) ((hv0 4 (by decide) (by decide)).trans (su_c (by decide))) ?_ (fun j q1 q2 q3 => ?_) ?_
  · have hR : F_X2_pointerResult u (nI 9) (nI t) = (F_X0_makeBlock u (nI t)).bind fun q2 => some (q2.1, q2.2) := rfl
    rw [hR, ob hmk']
  · rw [j2 7 (by decide), su_s, su_c (by decide)]
  · rw [j3 j, su_c (by decide), su_c (by decide)]
  · rw [hv0 0 (by decide) (by decide)]; exact su_e
  · rw [hv0 0 (by decide) (by decide)]; exact su_o (fun q => q1 q.2)
  · rw [hac, t60_9]
    unfold F_X3_act_180
    rw [if_pos (show nI 9 = 9 from rfl), ob hfr]
    dsimp only
    rw [if_neg (in_ck (show b < 25 by omega) (by decide)), nI_clamp (by omega)]
    unfold sb
    dsimp only
    refine j1.trans ?_
    exact congrArg _ (funext fun q => t238_9 _ _ _)
theorem st_10 {u v : St} {sz ty : Nat → Nat} {us : Nat → Bool} {len nx dp p : Nat} {x y z : Int32} (H : Ctx u v sz ty us len nx dp p 10 x y z) : Out u v p 10 x y z := by
  obtain ⟨h, hM, hg, hP, hl, hp, ⟨e0, e1, e2, e3⟩, ⟨rx, ry, rz⟩, ⟨rm9, rm13, rm14⟩, cx, cy, cz⟩ := H
  have hac := actP hp (by decide) (by decide) e0 e1 e2 e3
  obtain ⟨c, hc, hA⟩ := cx (Or.inr rfl)
  obtain ⟨d, hd, hD⟩ := cy (Or.inr rfl)
  have hv := cl_val h.2.2.1 (hd.lt hM) (hD.trans (by decide))
  obtain ⟨w1, hr, hs⟩ := rRead (hM.w (j := 4) (x := nI (p + 1))) hd
  rw [hv.1] at hr
  refine stpP (u1 := u) (w1 := w1) hg hP hl hp rfl hM hc (b := vl u d) ?_ (fun s => rfl) (h.e _) (hM.w.sc hs) hc (hA.trans (by decide)) hv.2.1 hv.2.2 (fun _ _ _ => rfl) rfl ((hs.1 3 (by decide)).trans (su_c (by decide))) ((hs.1 4 (by decide)).trans (su_c (by decide))) ((hs.2 4 (by decide) (by decide)).trans su_e) (fun j q1 q2 q3 => (hs.2 j q2 q3).trans (su_o (fun q => q1 q.2))) ?_
  · have hR : F_X2_pointerResult u (nI 10) y = (F_X2_valueOf u y).bind fun q5 => some (q5.1, q5.2) := rfl
    rw [hR, ob (sValueOf hM hd), hv.1]
  · rw [hac, t60_10]
    unfold F_X3_act_83
    rw [ob hr]
    exact congrArg _ (funext fun q => t98_10 _ _ _ _ _)
theorem st_11 {u v : St} {sz ty : Nat → Nat} {us : Nat → Bool} {len nx dp p : Nat} {x y z : Int32} (H : Ctx u v sz ty us len nx dp p 11 x y z) : Out u v p 11 x y z := by
  obtain ⟨h, hM, hg, hP, hl, hp, ⟨e0, e1, e2, e3⟩, ⟨rx, ry, rz⟩, ⟨rm9, rm13, rm14⟩, cx, cy, cz⟩ := H
  have hac := actP hp (by decide) (by decide) e0 e1 e2 e3
  obtain ⟨c, hc, hA⟩ := cx (Or.inr rfl)
  refine stpP (u1 := u) (w1 := su v 0 4 (nI (p + 1))) hg hP hl hp rfl hM hc (b := 0) rfl (fun s => rfl) h hM.w hc (hA.trans (by decide)) (by decide) (Or.inl rfl) (fun _ _ _ => rfl) rfl (su_c (by decide)) (su_c (by decide)) su_e (fun j q1 q2 q3 => su_o (fun q => q1 q.2)) ?_
  rw [hac, t60_11]
  unfold F_X3_act_238
  rw [if_pos (show nI 11 = 11 from rfl)]
  exact congrArg _ (funext fun q => t250_11 _ _)
theorem st_13 {u v : St} {sz ty : Nat → Nat} {us : Nat → Bool} {len nx dp p : Nat} {x y z : Int32} (H : Ctx u v sz ty us len nx dp p 13 x y z) : Out u v p 13 x y z := by
  obtain ⟨h, hM, hg, hP, hl, hp, ⟨e0, e1, e2, e3⟩, ⟨rx, ry, rz⟩, ⟨rm9, rm13, rm14⟩, cx, cy, cz⟩ := H
  have hac := actP hp (by decide) (by decide) e0 e1 e2 e3
  obtain ⟨q, hq, eq⟩ := rx.2.1 rfl
  subst eq
  have hd := rm13 rfl
  obtain ⟨l1, l2, l3, l4, l5, l6, l7⟩ := hl
  refine ⟨su (su (su u 15 dp (nI (p + 1))) 14 3 (nI (dp + 1))) 14 4 (nI q), su (su (su (su v 0 4 (nI (p + 1))) 0 4 (nI q)) 4 dp (nI (p + 1))) 0 5 (nI (dp + 1)), 0, ?_, ?_, ⟨⟨sz, ty, us, h.of (fun c c1 c2 => ?_) ?_, (hM.of ?_ ?_ ?_ ?_ ?_ ?_).ofu ?_ ?_⟩, ?_, ⟨len, hP.of (fun c c1 c2 => ?_) ?_ ?_⟩, q, dp + 1, ?_, ?_, by omega, ?_, ?_, by omega, fun i hi => ?_⟩, ?_⟩
  · unfold bdC
    rw [if_neg (by decide), if_neg (by decide)]
    refine c142 ?_
    have hpl : F_X2_placeAfter u (nI 13) (nI p) (nI q) y = (if ((u 14 3) < 0 ∨ 8 ≤ (u 14 3).toNatClampNeg) then none else (sb (su u 15 (u 14 3).toNatClampNeg (nI p + 1)) fun u12 => (sb (su u12 14 3 ((u12 14 3) + 1)) fun u13 => (some (nI q, u13))))) := rfl
    rw [hpl, if_neg (by rw [l4]; exact in_ck hd (by decide)), l4, nI_clamp (by omega), nI_1]
    unfold sb
    dsimp only
    rw [su_c (by decide), l4, nI_1]
  · rw [hac, t60_13]
    unfold F_X3_act_250
    have w5 : su (su v 0 4 (nI (p + 1))) 0 4 (nI q) 0 5 = nI dp := by rw [su_o (by decide), su_o (by decide)]; exact l5
    rw [if_pos (show nI 13 = 13 from rfl), if_neg (by rw [w5]; exact in_ck hd (by decide)), w5, nI_clamp (by omega), nI_1]
    unfold sb
    dsimp only
    rw [su_c (i := 0) (c := 4) (by decide), w5, nI_1, t278_13]
  · rw [su_c (by omega), su_c (by omega), su_c (by omega)]
  · rw [su_c (by decide), su_c (by decide), su_c (by decide)]
  · rw [su_c (by decide), su_c (by decide), su_c (by decide), su_c (by decide)]
  · rw [su_c (by decide), su_c (by decide), su_c (by decide), su_c (by decide)]
  · rw [su_c (by decide), su_c (by decide), su_c (by decide), su_c (by decide)]
  · rw [su_c (by decide), su_c (by decide), su_c (by decide), su_c (by decide)]
  · rw [su_c (by decide), su_c (by decide), su_c (by decide), su_c (by decide)]
  · rw [su_c (by decide), su_c (by decide), su_c (by decide), su_c (by decide)]
  · rw [su_c (by decide), su_c (by decide), su_c (by decide)]
  · rw [su_c (by decide), su_c (by decide), su_c (by decide)]
  · simp only [su_v]; simp; exact hg
  · rw [su_c (by omega), su_c (by omega), su_c (by omega)]
  · simp only [su_v]; simp
  · rw [su_c (by decide), su_c (by decide), su_c (by decide), su_c (by decide)]
  · exact su_e
  · simp only [su_v]; simp
  · simp only [su_v]; simp
  · exact su_e
  · simp only [su_v]
    by_cases e : i = dp
    · simp [e]; exact ⟨p + 1, by omega, rfl⟩
    · simp [e]; exact l7 i (by omega)
  · simp only [su_v]; simp
theorem st_14 {u v : St} {sz ty : Nat → Nat} {us : Nat → Bool} {len nx dp p : Nat} {x y z : Int32} (H : Ctx u v sz ty us len nx dp p 14 x y z) : Out u v p 14 x y z := by
  obtain ⟨h, hM, hg, hP, hl, hp, ⟨e0, e1, e2, e3⟩, ⟨rx, ry, rz⟩, ⟨rm9, rm13, rm14⟩, cx, cy, cz⟩ := H
  have hac := actP hp (by decide) (by decide) e0 e1 e2 e3
  have hd := rm14 rfl
  obtain ⟨l1, l2, l3, l4, l5, l6, l7⟩ := hl
  obtain ⟨q, q1, q2, q3⟩ := l7 (dp - 1) (by omega)
  have e1 : nI dp - 1 = nI (dp - 1) := pk_sub (a := dp) (b := 1) hd
  refine ⟨su (su u 14 3 (nI (dp - 1))) 14 4 (nI q), su (su (su v 0 4 (nI (p + 1))) 0 5 (nI (dp - 1))) 0 4 (nI q), 0, ?_, ?_, ⟨⟨sz, ty, us, h.of (fun c c1 c2 => ?_) ?_, hM.w.w.w.ofu ?_ ?_⟩, ?_, ⟨len, hP.of (fun c c1 c2 => ?_) ?_ ?_⟩, q, dp - 1, ?_, ?_, by omega, ?_, ?_, by omega, fun i hi => ?_⟩, ?_⟩
  · unfold bdC
    rw [if_neg (by decide), if_neg (by decide)]
    refine c142 ?_
    have hpl : F_X2_placeAfter u (nI 14) (nI p) x y = (sb (su u 14 3 ((u 14 3) - 1)) fun u15 => (if ((u15 14 3) < 0 ∨ 8 ≤ (u15 14 3).toNatClampNeg) then none else (some ((u15 15 (u15 14 3).toNatClampNeg), u15)))) := rfl
    rw [hpl]
    unfold sb
    dsimp only
    rw [l4, e1, if_neg (by rw [su_e]; exact in_ck (by omega) (by decide)), su_e, nI_clamp (by omega), su_c (by decide), q2]
  · rw [hac, t60_14]
    unfold F_X3_act_278
    rw [if_pos (show nI 14 = 14 from rfl)]
    unfold sb
    dsimp only
    have w5 : su v 0 4 (nI (p + 1)) 0 5 = nI dp := by rw [su_o (by decide)]; exact l5
    rw [w5, e1, if_neg (by rw [su_e]; exact in_ck (by omega) (by decide)), su_e, nI_clamp (by omega), su_c (i := 4) (by decide), su_c (i := 4) (by decide), q3, t307_14]
  · rw [su_c (by omega), su_c (by omega)]
  · rw [su_c (by decide), su_c (by decide)]
  · rw [su_c (by decide), su_c (by decide)]
  · rw [su_c (by decide), su_c (by decide)]
  · simp only [su_v]; simp; exact hg
  · rw [su_c (by omega), su_c (by omega)]
  · simp only [su_v]; simp
  · rw [su_c (by decide), su_c (by decide), su_c (by decide)]
  · exact su_e
  · exact su_e
  · simp only [su_v]; simp
  · simp only [su_v]; simp
  · rw [su_c (by decide), su_c (by decide), su_c (by decide), su_c (by decide), su_c (by decide)]; exact l7 i (by omega)
  · simp only [su_v]; simp
