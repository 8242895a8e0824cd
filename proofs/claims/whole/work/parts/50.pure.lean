/-! PURE: the instructions, one by one -/
theorem t72_1 (w : St) (P x y z : Int32) : F_X3_act_72 w P (nI 1) x y z = some (0, w) := rfl
theorem t60_1 (w : St) (P x y z : Int32) : F_X3_act_60 w P (nI 1) x y z = (F_X3_write w x y).bind fun q2 => F_X3_act_72 q2.2 P (nI 1) x y z := rfl
theorem t60_2 (w : St) (P x y z : Int32) : F_X3_act_60 w P (nI 2) x y z = F_X3_act_83 w P (nI 2) x y z := rfl
theorem t98_2 (w : St) (P x y z : Int32) : F_X3_act_98 w P (nI 2) x y z = some (0, w) := rfl
theorem t60_10 (w : St) (P x y z : Int32) : F_X3_act_60 w P (nI 10) x y z = F_X3_act_83 w P (nI 10) x y z := rfl
theorem t98_10 (w : St) (P x y z : Int32) : F_X3_act_98 w P (nI 10) x y z = (F_X3_giveBack w).bind fun q4 => some (0, q4.2) := rfl
theorem t60_7 (w : St) (P x y z : Int32) : F_X3_act_60 w P (nI 7) x y z = some (0, su w 0 4 x) := rfl
theorem t60_8 (w : St) (P x y z : Int32) : F_X3_act_60 w P (nI 8) x y z = F_X3_act_160 w P (nI 8) x y := rfl
theorem t180_8 (w : St) (P x y : Int32) : F_X3_act_180 w P (nI 8) x y = some (0, w) := rfl
theorem t60_9 (w : St) (P x y z : Int32) : F_X3_act_60 w P (nI 9) x y z = F_X3_act_180 w P (nI 9) x y := rfl
theorem t238_9 (w : St) (P x : Int32) : F_X3_act_238 w P (nI 9) x = (F_X3_giveBack w).bind fun q4 => some (0, q4.2) := rfl
theorem t60_11 (w : St) (P x y z : Int32) : F_X3_act_60 w P (nI 11) x y z = F_X3_act_238 w P (nI 11) x := rfl
theorem t250_11 (w : St) (P : Int32) : F_X3_act_250 w P (nI 11) = (F_X3_giveBack w).bind fun q4 => some (0, q4.2) := rfl
theorem t60_13 (w : St) (P x y z : Int32) : F_X3_act_60 w P (nI 13) x y z = F_X3_act_250 (su w 0 4 x) P (nI 13) := rfl
theorem t278_13 (w : St) : F_X3_act_278 w (nI 13) = some (0, w) := rfl
theorem t60_14 (w : St) (P x y z : Int32) : F_X3_act_60 w P (nI 14) x y z = F_X3_act_278 w (nI 14) := rfl
theorem t307_14 (w : St) : F_X3_act_307 w (nI 14) = some (0, w) := rfl
theorem t60_0 (w : St) (P x y z : Int32) : F_X3_act_60 w P (nI 0) x y z = some (0, w) := rfl
theorem t60_3 (w : St) (P x y z : Int32) : F_X3_act_60 w P (nI 3) x y z = F_X3_act_114 w P (nI 3) x y z := rfl
theorem t143_3 (w : St) (P x y : Int32) : F_X3_act_143 w P (nI 3) x y = some (0, w) := rfl
theorem t60_4 (w : St) (P x y z : Int32) : F_X3_act_60 w P (nI 4) x y z = F_X3_act_114 w P (nI 4) x y z := rfl
theorem t143_4 (w : St) (P x y : Int32) : F_X3_act_143 w P (nI 4) x y = some (0, w) := rfl
theorem t60_5 (w : St) (P x y z : Int32) : F_X3_act_60 w P (nI 5) x y z = F_X3_act_114 w P (nI 5) x y z := rfl
theorem t143_5 (w : St) (P x y : Int32) : F_X3_act_143 w P (nI 5) x y = some (0, w) := rfl
theorem t60_6 (w : St) (P x y z : Int32) : F_X3_act_60 w P (nI 6) x y z = F_X3_act_114 w P (nI 6) x y z := rfl
theorem t143_6 (w : St) (P x y : Int32) : F_X3_act_143 w P (nI 6) x y = some (0, w) := rfl
theorem t60_12 (w : St) (P x y z : Int32) : F_X3_act_60 w P (nI 12) x y z = F_X3_act_114 w P (nI 12) x y z := rfl
theorem t143_12 (w : St) (P x y : Int32) : F_X3_act_143 w P (nI 12) x y = some (0, w) := rfl
