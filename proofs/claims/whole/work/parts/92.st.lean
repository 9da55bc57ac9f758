section SW
variable (L : Nat) (xs : Nat → Int32) (c : Nat × Nat) (D : hz_D)
theorem w_cases {w : Nat} (h : 4 ≤ w ∧ w < 10) : w = 4 ∨ w = 5 ∨ w = 6 ∨ w = 7 ∨ w = 8 ∨ w = 9 := by omega
theorem gw_0 (w : Nat) (h : 4 ≤ w ∧ w < 10) : mg_f (hp (sx_rom L xs) c D) w [13] 0 = some (.ref (w + 6)) := by
  rcases w_cases h with e | e | e | e | e | e <;> subst e <;> rfl
theorem gw_1 (w : Nat) (h : 4 ≤ w ∧ w < 10) : mg_f (hp (sx_rom L xs) c D) w [13] 1 = some (.int 0) := by
  rcases w_cases h with e | e | e | e | e | e <;> subst e <;> rfl
theorem gw_k (w : Nat) (h : 4 ≤ w ∧ w < 10) : mg_kd (hp (sx_rom L xs) c D) w = some 13 := by
  rcases w_cases h with e | e | e | e | e | e <;> subst e <;> rfl
theorem gw_l (w : Nat) (h : 4 ≤ w ∧ w < 10) : mg_ln (hp (sx_rom L xs) c D) (w + 6) = some (nI (sx_len.getD (w - 4) 0)) := by
  rcases w_cases h with e | e | e | e | e | e <;> subst e <;> rfl
theorem jw_coder (d w : Nat) (h : 4 ≤ w ∧ w < 10) : mx_run d 107 0 [some (.ref w)] [] (hp (sx_rom L xs) c D) = some (some (.int 0), hp (sx_rom L xs) c D) := by
  have g := gw_1 L xs c D w h
  simp only [iq_107_0, iq_107_3, iq_107_6, iq_107_7, iq_107_10, iq_107_13, iq_107_14, Option.bind_some, Option.toList, List.cons_append, List.nil_append, ↓reduceIte, nI_1, Int32.reduceLT, Int32.reduceLE, dv_1, dv_2, dv_3, dv_4, dv_6, dv_8, dv_10, dv_20, dv_100, dv_200, dv_500, g, show ((1 : Int32) = 0) = False from by decide]
  rw [iq_107_14 _ _ _ _ rfl]
theorem jw_len (d w : Nat) (h : 4 ≤ w ∧ w < 10) : mx_run (d + 1) 106 0 [some (.ref w)] [] (hp (sx_rom L xs) c D) = some (some (.int (nI (sx_len.getD (w - 4) 0))), hp (sx_rom L xs) c D) := by
  have g := gw_0 L xs c D w h
  have g2 := gw_l L xs c D w h
  have g3 := gw_k L xs c D w h
  have g4 := jw_coder L xs c D d w h
  simp (disch := assumption) only [iq_106_0, iq_106_1, iq_106_4, iq_106_5, iq_106_6, iq_106_9, iq_106_10, Option.bind_some, Option.toList, List.cons_append, List.nil_append, ↓reduceIte, nI_1, Int32.reduceLT, Int32.reduceLE, dv_1, dv_2, dv_3, dv_4, dv_6, dv_8, dv_10, dv_20, dv_100, dv_200, dv_500, g, g2, g4]
  rcases w_cases h with e | e | e | e | e | e <;> subst e <;> rfl
theorem jw_lat (d w : Nat) (h : 4 ≤ w ∧ w < 10) : mx_run d 109 0 [some (.ref w)] [] (hp (sx_rom L xs) c D) = some (some (.int 1), hp (sx_rom L xs) c D) := by
  have g := gw_1 L xs c D w h
  simp only [iq_109_0, iq_109_3, iq_109_6, iq_109_7, iq_109_10, iq_109_13, iq_109_14, iq_109_17, iq_109_18, iq_109_18z, ib_109_18, Option.bind_some, Option.toList, List.cons_append, List.nil_append, ↓reduceIte, nI_1, Int32.reduceLT, Int32.reduceLE, dv_1, dv_2, dv_3, dv_4, dv_6, dv_8, dv_10, dv_20, dv_100, dv_200, dv_500, g, show ((1 : Int32) = 0) = False from by decide]
end SW
