section SY
variable (L : Nat) (xs : Nat → Int32) (c : Nat × Nat) (D : hz_D)
theorem jw_charAt (d w k : Nat) (h : 4 ≤ w ∧ w < 10) (hk : k < sx_len.getD (w - 4) 0) : mx_run (d + 3) 108 0 [some (.ref w), some (.int (nI k))] [] (hp (sx_rom L xs) c D) = some (some (.int (jw_b w k)), hp (sx_rom L xs) c D) := by
  have h4 := jw_n4 w h
  have g0 := gw_0 L xs c D w h
  have g1 := gw_k L xs c D w h
  have g2 := jw_lat L xs c D (d + 2) w h
  have g3 := jw_ch L xs c D d w k h hk
  simp (disch := assumption) only [iq_108_0, iq_108_1, iq_108_4, iq_108_7, iq_108_8, iq_108_11, iq_108_12, iq_108_17, iq_108_20, iq_108_24, Option.bind_some, Option.toList, List.cons_append, List.nil_append, ↓reduceIte, nI_1, Int32.reduceLT, Int32.reduceLE, dv_1, dv_2, dv_3, dv_4, dv_6, dv_8, dv_10, dv_20, dv_100, dv_200, dv_500, g0, g2, g3, show ((1 : Int32) = 0) = False from by decide]
  have k4 : k = 0 ∨ k = 1 ∨ k = 2 ∨ k = 3 := by omega
  rcases w_cases h with e | e | e | e | e | e <;> subst e <;> rcases k4 with f | f | f | f <;> subst f <;> first | (rw [iq_108_15 _ _ _ _ (by decide)]) | exact absurd hk (by decide)
end SY
