theorem rc_textAt (d : Nat) (a : Nat) (t : Int32) (h : mx_MH) : mx_run d 183 0 [some (.ref a), some (.int t)] [] h = some (some (.int (75 + 200 * t)), h) := by
  simp only [iq_183_0, iq_183_2, iq_183_5, iq_183_6, iq_183_7, iq_183_8]
theorem rc_within (d : Nat) (v m : Int32) (h : mx_MH) : mx_run d 181 0 [some (.int v), some (.int m)] [] h = some (some (.int (if v < 0 then 0 else if m < v then m else v)), h) := by
  simp only [iq_181_0, iq_181_1, iq_181_4, iq_181_5, iq_181_8, iq_181_9, iq_181_10, iq_181_13, iq_181_14, iq_181_17, iq_181_18]
  repeat' split
  all_goals rfl
theorem rc_of (d : Nat) (k w : Int32) (h : mx_MH) (hk : rz_ok h) (hi : mx_in (12 + 7 * k + w) 3075 = true) : mx_run d 179 0 [some (.ref 109), some (.int k), some (.int w)] [] h = some (some (.int (rz_A h 110 (12 + 7 * k + w).toNatClampNeg)), h) := by
  simp only [iq_179_0, iq_179_1, iq_179_4, iq_179_6, iq_179_8, iq_179_9, iq_179_10, iq_179_11, iq_179_12, iq_179_13, iq_179_14, rz_g0 hk, Option.bind_some, rz_ld hk 110 _ ⟨by omega, by omega⟩ hi]
theorem rc_drawn (d : Nat) (h : mx_MH) (hk : rz_ok h) (l1 : Option Value) : mx_run d 200 0 [some (.ref 109)] [] h = some (some (.int (((rz_A h 110 6) * 1103515245 + 12345).toUInt32 >>> 8).toInt32), rz_sA h 110 (mx_up (rz_A h 110) 6 ((rz_A h 110 6) * 1103515245 + 12345))) := by
  simp only [iq_200_0, iq_200_1, iq_200_4, iq_200_6, iq_200_7, iq_200_10, iq_200_12, iq_200_13, iq_200_15, iq_200_16, iq_200_19, iq_200_20, iq_200_21, iq_200_22, iq_200_25, iq_200_27, iq_200_28, iq_200_30, iq_200_31, rz_g0, hk, Option.bind_some, rz_ld, rz_st]
  sorry
