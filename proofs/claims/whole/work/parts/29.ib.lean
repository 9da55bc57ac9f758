theorem ib_14_15 (d : Nat) (ls : mx_Lo) (h : mx_MH) (P : Prop) (dP : Decidable P) : mx_run d 14 15 ls [.int (if P then 1 else 0)] h = some (some (.int (if P then 1 else 0)), h) := by
  by_cases hP : P
  · rw [if_pos hP]
    exact iq_14_15 d ls h
  · rw [if_neg hP]
    exact iq_14_15z d ls h
theorem ib_15_16 (d : Nat) (ls : mx_Lo) (h : mx_MH) (P : Prop) (dP : Decidable P) : mx_run d 15 16 ls [.int (if P then 1 else 0)] h = some (some (.int (if P then 1 else 0)), h) := by
  by_cases hP : P
  · rw [if_pos hP]
    exact iq_15_16 d ls h
  · rw [if_neg hP]
    exact iq_15_16z d ls h
theorem ib_16_16 (d : Nat) (ls : mx_Lo) (h : mx_MH) (P : Prop) (dP : Decidable P) : mx_run d 16 16 ls [.int (if P then 1 else 0)] h = some (some (.int (if P then 1 else 0)), h) := by
  by_cases hP : P
  · rw [if_pos hP]
    exact iq_16_16 d ls h
  · rw [if_neg hP]
    exact iq_16_16z d ls h
theorem ib_20_23 (d : Nat) (ls : mx_Lo) (h : mx_MH) (P : Prop) (dP : Decidable P) : mx_run d 20 23 ls [.int (if P then 1 else 0)] h = some (some (.int (if P then 1 else 0)), h) := by
  by_cases hP : P
  · rw [if_pos hP]
    exact iq_20_23 d ls h
  · rw [if_neg hP]
    exact iq_20_23z d ls h
theorem ib_47_15 (d : Nat) (ls : mx_Lo) (h : mx_MH) (P : Prop) (dP : Decidable P) : mx_run d 47 15 ls [.int (if P then 1 else 0)] h = some (some (.int (if P then 1 else 0)), h) := by
  by_cases hP : P
  · rw [if_pos hP]
    exact iq_47_15 d ls h
  · rw [if_neg hP]
    exact iq_47_15z d ls h
theorem ib_47_25 (d : Nat) (ls : mx_Lo) (h : mx_MH) (P : Prop) (dP : Decidable P) : mx_run d 47 25 ls [.int (if P then 1 else 0)] h = some (some (.int (if P then 1 else 0)), h) := by
  by_cases hP : P
  · rw [if_pos hP]
    exact iq_47_25 d ls h
  · rw [if_neg hP]
    exact iq_47_25z d ls h
theorem ib_80_20 (d : Nat) (ls : mx_Lo) (h : mx_MH) (P : Prop) (dP : Decidable P) : mx_run d 80 20 ls [.int (if P then 1 else 0)] h = some (some (.int (if P then 1 else 0)), h) := by
  by_cases hP : P
  · rw [if_pos hP]
    exact iq_80_20 d ls h
  · rw [if_neg hP]
    exact iq_80_20z d ls h
theorem ib_82_14 (d : Nat) (ls : mx_Lo) (h : mx_MH) (P : Prop) (dP : Decidable P) : mx_run d 82 14 ls [.int (if P then 1 else 0)] h = some (some (.int (if P then 1 else 0)), h) := by
  by_cases hP : P
  · rw [if_pos hP]
    exact iq_82_14 d ls h
  · rw [if_neg hP]
    exact iq_82_14z d ls h
theorem ib_88_14 (d : Nat) (ls : mx_Lo) (h : mx_MH) (P : Prop) (dP : Decidable P) : mx_run d 88 14 ls [.int (if P then 1 else 0)] h = some (some (.int (if P then 1 else 0)), h) := by
  by_cases hP : P
  · rw [if_pos hP]
    exact iq_88_14 d ls h
  · rw [if_neg hP]
    exact iq_88_14z d ls h
theorem ib_89_13 (d : Nat) (ls : mx_Lo) (h : mx_MH) (P : Prop) (dP : Decidable P) : mx_run d 89 13 ls [.int (if P then 1 else 0)] h = some (some (.int (if P then 1 else 0)), h) := by
  by_cases hP : P
  · rw [if_pos hP]
    exact iq_89_13 d ls h
  · rw [if_neg hP]
    exact iq_89_13z d ls h
theorem ib_91_32 (d : Nat) (ls : mx_Lo) (h : mx_MH) (P : Prop) (dP : Decidable P) : mx_run d 91 32 ls [.int (if P then 1 else 0)] h = some (some (.int (if P then 1 else 0)), h) := by
  by_cases hP : P
  · rw [if_pos hP]
    exact iq_91_32 d ls h
  · rw [if_neg hP]
    exact iq_91_32z d ls h
theorem ib_92_23 (d : Nat) (ls : mx_Lo) (h : mx_MH) (P : Prop) (dP : Decidable P) : mx_run d 92 23 ls [.int (if P then 1 else 0)] h = some (some (.int (if P then 1 else 0)), h) := by
  by_cases hP : P
  · rw [if_pos hP]
    exact iq_92_23 d ls h
  · rw [if_neg hP]
    exact iq_92_23z d ls h
theorem ib_105_25 (d : Nat) (ls : mx_Lo) (h : mx_MH) (P : Prop) (dP : Decidable P) : mx_run d 105 25 ls [.int (if P then 1 else 0)] h = some (some (.int (if P then 1 else 0)), h) := by
  by_cases hP : P
  · rw [if_pos hP]
    exact iq_105_25 d ls h
  · rw [if_neg hP]
    exact iq_105_25z d ls h
theorem ib_105_55 (d : Nat) (ls : mx_Lo) (h : mx_MH) (P : Prop) (dP : Decidable P) : mx_run d 105 55 ls [.int (if P then 1 else 0)] h = some (some (.int (if P then 1 else 0)), h) := by
  by_cases hP : P
  · rw [if_pos hP]
    exact iq_105_55 d ls h
  · rw [if_neg hP]
    exact iq_105_55z d ls h
theorem ib_105_63 (d : Nat) (ls : mx_Lo) (h : mx_MH) (P : Prop) (dP : Decidable P) : mx_run d 105 63 ls [.int (if P then 1 else 0)] h = some (some (.int (if P then 1 else 0)), h) := by
  by_cases hP : P
  · rw [if_pos hP]
    exact iq_105_63 d ls h
  · rw [if_neg hP]
    exact iq_105_63z d ls h
theorem ib_109_18 (d : Nat) (ls : mx_Lo) (h : mx_MH) (P : Prop) (dP : Decidable P) : mx_run d 109 18 ls [.int (if P then 1 else 0)] h = some (some (.int (if P then 1 else 0)), h) := by
  by_cases hP : P
  · rw [if_pos hP]
    exact iq_109_18 d ls h
  · rw [if_neg hP]
    exact iq_109_18z d ls h
theorem ib_130_16 (d : Nat) (ls : mx_Lo) (h : mx_MH) (P : Prop) (dP : Decidable P) : mx_run d 130 16 ls [.int (if P then 1 else 0)] h = some (some (.int (if P then 1 else 0)), h) := by
  by_cases hP : P
  · rw [if_pos hP]
    exact iq_130_16 d ls h
  · rw [if_neg hP]
    exact iq_130_16z d ls h
theorem ib_142_25 (d : Nat) (ls : mx_Lo) (h : mx_MH) (P : Prop) (dP : Decidable P) : mx_run d 142 25 ls [.int (if P then 1 else 0)] h = some (some (.int (if P then 1 else 0)), h) := by
  by_cases hP : P
  · rw [if_pos hP]
    exact iq_142_25 d ls h
  · rw [if_neg hP]
    exact iq_142_25z d ls h
theorem ib_158_31 (d : Nat) (ls : mx_Lo) (h : mx_MH) (P : Prop) (dP : Decidable P) : mx_run d 158 31 ls [.int (if P then 1 else 0)] h = some (some (.int (if P then 1 else 0)), h) := by
  by_cases hP : P
  · rw [if_pos hP]
    exact iq_158_31 d ls h
  · rw [if_neg hP]
    exact iq_158_31z d ls h
theorem ib_161_14 (d : Nat) (ls : mx_Lo) (h : mx_MH) (P : Prop) (dP : Decidable P) : mx_run d 161 14 ls [.int (if P then 1 else 0)] h = some (some (.int (if P then 1 else 0)), h) := by
  by_cases hP : P
  · rw [if_pos hP]
    exact iq_161_14 d ls h
  · rw [if_neg hP]
    exact iq_161_14z d ls h
theorem ib_178_15 (d : Nat) (ls : mx_Lo) (h : mx_MH) (P : Prop) (dP : Decidable P) : mx_run d 178 15 ls [.int (if P then 1 else 0)] h = some (some (.int (if P then 1 else 0)), h) := by
  by_cases hP : P
  · rw [if_pos hP]
    exact iq_178_15 d ls h
  · rw [if_neg hP]
    exact iq_178_15z d ls h
theorem ib_190_34 (d : Nat) (ls : mx_Lo) (h : mx_MH) (P : Prop) (dP : Decidable P) : mx_run d 190 34 ls [.int (if P then 1 else 0)] h = some (some (.int (if P then 1 else 0)), h) := by
  by_cases hP : P
  · rw [if_pos hP]
    exact iq_190_34 d ls h
  · rw [if_neg hP]
    exact iq_190_34z d ls h
theorem ib_231_32 (d : Nat) (ls : mx_Lo) (h : mx_MH) (P : Prop) (dP : Decidable P) : mx_run d 231 32 ls [.int (if P then 1 else 0)] h = some (some (.int (if P then 1 else 0)), h) := by
  by_cases hP : P
  · rw [if_pos hP]
    exact iq_231_32 d ls h
  · rw [if_neg hP]
    exact iq_231_32z d ls h
theorem ib_232_32 (d : Nat) (ls : mx_Lo) (h : mx_MH) (P : Prop) (dP : Decidable P) : mx_run d 232 32 ls [.int (if P then 1 else 0)] h = some (some (.int (if P then 1 else 0)), h) := by
  by_cases hP : P
  · rw [if_pos hP]
    exact iq_232_32 d ls h
  · rw [if_neg hP]
    exact iq_232_32z d ls h
theorem ib_234_103 (d : Nat) (ls : mx_Lo) (h : mx_MH) (P : Prop) (dP : Decidable P) : mx_run d 234 103 ls [.int (if P then 1 else 0)] h = some (some (.int (if P then 1 else 0)), h) := by
  by_cases hP : P
  · rw [if_pos hP]
    exact iq_234_103 d ls h
  · rw [if_neg hP]
    exact iq_234_103z d ls h
theorem ib_235_9 (d : Nat) (ls : mx_Lo) (h : mx_MH) (P : Prop) (dP : Decidable P) : mx_run d 235 9 ls [.int (if P then 1 else 0)] h = some (some (.int (if P then 1 else 0)), h) := by
  by_cases hP : P
  · rw [if_pos hP]
    exact iq_235_9 d ls h
  · rw [if_neg hP]
    exact iq_235_9z d ls h
theorem ib_235_32 (d : Nat) (ls : mx_Lo) (h : mx_MH) (P : Prop) (dP : Decidable P) : mx_run d 235 32 ls [.int (if P then 1 else 0)] h = some (some (.int (if P then 1 else 0)), h) := by
  by_cases hP : P
  · rw [if_pos hP]
    exact iq_235_32 d ls h
  · rw [if_neg hP]
    exact iq_235_32z d ls h
theorem ib_235_44 (d : Nat) (ls : mx_Lo) (h : mx_MH) (P : Prop) (dP : Decidable P) : mx_run d 235 44 ls [.int (if P then 1 else 0)] h = some (some (.int (if P then 1 else 0)), h) := by
  by_cases hP : P
  · rw [if_pos hP]
    exact iq_235_44 d ls h
  · rw [if_neg hP]
    exact iq_235_44z d ls h
theorem ib_236_9 (d : Nat) (ls : mx_Lo) (h : mx_MH) (P : Prop) (dP : Decidable P) : mx_run d 236 9 ls [.int (if P then 1 else 0)] h = some (some (.int (if P then 1 else 0)), h) := by
  by_cases hP : P
  · rw [if_pos hP]
    exact iq_236_9 d ls h
  · rw [if_neg hP]
    exact iq_236_9z d ls h
theorem ib_236_32 (d : Nat) (ls : mx_Lo) (h : mx_MH) (P : Prop) (dP : Decidable P) : mx_run d 236 32 ls [.int (if P then 1 else 0)] h = some (some (.int (if P then 1 else 0)), h) := by
  by_cases hP : P
  · rw [if_pos hP]
    exact iq_236_32 d ls h
  · rw [if_neg hP]
    exact iq_236_32z d ls h
theorem ib_236_44 (d : Nat) (ls : mx_Lo) (h : mx_MH) (P : Prop) (dP : Decidable P) : mx_run d 236 44 ls [.int (if P then 1 else 0)] h = some (some (.int (if P then 1 else 0)), h) := by
  by_cases hP : P
  · rw [if_pos hP]
    exact iq_236_44 d ls h
  · rw [if_neg hP]
    exact iq_236_44z d ls h
theorem ib_237_9 (d : Nat) (ls : mx_Lo) (h : mx_MH) (P : Prop) (dP : Decidable P) : mx_run d 237 9 ls [.int (if P then 1 else 0)] h = some (some (.int (if P then 1 else 0)), h) := by
  by_cases hP : P
  · rw [if_pos hP]
    exact iq_237_9 d ls h
  · rw [if_neg hP]
    exact iq_237_9z d ls h
theorem ib_237_55 (d : Nat) (ls : mx_Lo) (h : mx_MH) (P : Prop) (dP : Decidable P) : mx_run d 237 55 ls [.int (if P then 1 else 0)] h = some (some (.int (if P then 1 else 0)), h) := by
  by_cases hP : P
  · rw [if_pos hP]
    exact iq_237_55 d ls h
  · rw [if_neg hP]
    exact iq_237_55z d ls h
theorem ib_237_63 (d : Nat) (ls : mx_Lo) (h : mx_MH) (P : Prop) (dP : Decidable P) : mx_run d 237 63 ls [.int (if P then 1 else 0)] h = some (some (.int (if P then 1 else 0)), h) := by
  by_cases hP : P
  · rw [if_pos hP]
    exact iq_237_63 d ls h
  · rw [if_neg hP]
    exact iq_237_63z d ls h
theorem ib_238_9 (d : Nat) (ls : mx_Lo) (h : mx_MH) (P : Prop) (dP : Decidable P) : mx_run d 238 9 ls [.int (if P then 1 else 0)] h = some (some (.int (if P then 1 else 0)), h) := by
  by_cases hP : P
  · rw [if_pos hP]
    exact iq_238_9 d ls h
  · rw [if_neg hP]
    exact iq_238_9z d ls h
theorem ib_238_46 (d : Nat) (ls : mx_Lo) (h : mx_MH) (P : Prop) (dP : Decidable P) : mx_run d 238 46 ls [.int (if P then 1 else 0)] h = some (some (.int (if P then 1 else 0)), h) := by
  by_cases hP : P
  · rw [if_pos hP]
    exact iq_238_46 d ls h
  · rw [if_neg hP]
    exact iq_238_46z d ls h
theorem ib_238_57 (d : Nat) (ls : mx_Lo) (h : mx_MH) (P : Prop) (dP : Decidable P) : mx_run d 238 57 ls [.int (if P then 1 else 0)] h = some (some (.int (if P then 1 else 0)), h) := by
  by_cases hP : P
  · rw [if_pos hP]
    exact iq_238_57 d ls h
  · rw [if_neg hP]
    exact iq_238_57z d ls h
theorem ib_239_9 (d : Nat) (ls : mx_Lo) (h : mx_MH) (P : Prop) (dP : Decidable P) : mx_run d 239 9 ls [.int (if P then 1 else 0)] h = some (some (.int (if P then 1 else 0)), h) := by
  by_cases hP : P
  · rw [if_pos hP]
    exact iq_239_9 d ls h
  · rw [if_neg hP]
    exact iq_239_9z d ls h
theorem ib_239_46 (d : Nat) (ls : mx_Lo) (h : mx_MH) (P : Prop) (dP : Decidable P) : mx_run d 239 46 ls [.int (if P then 1 else 0)] h = some (some (.int (if P then 1 else 0)), h) := by
  by_cases hP : P
  · rw [if_pos hP]
    exact iq_239_46 d ls h
  · rw [if_neg hP]
    exact iq_239_46z d ls h
theorem ib_239_57 (d : Nat) (ls : mx_Lo) (h : mx_MH) (P : Prop) (dP : Decidable P) : mx_run d 239 57 ls [.int (if P then 1 else 0)] h = some (some (.int (if P then 1 else 0)), h) := by
  by_cases hP : P
  · rw [if_pos hP]
    exact iq_239_57 d ls h
  · rw [if_neg hP]
    exact iq_239_57z d ls h
theorem ib_240_32 (d : Nat) (ls : mx_Lo) (h : mx_MH) (P : Prop) (dP : Decidable P) : mx_run d 240 32 ls [.int (if P then 1 else 0)] h = some (some (.int (if P then 1 else 0)), h) := by
  by_cases hP : P
  · rw [if_pos hP]
    exact iq_240_32 d ls h
  · rw [if_neg hP]
    exact iq_240_32z d ls h
theorem ib_240_83 (d : Nat) (ls : mx_Lo) (h : mx_MH) (P : Prop) (dP : Decidable P) : mx_run d 240 83 ls [.int (if P then 1 else 0)] h = some (some (.int (if P then 1 else 0)), h) := by
  by_cases hP : P
  · rw [if_pos hP]
    exact iq_240_83 d ls h
  · rw [if_neg hP]
    exact iq_240_83z d ls h
theorem ib_240_125 (d : Nat) (ls : mx_Lo) (h : mx_MH) (P : Prop) (dP : Decidable P) : mx_run d 240 125 ls [.int (if P then 1 else 0)] h = some (some (.int (if P then 1 else 0)), h) := by
  by_cases hP : P
  · rw [if_pos hP]
    exact iq_240_125 d ls h
  · rw [if_neg hP]
    exact iq_240_125z d ls h
theorem ib_240_144 (d : Nat) (ls : mx_Lo) (h : mx_MH) (P : Prop) (dP : Decidable P) : mx_run d 240 144 ls [.int (if P then 1 else 0)] h = some (some (.int (if P then 1 else 0)), h) := by
  by_cases hP : P
  · rw [if_pos hP]
    exact iq_240_144 d ls h
  · rw [if_neg hP]
    exact iq_240_144z d ls h
theorem ib_240_164 (d : Nat) (ls : mx_Lo) (h : mx_MH) (P : Prop) (dP : Decidable P) : mx_run d 240 164 ls [.int (if P then 1 else 0)] h = some (some (.int (if P then 1 else 0)), h) := by
  by_cases hP : P
  · rw [if_pos hP]
    exact iq_240_164 d ls h
  · rw [if_neg hP]
    exact iq_240_164z d ls h
theorem ib_240_197 (d : Nat) (ls : mx_Lo) (h : mx_MH) (P : Prop) (dP : Decidable P) : mx_run d 240 197 ls [.int (if P then 1 else 0)] h = some (some (.int (if P then 1 else 0)), h) := by
  by_cases hP : P
  · rw [if_pos hP]
    exact iq_240_197 d ls h
  · rw [if_neg hP]
    exact iq_240_197z d ls h
theorem ib_240_213 (d : Nat) (ls : mx_Lo) (h : mx_MH) (P : Prop) (dP : Decidable P) : mx_run d 240 213 ls [.int (if P then 1 else 0)] h = some (some (.int (if P then 1 else 0)), h) := by
  by_cases hP : P
  · rw [if_pos hP]
    exact iq_240_213 d ls h
  · rw [if_neg hP]
    exact iq_240_213z d ls h
theorem ib_242_51 (d : Nat) (ls : mx_Lo) (h : mx_MH) (P : Prop) (dP : Decidable P) : mx_run d 242 51 ls [.int (if P then 1 else 0)] h = some (some (.int (if P then 1 else 0)), h) := by
  by_cases hP : P
  · rw [if_pos hP]
    exact iq_242_51 d ls h
  · rw [if_neg hP]
    exact iq_242_51z d ls h
theorem ib_242_69 (d : Nat) (ls : mx_Lo) (h : mx_MH) (P : Prop) (dP : Decidable P) : mx_run d 242 69 ls [.int (if P then 1 else 0)] h = some (some (.int (if P then 1 else 0)), h) := by
  by_cases hP : P
  · rw [if_pos hP]
    exact iq_242_69 d ls h
  · rw [if_neg hP]
    exact iq_242_69z d ls h
theorem ib_242_87 (d : Nat) (ls : mx_Lo) (h : mx_MH) (P : Prop) (dP : Decidable P) : mx_run d 242 87 ls [.int (if P then 1 else 0)] h = some (some (.int (if P then 1 else 0)), h) := by
  by_cases hP : P
  · rw [if_pos hP]
    exact iq_242_87 d ls h
  · rw [if_neg hP]
    exact iq_242_87z d ls h
theorem ib_243_21 (d : Nat) (ls : mx_Lo) (h : mx_MH) (P : Prop) (dP : Decidable P) : mx_run d 243 21 ls [.int (if P then 1 else 0)] h = some (some (.int (if P then 1 else 0)), h) := by
  by_cases hP : P
  · rw [if_pos hP]
    exact iq_243_21 d ls h
  · rw [if_neg hP]
    exact iq_243_21z d ls h
theorem ib_245_15 (d : Nat) (ls : mx_Lo) (h : mx_MH) (P : Prop) (dP : Decidable P) : mx_run d 245 15 ls [.int (if P then 1 else 0)] h = some (some (.int (if P then 1 else 0)), h) := by
  by_cases hP : P
  · rw [if_pos hP]
    exact iq_245_15 d ls h
  · rw [if_neg hP]
    exact iq_245_15z d ls h
theorem ib_248_9 (d : Nat) (ls : mx_Lo) (h : mx_MH) (P : Prop) (dP : Decidable P) : mx_run d 248 9 ls [.int (if P then 1 else 0)] h = some (some (.int (if P then 1 else 0)), h) := by
  by_cases hP : P
  · rw [if_pos hP]
    exact iq_248_9 d ls h
  · rw [if_neg hP]
    exact iq_248_9z d ls h
theorem ib_256_9 (d : Nat) (ls : mx_Lo) (h : mx_MH) (P : Prop) (dP : Decidable P) : mx_run d 256 9 ls [.int (if P then 1 else 0)] h = some (some (.int (if P then 1 else 0)), h) := by
  by_cases hP : P
  · rw [if_pos hP]
    exact iq_256_9 d ls h
  · rw [if_neg hP]
    exact iq_256_9z d ls h
theorem rc_ee (v w : Int32) : (v.toInt64 ≤ w.toInt64) = ¬ (w < v) := by
  apply propext
  rw [Int64.le_iff_toInt_le, Int32.toInt_toInt64, Int32.toInt_toInt64, Int32.lt_iff_toInt_lt]
  omega
theorem rc_ge_m99999 (v : Int32) : ((-99999 : Int64) ≤ v.toInt64) = ¬ (v < -99999) := by
  rw [show (-99999 : Int64) = (-99999 : Int32).toInt64 by decide, rc_ee]
theorem rc_le_m99999 (v : Int32) : (v.toInt64 ≤ (-99999 : Int64)) = ¬ ((-99999 : Int32) < v) := by
  rw [show (-99999 : Int64) = (-99999 : Int32).toInt64 by decide, rc_ee]
theorem rc_ge_m1 (v : Int32) : ((-1 : Int64) ≤ v.toInt64) = ¬ (v < -1) := by
  rw [show (-1 : Int64) = (-1 : Int32).toInt64 by decide, rc_ee]
theorem rc_le_m1 (v : Int32) : (v.toInt64 ≤ (-1 : Int64)) = ¬ ((-1 : Int32) < v) := by
  rw [show (-1 : Int64) = (-1 : Int32).toInt64 by decide, rc_ee]
theorem rc_ge_0 (v : Int32) : ((0 : Int64) ≤ v.toInt64) = ¬ (v < 0) := by
  rw [show (0 : Int64) = (0 : Int32).toInt64 by decide, rc_ee]
theorem rc_le_0 (v : Int32) : (v.toInt64 ≤ (0 : Int64)) = ¬ ((0 : Int32) < v) := by
  rw [show (0 : Int64) = (0 : Int32).toInt64 by decide, rc_ee]
theorem rc_ge_1 (v : Int32) : ((1 : Int64) ≤ v.toInt64) = ¬ (v < 1) := by
  rw [show (1 : Int64) = (1 : Int32).toInt64 by decide, rc_ee]
theorem rc_le_1 (v : Int32) : (v.toInt64 ≤ (1 : Int64)) = ¬ ((1 : Int32) < v) := by
  rw [show (1 : Int64) = (1 : Int32).toInt64 by decide, rc_ee]
theorem rc_ge_2 (v : Int32) : ((2 : Int64) ≤ v.toInt64) = ¬ (v < 2) := by
  rw [show (2 : Int64) = (2 : Int32).toInt64 by decide, rc_ee]
theorem rc_le_2 (v : Int32) : (v.toInt64 ≤ (2 : Int64)) = ¬ ((2 : Int32) < v) := by
  rw [show (2 : Int64) = (2 : Int32).toInt64 by decide, rc_ee]
theorem rc_ge_3 (v : Int32) : ((3 : Int64) ≤ v.toInt64) = ¬ (v < 3) := by
  rw [show (3 : Int64) = (3 : Int32).toInt64 by decide, rc_ee]
theorem rc_le_3 (v : Int32) : (v.toInt64 ≤ (3 : Int64)) = ¬ ((3 : Int32) < v) := by
  rw [show (3 : Int64) = (3 : Int32).toInt64 by decide, rc_ee]
theorem rc_ge_4 (v : Int32) : ((4 : Int64) ≤ v.toInt64) = ¬ (v < 4) := by
  rw [show (4 : Int64) = (4 : Int32).toInt64 by decide, rc_ee]
theorem rc_le_4 (v : Int32) : (v.toInt64 ≤ (4 : Int64)) = ¬ ((4 : Int32) < v) := by
  rw [show (4 : Int64) = (4 : Int32).toInt64 by decide, rc_ee]
theorem rc_ge_5 (v : Int32) : ((5 : Int64) ≤ v.toInt64) = ¬ (v < 5) := by
  rw [show (5 : Int64) = (5 : Int32).toInt64 by decide, rc_ee]
theorem rc_le_5 (v : Int32) : (v.toInt64 ≤ (5 : Int64)) = ¬ ((5 : Int32) < v) := by
  rw [show (5 : Int64) = (5 : Int32).toInt64 by decide, rc_ee]
theorem rc_ge_9 (v : Int32) : ((9 : Int64) ≤ v.toInt64) = ¬ (v < 9) := by
  rw [show (9 : Int64) = (9 : Int32).toInt64 by decide, rc_ee]
theorem rc_le_9 (v : Int32) : (v.toInt64 ≤ (9 : Int64)) = ¬ ((9 : Int32) < v) := by
  rw [show (9 : Int64) = (9 : Int32).toInt64 by decide, rc_ee]
theorem rc_ge_30 (v : Int32) : ((30 : Int64) ≤ v.toInt64) = ¬ (v < 30) := by
  rw [show (30 : Int64) = (30 : Int32).toInt64 by decide, rc_ee]
theorem rc_le_30 (v : Int32) : (v.toInt64 ≤ (30 : Int64)) = ¬ ((30 : Int32) < v) := by
  rw [show (30 : Int64) = (30 : Int32).toInt64 by decide, rc_ee]
theorem rc_ge_40 (v : Int32) : ((40 : Int64) ≤ v.toInt64) = ¬ (v < 40) := by
  rw [show (40 : Int64) = (40 : Int32).toInt64 by decide, rc_ee]
theorem rc_le_40 (v : Int32) : (v.toInt64 ≤ (40 : Int64)) = ¬ ((40 : Int32) < v) := by
  rw [show (40 : Int64) = (40 : Int32).toInt64 by decide, rc_ee]
theorem rc_ge_48 (v : Int32) : ((48 : Int64) ≤ v.toInt64) = ¬ (v < 48) := by
  rw [show (48 : Int64) = (48 : Int32).toInt64 by decide, rc_ee]
theorem rc_le_48 (v : Int32) : (v.toInt64 ≤ (48 : Int64)) = ¬ ((48 : Int32) < v) := by
  rw [show (48 : Int64) = (48 : Int32).toInt64 by decide, rc_ee]
theorem rc_ge_50 (v : Int32) : ((50 : Int64) ≤ v.toInt64) = ¬ (v < 50) := by
  rw [show (50 : Int64) = (50 : Int32).toInt64 by decide, rc_ee]
theorem rc_le_50 (v : Int32) : (v.toInt64 ≤ (50 : Int64)) = ¬ ((50 : Int32) < v) := by
  rw [show (50 : Int64) = (50 : Int32).toInt64 by decide, rc_ee]
theorem rc_ge_57 (v : Int32) : ((57 : Int64) ≤ v.toInt64) = ¬ (v < 57) := by
  rw [show (57 : Int64) = (57 : Int32).toInt64 by decide, rc_ee]
theorem rc_le_57 (v : Int32) : (v.toInt64 ≤ (57 : Int64)) = ¬ ((57 : Int32) < v) := by
  rw [show (57 : Int64) = (57 : Int32).toInt64 by decide, rc_ee]
theorem rc_ge_60 (v : Int32) : ((60 : Int64) ≤ v.toInt64) = ¬ (v < 60) := by
  rw [show (60 : Int64) = (60 : Int32).toInt64 by decide, rc_ee]
theorem rc_le_60 (v : Int32) : (v.toInt64 ≤ (60 : Int64)) = ¬ ((60 : Int32) < v) := by
  rw [show (60 : Int64) = (60 : Int32).toInt64 by decide, rc_ee]
theorem rc_ge_97 (v : Int32) : ((97 : Int64) ≤ v.toInt64) = ¬ (v < 97) := by
  rw [show (97 : Int64) = (97 : Int32).toInt64 by decide, rc_ee]
theorem rc_le_97 (v : Int32) : (v.toInt64 ≤ (97 : Int64)) = ¬ ((97 : Int32) < v) := by
  rw [show (97 : Int64) = (97 : Int32).toInt64 by decide, rc_ee]
theorem rc_ge_100 (v : Int32) : ((100 : Int64) ≤ v.toInt64) = ¬ (v < 100) := by
  rw [show (100 : Int64) = (100 : Int32).toInt64 by decide, rc_ee]
theorem rc_le_100 (v : Int32) : (v.toInt64 ≤ (100 : Int64)) = ¬ ((100 : Int32) < v) := by
  rw [show (100 : Int64) = (100 : Int32).toInt64 by decide, rc_ee]
theorem rc_ge_122 (v : Int32) : ((122 : Int64) ≤ v.toInt64) = ¬ (v < 122) := by
  rw [show (122 : Int64) = (122 : Int32).toInt64 by decide, rc_ee]
theorem rc_le_122 (v : Int32) : (v.toInt64 ≤ (122 : Int64)) = ¬ ((122 : Int32) < v) := by
  rw [show (122 : Int64) = (122 : Int32).toInt64 by decide, rc_ee]
theorem rc_ge_9999 (v : Int32) : ((9999 : Int64) ≤ v.toInt64) = ¬ (v < 9999) := by
  rw [show (9999 : Int64) = (9999 : Int32).toInt64 by decide, rc_ee]
theorem rc_le_9999 (v : Int32) : (v.toInt64 ≤ (9999 : Int64)) = ¬ ((9999 : Int32) < v) := by
  rw [show (9999 : Int64) = (9999 : Int32).toInt64 by decide, rc_ee]
theorem rc_ge_99999 (v : Int32) : ((99999 : Int64) ≤ v.toInt64) = ¬ (v < 99999) := by
  rw [show (99999 : Int64) = (99999 : Int32).toInt64 by decide, rc_ee]
theorem rc_le_99999 (v : Int32) : (v.toInt64 ≤ (99999 : Int64)) = ¬ ((99999 : Int32) < v) := by
  rw [show (99999 : Int64) = (99999 : Int32).toInt64 by decide, rc_ee]
