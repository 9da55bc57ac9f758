theorem rc_ok110 {h : mx_MH} (f : Nat → Int32) (hk : rz_ok h) : rz_ok (rz_sA h 110 f) := rz_ok_sA h 110 f (by decide) hk
theorem rc_A110 (h : mx_MH) (f : Nat → Int32) : rz_A (rz_sA h 110 f) 110 = f := by rw [rz_A_sA, if_pos rfl]
theorem rc_ld110 {h : mx_MH} (hk : rz_ok h) (j : Int32) (hj : mx_in j 3075 = true) : mg_ld h 110 .int j = some (.int (rz_A h 110 j.toNatClampNeg)) := rz_ld hk 110 j ⟨by omega, by omega⟩ hj
theorem rc_st110 {h : mx_MH} (hk : rz_ok h) (j x : Int32) (hj : mx_in j 3075 = true) : mg_st h 110 .int j (.int x) = some (rz_sA h 110 (mx_up (rz_A h 110) j.toNatClampNeg x)) := rz_st hk 110 j x ⟨by omega, by omega⟩ hj
theorem rc_upup (s : Nat → Int32) (k : Nat) (x y : Int32) : mx_up (mx_up s k x) k y = mx_up s k y := by
  funext j
  unfold mx_up
  by_cases e : j = k
  · rw [if_pos e, if_pos e]
  · rw [if_neg e, if_neg e, if_neg e]
theorem rc_ups (s : Nat → Int32) (k : Nat) (x : Int32) : mx_up s k x k = x := if_pos rfl
theorem rc_upn (s : Nat → Int32) (k : Nat) (x : Int32) (j : Nat) (hj : j ≠ k) : mx_up s k x j = s j := if_neg hj
theorem rc_textAt (d : Nat) (a : Nat) (t : Int32) (h : mx_MH) : mx_run d 183 0 [some (.ref a), some (.int t)] [] h = some (some (.int (75 + 200 * t)), h) := by
  simp only [iq_183_0, iq_183_2, iq_183_5, iq_183_6, iq_183_7, iq_183_8]
def sp_wi (v m : Int32) : Int32 := if v < 0 then 0 else if m < v then m else v
theorem rc_within (d : Nat) (v m : Int32) (h : mx_MH) : mx_run d 181 0 [some (.int v), some (.int m)] [] h = some (some (.int (sp_wi v m)), h) := by
  unfold sp_wi
  simp only [iq_181_0, iq_181_1, iq_181_4, iq_181_5, iq_181_8, iq_181_9, iq_181_10, iq_181_13, iq_181_14, iq_181_17, iq_181_18]
  repeat' split
  all_goals rfl
theorem rc_orNone (d : Nat) (v : Int32) (h : mx_MH) : mx_run d 219 0 [some (.int v)] [] h = some (some (.int (if v < 0 then -1000000005 else v)), h) := by
  simp only [iq_219_0, iq_219_1, iq_219_4, iq_219_6, iq_219_9, iq_219_10]
  repeat' split
  all_goals rfl
theorem rc_off (d : Nat) (a b : Int32) (h : mx_MH) : mx_run d 253 0 [some (.int a), some (.int b)] [] h = some (some (.int (if a < b then b - a else a - b)), h) := by
  simp only [iq_253_0, iq_253_1, iq_253_2, iq_253_5, iq_253_6, iq_253_7, iq_253_8, iq_253_11, iq_253_12, iq_253_13, iq_253_14]
  repeat' split
  all_goals rfl
theorem rc_speedBy (d : Nat) (a b : Int32) (l2 : Option Value) (h : mx_MH) : mx_run d 203 0 [some (.int a), some (.int b), l2] [] h = some (some (.int (if a - b / 4 < 0 then 0 else a - b / 4)), h) := by
  simp only [iq_203_0, iq_203_1, iq_203_2, iq_203_3, iq_203_4, iq_203_5, iq_203_6, iq_203_7, iq_203_10, iq_203_11, iq_203_14, iq_203_15, reduceIte, show ¬ ((4 : Int32) = 0) by decide]
  repeat' split
  all_goals rfl
theorem rc_mostOf (d : Nat) (w : Int32) (h : mx_MH) : mx_run d 198 0 [some (.int w)] [] h = some (some (.int (if w = 0 then 9 else if w = 1 then 2 else if w = 4 then 100 else 99)), h) := by
  simp only [iq_198_0, iq_198_1, iq_198_36, iq_198_38, iq_198_39, iq_198_40, iq_198_41, iq_198_43, iq_198_44, iq_198_46]
  repeat' split
  all_goals first | rfl | (simp_all; done)
def sp_isOf (o k : Int32) : Prop := o = k ∨ k = 0 ∨ (k = 1 ∧ o = 3) ∨ (k = 2 ∧ o = 4)
theorem rc_of (d : Nat) (k w : Int32) (h : mx_MH) (hk : rz_ok h) (hi : mx_in (12 + 7 * k + w) 3075 = true) : mx_run d 179 0 [some (.ref 109), some (.int k), some (.int w)] [] h = some (some (.int (rz_A h 110 (12 + 7 * k + w).toNatClampNeg)), h) := by
  simp only [iq_179_0, iq_179_1, iq_179_4, iq_179_6, iq_179_8, iq_179_9, iq_179_10, iq_179_11, iq_179_12, iq_179_13, iq_179_14, rz_g0 hk, Option.bind_some, rc_ld110 hk _ hi]
theorem rc_sets (d : Nat) (k w v : Int32) (h : mx_MH) (hk : rz_ok h) (hi : mx_in (12 + 7 * k + w) 3075 = true) : mx_run d 176 0 [some (.ref 109), some (.int k), some (.int w), some (.int v)] [] h = some (none, rz_sA h 110 (mx_up (rz_A h 110) (12 + 7 * k + w).toNatClampNeg v)) := by
  simp only [iq_176_0, iq_176_1, iq_176_4, iq_176_6, iq_176_8, iq_176_9, iq_176_10, iq_176_11, iq_176_12, iq_176_13, iq_176_14, iq_176_15, rz_g0 hk, Option.bind_some, rc_st110 hk _ _ hi]
theorem rc_becomes (d : Nat) (i v : Int32) (l3 : Option Value) (h : mx_MH) (hk : rz_ok h) (hi : mx_in i 3075 = true) : mx_run d 192 0 [some (.ref 109), some (.int i), some (.int v), l3] [] h = some (some (.int (rz_A h 110 i.toNatClampNeg)), rz_sA h 110 (mx_up (rz_A h 110) i.toNatClampNeg v)) := by
  simp only [iq_192_0, iq_192_1, iq_192_4, iq_192_5, iq_192_6, iq_192_7, iq_192_8, iq_192_11, iq_192_12, iq_192_13, iq_192_14, iq_192_15, rz_g0 hk, Option.bind_some, rc_ld110 hk _ hi, rc_st110 hk _ _ hi]
def sp_nx (z : Int32) : Int32 := z * 1103515245 + 12345
def sp_sh (z : Int32) : Int32 := (z.toUInt32 >>> ((8 : Int32).toUInt32 &&& Int32.toUInt32 31)).toInt32
theorem rc_drawn (d : Nat) (h : mx_MH) (hk : rz_ok h) : mx_run d 200 0 [some (.ref 109)] [] h = some (some (.int (sp_sh (sp_nx (rz_A h 110 6)))), rz_sA h 110 (mx_up (rz_A h 110) 6 (sp_nx (rz_A h 110 6)))) := by
  have hk2 := fun f => rc_ok110 f hk
  simp only [iq_200_0, iq_200_1, iq_200_4, iq_200_6, iq_200_7, iq_200_10, iq_200_12, iq_200_13, iq_200_15, iq_200_16, iq_200_19, iq_200_20, iq_200_21, iq_200_22, iq_200_25, iq_200_27, iq_200_28, iq_200_30, iq_200_31, rz_g0, hk, hk2, Option.bind_some, rc_ld110, rc_st110, rz_i6, rz_n6, rc_A110, rc_ups, sp_nx, sp_sh]
theorem rc_goesTo (d : Nat) (k : Int32) (h : mx_MH) (hk : rz_ok h) : mx_run (d + 1) 196 0 [some (.ref 109), some (.int k)] [] h = some (some (.int (rz_A h 110 3)), rz_sA h 110 (mx_up (mx_up (rz_A h 110) 5 0) 3 k)) := by
  have hk2 := fun f => rc_ok110 f hk
  simp only [iq_196_0, iq_196_1, iq_196_4, iq_196_5, iq_196_6, iq_196_7, iq_196_8, iq_196_9, iq_196_10, iq_196_13, rz_g0, hk, hk2, Option.bind_some, rc_st110, rz_i5, rz_n5, rz_kd, rc_becomes, rz_i3, rz_n3, rc_A110, rz_sA_sA, Option.toList, List.cons_append, List.nil_append, rc_upn, ne_eq, Nat.reduceEqDiff, not_false_eq_true]
theorem rc_isBoat (d : Nat) (k : Int32) (h : mx_MH) (hk : rz_ok h) : mx_run d 178 0 [some (.ref 109), some (.int k)] [] h = some (some (.int (if ¬ k < 0 ∧ ¬ rz_A h 110 0 - 1 < k then 1 else 0)), h) := by
  simp only [iq_178_0, iq_178_1, iq_178_2, iq_178_3, iq_178_4, iq_178_7, iq_178_8, iq_178_9, iq_178_10, iq_178_11, iq_178_12, iq_178_15, iq_178_15z, ib_178_15, rz_g0, hk, Option.bind_some, rc_ld110, rz_i0, rz_n0, rc_ge_0, rc_ee]
theorem rc_isText (d : Nat) (k : Int32) (h : mx_MH) (hk : rz_ok h) : mx_run d 245 0 [some (.ref 109), some (.int k)] [] h = some (some (.int (if ¬ k < 0 ∧ ¬ rz_A h 110 1 - 1 < k then 1 else 0)), h) := by
  simp only [iq_245_0, iq_245_1, iq_245_2, iq_245_3, iq_245_4, iq_245_7, iq_245_8, iq_245_9, iq_245_10, iq_245_11, iq_245_12, iq_245_15, iq_245_15z, ib_245_15, rz_g0, hk, Option.bind_some, rc_ld110, rz_i1, rz_n1, rc_ge_0, rc_ee]
theorem rc_isSheet (d : Nat) (k : Int32) (h : mx_MH) : mx_run d 248 0 [some (.int k)] [] h = some (some (.int (if ¬ k < 0 ∧ ¬ (3 : Int32) < k then 1 else 0)), h) := by
  simp only [iq_248_0, iq_248_1, iq_248_2, iq_248_3, iq_248_6, iq_248_9, iq_248_9z, ib_248_9, rc_ge_0, rc_le_3]
theorem rc_isSlot (d : Nat) (k : Int32) (h : mx_MH) : mx_run d 256 0 [some (.int k)] [] h = some (some (.int (if ¬ k < 0 ∧ ¬ (4 : Int32) < k then 1 else 0)), h) := by
  simp only [iq_256_0, iq_256_1, iq_256_2, iq_256_3, iq_256_6, iq_256_9, iq_256_9z, ib_256_9, rc_ge_0, rc_le_4]
