theorem rc_textAt (d : Nat) (a : Nat) (t : Int32) (h : mx_MH) : mx_run d 183 0 [some (.ref a), some (.int t)] [] h = some (some (.int (75 + 200 * t)), h) := by
  simp only [iq_183_0, iq_183_2, iq_183_5, iq_183_6, iq_183_7, iq_183_8]
def sp_wi (v m : Int32) : Int32 := if v < 0 then 0 else if m < v then m else v
theorem rc_within (d : Nat) (v m : Int32) (h : mx_MH) : mx_run d 181 0 [some (.int v), some (.int m)] [] h = some (some (.int (sp_wi v m)), h) := by
  unfold sp_wi
  simp only [iq_181_0, iq_181_1, iq_181_4, iq_181_5, iq_181_8, iq_181_9, iq_181_10, iq_181_13, iq_181_14, iq_181_17, iq_181_18]
  repeat' split
  all_goals rfl
theorem rc_orNone (d : Nat) (v : Int32) (h : mx_MH) : mx_run d 219 0 [some (.int v)] [] h = some (some (.int (if v < 0 then -1000000005 else v)), h) := by
  simp only [iq_219_0, iq_219_1, iq_219_4, iq_219_6, iq_219_9, iq_219_10]
  repeat' split
  all_goals rfl
theorem rc_off (d : Nat) (a b : Int32) (h : mx_MH) : mx_run d 253 0 [some (.int a), some (.int b)] [] h = some (some (.int (if a < b then b - a else a - b)), h) := by
  simp only [iq_253_0, iq_253_1, iq_253_2, iq_253_5, iq_253_6, iq_253_7, iq_253_8, iq_253_11, iq_253_12, iq_253_13, iq_253_14]
  repeat' split
  all_goals rfl
def sp_sby (a b : Int32) : Int32 := if a - b / 4 < 0 then 0 else a - b / 4
theorem rc_speedBy (d : Nat) (a b : Int32) (l2 : Option Value) (h : mx_MH) : mx_run d 203 0 [some (.int a), some (.int b), l2] [] h = some (some (.int (sp_sby a b)), h) := by
  unfold sp_sby
  simp only [iq_203_0, iq_203_1, iq_203_2, iq_203_3, iq_203_4, iq_203_5, iq_203_6, iq_203_7, iq_203_10, iq_203_11, iq_203_14, iq_203_15, reduceIte, show ¬ ((4 : Int32) = 0) by decide]
  repeat' split
  all_goals rfl
theorem rc_mostOf (d : Nat) (w : Int32) (h : mx_MH) : mx_run d 198 0 [some (.int w)] [] h = some (some (.int (if w = 0 then 9 else if w = 1 then 2 else if w = 4 then 100 else 99)), h) := by
  simp only [iq_198_0, iq_198_1, iq_198_36, iq_198_38, iq_198_39, iq_198_40, iq_198_41, iq_198_43, iq_198_44, iq_198_46]
  repeat' split
  all_goals first | rfl | (simp_all; done)
def sp_isOf (o k : Int32) : Bool := decide (o = k) || decide (k = 0) || (decide (k = 1) && decide (o = 3)) || (decide (k = 2) && decide (o = 4))
theorem rc_isOf (d : Nat) (o k : Int32) (h : mx_MH) : mx_run d 190 0 [some (.int o), some (.int k)] [] h = some (some (.int (if sp_isOf o k = true then 1 else 0)), h) := by
  unfold sp_isOf
  simp only [iq_190_0, iq_190_1, iq_190_2, iq_190_5, iq_190_6, iq_190_9, iq_190_10, iq_190_11, iq_190_14, iq_190_15, iq_190_16, iq_190_19, iq_190_20, iq_190_21, iq_190_24, iq_190_25, iq_190_26, iq_190_29, iq_190_30, iq_190_33, iq_190_34, iq_190_34z, ib_190_34, Bool.or_eq_true, Bool.and_eq_true, decide_eq_true_eq]
  by_cases h1 : o = k
  · simp only [h1, if_true, true_or]
  · by_cases h2 : k = 0
    · simp only [h1, h2, if_true, if_false, or_true, true_or, false_or]
      first | rfl | (split <;> rfl)
    · by_cases h3 : k = 1
      · by_cases h4 : o = 3
        · subst h3
          subst h4
          simp
        · subst h3
          simp only [h1, h4, if_false, false_or, and_false]
          simp
      · by_cases h4 : k = 2
        · by_cases h5 : o = 4
          · subst h4
            subst h5
            simp
          · subst h4
            simp [h1, h5]
        · simp [h1, h2, h3, h4]
variable (R : Nat → Option mx_MC) (c : Nat × Nat) (D : hz_D)
theorem rc_becomes (d : Nat) (i : Nat) (v : Int32) (l3 : Option Value) (hi : i < 3075) : mx_run d 192 0 [some (.ref 109), some (.int (nI i)), some (.int v), l3] [] (hp R c D) = some (some (.int (D 110 i)), hp R c (mx_up D 110 (mx_up (D 110) i v))) := by
  simp (disch := first | assumption | exact kd_109 _ _ _ | omega) only [iq_192_0, iq_192_1, iq_192_4, iq_192_5, iq_192_6, iq_192_7, iq_192_8, iq_192_11, iq_192_12, iq_192_13, iq_192_14, iq_192_15, gf_109_0, gf_109_1, gf_109_2, gf_109_3, gf_109_4, gf_109_5, gf_109_6, gf_109_7, gf_109_8, gf_109_9, gf_109_10, gf_109_11, gf_109_12, gf_109_13, gf_109_14, gf_109_15, gf_109_16, gf_109_17, gf_109_18, gf_109_19, gf_109_20, gf_109_21, gf_109_22, gf_109_23, gf_109_24, gf_109_25, gf_109_26, gf_109_27, gf_109_28, gf_109_29, gf_109_30, kd_109, Option.bind_some, Option.toList, List.cons_append, List.nil_append, ↓reduceIte, nI_1, Int32.reduceLT, Int32.reduceLE, dv_1, dv_2, dv_3, dv_4, dv_6, dv_8, dv_10, dv_20, dv_100, dv_200, dv_500, ld_110, st_110]
theorem rc_becomes6 (d : Nat) (v : Int32) (l3 : Option Value) : mx_run d 192 0 [some (.ref 109), some (.int 6), some (.int v), l3] [] (hp R c D) = some (some (.int (D 110 6)), hp R c (mx_up D 110 (mx_up (D 110) 6 v))) := rc_becomes R c D d 6 v l3 (by omega)
theorem rc_becomes3 (d : Nat) (v : Int32) (l3 : Option Value) : mx_run d 192 0 [some (.ref 109), some (.int 3), some (.int v), l3] [] (hp R c D) = some (some (.int (D 110 3)), hp R c (mx_up D 110 (mx_up (D 110) 3 v))) := rc_becomes R c D d 3 v l3 (by omega)
def sp_nx (z : Int32) : Int32 := z * 1103515245 + 12345
def sp_sh (z : Int32) : Int32 := (z.toUInt32 >>> ((8 : Int32).toUInt32 &&& Int32.toUInt32 31)).toInt32
theorem rc_drawn (d : Nat) : mx_run d 200 0 [some (.ref 109)] [] (hp R c D) = some (some (.int (sp_sh (sp_nx (D 110 6)))), hp R c (mx_up D 110 (mx_up (D 110) 6 (sp_nx (D 110 6))))) := by
  simp (disch := first | assumption | exact kd_109 _ _ _ | omega) only [iq_200_0, iq_200_1, iq_200_4, iq_200_6, iq_200_7, iq_200_10, iq_200_12, iq_200_13, iq_200_15, iq_200_16, iq_200_19, iq_200_20, iq_200_21, iq_200_22, iq_200_25, iq_200_27, iq_200_28, iq_200_30, iq_200_31, gf_109_0, gf_109_1, gf_109_2, gf_109_3, gf_109_4, gf_109_5, gf_109_6, gf_109_7, gf_109_8, gf_109_9, gf_109_10, gf_109_11, gf_109_12, gf_109_13, gf_109_14, gf_109_15, gf_109_16, gf_109_17, gf_109_18, gf_109_19, gf_109_20, gf_109_21, gf_109_22, gf_109_23, gf_109_24, gf_109_25, gf_109_26, gf_109_27, gf_109_28, gf_109_29, gf_109_30, kd_109, Option.bind_some, Option.toList, List.cons_append, List.nil_append, ↓reduceIte, nI_1, Int32.reduceLT, Int32.reduceLE, dv_1, dv_2, dv_3, dv_4, dv_6, dv_8, dv_10, dv_20, dv_100, dv_200, dv_500, ld_110_0, st_110_0, ld_110_1, st_110_1, ld_110_2, st_110_2, ld_110_3, st_110_3, ld_110_4, st_110_4, ld_110_5, st_110_5, ld_110_6, st_110_6, ld_110_7, st_110_7, ld_110_8, st_110_8, ld_110_9, st_110_9, ld_110_10, st_110_10, ld_110_11, st_110_11, ld_110_12, st_110_12, ld_110_75, st_110_75, up_s, up_up, up_n, ne_eq, Nat.reduceEqDiff, not_false_eq_true, sp_nx, sp_sh]
theorem rc_goesTo (d : Nat) (k : Int32) : mx_run (d + 1) 196 0 [some (.ref 109), some (.int k)] [] (hp R c D) = some (some (.int (D 110 3)), hp R c (mx_up D 110 (mx_up (mx_up (D 110) 5 0) 3 k))) := by
  simp (disch := first | assumption | exact kd_109 _ _ _ | omega) only [iq_196_0, iq_196_1, iq_196_4, iq_196_5, iq_196_6, iq_196_7, iq_196_8, iq_196_9, iq_196_10, iq_196_13, gf_109_0, gf_109_1, gf_109_2, gf_109_3, gf_109_4, gf_109_5, gf_109_6, gf_109_7, gf_109_8, gf_109_9, gf_109_10, gf_109_11, gf_109_12, gf_109_13, gf_109_14, gf_109_15, gf_109_16, gf_109_17, gf_109_18, gf_109_19, gf_109_20, gf_109_21, gf_109_22, gf_109_23, gf_109_24, gf_109_25, gf_109_26, gf_109_27, gf_109_28, gf_109_29, gf_109_30, kd_109, Option.bind_some, Option.toList, List.cons_append, List.nil_append, ↓reduceIte, nI_1, Int32.reduceLT, Int32.reduceLE, dv_1, dv_2, dv_3, dv_4, dv_6, dv_8, dv_10, dv_20, dv_100, dv_200, dv_500, ld_110_0, st_110_0, ld_110_1, st_110_1, ld_110_2, st_110_2, ld_110_3, st_110_3, ld_110_4, st_110_4, ld_110_5, st_110_5, ld_110_6, st_110_6, ld_110_7, st_110_7, ld_110_8, st_110_8, ld_110_9, st_110_9, ld_110_10, st_110_10, ld_110_11, st_110_11, ld_110_12, st_110_12, ld_110_75, st_110_75, up_s, up_up, up_n, ne_eq, Nat.reduceEqDiff, not_false_eq_true, rc_becomes3]
theorem rc_isBoat (d : Nat) (k : Int32) : mx_run d 178 0 [some (.ref 109), some (.int k)] [] (hp R c D) = some (some (.int (if ¬ k < 0 ∧ ¬ D 110 0 - 1 < k then 1 else 0)), hp R c D) := by
  simp (disch := first | assumption | exact kd_109 _ _ _ | omega) only [iq_178_0, iq_178_1, iq_178_2, iq_178_3, iq_178_4, iq_178_7, iq_178_8, iq_178_9, iq_178_10, iq_178_11, iq_178_12, iq_178_15, iq_178_15z, ib_178_15, gf_109_0, gf_109_1, gf_109_2, gf_109_3, gf_109_4, gf_109_5, gf_109_6, gf_109_7, gf_109_8, gf_109_9, gf_109_10, gf_109_11, gf_109_12, gf_109_13, gf_109_14, gf_109_15, gf_109_16, gf_109_17, gf_109_18, gf_109_19, gf_109_20, gf_109_21, gf_109_22, gf_109_23, gf_109_24, gf_109_25, gf_109_26, gf_109_27, gf_109_28, gf_109_29, gf_109_30, kd_109, Option.bind_some, Option.toList, List.cons_append, List.nil_append, ↓reduceIte, nI_1, Int32.reduceLT, Int32.reduceLE, dv_1, dv_2, dv_3, dv_4, dv_6, dv_8, dv_10, dv_20, dv_100, dv_200, dv_500, ld_110_0, st_110_0, ld_110_1, st_110_1, ld_110_2, st_110_2, ld_110_3, st_110_3, ld_110_4, st_110_4, ld_110_5, st_110_5, ld_110_6, st_110_6, ld_110_7, st_110_7, ld_110_8, st_110_8, ld_110_9, st_110_9, ld_110_10, st_110_10, ld_110_11, st_110_11, ld_110_12, st_110_12, ld_110_75, st_110_75, rc_ge_0, rc_ee]
theorem rc_isText (d : Nat) (k : Int32) : mx_run d 245 0 [some (.ref 109), some (.int k)] [] (hp R c D) = some (some (.int (if ¬ k < 0 ∧ ¬ D 110 1 - 1 < k then 1 else 0)), hp R c D) := by
  simp (disch := first | assumption | exact kd_109 _ _ _ | omega) only [iq_245_0, iq_245_1, iq_245_2, iq_245_3, iq_245_4, iq_245_7, iq_245_8, iq_245_9, iq_245_10, iq_245_11, iq_245_12, iq_245_15, iq_245_15z, ib_245_15, gf_109_0, gf_109_1, gf_109_2, gf_109_3, gf_109_4, gf_109_5, gf_109_6, gf_109_7, gf_109_8, gf_109_9, gf_109_10, gf_109_11, gf_109_12, gf_109_13, gf_109_14, gf_109_15, gf_109_16, gf_109_17, gf_109_18, gf_109_19, gf_109_20, gf_109_21, gf_109_22, gf_109_23, gf_109_24, gf_109_25, gf_109_26, gf_109_27, gf_109_28, gf_109_29, gf_109_30, kd_109, Option.bind_some, Option.toList, List.cons_append, List.nil_append, ↓reduceIte, nI_1, Int32.reduceLT, Int32.reduceLE, dv_1, dv_2, dv_3, dv_4, dv_6, dv_8, dv_10, dv_20, dv_100, dv_200, dv_500, ld_110_0, st_110_0, ld_110_1, st_110_1, ld_110_2, st_110_2, ld_110_3, st_110_3, ld_110_4, st_110_4, ld_110_5, st_110_5, ld_110_6, st_110_6, ld_110_7, st_110_7, ld_110_8, st_110_8, ld_110_9, st_110_9, ld_110_10, st_110_10, ld_110_11, st_110_11, ld_110_12, st_110_12, ld_110_75, st_110_75, rc_ge_0, rc_ee]
theorem rc_isSheet (d : Nat) (k : Int32) (h : mx_MH) : mx_run d 248 0 [some (.int k)] [] h = some (some (.int (if ¬ k < 0 ∧ ¬ (3 : Int32) < k then 1 else 0)), h) := by
  simp only [iq_248_0, iq_248_1, iq_248_2, iq_248_3, iq_248_6, iq_248_9, iq_248_9z, ib_248_9, rc_ge_0, rc_le_3]
theorem rc_isSlot (d : Nat) (k : Int32) (h : mx_MH) : mx_run d 256 0 [some (.int k)] [] h = some (some (.int (if ¬ k < 0 ∧ ¬ (4 : Int32) < k then 1 else 0)), h) := by
  simp only [iq_256_0, iq_256_1, iq_256_2, iq_256_3, iq_256_6, iq_256_9, iq_256_9z, ib_256_9, rc_ge_0, rc_le_4]
theorem nz_bt {n : Nat} (hn : n < 1000) (k : Int32) : (¬ k < 0 ∧ ¬ nI n - 1 < k) ↔ ∃ j, j < n ∧ k = nI j := by
  constructor
  · rintro ⟨h1, h2⟩
    obtain ⟨j, hj, rfl⟩ := nI_of h1
    refine ⟨j, ?_, rfl⟩
    rw [Int32.lt_iff_toInt_lt, nI_toInt hj] at h2
    by_cases e : n = 0
    · subst e
      rw [show (nI 0 - 1).toInt = -1 by decide] at h2
      omega
    · obtain ⟨q, rfl⟩ : ∃ q, n = q + 1 := ⟨n - 1, by omega⟩
      rw [nI_pred, nI_toInt (by omega)] at h2
      omega
  · rintro ⟨j, hj, rfl⟩
    refine ⟨nI_pos (by omega), ?_⟩
    obtain ⟨q, rfl⟩ : ∃ q, n = q + 1 := ⟨n - 1, by omega⟩
    rw [nI_pred]
    exact nI_nlt (by omega) (by omega)
/-- a new boat -/
def sp_com (s : Nat → Int32) (n : Nat) (kd we wa : Int32) : Nat → Int32 := mx_up (mx_up (mx_up (mx_up (mx_up (mx_up (mx_up (mx_up s 0 (nI (n + 1))) (12 + 7 * n + 0) kd) (12 + 7 * n + 1) we) (12 + 7 * n + 2) 0) (12 + 7 * n + 3) wa) (12 + 7 * n + 4) 0) (12 + 7 * n + 5) 1) (12 + 7 * n + 6) 0
theorem rc_comes (d : Nat) (kd we wa : Int32) (n : Nat) (hn : D 110 0 = nI n) (h9 : n < 9) : mx_run (d + 1) 175 0 [some (.ref 109), some (.int kd), some (.int we), some (.int wa), none] [] (hp R c D) = some (none, hp R c (mx_up D 110 (sp_com (D 110) n kd we wa))) := by
  unfold sp_com
  simp (disch := first | assumption | exact kd_109 _ _ _ | omega) only [iq_175_0, iq_175_1, iq_175_4, iq_175_5, iq_175_6, iq_175_8, iq_175_9, iq_175_12, iq_175_13, iq_175_14, iq_175_15, iq_175_16, iq_175_17, iq_175_18, iq_175_19, iq_175_21, iq_175_22, iq_175_23, iq_175_26, iq_175_27, iq_175_29, iq_175_30, iq_175_31, iq_175_34, iq_175_35, iq_175_37, iq_175_38, iq_175_39, iq_175_42, iq_175_43, iq_175_45, iq_175_46, iq_175_47, iq_175_50, iq_175_51, iq_175_53, iq_175_54, iq_175_55, iq_175_58, iq_175_59, iq_175_61, iq_175_62, iq_175_63, iq_175_66, iq_175_67, iq_175_69, iq_175_71, iq_175_72, iq_175_75, gf_109_0, gf_109_1, gf_109_2, gf_109_3, gf_109_4, gf_109_5, gf_109_6, gf_109_7, gf_109_8, gf_109_9, gf_109_10, gf_109_11, gf_109_12, gf_109_13, gf_109_14, gf_109_15, gf_109_16, gf_109_17, gf_109_18, gf_109_19, gf_109_20, gf_109_21, gf_109_22, gf_109_23, gf_109_24, gf_109_25, gf_109_26, gf_109_27, gf_109_28, gf_109_29, gf_109_30, kd_109, Option.bind_some, Option.toList, List.cons_append, List.nil_append, ↓reduceIte, nI_1, Int32.reduceLT, Int32.reduceLE, dv_1, dv_2, dv_3, dv_4, dv_6, dv_8, dv_10, dv_20, dv_100, dv_200, dv_500, ld_110_0, st_110_0, ld_110_1, st_110_1, ld_110_2, st_110_2, ld_110_3, st_110_3, ld_110_4, st_110_4, ld_110_5, st_110_5, ld_110_6, st_110_6, ld_110_7, st_110_7, ld_110_8, st_110_8, ld_110_9, st_110_9, ld_110_10, st_110_10, ld_110_11, st_110_11, ld_110_12, st_110_12, ld_110_75, st_110_75, up_s, up_up, up_n, ne_eq, Nat.reduceEqDiff, not_false_eq_true, hn, rc_set0, rc_set1, rc_set2, rc_set3, rc_set4, rc_set5, rc_set6]
def sp_drg (k w : Int32) : Int32 := if k = 1 ∨ k = 3 then (if 3 < w then w - 3 else 0) else if k = 2 then 2 * w else if k = 4 then 2 * w - 1 else w
def sp_row (k : Int32) : Int32 := if k = 1 then 4 else if k = 3 then 6 else if k = 4 then 1 else 0
def sp_wor (k w : Int32) : Int32 := if k = 1 then w + 8 else if k = 2 then 99 - w else if k = 3 then 2 * (w + 8) else if k = 4 then 92 - w else if k = 5 then 4 else w
def sp_pk (k v : Int32) : Int32 := if k = 1 then v + 5 else if k = 2 then v / 2 else if k = 3 then 2 * (v + 5) else if k = 4 then v / 2 + 9 else if k = 5 then 0 else v
theorem rc_drags (d : Nat) (k : Nat) (hk : k < 400) : mx_run (d + 1) 186 0 [some (.ref 109), some (.int (nI k)), none] [] (hp R c D) = some (some (.int (sp_drg (D 110 (12 + 7 * k + 0)) (D 110 (12 + 7 * k + 1)))), hp R c D) := by
  unfold sp_drg
  simp (disch := first | assumption | exact kd_109 _ _ _ | omega) only [iq_186_0, iq_186_1, iq_186_2, iq_186_3, iq_186_6, iq_186_7, iq_186_8, iq_186_9, iq_186_10, iq_186_13, iq_186_44, iq_186_45, iq_186_46, iq_186_49, iq_186_50, iq_186_51, iq_186_52, iq_186_55, iq_186_56, iq_186_57, iq_186_58, iq_186_59, iq_186_60, iq_186_61, iq_186_62, iq_186_63, iq_186_64, iq_186_65, iq_186_66, iq_186_67, iq_186_68, Option.bind_some, Option.toList, List.cons_append, List.nil_append, ↓reduceIte, nI_1, Int32.reduceLT, Int32.reduceLE, dv_1, dv_2, dv_3, dv_4, dv_6, dv_8, dv_10, dv_20, dv_100, dv_200, dv_500, kd_109, rc_of0, rc_of1]
  repeat' split
  all_goals first | rfl | (simp_all; done)
theorem rc_rows (d : Nat) (k : Nat) (hk : k < 400) : mx_run (d + 1) 187 0 [some (.ref 109), some (.int (nI k))] [] (hp R c D) = some (some (.int (sp_row (D 110 (12 + 7 * k + 0)))), hp R c D) := by
  unfold sp_row
  simp (disch := first | assumption | exact kd_109 _ _ _ | omega) only [iq_187_0, iq_187_1, iq_187_2, iq_187_3, iq_187_6, iq_187_36, iq_187_37, iq_187_38, iq_187_40, iq_187_41, iq_187_42, iq_187_43, iq_187_44, Option.bind_some, Option.toList, List.cons_append, List.nil_append, ↓reduceIte, nI_1, Int32.reduceLT, Int32.reduceLE, dv_1, dv_2, dv_3, dv_4, dv_6, dv_8, dv_10, dv_20, dv_100, dv_200, dv_500, kd_109, rc_of0, rc_of1]
  repeat' split
  all_goals first | rfl | (simp_all; done)
theorem rc_worth (d : Nat) (k : Nat) (hk : k < 400) : mx_run (d + 1) 188 0 [some (.ref 109), some (.int (nI k)), none] [] (hp R c D) = some (some (.int (sp_wor (D 110 (12 + 7 * k + 0)) (D 110 (12 + 7 * k + 1)))), hp R c D) := by
  unfold sp_wor
  simp (disch := first | assumption | exact kd_109 _ _ _ | omega) only [iq_188_0, iq_188_1, iq_188_2, iq_188_3, iq_188_6, iq_188_7, iq_188_8, iq_188_9, iq_188_10, iq_188_13, iq_188_48, iq_188_49, iq_188_51, iq_188_52, iq_188_53, iq_188_55, iq_188_56, iq_188_57, iq_188_58, iq_188_59, iq_188_60, iq_188_62, iq_188_63, iq_188_64, iq_188_65, iq_188_67, iq_188_68, iq_188_69, iq_188_70, iq_188_71, iq_188_72, iq_188_73, Option.bind_some, Option.toList, List.cons_append, List.nil_append, ↓reduceIte, nI_1, Int32.reduceLT, Int32.reduceLE, dv_1, dv_2, dv_3, dv_4, dv_6, dv_8, dv_10, dv_20, dv_100, dv_200, dv_500, kd_109, rc_of0, rc_of1]
  repeat' split
  all_goals first | rfl | (simp_all; done)
