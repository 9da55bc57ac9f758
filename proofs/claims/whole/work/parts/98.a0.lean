/-- is the token s..e of sort ty the word at w (1) or not (0) -/
def jw_W (B : Nat → Nat) (s e ty w : Nat) : Nat := if ty = 1 ∧ e - s = sx_len.getD (w - 4) 0 then jw_eq B s w (sx_len.getD (w - 4) 0) 0 else 0
/-- which key: 0 pull, 1 fee, 2 fine, 3 none -/
def tk_key (B : Nat → Nat) (s e ty : Nat) : Nat := if jw_W B s e ty 4 ≠ 0 then 0 else if jw_W B s e ty 5 ≠ 0 then 1 else if jw_W B s e ty 6 ≠ 0 then 2 else 3
theorem jw_eq1 (B : Nat → Nat) (s w : Nat) : ∀ i k, jw_eq B s w i k ≤ 1
  | 0, _ => Nat.le_refl _
  | i + 1, k => by
    unfold jw_eq
    split
    · exact jw_eq1 B s w i (k + 1)
    · omega
theorem jw_W1 (B : Nat → Nat) (s e ty w : Nat) : jw_W B s e ty w ≤ 1 := by
  unfold jw_W
  split
  · exact jw_eq1 _ _ _ _ _
  · omega
section KY
variable (R : Nat → Option mx_MC) (c : Nat × Nat)
theorem rt_W4 (D : hz_D) (d : Nat) (B : Nat → Nat) (len s e ty : Nat) (l5 : Option Value) (ht : tp_r D B len) (h7 : D 109 17 = nI ty) (h5 : D 109 15 = nI s) (h6 : D 109 16 = nI e) (hty : ty ≤ 4) (hse : s ≤ e) (he : e ≤ len) : mx_run d 234 0 [some (.ref 109), some (.int 112), some (.int 117), some (.int 108), some (.int 108), l5] [] (hp R c D) = some (some (.int (nI (jw_W B s e ty 4))), hp R c D) := rt_w4 R c D d 112 117 108 108 B len s e ty l5 ht h7 h5 h6 hty hse he (by decide)
theorem rt_W5 (D : hz_D) (d : Nat) (B : Nat → Nat) (len s e ty : Nat) (l5 : Option Value) (ht : tp_r D B len) (h7 : D 109 17 = nI ty) (h5 : D 109 15 = nI s) (h6 : D 109 16 = nI e) (hty : ty ≤ 4) (hse : s ≤ e) (he : e ≤ len) : mx_run d 234 0 [some (.ref 109), some (.int 102), some (.int 101), some (.int 101), some (.int 0), l5] [] (hp R c D) = some (some (.int (nI (jw_W B s e ty 5))), hp R c D) := rt_w3 R c D d 102 101 101 B len s e ty l5 ht h7 h5 h6 hty hse he
theorem rt_W6 (D : hz_D) (d : Nat) (B : Nat → Nat) (len s e ty : Nat) (l5 : Option Value) (ht : tp_r D B len) (h7 : D 109 17 = nI ty) (h5 : D 109 15 = nI s) (h6 : D 109 16 = nI e) (hty : ty ≤ 4) (hse : s ≤ e) (he : e ≤ len) : mx_run d 234 0 [some (.ref 109), some (.int 102), some (.int 105), some (.int 110), some (.int 101), l5] [] (hp R c D) = some (some (.int (nI (jw_W B s e ty 6))), hp R c D) := rt_w4 R c D d 102 105 110 101 B len s e ty l5 ht h7 h5 h6 hty hse he (by decide)
theorem rt_key (D : hz_D) (d : Nat) (B : Nat → Nat) (len s e ty : Nat) (ht : tp_r D B len) (h7 : D 109 17 = nI ty) (h5 : D 109 15 = nI s) (h6 : D 109 16 = nI e) (hty : ty ≤ 4) (hse : s ≤ e) (he : e ≤ len) : mx_run (d + 1) 233 0 [some (.ref 109)] [] (hp R c D) = some (some (.int (if tk_key B s e ty = 3 then -1 else nI (tk_key B s e ty))), hp R c D) := by
  have g4 := rt_W4 R c D d B len s e ty none ht h7 h5 h6 hty hse he
  have g5 := rt_W5 R c D d B len s e ty none ht h7 h5 h6 hty hse he
  have g6 := rt_W6 R c D d B len s e ty none ht h7 h5 h6 hty hse he
  have i4 := jw_W1 B s e ty 4
  have i5 := jw_W1 B s e ty 5
  have i6 := jw_W1 B s e ty 6
  have e4 : (nI (jw_W B s e ty 4) = 0) = (jw_W B s e ty 4 = 0) := propext (nI_eq (b := 0) (by omega) (by omega))
  have e5 : (nI (jw_W B s e ty 5) = 0) = (jw_W B s e ty 5 = 0) := propext (nI_eq (b := 0) (by omega) (by omega))
  have e6 : (nI (jw_W B s e ty 6) = 0) = (jw_W B s e ty 6 = 0) := propext (nI_eq (b := 0) (by omega) (by omega))
  unfold tk_key
  by_cases q4 : jw_W B s e ty 4 = 0
  · by_cases q5 : jw_W B s e ty 5 = 0
    · by_cases q6 : jw_W B s e ty 6 = 0
      · rw [if_neg (not_not_intro q4), if_neg (not_not_intro q5), if_neg (not_not_intro q6)]
        simp (disch := first | assumption | omega | exact kd_sh _ _ _ (by assumption) | exact kd_sea _ _ _ (by assumption) | exact is_bts (by assumption) _ (by omega) | exact kd_bt _ _ _ (by first | assumption | exact is_bts (by assumption) _ (by omega)) | exact kd_109 _ _ _ | exact kd_17 _ _ _ | exact kd_20 _ _ _) only [iq_233_0, iq_233_1, iq_233_3, iq_233_5, iq_233_7, iq_233_9, iq_233_12, iq_233_15, iq_233_16, iq_233_17, iq_233_18, iq_233_20, iq_233_22, iq_233_24, iq_233_25, iq_233_28, iq_233_31, iq_233_32, iq_233_33, iq_233_34, iq_233_36, iq_233_38, iq_233_40, iq_233_42, iq_233_45, iq_233_48, iq_233_49, iq_233_52, iq_233_53, Option.bind_some, Option.toList, List.cons_append, List.nil_append, ↓reduceIte, nI_1, Int32.reduceLT, Int32.reduceLE, dv_1, dv_2, dv_3, dv_4, dv_6, dv_8, dv_10, dv_20, dv_100, dv_200, dv_500, gf_109_0, gf_109_1, gf_109_2, gf_109_3, gf_109_4, gf_109_5, gf_109_6, gf_109_7, gf_109_8, gf_109_9, gf_109_10, gf_109_11, gf_109_12, gf_109_13, gf_109_14, gf_109_15, gf_109_16, gf_109_17, gf_109_18, gf_109_19, gf_109_20, gf_109_21, gf_109_22, gf_109_23, gf_109_24, gf_109_25, gf_109_26, gf_109_27, gf_109_28, gf_109_29, gf_109_30, kd_109, g4, g5, g6, e4, e5, e6]
        simp only [if_pos q4, if_pos q5, if_pos q6]
        try rfl
      · rw [if_neg (not_not_intro q4), if_neg (not_not_intro q5), if_pos q6]
        simp (disch := first | assumption | omega | exact kd_sh _ _ _ (by assumption) | exact kd_sea _ _ _ (by assumption) | exact is_bts (by assumption) _ (by omega) | exact kd_bt _ _ _ (by first | assumption | exact is_bts (by assumption) _ (by omega)) | exact kd_109 _ _ _ | exact kd_17 _ _ _ | exact kd_20 _ _ _) only [iq_233_0, iq_233_1, iq_233_3, iq_233_5, iq_233_7, iq_233_9, iq_233_12, iq_233_15, iq_233_16, iq_233_17, iq_233_18, iq_233_20, iq_233_22, iq_233_24, iq_233_25, iq_233_28, iq_233_31, iq_233_32, iq_233_33, iq_233_34, iq_233_36, iq_233_38, iq_233_40, iq_233_42, iq_233_45, iq_233_48, iq_233_49, iq_233_52, iq_233_53, Option.bind_some, Option.toList, List.cons_append, List.nil_append, ↓reduceIte, nI_1, Int32.reduceLT, Int32.reduceLE, dv_1, dv_2, dv_3, dv_4, dv_6, dv_8, dv_10, dv_20, dv_100, dv_200, dv_500, gf_109_0, gf_109_1, gf_109_2, gf_109_3, gf_109_4, gf_109_5, gf_109_6, gf_109_7, gf_109_8, gf_109_9, gf_109_10, gf_109_11, gf_109_12, gf_109_13, gf_109_14, gf_109_15, gf_109_16, gf_109_17, gf_109_18, gf_109_19, gf_109_20, gf_109_21, gf_109_22, gf_109_23, gf_109_24, gf_109_25, gf_109_26, gf_109_27, gf_109_28, gf_109_29, gf_109_30, kd_109, g4, g5, g6, e4, e5, e6]
        simp only [if_pos q4, if_pos q5, if_neg q6]
        try rfl
    · rw [if_neg (not_not_intro q4), if_pos q5]
      simp (disch := first | assumption | omega | exact kd_sh _ _ _ (by assumption) | exact kd_sea _ _ _ (by assumption) | exact is_bts (by assumption) _ (by omega) | exact kd_bt _ _ _ (by first | assumption | exact is_bts (by assumption) _ (by omega)) | exact kd_109 _ _ _ | exact kd_17 _ _ _ | exact kd_20 _ _ _) only [iq_233_0, iq_233_1, iq_233_3, iq_233_5, iq_233_7, iq_233_9, iq_233_12, iq_233_15, iq_233_16, iq_233_17, iq_233_18, iq_233_20, iq_233_22, iq_233_24, iq_233_25, iq_233_28, iq_233_31, iq_233_32, iq_233_33, iq_233_34, iq_233_36, iq_233_38, iq_233_40, iq_233_42, iq_233_45, iq_233_48, iq_233_49, iq_233_52, iq_233_53, Option.bind_some, Option.toList, List.cons_append, List.nil_append, ↓reduceIte, nI_1, Int32.reduceLT, Int32.reduceLE, dv_1, dv_2, dv_3, dv_4, dv_6, dv_8, dv_10, dv_20, dv_100, dv_200, dv_500, gf_109_0, gf_109_1, gf_109_2, gf_109_3, gf_109_4, gf_109_5, gf_109_6, gf_109_7, gf_109_8, gf_109_9, gf_109_10, gf_109_11, gf_109_12, gf_109_13, gf_109_14, gf_109_15, gf_109_16, gf_109_17, gf_109_18, gf_109_19, gf_109_20, gf_109_21, gf_109_22, gf_109_23, gf_109_24, gf_109_25, gf_109_26, gf_109_27, gf_109_28, gf_109_29, gf_109_30, kd_109, g4, g5, g6, e4, e5, e6]
      simp only [if_pos q4, if_neg q5]
      try rfl
  · rw [if_pos q4]
    simp (disch := first | assumption | omega | exact kd_sh _ _ _ (by assumption) | exact kd_sea _ _ _ (by assumption) | exact is_bts (by assumption) _ (by omega) | exact kd_bt _ _ _ (by first | assumption | exact is_bts (by assumption) _ (by omega)) | exact kd_109 _ _ _ | exact kd_17 _ _ _ | exact kd_20 _ _ _) only [iq_233_0, iq_233_1, iq_233_3, iq_233_5, iq_233_7, iq_233_9, iq_233_12, iq_233_15, iq_233_16, iq_233_17, iq_233_18, iq_233_20, iq_233_22, iq_233_24, iq_233_25, iq_233_28, iq_233_31, iq_233_32, iq_233_33, iq_233_34, iq_233_36, iq_233_38, iq_233_40, iq_233_42, iq_233_45, iq_233_48, iq_233_49, iq_233_52, iq_233_53, Option.bind_some, Option.toList, List.cons_append, List.nil_append, ↓reduceIte, nI_1, Int32.reduceLT, Int32.reduceLE, dv_1, dv_2, dv_3, dv_4, dv_6, dv_8, dv_10, dv_20, dv_100, dv_200, dv_500, gf_109_0, gf_109_1, gf_109_2, gf_109_3, gf_109_4, gf_109_5, gf_109_6, gf_109_7, gf_109_8, gf_109_9, gf_109_10, gf_109_11, gf_109_12, gf_109_13, gf_109_14, gf_109_15, gf_109_16, gf_109_17, gf_109_18, gf_109_19, gf_109_20, gf_109_21, gf_109_22, gf_109_23, gf_109_24, gf_109_25, gf_109_26, gf_109_27, gf_109_28, gf_109_29, gf_109_30, kd_109, g4, g5, g6, e4, e5, e6]
    simp only [if_neg q4]
    try rfl
end KY
