section NX
variable (L : Nat) (xs : Nat → Int32) (c : Nat × Nat) (D : hz_D)
theorem jw_ix7 (d b : Nat) (hb : b < 256) : mx_run (d + 3) 127 0 [some (.ref 7), some (.int (nI b))] [] (hp (sx_rom L xs) c D) = some (some (.int (if b = 119 then 0 else if b = 104 then 1 else if b = 115 then 2 else -1)), hp (sx_rom L xs) c D) := by
  have g0 : mg_f (hp (sx_rom L xs) c D) 7 [13] 0 = some (.ref 13) := gw_0 L xs c D 7 (by omega)
  have gk := gw_k L xs c D 7 (by omega)
  have gl : mg_ln (hp (sx_rom L xs) c D) 13 = some (3 : Int32) := gw_l L xs c D 7 (by omega)
  have jl : mx_run (d + 1) 106 0 [some (.ref 7)] [] (hp (sx_rom L xs) c D) = some (some (.int 3), hp (sx_rom L xs) c D) := jw_len L xs c D d 7 (by omega)
  have ja := jw_lat L xs c D (d + 1) 7 (by omega)
  have b0 : mg_ld (hp (sx_rom L xs) c D) 13 .byte 0 = some (.int 119) := gw_ld L xs c D 7 0 (by omega) (by decide)
  have c0 : ((119 : Int32) = (nI b).toInt8.toInt32) = (b = 119) := propext (k8b 119 (by omega) b hb)
  have b1 : mg_ld (hp (sx_rom L xs) c D) 13 .byte 1 = some (.int 104) := gw_ld L xs c D 7 1 (by omega) (by decide)
  have c1 : ((104 : Int32) = (nI b).toInt8.toInt32) = (b = 104) := propext (k8b 104 (by omega) b hb)
  have b2 : mg_ld (hp (sx_rom L xs) c D) 13 .byte 2 = some (.int 115) := gw_ld L xs c D 7 2 (by omega) (by decide)
  have c2 : ((115 : Int32) = (nI b).toInt8.toInt32) = (b = 115) := propext (k8b 115 (by omega) b hb)
  have f1 : (nI b < 0) = False := eq_false (nI_nlt (b := 0) (by omega) (by omega))
  have f2 : (255 < nI b) = False := eq_false (nI_nlt (a := 255) (by omega) (by omega))
  by_cases q0 : b = 119
  · rw [if_pos q0]
    rw [eq_true q0] at c0
    simp (disch := first | assumption | omega | exact kd_sh _ _ _ (by assumption) | exact kd_sea _ _ _ (by assumption) | exact is_bts (by assumption) _ (by omega) | exact kd_bt _ _ _ (by first | assumption | exact is_bts (by assumption) _ (by omega)) | exact kd_109 _ _ _ | exact kd_17 _ _ _ | exact kd_20 _ _ _) only [iq_127_0, iq_127_1, iq_127_2, iq_127_3, iq_127_6, iq_128_0, iq_128_1, iq_128_4, iq_128_7, iq_128_8, iq_128_11, iq_128_12, iq_128_13, iq_128_14, iq_128_17, iq_128_20, iq_128_23, iq_128_24, iq_128_27, iq_128_28, iq_128_29, iq_128_30, iq_128_36, iq_129_0, iq_129_1, iq_129_4, iq_129_7, iq_129_8, iq_129_9, iq_129_10, iq_129_11, iq_129_14, iq_129_15, iq_129_16, iq_129_17, iq_129_18, iq_129_21, iq_129_22, iq_129_23, iq_129_24, iq_129_27, iq_129_28, iq_129_29, iq_129_30, iq_129_31, iq_129_32, iq_129_33, iq_129_36, iq_130_0, iq_130_1, iq_130_4, iq_130_5, iq_130_8, iq_130_11, iq_130_12, iq_130_15, iq_130_16, iq_130_16z, ib_130_16, iq_131_0, iq_131_1, iq_131_2, iq_131_4, iq_131_5, iq_131_7, iq_131_9, iq_131_10, iq_131_13, iq_131_14, iq_131_16, iq_131_17, iq_131_19, iq_131_22, iq_131_24, iq_131_25, iq_131_28, iq_131_31, iq_131_32, Option.bind_some, Option.toList, List.cons_append, List.nil_append, ↓reduceIte, nI_1, Int32.reduceLT, Int32.reduceLE, dv_1, dv_2, dv_3, dv_4, dv_6, dv_8, dv_10, dv_20, dv_100, dv_200, dv_500, ie_0_1, ie_0_2, ie_0_3, ie_0_4, ie_0_5, ie_0_6, ie_0_7, ie_0_8, ie_0_9, ie_0_10, ie_1_0, ie_1_2, ie_1_3, ie_1_4, ie_1_5, ie_1_6, ie_1_7, ie_1_8, ie_1_9, ie_1_10, ie_2_0, ie_2_1, ie_2_3, ie_2_4, ie_2_5, ie_2_6, ie_2_7, ie_2_8, ie_2_9, ie_2_10, ie_3_0, ie_3_1, ie_3_2, ie_3_4, ie_3_5, ie_3_6, ie_3_7, ie_3_8, ie_3_9, ie_3_10, ie_4_0, ie_4_1, ie_4_2, ie_4_3, ie_4_5, ie_4_6, ie_4_7, ie_4_8, ie_4_9, ie_4_10, ie_5_0, ie_5_1, ie_5_2, ie_5_3, ie_5_4, ie_5_6, ie_5_7, ie_5_8, ie_5_9, ie_5_10, ie_6_0, ie_6_1, ie_6_2, ie_6_3, ie_6_4, ie_6_5, ie_6_7, ie_6_8, ie_6_9, ie_6_10, ie_7_0, ie_7_1, ie_7_2, ie_7_3, ie_7_4, ie_7_5, ie_7_6, ie_7_8, ie_7_9, ie_7_10, ie_8_0, ie_8_1, ie_8_2, ie_8_3, ie_8_4, ie_8_5, ie_8_6, ie_8_7, ie_8_9, ie_8_10, ie_9_0, ie_9_1, ie_9_2, ie_9_3, ie_9_4, ie_9_5, ie_9_6, ie_9_7, ie_9_8, ie_9_10, ie_10_0, ie_10_1, ie_10_2, ie_10_3, ie_10_4, ie_10_5, ie_10_6, ie_10_7, ie_10_8, ie_10_9, g0, gl, jl, ja, f1, f2, Int32.reduceAdd, b0, c0, b1, c1, b2, c2]
  · rw [eq_false q0] at c0
    by_cases q1 : b = 104
    · rw [if_neg q0, if_pos q1]
      rw [eq_true q1] at c1
      simp (disch := first | assumption | omega | exact kd_sh _ _ _ (by assumption) | exact kd_sea _ _ _ (by assumption) | exact is_bts (by assumption) _ (by omega) | exact kd_bt _ _ _ (by first | assumption | exact is_bts (by assumption) _ (by omega)) | exact kd_109 _ _ _ | exact kd_17 _ _ _ | exact kd_20 _ _ _) only [iq_127_0, iq_127_1, iq_127_2, iq_127_3, iq_127_6, iq_128_0, iq_128_1, iq_128_4, iq_128_7, iq_128_8, iq_128_11, iq_128_12, iq_128_13, iq_128_14, iq_128_17, iq_128_20, iq_128_23, iq_128_24, iq_128_27, iq_128_28, iq_128_29, iq_128_30, iq_128_36, iq_129_0, iq_129_1, iq_129_4, iq_129_7, iq_129_8, iq_129_9, iq_129_10, iq_129_11, iq_129_14, iq_129_15, iq_129_16, iq_129_17, iq_129_18, iq_129_21, iq_129_22, iq_129_23, iq_129_24, iq_129_27, iq_129_28, iq_129_29, iq_129_30, iq_129_31, iq_129_32, iq_129_33, iq_129_36, iq_130_0, iq_130_1, iq_130_4, iq_130_5, iq_130_8, iq_130_11, iq_130_12, iq_130_15, iq_130_16, iq_130_16z, ib_130_16, iq_131_0, iq_131_1, iq_131_2, iq_131_4, iq_131_5, iq_131_7, iq_131_9, iq_131_10, iq_131_13, iq_131_14, iq_131_16, iq_131_17, iq_131_19, iq_131_22, iq_131_24, iq_131_25, iq_131_28, iq_131_31, iq_131_32, Option.bind_some, Option.toList, List.cons_append, List.nil_append, ↓reduceIte, nI_1, Int32.reduceLT, Int32.reduceLE, dv_1, dv_2, dv_3, dv_4, dv_6, dv_8, dv_10, dv_20, dv_100, dv_200, dv_500, ie_0_1, ie_0_2, ie_0_3, ie_0_4, ie_0_5, ie_0_6, ie_0_7, ie_0_8, ie_0_9, ie_0_10, ie_1_0, ie_1_2, ie_1_3, ie_1_4, ie_1_5, ie_1_6, ie_1_7, ie_1_8, ie_1_9, ie_1_10, ie_2_0, ie_2_1, ie_2_3, ie_2_4, ie_2_5, ie_2_6, ie_2_7, ie_2_8, ie_2_9, ie_2_10, ie_3_0, ie_3_1, ie_3_2, ie_3_4, ie_3_5, ie_3_6, ie_3_7, ie_3_8, ie_3_9, ie_3_10, ie_4_0, ie_4_1, ie_4_2, ie_4_3, ie_4_5, ie_4_6, ie_4_7, ie_4_8, ie_4_9, ie_4_10, ie_5_0, ie_5_1, ie_5_2, ie_5_3, ie_5_4, ie_5_6, ie_5_7, ie_5_8, ie_5_9, ie_5_10, ie_6_0, ie_6_1, ie_6_2, ie_6_3, ie_6_4, ie_6_5, ie_6_7, ie_6_8, ie_6_9, ie_6_10, ie_7_0, ie_7_1, ie_7_2, ie_7_3, ie_7_4, ie_7_5, ie_7_6, ie_7_8, ie_7_9, ie_7_10, ie_8_0, ie_8_1, ie_8_2, ie_8_3, ie_8_4, ie_8_5, ie_8_6, ie_8_7, ie_8_9, ie_8_10, ie_9_0, ie_9_1, ie_9_2, ie_9_3, ie_9_4, ie_9_5, ie_9_6, ie_9_7, ie_9_8, ie_9_10, ie_10_0, ie_10_1, ie_10_2, ie_10_3, ie_10_4, ie_10_5, ie_10_6, ie_10_7, ie_10_8, ie_10_9, g0, gl, jl, ja, f1, f2, Int32.reduceAdd, b0, c0, b1, c1, b2, c2]
    · rw [eq_false q1] at c1
      by_cases q2 : b = 115
      · rw [if_neg q0, if_neg q1, if_pos q2]
        rw [eq_true q2] at c2
        simp (disch := first | assumption | omega | exact kd_sh _ _ _ (by assumption) | exact kd_sea _ _ _ (by assumption) | exact is_bts (by assumption) _ (by omega) | exact kd_bt _ _ _ (by first | assumption | exact is_bts (by assumption) _ (by omega)) | exact kd_109 _ _ _ | exact kd_17 _ _ _ | exact kd_20 _ _ _) only [iq_127_0, iq_127_1, iq_127_2, iq_127_3, iq_127_6, iq_128_0, iq_128_1, iq_128_4, iq_128_7, iq_128_8, iq_128_11, iq_128_12, iq_128_13, iq_128_14, iq_128_17, iq_128_20, iq_128_23, iq_128_24, iq_128_27, iq_128_28, iq_128_29, iq_128_30, iq_128_36, iq_129_0, iq_129_1, iq_129_4, iq_129_7, iq_129_8, iq_129_9, iq_129_10, iq_129_11, iq_129_14, iq_129_15, iq_129_16, iq_129_17, iq_129_18, iq_129_21, iq_129_22, iq_129_23, iq_129_24, iq_129_27, iq_129_28, iq_129_29, iq_129_30, iq_129_31, iq_129_32, iq_129_33, iq_129_36, iq_130_0, iq_130_1, iq_130_4, iq_130_5, iq_130_8, iq_130_11, iq_130_12, iq_130_15, iq_130_16, iq_130_16z, ib_130_16, iq_131_0, iq_131_1, iq_131_2, iq_131_4, iq_131_5, iq_131_7, iq_131_9, iq_131_10, iq_131_13, iq_131_14, iq_131_16, iq_131_17, iq_131_19, iq_131_22, iq_131_24, iq_131_25, iq_131_28, iq_131_31, iq_131_32, Option.bind_some, Option.toList, List.cons_append, List.nil_append, ↓reduceIte, nI_1, Int32.reduceLT, Int32.reduceLE, dv_1, dv_2, dv_3, dv_4, dv_6, dv_8, dv_10, dv_20, dv_100, dv_200, dv_500, ie_0_1, ie_0_2, ie_0_3, ie_0_4, ie_0_5, ie_0_6, ie_0_7, ie_0_8, ie_0_9, ie_0_10, ie_1_0, ie_1_2, ie_1_3, ie_1_4, ie_1_5, ie_1_6, ie_1_7, ie_1_8, ie_1_9, ie_1_10, ie_2_0, ie_2_1, ie_2_3, ie_2_4, ie_2_5, ie_2_6, ie_2_7, ie_2_8, ie_2_9, ie_2_10, ie_3_0, ie_3_1, ie_3_2, ie_3_4, ie_3_5, ie_3_6, ie_3_7, ie_3_8, ie_3_9, ie_3_10, ie_4_0, ie_4_1, ie_4_2, ie_4_3, ie_4_5, ie_4_6, ie_4_7, ie_4_8, ie_4_9, ie_4_10, ie_5_0, ie_5_1, ie_5_2, ie_5_3, ie_5_4, ie_5_6, ie_5_7, ie_5_8, ie_5_9, ie_5_10, ie_6_0, ie_6_1, ie_6_2, ie_6_3, ie_6_4, ie_6_5, ie_6_7, ie_6_8, ie_6_9, ie_6_10, ie_7_0, ie_7_1, ie_7_2, ie_7_3, ie_7_4, ie_7_5, ie_7_6, ie_7_8, ie_7_9, ie_7_10, ie_8_0, ie_8_1, ie_8_2, ie_8_3, ie_8_4, ie_8_5, ie_8_6, ie_8_7, ie_8_9, ie_8_10, ie_9_0, ie_9_1, ie_9_2, ie_9_3, ie_9_4, ie_9_5, ie_9_6, ie_9_7, ie_9_8, ie_9_10, ie_10_0, ie_10_1, ie_10_2, ie_10_3, ie_10_4, ie_10_5, ie_10_6, ie_10_7, ie_10_8, ie_10_9, g0, gl, jl, ja, f1, f2, Int32.reduceAdd, b0, c0, b1, c1, b2, c2]
      · rw [if_neg q0, if_neg q1, if_neg q2]
        rw [eq_false q2] at c2
        simp (disch := first | assumption | omega | exact kd_sh _ _ _ (by assumption) | exact kd_sea _ _ _ (by assumption) | exact is_bts (by assumption) _ (by omega) | exact kd_bt _ _ _ (by first | assumption | exact is_bts (by assumption) _ (by omega)) | exact kd_109 _ _ _ | exact kd_17 _ _ _ | exact kd_20 _ _ _) only [iq_127_0, iq_127_1, iq_127_2, iq_127_3, iq_127_6, iq_128_0, iq_128_1, iq_128_4, iq_128_7, iq_128_8, iq_128_11, iq_128_12, iq_128_13, iq_128_14, iq_128_17, iq_128_20, iq_128_23, iq_128_24, iq_128_27, iq_128_28, iq_128_29, iq_128_30, iq_128_36, iq_129_0, iq_129_1, iq_129_4, iq_129_7, iq_129_8, iq_129_9, iq_129_10, iq_129_11, iq_129_14, iq_129_15, iq_129_16, iq_129_17, iq_129_18, iq_129_21, iq_129_22, iq_129_23, iq_129_24, iq_129_27, iq_129_28, iq_129_29, iq_129_30, iq_129_31, iq_129_32, iq_129_33, iq_129_36, iq_130_0, iq_130_1, iq_130_4, iq_130_5, iq_130_8, iq_130_11, iq_130_12, iq_130_15, iq_130_16, iq_130_16z, ib_130_16, iq_131_0, iq_131_1, iq_131_2, iq_131_4, iq_131_5, iq_131_7, iq_131_9, iq_131_10, iq_131_13, iq_131_14, iq_131_16, iq_131_17, iq_131_19, iq_131_22, iq_131_24, iq_131_25, iq_131_28, iq_131_31, iq_131_32, Option.bind_some, Option.toList, List.cons_append, List.nil_append, ↓reduceIte, nI_1, Int32.reduceLT, Int32.reduceLE, dv_1, dv_2, dv_3, dv_4, dv_6, dv_8, dv_10, dv_20, dv_100, dv_200, dv_500, ie_0_1, ie_0_2, ie_0_3, ie_0_4, ie_0_5, ie_0_6, ie_0_7, ie_0_8, ie_0_9, ie_0_10, ie_1_0, ie_1_2, ie_1_3, ie_1_4, ie_1_5, ie_1_6, ie_1_7, ie_1_8, ie_1_9, ie_1_10, ie_2_0, ie_2_1, ie_2_3, ie_2_4, ie_2_5, ie_2_6, ie_2_7, ie_2_8, ie_2_9, ie_2_10, ie_3_0, ie_3_1, ie_3_2, ie_3_4, ie_3_5, ie_3_6, ie_3_7, ie_3_8, ie_3_9, ie_3_10, ie_4_0, ie_4_1, ie_4_2, ie_4_3, ie_4_5, ie_4_6, ie_4_7, ie_4_8, ie_4_9, ie_4_10, ie_5_0, ie_5_1, ie_5_2, ie_5_3, ie_5_4, ie_5_6, ie_5_7, ie_5_8, ie_5_9, ie_5_10, ie_6_0, ie_6_1, ie_6_2, ie_6_3, ie_6_4, ie_6_5, ie_6_7, ie_6_8, ie_6_9, ie_6_10, ie_7_0, ie_7_1, ie_7_2, ie_7_3, ie_7_4, ie_7_5, ie_7_6, ie_7_8, ie_7_9, ie_7_10, ie_8_0, ie_8_1, ie_8_2, ie_8_3, ie_8_4, ie_8_5, ie_8_6, ie_8_7, ie_8_9, ie_8_10, ie_9_0, ie_9_1, ie_9_2, ie_9_3, ie_9_4, ie_9_5, ie_9_6, ie_9_7, ie_9_8, ie_9_10, ie_10_0, ie_10_1, ie_10_2, ie_10_3, ie_10_4, ie_10_5, ie_10_6, ie_10_7, ie_10_8, ie_10_9, g0, gl, jl, ja, f1, f2, Int32.reduceAdd, b0, c0, b1, c1, b2, c2]
theorem jw_ix8 (d b : Nat) (hb : b < 256) : mx_run (d + 3) 127 0 [some (.ref 8), some (.int (nI b))] [] (hp (sx_rom L xs) c D) = some (some (.int (if b = 119 then 0 else if b = 110 then 1 else -1)), hp (sx_rom L xs) c D) := by
  have g0 : mg_f (hp (sx_rom L xs) c D) 8 [13] 0 = some (.ref 14) := gw_0 L xs c D 8 (by omega)
  have gk := gw_k L xs c D 8 (by omega)
  have gl : mg_ln (hp (sx_rom L xs) c D) 14 = some (2 : Int32) := gw_l L xs c D 8 (by omega)
  have jl : mx_run (d + 1) 106 0 [some (.ref 8)] [] (hp (sx_rom L xs) c D) = some (some (.int 2), hp (sx_rom L xs) c D) := jw_len L xs c D d 8 (by omega)
  have ja := jw_lat L xs c D (d + 1) 8 (by omega)
  have b0 : mg_ld (hp (sx_rom L xs) c D) 14 .byte 0 = some (.int 119) := gw_ld L xs c D 8 0 (by omega) (by decide)
  have c0 : ((119 : Int32) = (nI b).toInt8.toInt32) = (b = 119) := propext (k8b 119 (by omega) b hb)
  have b1 : mg_ld (hp (sx_rom L xs) c D) 14 .byte 1 = some (.int 110) := gw_ld L xs c D 8 1 (by omega) (by decide)
  have c1 : ((110 : Int32) = (nI b).toInt8.toInt32) = (b = 110) := propext (k8b 110 (by omega) b hb)
  have f1 : (nI b < 0) = False := eq_false (nI_nlt (b := 0) (by omega) (by omega))
  have f2 : (255 < nI b) = False := eq_false (nI_nlt (a := 255) (by omega) (by omega))
  by_cases q0 : b = 119
  · rw [if_pos q0]
    rw [eq_true q0] at c0
    simp (disch := first | assumption | omega | exact kd_sh _ _ _ (by assumption) | exact kd_sea _ _ _ (by assumption) | exact is_bts (by assumption) _ (by omega) | exact kd_bt _ _ _ (by first | assumption | exact is_bts (by assumption) _ (by omega)) | exact kd_109 _ _ _ | exact kd_17 _ _ _ | exact kd_20 _ _ _) only [iq_127_0, iq_127_1, iq_127_2, iq_127_3, iq_127_6, iq_128_0, iq_128_1, iq_128_4, iq_128_7, iq_128_8, iq_128_11, iq_128_12, iq_128_13, iq_128_14, iq_128_17, iq_128_20, iq_128_23, iq_128_24, iq_128_27, iq_128_28, iq_128_29, iq_128_30, iq_128_36, iq_129_0, iq_129_1, iq_129_4, iq_129_7, iq_129_8, iq_129_9, iq_129_10, iq_129_11, iq_129_14, iq_129_15, iq_129_16, iq_129_17, iq_129_18, iq_129_21, iq_129_22, iq_129_23, iq_129_24, iq_129_27, iq_129_28, iq_129_29, iq_129_30, iq_129_31, iq_129_32, iq_129_33, iq_129_36, iq_130_0, iq_130_1, iq_130_4, iq_130_5, iq_130_8, iq_130_11, iq_130_12, iq_130_15, iq_130_16, iq_130_16z, ib_130_16, iq_131_0, iq_131_1, iq_131_2, iq_131_4, iq_131_5, iq_131_7, iq_131_9, iq_131_10, iq_131_13, iq_131_14, iq_131_16, iq_131_17, iq_131_19, iq_131_22, iq_131_24, iq_131_25, iq_131_28, iq_131_31, iq_131_32, Option.bind_some, Option.toList, List.cons_append, List.nil_append, ↓reduceIte, nI_1, Int32.reduceLT, Int32.reduceLE, dv_1, dv_2, dv_3, dv_4, dv_6, dv_8, dv_10, dv_20, dv_100, dv_200, dv_500, ie_0_1, ie_0_2, ie_0_3, ie_0_4, ie_0_5, ie_0_6, ie_0_7, ie_0_8, ie_0_9, ie_0_10, ie_1_0, ie_1_2, ie_1_3, ie_1_4, ie_1_5, ie_1_6, ie_1_7, ie_1_8, ie_1_9, ie_1_10, ie_2_0, ie_2_1, ie_2_3, ie_2_4, ie_2_5, ie_2_6, ie_2_7, ie_2_8, ie_2_9, ie_2_10, ie_3_0, ie_3_1, ie_3_2, ie_3_4, ie_3_5, ie_3_6, ie_3_7, ie_3_8, ie_3_9, ie_3_10, ie_4_0, ie_4_1, ie_4_2, ie_4_3, ie_4_5, ie_4_6, ie_4_7, ie_4_8, ie_4_9, ie_4_10, ie_5_0, ie_5_1, ie_5_2, ie_5_3, ie_5_4, ie_5_6, ie_5_7, ie_5_8, ie_5_9, ie_5_10, ie_6_0, ie_6_1, ie_6_2, ie_6_3, ie_6_4, ie_6_5, ie_6_7, ie_6_8, ie_6_9, ie_6_10, ie_7_0, ie_7_1, ie_7_2, ie_7_3, ie_7_4, ie_7_5, ie_7_6, ie_7_8, ie_7_9, ie_7_10, ie_8_0, ie_8_1, ie_8_2, ie_8_3, ie_8_4, ie_8_5, ie_8_6, ie_8_7, ie_8_9, ie_8_10, ie_9_0, ie_9_1, ie_9_2, ie_9_3, ie_9_4, ie_9_5, ie_9_6, ie_9_7, ie_9_8, ie_9_10, ie_10_0, ie_10_1, ie_10_2, ie_10_3, ie_10_4, ie_10_5, ie_10_6, ie_10_7, ie_10_8, ie_10_9, g0, gl, jl, ja, f1, f2, Int32.reduceAdd, b0, c0, b1, c1]
  · rw [eq_false q0] at c0
    by_cases q1 : b = 110
    · rw [if_neg q0, if_pos q1]
      rw [eq_true q1] at c1
      simp (disch := first | assumption | omega | exact kd_sh _ _ _ (by assumption) | exact kd_sea _ _ _ (by assumption) | exact is_bts (by assumption) _ (by omega) | exact kd_bt _ _ _ (by first | assumption | exact is_bts (by assumption) _ (by omega)) | exact kd_109 _ _ _ | exact kd_17 _ _ _ | exact kd_20 _ _ _) only [iq_127_0, iq_127_1, iq_127_2, iq_127_3, iq_127_6, iq_128_0, iq_128_1, iq_128_4, iq_128_7, iq_128_8, iq_128_11, iq_128_12, iq_128_13, iq_128_14, iq_128_17, iq_128_20, iq_128_23, iq_128_24, iq_128_27, iq_128_28, iq_128_29, iq_128_30, iq_128_36, iq_129_0, iq_129_1, iq_129_4, iq_129_7, iq_129_8, iq_129_9, iq_129_10, iq_129_11, iq_129_14, iq_129_15, iq_129_16, iq_129_17, iq_129_18, iq_129_21, iq_129_22, iq_129_23, iq_129_24, iq_129_27, iq_129_28, iq_129_29, iq_129_30, iq_129_31, iq_129_32, iq_129_33, iq_129_36, iq_130_0, iq_130_1, iq_130_4, iq_130_5, iq_130_8, iq_130_11, iq_130_12, iq_130_15, iq_130_16, iq_130_16z, ib_130_16, iq_131_0, iq_131_1, iq_131_2, iq_131_4, iq_131_5, iq_131_7, iq_131_9, iq_131_10, iq_131_13, iq_131_14, iq_131_16, iq_131_17, iq_131_19, iq_131_22, iq_131_24, iq_131_25, iq_131_28, iq_131_31, iq_131_32, Option.bind_some, Option.toList, List.cons_append, List.nil_append, ↓reduceIte, nI_1, Int32.reduceLT, Int32.reduceLE, dv_1, dv_2, dv_3, dv_4, dv_6, dv_8, dv_10, dv_20, dv_100, dv_200, dv_500, ie_0_1, ie_0_2, ie_0_3, ie_0_4, ie_0_5, ie_0_6, ie_0_7, ie_0_8, ie_0_9, ie_0_10, ie_1_0, ie_1_2, ie_1_3, ie_1_4, ie_1_5, ie_1_6, ie_1_7, ie_1_8, ie_1_9, ie_1_10, ie_2_0, ie_2_1, ie_2_3, ie_2_4, ie_2_5, ie_2_6, ie_2_7, ie_2_8, ie_2_9, ie_2_10, ie_3_0, ie_3_1, ie_3_2, ie_3_4, ie_3_5, ie_3_6, ie_3_7, ie_3_8, ie_3_9, ie_3_10, ie_4_0, ie_4_1, ie_4_2, ie_4_3, ie_4_5, ie_4_6, ie_4_7, ie_4_8, ie_4_9, ie_4_10, ie_5_0, ie_5_1, ie_5_2, ie_5_3, ie_5_4, ie_5_6, ie_5_7, ie_5_8, ie_5_9, ie_5_10, ie_6_0, ie_6_1, ie_6_2, ie_6_3, ie_6_4, ie_6_5, ie_6_7, ie_6_8, ie_6_9, ie_6_10, ie_7_0, ie_7_1, ie_7_2, ie_7_3, ie_7_4, ie_7_5, ie_7_6, ie_7_8, ie_7_9, ie_7_10, ie_8_0, ie_8_1, ie_8_2, ie_8_3, ie_8_4, ie_8_5, ie_8_6, ie_8_7, ie_8_9, ie_8_10, ie_9_0, ie_9_1, ie_9_2, ie_9_3, ie_9_4, ie_9_5, ie_9_6, ie_9_7, ie_9_8, ie_9_10, ie_10_0, ie_10_1, ie_10_2, ie_10_3, ie_10_4, ie_10_5, ie_10_6, ie_10_7, ie_10_8, ie_10_9, g0, gl, jl, ja, f1, f2, Int32.reduceAdd, b0, c0, b1, c1]
    · rw [if_neg q0, if_neg q1]
      rw [eq_false q1] at c1
      simp (disch := first | assumption | omega | exact kd_sh _ _ _ (by assumption) | exact kd_sea _ _ _ (by assumption) | exact is_bts (by assumption) _ (by omega) | exact kd_bt _ _ _ (by first | assumption | exact is_bts (by assumption) _ (by omega)) | exact kd_109 _ _ _ | exact kd_17 _ _ _ | exact kd_20 _ _ _) only [iq_127_0, iq_127_1, iq_127_2, iq_127_3, iq_127_6, iq_128_0, iq_128_1, iq_128_4, iq_128_7, iq_128_8, iq_128_11, iq_128_12, iq_128_13, iq_128_14, iq_128_17, iq_128_20, iq_128_23, iq_128_24, iq_128_27, iq_128_28, iq_128_29, iq_128_30, iq_128_36, iq_129_0, iq_129_1, iq_129_4, iq_129_7, iq_129_8, iq_129_9, iq_129_10, iq_129_11, iq_129_14, iq_129_15, iq_129_16, iq_129_17, iq_129_18, iq_129_21, iq_129_22, iq_129_23, iq_129_24, iq_129_27, iq_129_28, iq_129_29, iq_129_30, iq_129_31, iq_129_32, iq_129_33, iq_129_36, iq_130_0, iq_130_1, iq_130_4, iq_130_5, iq_130_8, iq_130_11, iq_130_12, iq_130_15, iq_130_16, iq_130_16z, ib_130_16, iq_131_0, iq_131_1, iq_131_2, iq_131_4, iq_131_5, iq_131_7, iq_131_9, iq_131_10, iq_131_13, iq_131_14, iq_131_16, iq_131_17, iq_131_19, iq_131_22, iq_131_24, iq_131_25, iq_131_28, iq_131_31, iq_131_32, Option.bind_some, Option.toList, List.cons_append, List.nil_append, ↓reduceIte, nI_1, Int32.reduceLT, Int32.reduceLE, dv_1, dv_2, dv_3, dv_4, dv_6, dv_8, dv_10, dv_20, dv_100, dv_200, dv_500, ie_0_1, ie_0_2, ie_0_3, ie_0_4, ie_0_5, ie_0_6, ie_0_7, ie_0_8, ie_0_9, ie_0_10, ie_1_0, ie_1_2, ie_1_3, ie_1_4, ie_1_5, ie_1_6, ie_1_7, ie_1_8, ie_1_9, ie_1_10, ie_2_0, ie_2_1, ie_2_3, ie_2_4, ie_2_5, ie_2_6, ie_2_7, ie_2_8, ie_2_9, ie_2_10, ie_3_0, ie_3_1, ie_3_2, ie_3_4, ie_3_5, ie_3_6, ie_3_7, ie_3_8, ie_3_9, ie_3_10, ie_4_0, ie_4_1, ie_4_2, ie_4_3, ie_4_5, ie_4_6, ie_4_7, ie_4_8, ie_4_9, ie_4_10, ie_5_0, ie_5_1, ie_5_2, ie_5_3, ie_5_4, ie_5_6, ie_5_7, ie_5_8, ie_5_9, ie_5_10, ie_6_0, ie_6_1, ie_6_2, ie_6_3, ie_6_4, ie_6_5, ie_6_7, ie_6_8, ie_6_9, ie_6_10, ie_7_0, ie_7_1, ie_7_2, ie_7_3, ie_7_4, ie_7_5, ie_7_6, ie_7_8, ie_7_9, ie_7_10, ie_8_0, ie_8_1, ie_8_2, ie_8_3, ie_8_4, ie_8_5, ie_8_6, ie_8_7, ie_8_9, ie_8_10, ie_9_0, ie_9_1, ie_9_2, ie_9_3, ie_9_4, ie_9_5, ie_9_6, ie_9_7, ie_9_8, ie_9_10, ie_10_0, ie_10_1, ie_10_2, ie_10_3, ie_10_4, ie_10_5, ie_10_6, ie_10_7, ie_10_8, ie_10_9, g0, gl, jl, ja, f1, f2, Int32.reduceAdd, b0, c0, b1, c1]
theorem jw_ix9 (d b : Nat) (hb : b < 256) : mx_run (d + 3) 127 0 [some (.ref 9), some (.int (nI b))] [] (hp (sx_rom L xs) c D) = some (some (.int (if b = 99 then 0 else if b = 112 then 1 else -1)), hp (sx_rom L xs) c D) := by
  have g0 : mg_f (hp (sx_rom L xs) c D) 9 [13] 0 = some (.ref 15) := gw_0 L xs c D 9 (by omega)
  have gk := gw_k L xs c D 9 (by omega)
  have gl : mg_ln (hp (sx_rom L xs) c D) 15 = some (2 : Int32) := gw_l L xs c D 9 (by omega)
  have jl : mx_run (d + 1) 106 0 [some (.ref 9)] [] (hp (sx_rom L xs) c D) = some (some (.int 2), hp (sx_rom L xs) c D) := jw_len L xs c D d 9 (by omega)
  have ja := jw_lat L xs c D (d + 1) 9 (by omega)
  have b0 : mg_ld (hp (sx_rom L xs) c D) 15 .byte 0 = some (.int 99) := gw_ld L xs c D 9 0 (by omega) (by decide)
  have c0 : ((99 : Int32) = (nI b).toInt8.toInt32) = (b = 99) := propext (k8b 99 (by omega) b hb)
  have b1 : mg_ld (hp (sx_rom L xs) c D) 15 .byte 1 = some (.int 112) := gw_ld L xs c D 9 1 (by omega) (by decide)
  have c1 : ((112 : Int32) = (nI b).toInt8.toInt32) = (b = 112) := propext (k8b 112 (by omega) b hb)
  have f1 : (nI b < 0) = False := eq_false (nI_nlt (b := 0) (by omega) (by omega))
  have f2 : (255 < nI b) = False := eq_false (nI_nlt (a := 255) (by omega) (by omega))
  by_cases q0 : b = 99
  · rw [if_pos q0]
    rw [eq_true q0] at c0
    simp (disch := first | assumption | omega | exact kd_sh _ _ _ (by assumption) | exact kd_sea _ _ _ (by assumption) | exact is_bts (by assumption) _ (by omega) | exact kd_bt _ _ _ (by first | assumption | exact is_bts (by assumption) _ (by omega)) | exact kd_109 _ _ _ | exact kd_17 _ _ _ | exact kd_20 _ _ _) only [iq_127_0, iq_127_1, iq_127_2, iq_127_3, iq_127_6, iq_128_0, iq_128_1, iq_128_4, iq_128_7, iq_128_8, iq_128_11, iq_128_12, iq_128_13, iq_128_14, iq_128_17, iq_128_20, iq_128_23, iq_128_24, iq_128_27, iq_128_28, iq_128_29, iq_128_30, iq_128_36, iq_129_0, iq_129_1, iq_129_4, iq_129_7, iq_129_8, iq_129_9, iq_129_10, iq_129_11, iq_129_14, iq_129_15, iq_129_16, iq_129_17, iq_129_18, iq_129_21, iq_129_22, iq_129_23, iq_129_24, iq_129_27, iq_129_28, iq_129_29, iq_129_30, iq_129_31, iq_129_32, iq_129_33, iq_129_36, iq_130_0, iq_130_1, iq_130_4, iq_130_5, iq_130_8, iq_130_11, iq_130_12, iq_130_15, iq_130_16, iq_130_16z, ib_130_16, iq_131_0, iq_131_1, iq_131_2, iq_131_4, iq_131_5, iq_131_7, iq_131_9, iq_131_10, iq_131_13, iq_131_14, iq_131_16, iq_131_17, iq_131_19, iq_131_22, iq_131_24, iq_131_25, iq_131_28, iq_131_31, iq_131_32, Option.bind_some, Option.toList, List.cons_append, List.nil_append, ↓reduceIte, nI_1, Int32.reduceLT, Int32.reduceLE, dv_1, dv_2, dv_3, dv_4, dv_6, dv_8, dv_10, dv_20, dv_100, dv_200, dv_500, ie_0_1, ie_0_2, ie_0_3, ie_0_4, ie_0_5, ie_0_6, ie_0_7, ie_0_8, ie_0_9, ie_0_10, ie_1_0, ie_1_2, ie_1_3, ie_1_4, ie_1_5, ie_1_6, ie_1_7, ie_1_8, ie_1_9, ie_1_10, ie_2_0, ie_2_1, ie_2_3, ie_2_4, ie_2_5, ie_2_6, ie_2_7, ie_2_8, ie_2_9, ie_2_10, ie_3_0, ie_3_1, ie_3_2, ie_3_4, ie_3_5, ie_3_6, ie_3_7, ie_3_8, ie_3_9, ie_3_10, ie_4_0, ie_4_1, ie_4_2, ie_4_3, ie_4_5, ie_4_6, ie_4_7, ie_4_8, ie_4_9, ie_4_10, ie_5_0, ie_5_1, ie_5_2, ie_5_3, ie_5_4, ie_5_6, ie_5_7, ie_5_8, ie_5_9, ie_5_10, ie_6_0, ie_6_1, ie_6_2, ie_6_3, ie_6_4, ie_6_5, ie_6_7, ie_6_8, ie_6_9, ie_6_10, ie_7_0, ie_7_1, ie_7_2, ie_7_3, ie_7_4, ie_7_5, ie_7_6, ie_7_8, ie_7_9, ie_7_10, ie_8_0, ie_8_1, ie_8_2, ie_8_3, ie_8_4, ie_8_5, ie_8_6, ie_8_7, ie_8_9, ie_8_10, ie_9_0, ie_9_1, ie_9_2, ie_9_3, ie_9_4, ie_9_5, ie_9_6, ie_9_7, ie_9_8, ie_9_10, ie_10_0, ie_10_1, ie_10_2, ie_10_3, ie_10_4, ie_10_5, ie_10_6, ie_10_7, ie_10_8, ie_10_9, g0, gl, jl, ja, f1, f2, Int32.reduceAdd, b0, c0, b1, c1]
  · rw [eq_false q0] at c0
    by_cases q1 : b = 112
    · rw [if_neg q0, if_pos q1]
      rw [eq_true q1] at c1
      simp (disch := first | assumption | omega | exact kd_sh _ _ _ (by assumption) | exact kd_sea _ _ _ (by assumption) | exact is_bts (by assumption) _ (by omega) | exact kd_bt _ _ _ (by first | assumption | exact is_bts (by assumption) _ (by omega)) | exact kd_109 _ _ _ | exact kd_17 _ _ _ | exact kd_20 _ _ _) only [iq_127_0, iq_127_1, iq_127_2, iq_127_3, iq_127_6, iq_128_0, iq_128_1, iq_128_4, iq_128_7, iq_128_8, iq_128_11, iq_128_12, iq_128_13, iq_128_14, iq_128_17, iq_128_20, iq_128_23, iq_128_24, iq_128_27, iq_128_28, iq_128_29, iq_128_30, iq_128_36, iq_129_0, iq_129_1, iq_129_4, iq_129_7, iq_129_8, iq_129_9, iq_129_10, iq_129_11, iq_129_14, iq_129_15, iq_129_16, iq_129_17, iq_129_18, iq_129_21, iq_129_22, iq_129_23, iq_129_24, iq_129_27, iq_129_28, iq_129_29, iq_129_30, iq_129_31, iq_129_32, iq_129_33, iq_129_36, iq_130_0, iq_130_1, iq_130_4, iq_130_5, iq_130_8, iq_130_11, iq_130_12, iq_130_15, iq_130_16, iq_130_16z, ib_130_16, iq_131_0, iq_131_1, iq_131_2, iq_131_4, iq_131_5, iq_131_7, iq_131_9, iq_131_10, iq_131_13, iq_131_14, iq_131_16, iq_131_17, iq_131_19, iq_131_22, iq_131_24, iq_131_25, iq_131_28, iq_131_31, iq_131_32, Option.bind_some, Option.toList, List.cons_append, List.nil_append, ↓reduceIte, nI_1, Int32.reduceLT, Int32.reduceLE, dv_1, dv_2, dv_3, dv_4, dv_6, dv_8, dv_10, dv_20, dv_100, dv_200, dv_500, ie_0_1, ie_0_2, ie_0_3, ie_0_4, ie_0_5, ie_0_6, ie_0_7, ie_0_8, ie_0_9, ie_0_10, ie_1_0, ie_1_2, ie_1_3, ie_1_4, ie_1_5, ie_1_6, ie_1_7, ie_1_8, ie_1_9, ie_1_10, ie_2_0, ie_2_1, ie_2_3, ie_2_4, ie_2_5, ie_2_6, ie_2_7, ie_2_8, ie_2_9, ie_2_10, ie_3_0, ie_3_1, ie_3_2, ie_3_4, ie_3_5, ie_3_6, ie_3_7, ie_3_8, ie_3_9, ie_3_10, ie_4_0, ie_4_1, ie_4_2, ie_4_3, ie_4_5, ie_4_6, ie_4_7, ie_4_8, ie_4_9, ie_4_10, ie_5_0, ie_5_1, ie_5_2, ie_5_3, ie_5_4, ie_5_6, ie_5_7, ie_5_8, ie_5_9, ie_5_10, ie_6_0, ie_6_1, ie_6_2, ie_6_3, ie_6_4, ie_6_5, ie_6_7, ie_6_8, ie_6_9, ie_6_10, ie_7_0, ie_7_1, ie_7_2, ie_7_3, ie_7_4, ie_7_5, ie_7_6, ie_7_8, ie_7_9, ie_7_10, ie_8_0, ie_8_1, ie_8_2, ie_8_3, ie_8_4, ie_8_5, ie_8_6, ie_8_7, ie_8_9, ie_8_10, ie_9_0, ie_9_1, ie_9_2, ie_9_3, ie_9_4, ie_9_5, ie_9_6, ie_9_7, ie_9_8, ie_9_10, ie_10_0, ie_10_1, ie_10_2, ie_10_3, ie_10_4, ie_10_5, ie_10_6, ie_10_7, ie_10_8, ie_10_9, g0, gl, jl, ja, f1, f2, Int32.reduceAdd, b0, c0, b1, c1]
    · rw [if_neg q0, if_neg q1]
      rw [eq_false q1] at c1
      simp (disch := first | assumption | omega | exact kd_sh _ _ _ (by assumption) | exact kd_sea _ _ _ (by assumption) | exact is_bts (by assumption) _ (by omega) | exact kd_bt _ _ _ (by first | assumption | exact is_bts (by assumption) _ (by omega)) | exact kd_109 _ _ _ | exact kd_17 _ _ _ | exact kd_20 _ _ _) only [iq_127_0, iq_127_1, iq_127_2, iq_127_3, iq_127_6, iq_128_0, iq_128_1, iq_128_4, iq_128_7, iq_128_8, iq_128_11, iq_128_12, iq_128_13, iq_128_14, iq_128_17, iq_128_20, iq_128_23, iq_128_24, iq_128_27, iq_128_28, iq_128_29, iq_128_30, iq_128_36, iq_129_0, iq_129_1, iq_129_4, iq_129_7, iq_129_8, iq_129_9, iq_129_10, iq_129_11, iq_129_14, iq_129_15, iq_129_16, iq_129_17, iq_129_18, iq_129_21, iq_129_22, iq_129_23, iq_129_24, iq_129_27, iq_129_28, iq_129_29, iq_129_30, iq_129_31, iq_129_32, iq_129_33, iq_129_36, iq_130_0, iq_130_1, iq_130_4, iq_130_5, iq_130_8, iq_130_11, iq_130_12, iq_130_15, iq_130_16, iq_130_16z, ib_130_16, iq_131_0, iq_131_1, iq_131_2, iq_131_4, iq_131_5, iq_131_7, iq_131_9, iq_131_10, iq_131_13, iq_131_14, iq_131_16, iq_131_17, iq_131_19, iq_131_22, iq_131_24, iq_131_25, iq_131_28, iq_131_31, iq_131_32, Option.bind_some, Option.toList, List.cons_append, List.nil_append, ↓reduceIte, nI_1, Int32.reduceLT, Int32.reduceLE, dv_1, dv_2, dv_3, dv_4, dv_6, dv_8, dv_10, dv_20, dv_100, dv_200, dv_500, ie_0_1, ie_0_2, ie_0_3, ie_0_4, ie_0_5, ie_0_6, ie_0_7, ie_0_8, ie_0_9, ie_0_10, ie_1_0, ie_1_2, ie_1_3, ie_1_4, ie_1_5, ie_1_6, ie_1_7, ie_1_8, ie_1_9, ie_1_10, ie_2_0, ie_2_1, ie_2_3, ie_2_4, ie_2_5, ie_2_6, ie_2_7, ie_2_8, ie_2_9, ie_2_10, ie_3_0, ie_3_1, ie_3_2, ie_3_4, ie_3_5, ie_3_6, ie_3_7, ie_3_8, ie_3_9, ie_3_10, ie_4_0, ie_4_1, ie_4_2, ie_4_3, ie_4_5, ie_4_6, ie_4_7, ie_4_8, ie_4_9, ie_4_10, ie_5_0, ie_5_1, ie_5_2, ie_5_3, ie_5_4, ie_5_6, ie_5_7, ie_5_8, ie_5_9, ie_5_10, ie_6_0, ie_6_1, ie_6_2, ie_6_3, ie_6_4, ie_6_5, ie_6_7, ie_6_8, ie_6_9, ie_6_10, ie_7_0, ie_7_1, ie_7_2, ie_7_3, ie_7_4, ie_7_5, ie_7_6, ie_7_8, ie_7_9, ie_7_10, ie_8_0, ie_8_1, ie_8_2, ie_8_3, ie_8_4, ie_8_5, ie_8_6, ie_8_7, ie_8_9, ie_8_10, ie_9_0, ie_9_1, ie_9_2, ie_9_3, ie_9_4, ie_9_5, ie_9_6, ie_9_7, ie_9_8, ie_9_10, ie_10_0, ie_10_1, ie_10_2, ie_10_3, ie_10_4, ie_10_5, ie_10_6, ie_10_7, ie_10_8, ie_10_9, g0, gl, jl, ja, f1, f2, Int32.reduceAdd, b0, c0, b1, c1]
end NX
/-- nameIndex of the class -/
theorem ct_name (L : Nat) (xs : Nat → Int32) (c : Nat × Nat) (D : hz_D) (d : Nat) (B : Nat → Nat) (len s e key : Nat) (ht : tp_c D B len) (h3 : D 20 3 = nI s) (h4 : D 20 4 = nI e) (h6 : D 20 6 = nI key) (hse : s < e) (he : e ≤ len) (hk : key ≤ 2) (l1 : Option Value) : mx_run (d + 4) 126 0 [some (.ref 20), l1] [] (hp (sx_rom L xs) c D) = some (some (.int (if e - s = 1 then (if tk_nm key (B s) = 3 then -1 else nI (tk_nm key (B s))) else -1)), hp (sx_rom L xs) c D) := by
  have hl := ht.1
  have hb := (ht.2.2 s (by omega)).1
  have ba := ct_byteAt (sx_rom L xs) c D (d + 3) s B len ht (by omega)
  have es : nI e - nI s = nI (e - s) := nI_sub (by omega)
  have e1 : (nI (e - s) = 1) = (e - s = 1) := propext (nI_eq (b := 1) (by omega) (by omega))
  have j7 := jw_ix7 L xs c D d (B s) hb
  have j8 := jw_ix8 L xs c D d (B s) hb
  have j9 := jw_ix9 L xs c D d (B s) hb
  have i7 := gw_k L xs c D 7 (by omega)
  have i8 := gw_k L xs c D 8 (by omega)
  have i9 := gw_k L xs c D 9 (by omega)
  have ec := k8c (B s) hb
  have k0 : (nI key = 0) = (key = 0) := propext (nI_eq (b := 0) (by omega) (by omega))
  have k1 : (nI key = 1) = (key = 1) := propext (nI_eq (b := 1) (by omega) (by omega))
  unfold tk_nm
  simp (disch := first | assumption | omega | exact kd_sh _ _ _ (by assumption) | exact kd_sea _ _ _ (by assumption) | exact is_bts (by assumption) _ (by omega) | exact kd_bt _ _ _ (by first | assumption | exact is_bts (by assumption) _ (by omega)) | exact kd_109 _ _ _ | exact kd_17 _ _ _ | exact kd_20 _ _ _) only [iq_126_0, iq_126_1, iq_126_4, iq_126_7, iq_126_9, iq_126_12, iq_126_13, iq_126_16, iq_126_17, iq_126_20, iq_126_22, iq_126_25, iq_126_27, iq_126_27n, iq_126_28, iq_126_29, iq_126_32, iq_126_33, iq_126_36, iq_126_37, iq_126_38, iq_126_41, iq_126_41n, iq_126_42, iq_126_43, iq_126_44, iq_126_47, iq_126_50, iq_126_51, iq_126_54, iq_126_57, iq_126_58, Option.bind_some, Option.toList, List.cons_append, List.nil_append, ↓reduceIte, nI_1, Int32.reduceLT, Int32.reduceLE, dv_1, dv_2, dv_3, dv_4, dv_6, dv_8, dv_10, dv_20, dv_100, dv_200, dv_500, gf_20_0, gf_20_1, gf_20_2, gf_20_3, gf_20_4, gf_20_5, gf_20_6, gf_20_7, gf_20_8, gf_20_9, kd_20, pf_20_1, pf_20_2, pf_20_3, pf_20_4, pf_20_5, pf_20_6, pf_20_7, pf_20_9, h3, h4, h6, es, e1, ba, ec, j7, j8, j9, k0, k1]
  by_cases z : e - s = 1
  · by_cases a0 : key = 0
    · by_cases q0 : B s = 119
      · simp only [if_pos z, if_pos a0, if_pos q0]
        all_goals rfl
      · by_cases q1 : B s = 104
        · simp only [if_pos z, if_pos a0, if_neg q0, if_pos q1]
          all_goals rfl
        · by_cases q2 : B s = 115
          · simp only [if_pos z, if_pos a0, if_neg q0, if_neg q1, if_pos q2]
            all_goals rfl
          · simp only [if_pos z, if_pos a0, if_neg q0, if_neg q1, if_neg q2]
            all_goals rfl
    · by_cases a1 : key = 1
      · by_cases q0 : B s = 119
        · simp only [if_pos z, if_neg a0, if_pos a1, if_pos q0]
          all_goals rfl
        · by_cases q1 : B s = 110
          · simp only [if_pos z, if_neg a0, if_pos a1, if_neg q0, if_pos q1]
            all_goals rfl
          · simp only [if_pos z, if_neg a0, if_pos a1, if_neg q0, if_neg q1]
            all_goals rfl
      · by_cases q0 : B s = 99
        · simp only [if_pos z, if_neg a0, if_neg a1, if_pos q0]
          all_goals rfl
        · by_cases q1 : B s = 112
          · simp only [if_pos z, if_neg a0, if_neg a1, if_neg q0, if_pos q1]
            all_goals rfl
          · simp only [if_pos z, if_neg a0, if_neg a1, if_neg q0, if_neg q1]
            all_goals rfl
  · simp only [if_neg z]
    by_cases a0 : key = 0
    · simp only [if_pos a0]
    · by_cases a1 : key = 1
      · simp only [if_neg a0, if_pos a1]
      · simp only [if_neg a0, if_neg a1]
theorem tk_nm_let (key b : Nat) (hk : key ≤ 2) (hb : b < 256) (h : tk_nm key b ≠ 3) : sp_let (nI key) (nI b) ∧ -1 - nI (tk_nm key b) = sp_li (nI key) (nI b) ∧ tk_nm key b ≤ 2 := by
  have hk3 : key = 0 ∨ key = 1 ∨ key = 2 := by omega
  unfold tk_nm at h ⊢
  rcases hk3 with e | e | e
  · subst e
    rw [if_pos rfl] at h ⊢
    by_cases q1 : b = 119
    · subst q1
      exact ⟨Or.inl rfl, rfl, by decide⟩
    · rw [if_neg q1] at h ⊢
      by_cases q2 : b = 104
      · subst q2
        exact ⟨Or.inr (Or.inl rfl), rfl, by decide⟩
      · rw [if_neg q2] at h ⊢
        by_cases q3 : b = 115
        · subst q3
          exact ⟨Or.inr (Or.inr rfl), rfl, by decide⟩
        · rw [if_neg q3] at h
          exact absurd rfl h
  · subst e
    rw [if_neg (by decide), if_pos rfl] at h ⊢
    by_cases q1 : b = 119
    · subst q1
      exact ⟨Or.inl rfl, rfl, by decide⟩
    · rw [if_neg q1] at h ⊢
      by_cases q2 : b = 110
      · subst q2
        exact ⟨Or.inr rfl, rfl, by decide⟩
      · rw [if_neg q2] at h
        exact absurd rfl h
  · subst e
    rw [if_neg (by decide), if_neg (by decide)] at h ⊢
    by_cases q1 : b = 99
    · subst q1
      exact ⟨Or.inl rfl, rfl, by decide⟩
    · rw [if_neg q1] at h ⊢
      by_cases q2 : b = 112
      · subst q2
        exact ⟨Or.inr rfl, rfl, by decide⟩
      · rw [if_neg q2] at h
        exact absurd rfl h
