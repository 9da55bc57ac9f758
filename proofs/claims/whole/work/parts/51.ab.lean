theorem ie_0_1 : ((0 : Int32) = 1) = False := by decide
theorem ie_0_2 : ((0 : Int32) = 2) = False := by decide
theorem ie_0_3 : ((0 : Int32) = 3) = False := by decide
theorem ie_0_4 : ((0 : Int32) = 4) = False := by decide
theorem ie_0_5 : ((0 : Int32) = 5) = False := by decide
theorem ie_0_6 : ((0 : Int32) = 6) = False := by decide
theorem ie_0_7 : ((0 : Int32) = 7) = False := by decide
theorem ie_0_8 : ((0 : Int32) = 8) = False := by decide
theorem ie_0_9 : ((0 : Int32) = 9) = False := by decide
theorem ie_0_10 : ((0 : Int32) = 10) = False := by decide
theorem ie_1_0 : ((1 : Int32) = 0) = False := by decide
theorem ie_1_2 : ((1 : Int32) = 2) = False := by decide
theorem ie_1_3 : ((1 : Int32) = 3) = False := by decide
theorem ie_1_4 : ((1 : Int32) = 4) = False := by decide
theorem ie_1_5 : ((1 : Int32) = 5) = False := by decide
theorem ie_1_6 : ((1 : Int32) = 6) = False := by decide
theorem ie_1_7 : ((1 : Int32) = 7) = False := by decide
theorem ie_1_8 : ((1 : Int32) = 8) = False := by decide
theorem ie_1_9 : ((1 : Int32) = 9) = False := by decide
theorem ie_1_10 : ((1 : Int32) = 10) = False := by decide
theorem ie_2_0 : ((2 : Int32) = 0) = False := by decide
theorem ie_2_1 : ((2 : Int32) = 1) = False := by decide
theorem ie_2_3 : ((2 : Int32) = 3) = False := by decide
theorem ie_2_4 : ((2 : Int32) = 4) = False := by decide
theorem ie_2_5 : ((2 : Int32) = 5) = False := by decide
theorem ie_2_6 : ((2 : Int32) = 6) = False := by decide
theorem ie_2_7 : ((2 : Int32) = 7) = False := by decide
theorem ie_2_8 : ((2 : Int32) = 8) = False := by decide
theorem ie_2_9 : ((2 : Int32) = 9) = False := by decide
theorem ie_2_10 : ((2 : Int32) = 10) = False := by decide
theorem ie_3_0 : ((3 : Int32) = 0) = False := by decide
theorem ie_3_1 : ((3 : Int32) = 1) = False := by decide
theorem ie_3_2 : ((3 : Int32) = 2) = False := by decide
theorem ie_3_4 : ((3 : Int32) = 4) = False := by decide
theorem ie_3_5 : ((3 : Int32) = 5) = False := by decide
theorem ie_3_6 : ((3 : Int32) = 6) = False := by decide
theorem ie_3_7 : ((3 : Int32) = 7) = False := by decide
theorem ie_3_8 : ((3 : Int32) = 8) = False := by decide
theorem ie_3_9 : ((3 : Int32) = 9) = False := by decide
theorem ie_3_10 : ((3 : Int32) = 10) = False := by decide
theorem ie_4_0 : ((4 : Int32) = 0) = False := by decide
theorem ie_4_1 : ((4 : Int32) = 1) = False := by decide
theorem ie_4_2 : ((4 : Int32) = 2) = False := by decide
theorem ie_4_3 : ((4 : Int32) = 3) = False := by decide
theorem ie_4_5 : ((4 : Int32) = 5) = False := by decide
theorem ie_4_6 : ((4 : Int32) = 6) = False := by decide
theorem ie_4_7 : ((4 : Int32) = 7) = False := by decide
theorem ie_4_8 : ((4 : Int32) = 8) = False := by decide
theorem ie_4_9 : ((4 : Int32) = 9) = False := by decide
theorem ie_4_10 : ((4 : Int32) = 10) = False := by decide
theorem ie_5_0 : ((5 : Int32) = 0) = False := by decide
theorem ie_5_1 : ((5 : Int32) = 1) = False := by decide
theorem ie_5_2 : ((5 : Int32) = 2) = False := by decide
theorem ie_5_3 : ((5 : Int32) = 3) = False := by decide
theorem ie_5_4 : ((5 : Int32) = 4) = False := by decide
theorem ie_5_6 : ((5 : Int32) = 6) = False := by decide
theorem ie_5_7 : ((5 : Int32) = 7) = False := by decide
theorem ie_5_8 : ((5 : Int32) = 8) = False := by decide
theorem ie_5_9 : ((5 : Int32) = 9) = False := by decide
theorem ie_5_10 : ((5 : Int32) = 10) = False := by decide
theorem ie_6_0 : ((6 : Int32) = 0) = False := by decide
theorem ie_6_1 : ((6 : Int32) = 1) = False := by decide
theorem ie_6_2 : ((6 : Int32) = 2) = False := by decide
theorem ie_6_3 : ((6 : Int32) = 3) = False := by decide
theorem ie_6_4 : ((6 : Int32) = 4) = False := by decide
theorem ie_6_5 : ((6 : Int32) = 5) = False := by decide
theorem ie_6_7 : ((6 : Int32) = 7) = False := by decide
theorem ie_6_8 : ((6 : Int32) = 8) = False := by decide
theorem ie_6_9 : ((6 : Int32) = 9) = False := by decide
theorem ie_6_10 : ((6 : Int32) = 10) = False := by decide
theorem ie_7_0 : ((7 : Int32) = 0) = False := by decide
theorem ie_7_1 : ((7 : Int32) = 1) = False := by decide
theorem ie_7_2 : ((7 : Int32) = 2) = False := by decide
theorem ie_7_3 : ((7 : Int32) = 3) = False := by decide
theorem ie_7_4 : ((7 : Int32) = 4) = False := by decide
theorem ie_7_5 : ((7 : Int32) = 5) = False := by decide
theorem ie_7_6 : ((7 : Int32) = 6) = False := by decide
theorem ie_7_8 : ((7 : Int32) = 8) = False := by decide
theorem ie_7_9 : ((7 : Int32) = 9) = False := by decide
theorem ie_7_10 : ((7 : Int32) = 10) = False := by decide
theorem ie_8_0 : ((8 : Int32) = 0) = False := by decide
theorem ie_8_1 : ((8 : Int32) = 1) = False := by decide
theorem ie_8_2 : ((8 : Int32) = 2) = False := by decide
theorem ie_8_3 : ((8 : Int32) = 3) = False := by decide
theorem ie_8_4 : ((8 : Int32) = 4) = False := by decide
theorem ie_8_5 : ((8 : Int32) = 5) = False := by decide
theorem ie_8_6 : ((8 : Int32) = 6) = False := by decide
theorem ie_8_7 : ((8 : Int32) = 7) = False := by decide
theorem ie_8_9 : ((8 : Int32) = 9) = False := by decide
theorem ie_8_10 : ((8 : Int32) = 10) = False := by decide
theorem ie_9_0 : ((9 : Int32) = 0) = False := by decide
theorem ie_9_1 : ((9 : Int32) = 1) = False := by decide
theorem ie_9_2 : ((9 : Int32) = 2) = False := by decide
theorem ie_9_3 : ((9 : Int32) = 3) = False := by decide
theorem ie_9_4 : ((9 : Int32) = 4) = False := by decide
theorem ie_9_5 : ((9 : Int32) = 5) = False := by decide
theorem ie_9_6 : ((9 : Int32) = 6) = False := by decide
theorem ie_9_7 : ((9 : Int32) = 7) = False := by decide
theorem ie_9_8 : ((9 : Int32) = 8) = False := by decide
theorem ie_9_10 : ((9 : Int32) = 10) = False := by decide
theorem ie_10_0 : ((10 : Int32) = 0) = False := by decide
theorem ie_10_1 : ((10 : Int32) = 1) = False := by decide
theorem ie_10_2 : ((10 : Int32) = 2) = False := by decide
theorem ie_10_3 : ((10 : Int32) = 3) = False := by decide
theorem ie_10_4 : ((10 : Int32) = 4) = False := by decide
theorem ie_10_5 : ((10 : Int32) = 5) = False := by decide
theorem ie_10_6 : ((10 : Int32) = 6) = False := by decide
theorem ie_10_7 : ((10 : Int32) = 7) = False := by decide
theorem ie_10_8 : ((10 : Int32) = 8) = False := by decide
theorem ie_10_9 : ((10 : Int32) = 9) = False := by decide
theorem sv_b0 {s : Nat → Int32} {n m : Nat} (h : sv s n m) (k : Nat) (hk : k < n) (a : Nat) (ha : a ≤ 5) : sv (mx_up s (12 + 7 * k + 0) (nI a)) n m := by
  obtain ⟨h1, h2, h3, h4, h5, h6, h7⟩ := h
  refine ⟨by rw [up_n _ _ _ _ (by omega)]; exact h1, h2, by rw [up_n _ _ _ _ (by omega)]; exact h3, h4, by rw [up_n _ _ _ _ (by omega)]; exact h5, ?_, fun t ht => tx_ok_cg (fun i hi => up_n _ _ _ _ (by omega)) (h7 t ht)⟩
  intro j hj
  unfold sv_b
  rw [up_n s _ _ (12 + 7 * j + 1) (by omega), up_n s _ _ (12 + 7 * j + 2) (by omega), up_n s _ _ (12 + 7 * j + 5) (by omega)]
  by_cases e : j = k
  · subst e
    rw [up_s]
    exact ⟨⟨a, ha, rfl⟩, (h6 j hj).2⟩
  · rw [up_n _ _ _ _ (by omega)]
    exact h6 j hj
theorem sv_b1 {s : Nat → Int32} {n m : Nat} (h : sv s n m) (k : Nat) (hk : k < n) (a : Nat) (ha : a ≤ 50) : sv (mx_up s (12 + 7 * k + 1) (nI a)) n m := by
  obtain ⟨h1, h2, h3, h4, h5, h6, h7⟩ := h
  refine ⟨by rw [up_n _ _ _ _ (by omega)]; exact h1, h2, by rw [up_n _ _ _ _ (by omega)]; exact h3, h4, by rw [up_n _ _ _ _ (by omega)]; exact h5, ?_, fun t ht => tx_ok_cg (fun i hi => up_n _ _ _ _ (by omega)) (h7 t ht)⟩
  intro j hj
  unfold sv_b
  rw [up_n s _ _ (12 + 7 * j + 0) (by omega), up_n s _ _ (12 + 7 * j + 2) (by omega), up_n s _ _ (12 + 7 * j + 5) (by omega)]
  by_cases e : j = k
  · subst e
    rw [up_s]
    exact ⟨(h6 j hj).1, ⟨a, ha, rfl⟩, (h6 j hj).2.2⟩
  · rw [up_n _ _ _ _ (by omega)]
    exact h6 j hj
theorem sv_b5 {s : Nat → Int32} {n m : Nat} (h : sv s n m) (k : Nat) (hk : k < n) (x : Int32) (hx : x = 0 ∨ x = 1) : sv (mx_up s (12 + 7 * k + 5) x) n m := by
  obtain ⟨h1, h2, h3, h4, h5, h6, h7⟩ := h
  refine ⟨by rw [up_n _ _ _ _ (by omega)]; exact h1, h2, by rw [up_n _ _ _ _ (by omega)]; exact h3, h4, by rw [up_n _ _ _ _ (by omega)]; exact h5, ?_, fun t ht => tx_ok_cg (fun i hi => up_n _ _ _ _ (by omega)) (h7 t ht)⟩
  intro j hj
  unfold sv_b
  rw [up_n s _ _ (12 + 7 * j + 0) (by omega), up_n s _ _ (12 + 7 * j + 1) (by omega), up_n s _ _ (12 + 7 * j + 2) (by omega)]
  by_cases e : j = k
  · subst e
    rw [up_s]
    exact ⟨(h6 j hj).1, (h6 j hj).2.1, (h6 j hj).2.2.1, hx⟩
  · rw [up_n _ _ _ _ (by omega)]
    exact h6 j hj
variable {d L : Nat} {xs : Nat → Int32} {c : Nat × Nat} {D : hz_D}
theorem ap_turns (hI : Inv c D) (b k : Int32) : ap d L xs c D 48 [some (.ref 17), some (.int b), some (.int k), none, none] 191 [some (.ref 109), some (.int b), some (.int k)] := by
  obtain ⟨h0, ⟨n, m, hr, hv, htn, hh⟩, -⟩ := id hI
  have h35 := is_s35
  have hn9 := sv_n9 hv
  have hn : D 35 1 = nI n := hr.1.1.trans (sv_n hv)
  have hn' := sv_n hv
  have hs := fun d x => cc_has (sx_rom L xs) c D d n h35 hn hn9 x
  by_cases hb : ¬ b < 0 ∧ ¬ nI n - 1 < b
  · by_cases hk : ¬ k < 0 ∧ ¬ 5 < k
    · obtain ⟨j, hj, rfl⟩ := (nz_bt (by omega) _).mp hb
      obtain ⟨k', hk', rfl⟩ := i3_rg 5 (by omega) hk
      have pb := eq_true hb
      have pk := eq_true hk
      obtain ⟨⟨a, ha, hka⟩, q2, q3, q4⟩ := hv.2.2.2.2.2.1 j hj
      obtain ⟨b0, b1, b2, b3, b4, b5, b6⟩ := hr.2.2.1 j hj
      rw [hka] at b0
      have ga := ga_kd b0 ha
      have r1 := su_b0 h35 hn9 hr j (by omega) (nI k')
      have ix : (12 : Int32) + 7 * nI j = nI (12 + 7 * j + 0) := by
        rw [show (12 : Int32) = nI 12 from rfl, show (7 : Int32) = nI 7 from rfl, rc_mul, nI_add]
        rfl
      refine ap_c (nI a) (mx_up D (35 + 5 + j) (mx_up (D (35 + 5 + j)) 0 (29 + nI k'))) (mx_up (mx_up D (35 + 5 + j) (mx_up (D (35 + 5 + j)) 0 (29 + nI k'))) 110 (mx_up (D 110) (12 + 7 * j + 0) (nI k'))) ?_ ?_ ?_
      · simp (disch := first | assumption | omega | exact kd_sea _ _ _ (by assumption) | exact is_bts (by assumption) _ (by omega) | exact kd_bt _ _ _ (is_bts (by assumption) _ (by omega)) | exact kd_109 _ _ _ | exact kd_17 _ _ _ | exact kd_20 _ _ _) only [iq_48_0, iq_48_1, iq_48_4, iq_48_5, iq_48_8, iq_48_11, iq_48_12, iq_48_15, iq_48_18, iq_48_20, iq_48_21, iq_48_22, iq_48_25, iq_48_28, iq_48_29, iq_48_30, iq_48_30n, iq_48_31, iq_48_31n, iq_48_32, iq_48_35, iq_48_38, iq_48_40, iq_48_40n, iq_48_41, iq_48_42, iq_48_45, iq_48_46, iq_48_47, iq_48_50, iq_48_52, gf_17_0, gf_17_1, gf_17_2, gf_17_3, gf_17_4, gf_17_5, gf_17_6, gf_17_7, gf_17_8, gf_17_9, gf_17_10, gf_17_11, gf_17_12, gf_17_13, kd_17, pf_17_4, pf_17_13, gf_sea_0, gf_sea_1, gf_sea_2, gf_sea_3, gf_sea_4, gf_sea_5, gf_sea_6, gf_sea_7, gf_sea_8, gf_sea_9, gf_sea_10, kd_sea, pf_sea_1, pf_sea_2, pf_sea_4, pf_sea_5, pf_sea_6, pf_sea_7, pf_sea_9, gf_bt_0, gf_bt_1, gf_bt_2, gf_bt_3, gf_bt_4, gf_bt_5, gf_bt_6, kd_bt, pf_bt_0, pf_bt_1, pf_bt_2, pf_bt_3, pf_bt_4, pf_bt_5, pf_bt_6, ld_rul, st_rul, ld_cnt, st_cnt, aa_bs, aa_tx, ru_0, ru_1, ru_2, ru_3, ru_4, su_r0, su_r1, su_r2, Option.bind_some, Option.toList, List.cons_append, List.nil_append, ↓reduceIte, nI_1, Int32.reduceLT, Int32.reduceLE, dv_1, dv_2, dv_3, dv_4, dv_6, dv_8, dv_10, dv_20, dv_100, dv_200, dv_500, Bool.false_eq_true, hs, pb, pk, ci_isKind, ga, gk_n, aa_18, pf_bt_0k]
      · simp (disch := first | assumption | omega | exact kd_sea _ _ _ (by assumption) | exact is_bts (by assumption) _ (by omega) | exact kd_bt _ _ _ (is_bts (by assumption) _ (by omega)) | exact kd_109 _ _ _ | exact kd_17 _ _ _ | exact kd_20 _ _ _) only [iq_191_0, iq_191_1, iq_191_2, iq_191_5, iq_191_8, iq_191_9, iq_191_10, iq_191_11, iq_191_14, iq_191_17, iq_191_20, iq_191_21, iq_191_23, iq_191_25, iq_191_26, iq_191_27, iq_191_28, iq_191_29, iq_191_32, iq_191_35, iq_191_37, gf_109_0, gf_109_1, gf_109_2, gf_109_3, gf_109_4, gf_109_5, gf_109_6, gf_109_7, gf_109_8, gf_109_9, gf_109_10, gf_109_11, gf_109_12, gf_109_13, gf_109_14, gf_109_15, gf_109_16, gf_109_17, gf_109_18, gf_109_19, gf_109_20, gf_109_21, gf_109_22, gf_109_23, gf_109_24, gf_109_25, gf_109_26, gf_109_27, gf_109_28, gf_109_29, gf_109_30, kd_109, ld_110_0, st_110_0, ld_110_1, st_110_1, ld_110_2, st_110_2, ld_110_3, st_110_3, ld_110_4, st_110_4, ld_110_5, st_110_5, ld_110_6, st_110_6, ld_110_7, st_110_7, ld_110_8, st_110_8, ld_110_9, st_110_9, ld_110_10, st_110_10, ld_110_11, st_110_11, ld_110_12, st_110_12, ld_110_75, st_110_75, Option.bind_some, Option.toList, List.cons_append, List.nil_append, ↓reduceIte, nI_1, Int32.reduceLT, Int32.reduceLE, dv_1, dv_2, dv_3, dv_4, dv_6, dv_8, dv_10, dv_20, dv_100, dv_200, dv_500, Bool.false_eq_true, rc_ee, rc_ge_0, rc_le_0, rc_ge_1, rc_le_1, rc_ge_2, rc_le_2, rc_ge_3, rc_le_3, rc_ge_4, rc_le_4, rc_ge_5, rc_le_5, rc_ge_9, rc_le_9, rc_ge_30, rc_le_30, rc_ge_40, rc_le_40, rc_ge_48, rc_le_48, rc_ge_50, rc_le_50, rc_ge_57, rc_le_57, rc_ge_60, rc_le_60, rc_ge_97, rc_le_97, rc_ge_100, rc_le_100, rc_ge_122, rc_le_122, rc_ge_9999, rc_le_9999, rc_ge_99999, rc_le_99999, rc_ge_m99999, rc_le_m99999, rc_ge_m1, rc_le_m1, rc_isBoat, hn', up_s, up_up, up_n, ne_eq, Nat.reduceEqDiff, not_false_eq_true, pb, pk, ix, rc_becomes, hka]
      · refine Inv_sea1 hI (I_mk r1 (sv_b0 hv j hj k' hk') (fun t ht => ?_) ?_ (up_s _ _ _) (fun a ha => up_n _ _ _ _ (by omega))) (fun a ha => by rw [up_n _ _ _ _ (by omega), up_n _ _ _ _ (by omega)])
        · rw [up_n _ _ _ _ (by omega)]
          exact htn t ht
        · rw [up_n _ _ _ _ (by omega)]
          exact hh
    · have pb := eq_true hb
      have pk := eq_false hk
      refine ap_c (-1000000001) D D ?_ ?_ hI
      · simp (disch := first | assumption | omega | exact kd_sea _ _ _ (by assumption) | exact is_bts (by assumption) _ (by omega) | exact kd_bt _ _ _ (is_bts (by assumption) _ (by omega)) | exact kd_109 _ _ _ | exact kd_17 _ _ _ | exact kd_20 _ _ _) only [iq_48_0, iq_48_1, iq_48_4, iq_48_5, iq_48_8, iq_48_11, iq_48_12, iq_48_15, iq_48_18, iq_48_20, iq_48_21, iq_48_22, iq_48_25, iq_48_28, iq_48_29, iq_48_30, iq_48_30n, iq_48_31, iq_48_31n, iq_48_32, iq_48_35, iq_48_38, iq_48_40, iq_48_40n, iq_48_41, iq_48_42, iq_48_45, iq_48_46, iq_48_47, iq_48_50, iq_48_52, gf_17_0, gf_17_1, gf_17_2, gf_17_3, gf_17_4, gf_17_5, gf_17_6, gf_17_7, gf_17_8, gf_17_9, gf_17_10, gf_17_11, gf_17_12, gf_17_13, kd_17, pf_17_4, pf_17_13, gf_sea_0, gf_sea_1, gf_sea_2, gf_sea_3, gf_sea_4, gf_sea_5, gf_sea_6, gf_sea_7, gf_sea_8, gf_sea_9, gf_sea_10, kd_sea, pf_sea_1, pf_sea_2, pf_sea_4, pf_sea_5, pf_sea_6, pf_sea_7, pf_sea_9, gf_bt_0, gf_bt_1, gf_bt_2, gf_bt_3, gf_bt_4, gf_bt_5, gf_bt_6, kd_bt, pf_bt_0, pf_bt_1, pf_bt_2, pf_bt_3, pf_bt_4, pf_bt_5, pf_bt_6, ld_rul, st_rul, ld_cnt, st_cnt, aa_bs, aa_tx, ru_0, ru_1, ru_2, ru_3, ru_4, su_r0, su_r1, su_r2, Option.bind_some, Option.toList, List.cons_append, List.nil_append, ↓reduceIte, nI_1, Int32.reduceLT, Int32.reduceLE, dv_1, dv_2, dv_3, dv_4, dv_6, dv_8, dv_10, dv_20, dv_100, dv_200, dv_500, Bool.false_eq_true, hs, pb, pk, ci_isKind]
      · simp (disch := first | assumption | omega | exact kd_sea _ _ _ (by assumption) | exact is_bts (by assumption) _ (by omega) | exact kd_bt _ _ _ (is_bts (by assumption) _ (by omega)) | exact kd_109 _ _ _ | exact kd_17 _ _ _ | exact kd_20 _ _ _) only [iq_191_0, iq_191_1, iq_191_2, iq_191_5, iq_191_8, iq_191_9, iq_191_10, iq_191_11, iq_191_14, iq_191_17, iq_191_20, iq_191_21, iq_191_23, iq_191_25, iq_191_26, iq_191_27, iq_191_28, iq_191_29, iq_191_32, iq_191_35, iq_191_37, gf_109_0, gf_109_1, gf_109_2, gf_109_3, gf_109_4, gf_109_5, gf_109_6, gf_109_7, gf_109_8, gf_109_9, gf_109_10, gf_109_11, gf_109_12, gf_109_13, gf_109_14, gf_109_15, gf_109_16, gf_109_17, gf_109_18, gf_109_19, gf_109_20, gf_109_21, gf_109_22, gf_109_23, gf_109_24, gf_109_25, gf_109_26, gf_109_27, gf_109_28, gf_109_29, gf_109_30, kd_109, ld_110_0, st_110_0, ld_110_1, st_110_1, ld_110_2, st_110_2, ld_110_3, st_110_3, ld_110_4, st_110_4, ld_110_5, st_110_5, ld_110_6, st_110_6, ld_110_7, st_110_7, ld_110_8, st_110_8, ld_110_9, st_110_9, ld_110_10, st_110_10, ld_110_11, st_110_11, ld_110_12, st_110_12, ld_110_75, st_110_75, Option.bind_some, Option.toList, List.cons_append, List.nil_append, ↓reduceIte, nI_1, Int32.reduceLT, Int32.reduceLE, dv_1, dv_2, dv_3, dv_4, dv_6, dv_8, dv_10, dv_20, dv_100, dv_200, dv_500, Bool.false_eq_true, rc_ee, rc_ge_0, rc_le_0, rc_ge_1, rc_le_1, rc_ge_2, rc_le_2, rc_ge_3, rc_le_3, rc_ge_4, rc_le_4, rc_ge_5, rc_le_5, rc_ge_9, rc_le_9, rc_ge_30, rc_le_30, rc_ge_40, rc_le_40, rc_ge_48, rc_le_48, rc_ge_50, rc_le_50, rc_ge_57, rc_le_57, rc_ge_60, rc_le_60, rc_ge_97, rc_le_97, rc_ge_100, rc_le_100, rc_ge_122, rc_le_122, rc_ge_9999, rc_le_9999, rc_ge_99999, rc_le_99999, rc_ge_m99999, rc_le_m99999, rc_ge_m1, rc_le_m1, rc_isBoat, hn', pb, pk]
  · have pb := eq_false hb
    refine ap_c (-1000000001) D D ?_ ?_ hI
    · simp (disch := first | assumption | omega | exact kd_sea _ _ _ (by assumption) | exact is_bts (by assumption) _ (by omega) | exact kd_bt _ _ _ (is_bts (by assumption) _ (by omega)) | exact kd_109 _ _ _ | exact kd_17 _ _ _ | exact kd_20 _ _ _) only [iq_48_0, iq_48_1, iq_48_4, iq_48_5, iq_48_8, iq_48_11, iq_48_12, iq_48_15, iq_48_18, iq_48_20, iq_48_21, iq_48_22, iq_48_25, iq_48_28, iq_48_29, iq_48_30, iq_48_30n, iq_48_31, iq_48_31n, iq_48_32, iq_48_35, iq_48_38, iq_48_40, iq_48_40n, iq_48_41, iq_48_42, iq_48_45, iq_48_46, iq_48_47, iq_48_50, iq_48_52, gf_17_0, gf_17_1, gf_17_2, gf_17_3, gf_17_4, gf_17_5, gf_17_6, gf_17_7, gf_17_8, gf_17_9, gf_17_10, gf_17_11, gf_17_12, gf_17_13, kd_17, pf_17_4, pf_17_13, gf_sea_0, gf_sea_1, gf_sea_2, gf_sea_3, gf_sea_4, gf_sea_5, gf_sea_6, gf_sea_7, gf_sea_8, gf_sea_9, gf_sea_10, kd_sea, pf_sea_1, pf_sea_2, pf_sea_4, pf_sea_5, pf_sea_6, pf_sea_7, pf_sea_9, gf_bt_0, gf_bt_1, gf_bt_2, gf_bt_3, gf_bt_4, gf_bt_5, gf_bt_6, kd_bt, pf_bt_0, pf_bt_1, pf_bt_2, pf_bt_3, pf_bt_4, pf_bt_5, pf_bt_6, ld_rul, st_rul, ld_cnt, st_cnt, aa_bs, aa_tx, ru_0, ru_1, ru_2, ru_3, ru_4, su_r0, su_r1, su_r2, Option.bind_some, Option.toList, List.cons_append, List.nil_append, ↓reduceIte, nI_1, Int32.reduceLT, Int32.reduceLE, dv_1, dv_2, dv_3, dv_4, dv_6, dv_8, dv_10, dv_20, dv_100, dv_200, dv_500, Bool.false_eq_true, hs, pb]
    · simp (disch := first | assumption | omega | exact kd_sea _ _ _ (by assumption) | exact is_bts (by assumption) _ (by omega) | exact kd_bt _ _ _ (is_bts (by assumption) _ (by omega)) | exact kd_109 _ _ _ | exact kd_17 _ _ _ | exact kd_20 _ _ _) only [iq_191_0, iq_191_1, iq_191_2, iq_191_5, iq_191_8, iq_191_9, iq_191_10, iq_191_11, iq_191_14, iq_191_17, iq_191_20, iq_191_21, iq_191_23, iq_191_25, iq_191_26, iq_191_27, iq_191_28, iq_191_29, iq_191_32, iq_191_35, iq_191_37, gf_109_0, gf_109_1, gf_109_2, gf_109_3, gf_109_4, gf_109_5, gf_109_6, gf_109_7, gf_109_8, gf_109_9, gf_109_10, gf_109_11, gf_109_12, gf_109_13, gf_109_14, gf_109_15, gf_109_16, gf_109_17, gf_109_18, gf_109_19, gf_109_20, gf_109_21, gf_109_22, gf_109_23, gf_109_24, gf_109_25, gf_109_26, gf_109_27, gf_109_28, gf_109_29, gf_109_30, kd_109, ld_110_0, st_110_0, ld_110_1, st_110_1, ld_110_2, st_110_2, ld_110_3, st_110_3, ld_110_4, st_110_4, ld_110_5, st_110_5, ld_110_6, st_110_6, ld_110_7, st_110_7, ld_110_8, st_110_8, ld_110_9, st_110_9, ld_110_10, st_110_10, ld_110_11, st_110_11, ld_110_12, st_110_12, ld_110_75, st_110_75, Option.bind_some, Option.toList, List.cons_append, List.nil_append, ↓reduceIte, nI_1, Int32.reduceLT, Int32.reduceLE, dv_1, dv_2, dv_3, dv_4, dv_6, dv_8, dv_10, dv_20, dv_100, dv_200, dv_500, Bool.false_eq_true, rc_ee, rc_ge_0, rc_le_0, rc_ge_1, rc_le_1, rc_ge_2, rc_le_2, rc_ge_3, rc_le_3, rc_ge_4, rc_le_4, rc_ge_5, rc_le_5, rc_ge_9, rc_le_9, rc_ge_30, rc_le_30, rc_ge_40, rc_le_40, rc_ge_48, rc_le_48, rc_ge_50, rc_le_50, rc_ge_57, rc_le_57, rc_ge_60, rc_le_60, rc_ge_97, rc_le_97, rc_ge_100, rc_le_100, rc_ge_122, rc_le_122, rc_ge_9999, rc_le_9999, rc_ge_99999, rc_le_99999, rc_ge_m99999, rc_le_m99999, rc_ge_m1, rc_le_m1, rc_isBoat, hn', pb]
theorem ap_ties (hI : Inv c D) (b k : Int32) : ap d L xs c D 50 [some (.ref 17), some (.int b), some (.int k), none, none] 194 [some (.ref 109), some (.int b), some (.int k)] := by
  obtain ⟨h0, ⟨n, m, hr, hv, htn, hh⟩, -⟩ := id hI
  have h35 := is_s35
  have hn9 := sv_n9 hv
  have hn : D 35 1 = nI n := hr.1.1.trans (sv_n hv)
  have hn' := sv_n hv
  have hs := fun d x => cc_has (sx_rom L xs) c D d n h35 hn hn9 x
  by_cases hb : ¬ b < 0 ∧ ¬ nI n - 1 < b
  · by_cases hk : ¬ k < 0 ∧ ¬ 1 < k
    · obtain ⟨j, hj, rfl⟩ := (nz_bt (by omega) _).mp hb
      have k01 : k = 0 ∨ k = 1 := by rw [← i3_01]; exact hk
      have pb := eq_true hb
      have pk := eq_true hk
      have kn : ¬ k < 0 := hk.1
      have k1 : ¬ 1 < k := hk.2
      obtain ⟨q1, q2, q3, q4⟩ := hv.2.2.2.2.2.1 j hj
      obtain ⟨b0, b1, b2, b3, b4, b5, b6⟩ := hr.2.2.1 j hj
      have r1 := su_b6 h35 hn9 hr j (by omega) k k01
      have ix : (12 : Int32) + 7 * nI j + 5 = nI (12 + 7 * j + 5) := rc_ix5 j
      have tk : mx_tcOk 1 (.int k) = true := by rcases k01 with rfl | rfl <;> rfl
      refine ap_c (D 110 (12 + 7 * j + 5)) (mx_up D (35 + 5 + j) (mx_up (D (35 + 5 + j)) 6 k)) (mx_up (mx_up D (35 + 5 + j) (mx_up (D (35 + 5 + j)) 6 k)) 110 (mx_up (D 110) (12 + 7 * j + 5) k)) ?_ ?_ ?_
      · rcases k01 with rfl | rfl <;> rcases q4 with q4 | q4 <;> simp (disch := first | assumption | omega | exact kd_sea _ _ _ (by assumption) | exact is_bts (by assumption) _ (by omega) | exact kd_bt _ _ _ (is_bts (by assumption) _ (by omega)) | exact kd_109 _ _ _ | exact kd_17 _ _ _ | exact kd_20 _ _ _) only [iq_50_0, iq_50_1, iq_50_4, iq_50_5, iq_50_8, iq_50_11, iq_50_12, iq_50_15, iq_50_16, iq_50_17, iq_50_20, iq_50_22, iq_50_23, iq_50_24, iq_50_27, iq_50_30, iq_50_31, iq_50_32, iq_50_32n, iq_50_33, iq_50_33n, iq_50_34, iq_50_37, iq_50_40, iq_50_41, iq_50_44, iq_50_45, iq_50_47, iq_50_47n, iq_50_48, iq_50_49, iq_50_50, iq_50_53, iq_50_54, iq_50_57, iq_50_58, iq_50_61, iq_50_63, gf_17_0, gf_17_1, gf_17_2, gf_17_3, gf_17_4, gf_17_5, gf_17_6, gf_17_7, gf_17_8, gf_17_9, gf_17_10, gf_17_11, gf_17_12, gf_17_13, kd_17, pf_17_4, pf_17_13, gf_sea_0, gf_sea_1, gf_sea_2, gf_sea_3, gf_sea_4, gf_sea_5, gf_sea_6, gf_sea_7, gf_sea_8, gf_sea_9, gf_sea_10, kd_sea, pf_sea_1, pf_sea_2, pf_sea_4, pf_sea_5, pf_sea_6, pf_sea_7, pf_sea_9, gf_bt_0, gf_bt_1, gf_bt_2, gf_bt_3, gf_bt_4, gf_bt_5, gf_bt_6, kd_bt, pf_bt_0, pf_bt_1, pf_bt_2, pf_bt_3, pf_bt_4, pf_bt_5, pf_bt_6, ld_rul, st_rul, ld_cnt, st_cnt, aa_bs, aa_tx, ru_0, ru_1, ru_2, ru_3, ru_4, su_r0, su_r1, su_r2, Option.bind_some, Option.toList, List.cons_append, List.nil_append, ↓reduceIte, nI_1, Int32.reduceLT, Int32.reduceLE, dv_1, dv_2, dv_3, dv_4, dv_6, dv_8, dv_10, dv_20, dv_100, dv_200, dv_500, Bool.false_eq_true, hs, pb, ie_0_1, ie_0_2, ie_0_3, ie_0_4, ie_0_5, ie_0_6, ie_0_7, ie_0_8, ie_0_9, ie_0_10, ie_1_0, ie_1_2, ie_1_3, ie_1_4, ie_1_5, ie_1_6, ie_1_7, ie_1_8, ie_1_9, ie_1_10, ie_2_0, ie_2_1, ie_2_3, ie_2_4, ie_2_5, ie_2_6, ie_2_7, ie_2_8, ie_2_9, ie_2_10, ie_3_0, ie_3_1, ie_3_2, ie_3_4, ie_3_5, ie_3_6, ie_3_7, ie_3_8, ie_3_9, ie_3_10, ie_4_0, ie_4_1, ie_4_2, ie_4_3, ie_4_5, ie_4_6, ie_4_7, ie_4_8, ie_4_9, ie_4_10, ie_5_0, ie_5_1, ie_5_2, ie_5_3, ie_5_4, ie_5_6, ie_5_7, ie_5_8, ie_5_9, ie_5_10, ie_6_0, ie_6_1, ie_6_2, ie_6_3, ie_6_4, ie_6_5, ie_6_7, ie_6_8, ie_6_9, ie_6_10, ie_7_0, ie_7_1, ie_7_2, ie_7_3, ie_7_4, ie_7_5, ie_7_6, ie_7_8, ie_7_9, ie_7_10, ie_8_0, ie_8_1, ie_8_2, ie_8_3, ie_8_4, ie_8_5, ie_8_6, ie_8_7, ie_8_9, ie_8_10, ie_9_0, ie_9_1, ie_9_2, ie_9_3, ie_9_4, ie_9_5, ie_9_6, ie_9_7, ie_9_8, ie_9_10, ie_10_0, ie_10_1, ie_10_2, ie_10_3, ie_10_4, ie_10_5, ie_10_6, ie_10_7, ie_10_8, ie_10_9, b6, q4]
      · simp (disch := first | assumption | omega | exact kd_sea _ _ _ (by assumption) | exact is_bts (by assumption) _ (by omega) | exact kd_bt _ _ _ (is_bts (by assumption) _ (by omega)) | exact kd_109 _ _ _ | exact kd_17 _ _ _ | exact kd_20 _ _ _) only [iq_194_0, iq_194_1, iq_194_2, iq_194_5, iq_194_8, iq_194_9, iq_194_10, iq_194_11, iq_194_12, iq_194_15, iq_194_18, iq_194_19, iq_194_21, iq_194_23, iq_194_24, iq_194_25, iq_194_26, iq_194_27, iq_194_28, iq_194_29, iq_194_32, iq_194_35, iq_194_37, gf_109_0, gf_109_1, gf_109_2, gf_109_3, gf_109_4, gf_109_5, gf_109_6, gf_109_7, gf_109_8, gf_109_9, gf_109_10, gf_109_11, gf_109_12, gf_109_13, gf_109_14, gf_109_15, gf_109_16, gf_109_17, gf_109_18, gf_109_19, gf_109_20, gf_109_21, gf_109_22, gf_109_23, gf_109_24, gf_109_25, gf_109_26, gf_109_27, gf_109_28, gf_109_29, gf_109_30, kd_109, ld_110_0, st_110_0, ld_110_1, st_110_1, ld_110_2, st_110_2, ld_110_3, st_110_3, ld_110_4, st_110_4, ld_110_5, st_110_5, ld_110_6, st_110_6, ld_110_7, st_110_7, ld_110_8, st_110_8, ld_110_9, st_110_9, ld_110_10, st_110_10, ld_110_11, st_110_11, ld_110_12, st_110_12, ld_110_75, st_110_75, Option.bind_some, Option.toList, List.cons_append, List.nil_append, ↓reduceIte, nI_1, Int32.reduceLT, Int32.reduceLE, dv_1, dv_2, dv_3, dv_4, dv_6, dv_8, dv_10, dv_20, dv_100, dv_200, dv_500, Bool.false_eq_true, rc_ee, rc_ge_0, rc_le_0, rc_ge_1, rc_le_1, rc_ge_2, rc_le_2, rc_ge_3, rc_le_3, rc_ge_4, rc_le_4, rc_ge_5, rc_le_5, rc_ge_9, rc_le_9, rc_ge_30, rc_le_30, rc_ge_40, rc_le_40, rc_ge_48, rc_le_48, rc_ge_50, rc_le_50, rc_ge_57, rc_le_57, rc_ge_60, rc_le_60, rc_ge_97, rc_le_97, rc_ge_100, rc_le_100, rc_ge_122, rc_le_122, rc_ge_9999, rc_le_9999, rc_ge_99999, rc_le_99999, rc_ge_m99999, rc_le_m99999, rc_ge_m1, rc_le_m1, rc_isBoat, hn', up_s, up_up, up_n, ne_eq, Nat.reduceEqDiff, not_false_eq_true, pb, pk, ix, rc_becomes]
      · refine Inv_sea1 hI (I_mk r1 (sv_b5 hv j hj k k01) (fun t ht => ?_) ?_ (up_s _ _ _) (fun a ha => up_n _ _ _ _ (by omega))) (fun a ha => by rw [up_n _ _ _ _ (by omega), up_n _ _ _ _ (by omega)])
        · rw [up_n _ _ _ _ (by omega)]
          exact htn t ht
        · rw [up_n _ _ _ _ (by omega)]
          exact hh
    · have pb := eq_true hb
      have pk := eq_false hk
      refine ap_c (-1000000001) D D ?_ ?_ hI
      · by_cases kn : k < 0
        · simp (disch := first | assumption | omega | exact kd_sea _ _ _ (by assumption) | exact is_bts (by assumption) _ (by omega) | exact kd_bt _ _ _ (is_bts (by assumption) _ (by omega)) | exact kd_109 _ _ _ | exact kd_17 _ _ _ | exact kd_20 _ _ _) only [iq_50_0, iq_50_1, iq_50_4, iq_50_5, iq_50_8, iq_50_11, iq_50_12, iq_50_15, iq_50_16, iq_50_17, iq_50_20, iq_50_22, iq_50_23, iq_50_24, iq_50_27, iq_50_30, iq_50_31, iq_50_32, iq_50_32n, iq_50_33, iq_50_33n, iq_50_34, iq_50_37, iq_50_40, iq_50_41, iq_50_44, iq_50_45, iq_50_47, iq_50_47n, iq_50_48, iq_50_49, iq_50_50, iq_50_53, iq_50_54, iq_50_57, iq_50_58, iq_50_61, iq_50_63, gf_17_0, gf_17_1, gf_17_2, gf_17_3, gf_17_4, gf_17_5, gf_17_6, gf_17_7, gf_17_8, gf_17_9, gf_17_10, gf_17_11, gf_17_12, gf_17_13, kd_17, pf_17_4, pf_17_13, gf_sea_0, gf_sea_1, gf_sea_2, gf_sea_3, gf_sea_4, gf_sea_5, gf_sea_6, gf_sea_7, gf_sea_8, gf_sea_9, gf_sea_10, kd_sea, pf_sea_1, pf_sea_2, pf_sea_4, pf_sea_5, pf_sea_6, pf_sea_7, pf_sea_9, gf_bt_0, gf_bt_1, gf_bt_2, gf_bt_3, gf_bt_4, gf_bt_5, gf_bt_6, kd_bt, pf_bt_0, pf_bt_1, pf_bt_2, pf_bt_3, pf_bt_4, pf_bt_5, pf_bt_6, ld_rul, st_rul, ld_cnt, st_cnt, aa_bs, aa_tx, ru_0, ru_1, ru_2, ru_3, ru_4, su_r0, su_r1, su_r2, Option.bind_some, Option.toList, List.cons_append, List.nil_append, ↓reduceIte, nI_1, Int32.reduceLT, Int32.reduceLE, dv_1, dv_2, dv_3, dv_4, dv_6, dv_8, dv_10, dv_20, dv_100, dv_200, dv_500, Bool.false_eq_true, hs, pb, kn]
        · have k1 : 1 < k := by
            by_cases z : 1 < k
            · exact z
            · exact absurd ⟨kn, z⟩ hk
          simp (disch := first | assumption | omega | exact kd_sea _ _ _ (by assumption) | exact is_bts (by assumption) _ (by omega) | exact kd_bt _ _ _ (is_bts (by assumption) _ (by omega)) | exact kd_109 _ _ _ | exact kd_17 _ _ _ | exact kd_20 _ _ _) only [iq_50_0, iq_50_1, iq_50_4, iq_50_5, iq_50_8, iq_50_11, iq_50_12, iq_50_15, iq_50_16, iq_50_17, iq_50_20, iq_50_22, iq_50_23, iq_50_24, iq_50_27, iq_50_30, iq_50_31, iq_50_32, iq_50_32n, iq_50_33, iq_50_33n, iq_50_34, iq_50_37, iq_50_40, iq_50_41, iq_50_44, iq_50_45, iq_50_47, iq_50_47n, iq_50_48, iq_50_49, iq_50_50, iq_50_53, iq_50_54, iq_50_57, iq_50_58, iq_50_61, iq_50_63, gf_17_0, gf_17_1, gf_17_2, gf_17_3, gf_17_4, gf_17_5, gf_17_6, gf_17_7, gf_17_8, gf_17_9, gf_17_10, gf_17_11, gf_17_12, gf_17_13, kd_17, pf_17_4, pf_17_13, gf_sea_0, gf_sea_1, gf_sea_2, gf_sea_3, gf_sea_4, gf_sea_5, gf_sea_6, gf_sea_7, gf_sea_8, gf_sea_9, gf_sea_10, kd_sea, pf_sea_1, pf_sea_2, pf_sea_4, pf_sea_5, pf_sea_6, pf_sea_7, pf_sea_9, gf_bt_0, gf_bt_1, gf_bt_2, gf_bt_3, gf_bt_4, gf_bt_5, gf_bt_6, kd_bt, pf_bt_0, pf_bt_1, pf_bt_2, pf_bt_3, pf_bt_4, pf_bt_5, pf_bt_6, ld_rul, st_rul, ld_cnt, st_cnt, aa_bs, aa_tx, ru_0, ru_1, ru_2, ru_3, ru_4, su_r0, su_r1, su_r2, Option.bind_some, Option.toList, List.cons_append, List.nil_append, ↓reduceIte, nI_1, Int32.reduceLT, Int32.reduceLE, dv_1, dv_2, dv_3, dv_4, dv_6, dv_8, dv_10, dv_20, dv_100, dv_200, dv_500, Bool.false_eq_true, hs, pb, kn, k1]
      · simp (disch := first | assumption | omega | exact kd_sea _ _ _ (by assumption) | exact is_bts (by assumption) _ (by omega) | exact kd_bt _ _ _ (is_bts (by assumption) _ (by omega)) | exact kd_109 _ _ _ | exact kd_17 _ _ _ | exact kd_20 _ _ _) only [iq_194_0, iq_194_1, iq_194_2, iq_194_5, iq_194_8, iq_194_9, iq_194_10, iq_194_11, iq_194_12, iq_194_15, iq_194_18, iq_194_19, iq_194_21, iq_194_23, iq_194_24, iq_194_25, iq_194_26, iq_194_27, iq_194_28, iq_194_29, iq_194_32, iq_194_35, iq_194_37, gf_109_0, gf_109_1, gf_109_2, gf_109_3, gf_109_4, gf_109_5, gf_109_6, gf_109_7, gf_109_8, gf_109_9, gf_109_10, gf_109_11, gf_109_12, gf_109_13, gf_109_14, gf_109_15, gf_109_16, gf_109_17, gf_109_18, gf_109_19, gf_109_20, gf_109_21, gf_109_22, gf_109_23, gf_109_24, gf_109_25, gf_109_26, gf_109_27, gf_109_28, gf_109_29, gf_109_30, kd_109, ld_110_0, st_110_0, ld_110_1, st_110_1, ld_110_2, st_110_2, ld_110_3, st_110_3, ld_110_4, st_110_4, ld_110_5, st_110_5, ld_110_6, st_110_6, ld_110_7, st_110_7, ld_110_8, st_110_8, ld_110_9, st_110_9, ld_110_10, st_110_10, ld_110_11, st_110_11, ld_110_12, st_110_12, ld_110_75, st_110_75, Option.bind_some, Option.toList, List.cons_append, List.nil_append, ↓reduceIte, nI_1, Int32.reduceLT, Int32.reduceLE, dv_1, dv_2, dv_3, dv_4, dv_6, dv_8, dv_10, dv_20, dv_100, dv_200, dv_500, Bool.false_eq_true, rc_ee, rc_ge_0, rc_le_0, rc_ge_1, rc_le_1, rc_ge_2, rc_le_2, rc_ge_3, rc_le_3, rc_ge_4, rc_le_4, rc_ge_5, rc_le_5, rc_ge_9, rc_le_9, rc_ge_30, rc_le_30, rc_ge_40, rc_le_40, rc_ge_48, rc_le_48, rc_ge_50, rc_le_50, rc_ge_57, rc_le_57, rc_ge_60, rc_le_60, rc_ge_97, rc_le_97, rc_ge_100, rc_le_100, rc_ge_122, rc_le_122, rc_ge_9999, rc_le_9999, rc_ge_99999, rc_le_99999, rc_ge_m99999, rc_le_m99999, rc_ge_m1, rc_le_m1, rc_isBoat, hn', pb, pk]
  · have pb := eq_false hb
    refine ap_c (-1000000001) D D ?_ ?_ hI
    · simp (disch := first | assumption | omega | exact kd_sea _ _ _ (by assumption) | exact is_bts (by assumption) _ (by omega) | exact kd_bt _ _ _ (is_bts (by assumption) _ (by omega)) | exact kd_109 _ _ _ | exact kd_17 _ _ _ | exact kd_20 _ _ _) only [iq_50_0, iq_50_1, iq_50_4, iq_50_5, iq_50_8, iq_50_11, iq_50_12, iq_50_15, iq_50_16, iq_50_17, iq_50_20, iq_50_22, iq_50_23, iq_50_24, iq_50_27, iq_50_30, iq_50_31, iq_50_32, iq_50_32n, iq_50_33, iq_50_33n, iq_50_34, iq_50_37, iq_50_40, iq_50_41, iq_50_44, iq_50_45, iq_50_47, iq_50_47n, iq_50_48, iq_50_49, iq_50_50, iq_50_53, iq_50_54, iq_50_57, iq_50_58, iq_50_61, iq_50_63, gf_17_0, gf_17_1, gf_17_2, gf_17_3, gf_17_4, gf_17_5, gf_17_6, gf_17_7, gf_17_8, gf_17_9, gf_17_10, gf_17_11, gf_17_12, gf_17_13, kd_17, pf_17_4, pf_17_13, gf_sea_0, gf_sea_1, gf_sea_2, gf_sea_3, gf_sea_4, gf_sea_5, gf_sea_6, gf_sea_7, gf_sea_8, gf_sea_9, gf_sea_10, kd_sea, pf_sea_1, pf_sea_2, pf_sea_4, pf_sea_5, pf_sea_6, pf_sea_7, pf_sea_9, gf_bt_0, gf_bt_1, gf_bt_2, gf_bt_3, gf_bt_4, gf_bt_5, gf_bt_6, kd_bt, pf_bt_0, pf_bt_1, pf_bt_2, pf_bt_3, pf_bt_4, pf_bt_5, pf_bt_6, ld_rul, st_rul, ld_cnt, st_cnt, aa_bs, aa_tx, ru_0, ru_1, ru_2, ru_3, ru_4, su_r0, su_r1, su_r2, Option.bind_some, Option.toList, List.cons_append, List.nil_append, ↓reduceIte, nI_1, Int32.reduceLT, Int32.reduceLE, dv_1, dv_2, dv_3, dv_4, dv_6, dv_8, dv_10, dv_20, dv_100, dv_200, dv_500, Bool.false_eq_true, hs, pb]
    · simp (disch := first | assumption | omega | exact kd_sea _ _ _ (by assumption) | exact is_bts (by assumption) _ (by omega) | exact kd_bt _ _ _ (is_bts (by assumption) _ (by omega)) | exact kd_109 _ _ _ | exact kd_17 _ _ _ | exact kd_20 _ _ _) only [iq_194_0, iq_194_1, iq_194_2, iq_194_5, iq_194_8, iq_194_9, iq_194_10, iq_194_11, iq_194_12, iq_194_15, iq_194_18, iq_194_19, iq_194_21, iq_194_23, iq_194_24, iq_194_25, iq_194_26, iq_194_27, iq_194_28, iq_194_29, iq_194_32, iq_194_35, iq_194_37, gf_109_0, gf_109_1, gf_109_2, gf_109_3, gf_109_4, gf_109_5, gf_109_6, gf_109_7, gf_109_8, gf_109_9, gf_109_10, gf_109_11, gf_109_12, gf_109_13, gf_109_14, gf_109_15, gf_109_16, gf_109_17, gf_109_18, gf_109_19, gf_109_20, gf_109_21, gf_109_22, gf_109_23, gf_109_24, gf_109_25, gf_109_26, gf_109_27, gf_109_28, gf_109_29, gf_109_30, kd_109, ld_110_0, st_110_0, ld_110_1, st_110_1, ld_110_2, st_110_2, ld_110_3, st_110_3, ld_110_4, st_110_4, ld_110_5, st_110_5, ld_110_6, st_110_6, ld_110_7, st_110_7, ld_110_8, st_110_8, ld_110_9, st_110_9, ld_110_10, st_110_10, ld_110_11, st_110_11, ld_110_12, st_110_12, ld_110_75, st_110_75, Option.bind_some, Option.toList, List.cons_append, List.nil_append, ↓reduceIte, nI_1, Int32.reduceLT, Int32.reduceLE, dv_1, dv_2, dv_3, dv_4, dv_6, dv_8, dv_10, dv_20, dv_100, dv_200, dv_500, Bool.false_eq_true, rc_ee, rc_ge_0, rc_le_0, rc_ge_1, rc_le_1, rc_ge_2, rc_le_2, rc_ge_3, rc_le_3, rc_ge_4, rc_le_4, rc_ge_5, rc_le_5, rc_ge_9, rc_le_9, rc_ge_30, rc_le_30, rc_ge_40, rc_le_40, rc_ge_48, rc_le_48, rc_ge_50, rc_le_50, rc_ge_57, rc_le_57, rc_ge_60, rc_le_60, rc_ge_97, rc_le_97, rc_ge_100, rc_le_100, rc_ge_122, rc_le_122, rc_ge_9999, rc_le_9999, rc_ge_99999, rc_le_99999, rc_ge_m99999, rc_le_m99999, rc_ge_m1, rc_le_m1, rc_isBoat, hn', pb]
theorem ap_hands (hI : Inv c D) (b : Int32) : ap d L xs c D 51 [some (.ref 17), some (.int b), none] 195 [some (.ref 109), some (.int b)] := by
  obtain ⟨h0, ⟨n, m, hr, hv, htn, hh⟩, -⟩ := id hI
  have h35 := is_s35
  have hn9 := sv_n9 hv
  have hn : D 35 1 = nI n := hr.1.1.trans (sv_n hv)
  have hn' := sv_n hv
  have hs := fun d x => cc_has (sx_rom L xs) c D d n h35 hn hn9 x
  by_cases hb : ¬ b < 0 ∧ ¬ nI n - 1 < b
  · obtain ⟨j, hj, rfl⟩ := (nz_bt (by omega) _).mp hb
    have pb := eq_true hb
    have f2 : D 35 2 = D 110 3 := hr.1.2.1
    have r1 := su_gt c D h35 hn9 hr (nI j)
    refine ap_c (D 110 3) (mx_up D 35 (mx_up (mx_up (D 35) 2 (nI j)) 5 0)) (mx_up (mx_up D 35 (mx_up (mx_up (D 35) 2 (nI j)) 5 0)) 110 (sp_gt (D 110) (nI j))) ?_ ?_ ?_
    · simp (disch := first | assumption | omega | exact kd_sea _ _ _ (by assumption) | exact is_bts (by assumption) _ (by omega) | exact kd_bt _ _ _ (is_bts (by assumption) _ (by omega)) | exact kd_109 _ _ _ | exact kd_17 _ _ _ | exact kd_20 _ _ _) only [iq_51_0, iq_51_1, iq_51_4, iq_51_5, iq_51_8, iq_51_11, iq_51_13, iq_51_14, iq_51_15, iq_51_18, iq_51_21, iq_51_22, iq_51_23, iq_51_26, iq_51_27, iq_51_30, iq_51_31, gf_17_0, gf_17_1, gf_17_2, gf_17_3, gf_17_4, gf_17_5, gf_17_6, gf_17_7, gf_17_8, gf_17_9, gf_17_10, gf_17_11, gf_17_12, gf_17_13, kd_17, pf_17_4, pf_17_13, gf_sea_0, gf_sea_1, gf_sea_2, gf_sea_3, gf_sea_4, gf_sea_5, gf_sea_6, gf_sea_7, gf_sea_8, gf_sea_9, gf_sea_10, kd_sea, pf_sea_1, pf_sea_2, pf_sea_4, pf_sea_5, pf_sea_6, pf_sea_7, pf_sea_9, gf_bt_0, gf_bt_1, gf_bt_2, gf_bt_3, gf_bt_4, gf_bt_5, gf_bt_6, kd_bt, pf_bt_0, pf_bt_1, pf_bt_2, pf_bt_3, pf_bt_4, pf_bt_5, pf_bt_6, ld_rul, st_rul, ld_cnt, st_cnt, aa_bs, aa_tx, ru_0, ru_1, ru_2, ru_3, ru_4, su_r0, su_r1, su_r2, Option.bind_some, Option.toList, List.cons_append, List.nil_append, ↓reduceIte, nI_1, Int32.reduceLT, Int32.reduceLE, dv_1, dv_2, dv_3, dv_4, dv_6, dv_8, dv_10, dv_20, dv_100, dv_200, dv_500, Bool.false_eq_true, hs, pb, cc_give, f2]
    · unfold sp_gt
      simp (disch := first | assumption | omega | exact kd_sea _ _ _ (by assumption) | exact is_bts (by assumption) _ (by omega) | exact kd_bt _ _ _ (is_bts (by assumption) _ (by omega)) | exact kd_109 _ _ _ | exact kd_17 _ _ _ | exact kd_20 _ _ _) only [iq_195_0, iq_195_1, iq_195_2, iq_195_5, iq_195_8, iq_195_9, iq_195_10, iq_195_13, iq_195_16, iq_195_18, gf_109_0, gf_109_1, gf_109_2, gf_109_3, gf_109_4, gf_109_5, gf_109_6, gf_109_7, gf_109_8, gf_109_9, gf_109_10, gf_109_11, gf_109_12, gf_109_13, gf_109_14, gf_109_15, gf_109_16, gf_109_17, gf_109_18, gf_109_19, gf_109_20, gf_109_21, gf_109_22, gf_109_23, gf_109_24, gf_109_25, gf_109_26, gf_109_27, gf_109_28, gf_109_29, gf_109_30, kd_109, ld_110_0, st_110_0, ld_110_1, st_110_1, ld_110_2, st_110_2, ld_110_3, st_110_3, ld_110_4, st_110_4, ld_110_5, st_110_5, ld_110_6, st_110_6, ld_110_7, st_110_7, ld_110_8, st_110_8, ld_110_9, st_110_9, ld_110_10, st_110_10, ld_110_11, st_110_11, ld_110_12, st_110_12, ld_110_75, st_110_75, Option.bind_some, Option.toList, List.cons_append, List.nil_append, ↓reduceIte, nI_1, Int32.reduceLT, Int32.reduceLE, dv_1, dv_2, dv_3, dv_4, dv_6, dv_8, dv_10, dv_20, dv_100, dv_200, dv_500, Bool.false_eq_true, rc_ee, rc_ge_0, rc_le_0, rc_ge_1, rc_le_1, rc_ge_2, rc_le_2, rc_ge_3, rc_le_3, rc_ge_4, rc_le_4, rc_ge_5, rc_le_5, rc_ge_9, rc_le_9, rc_ge_30, rc_le_30, rc_ge_40, rc_le_40, rc_ge_48, rc_le_48, rc_ge_50, rc_le_50, rc_ge_57, rc_le_57, rc_ge_60, rc_le_60, rc_ge_97, rc_le_97, rc_ge_100, rc_le_100, rc_ge_122, rc_le_122, rc_ge_9999, rc_le_9999, rc_ge_99999, rc_le_99999, rc_ge_m99999, rc_le_m99999, rc_ge_m1, rc_le_m1, rc_isBoat, hn', up_s, up_up, up_n, ne_eq, Nat.reduceEqDiff, not_false_eq_true, pb, rc_goesTo]
    · refine Inv_sea1 hI (I_mk r1 (sv_gt hv j (by omega) (fun _ => hj) (fun z => by omega)) (fun t ht => ?_) ?_ (up_s _ _ _) (fun a ha => up_n _ _ _ _ (by omega))) (fun a ha => by rw [up_n _ _ _ _ (by omega), up_n _ _ _ _ (by omega)])
      · rw [up_n _ _ _ _ (by omega)]
        exact htn t ht
      · unfold sp_gt
        rw [up_n _ _ _ _ (by omega), up_n _ _ _ _ (by omega)]
        exact hh
  · have pb := eq_false hb
    refine ap_c (-1000000001) D D ?_ ?_ hI
    · simp (disch := first | assumption | omega | exact kd_sea _ _ _ (by assumption) | exact is_bts (by assumption) _ (by omega) | exact kd_bt _ _ _ (is_bts (by assumption) _ (by omega)) | exact kd_109 _ _ _ | exact kd_17 _ _ _ | exact kd_20 _ _ _) only [iq_51_0, iq_51_1, iq_51_4, iq_51_5, iq_51_8, iq_51_11, iq_51_13, iq_51_14, iq_51_15, iq_51_18, iq_51_21, iq_51_22, iq_51_23, iq_51_26, iq_51_27, iq_51_30, iq_51_31, gf_17_0, gf_17_1, gf_17_2, gf_17_3, gf_17_4, gf_17_5, gf_17_6, gf_17_7, gf_17_8, gf_17_9, gf_17_10, gf_17_11, gf_17_12, gf_17_13, kd_17, pf_17_4, pf_17_13, gf_sea_0, gf_sea_1, gf_sea_2, gf_sea_3, gf_sea_4, gf_sea_5, gf_sea_6, gf_sea_7, gf_sea_8, gf_sea_9, gf_sea_10, kd_sea, pf_sea_1, pf_sea_2, pf_sea_4, pf_sea_5, pf_sea_6, pf_sea_7, pf_sea_9, gf_bt_0, gf_bt_1, gf_bt_2, gf_bt_3, gf_bt_4, gf_bt_5, gf_bt_6, kd_bt, pf_bt_0, pf_bt_1, pf_bt_2, pf_bt_3, pf_bt_4, pf_bt_5, pf_bt_6, ld_rul, st_rul, ld_cnt, st_cnt, aa_bs, aa_tx, ru_0, ru_1, ru_2, ru_3, ru_4, su_r0, su_r1, su_r2, Option.bind_some, Option.toList, List.cons_append, List.nil_append, ↓reduceIte, nI_1, Int32.reduceLT, Int32.reduceLE, dv_1, dv_2, dv_3, dv_4, dv_6, dv_8, dv_10, dv_20, dv_100, dv_200, dv_500, Bool.false_eq_true, hs, pb]
    · simp (disch := first | assumption | omega | exact kd_sea _ _ _ (by assumption) | exact is_bts (by assumption) _ (by omega) | exact kd_bt _ _ _ (is_bts (by assumption) _ (by omega)) | exact kd_109 _ _ _ | exact kd_17 _ _ _ | exact kd_20 _ _ _) only [iq_195_0, iq_195_1, iq_195_2, iq_195_5, iq_195_8, iq_195_9, iq_195_10, iq_195_13, iq_195_16, iq_195_18, gf_109_0, gf_109_1, gf_109_2, gf_109_3, gf_109_4, gf_109_5, gf_109_6, gf_109_7, gf_109_8, gf_109_9, gf_109_10, gf_109_11, gf_109_12, gf_109_13, gf_109_14, gf_109_15, gf_109_16, gf_109_17, gf_109_18, gf_109_19, gf_109_20, gf_109_21, gf_109_22, gf_109_23, gf_109_24, gf_109_25, gf_109_26, gf_109_27, gf_109_28, gf_109_29, gf_109_30, kd_109, ld_110_0, st_110_0, ld_110_1, st_110_1, ld_110_2, st_110_2, ld_110_3, st_110_3, ld_110_4, st_110_4, ld_110_5, st_110_5, ld_110_6, st_110_6, ld_110_7, st_110_7, ld_110_8, st_110_8, ld_110_9, st_110_9, ld_110_10, st_110_10, ld_110_11, st_110_11, ld_110_12, st_110_12, ld_110_75, st_110_75, Option.bind_some, Option.toList, List.cons_append, List.nil_append, ↓reduceIte, nI_1, Int32.reduceLT, Int32.reduceLE, dv_1, dv_2, dv_3, dv_4, dv_6, dv_8, dv_10, dv_20, dv_100, dv_200, dv_500, Bool.false_eq_true, rc_ee, rc_ge_0, rc_le_0, rc_ge_1, rc_le_1, rc_ge_2, rc_le_2, rc_ge_3, rc_le_3, rc_ge_4, rc_le_4, rc_ge_5, rc_le_5, rc_ge_9, rc_le_9, rc_ge_30, rc_le_30, rc_ge_40, rc_le_40, rc_ge_48, rc_le_48, rc_ge_50, rc_le_50, rc_ge_57, rc_le_57, rc_ge_60, rc_le_60, rc_ge_97, rc_le_97, rc_ge_100, rc_le_100, rc_ge_122, rc_le_122, rc_ge_9999, rc_le_9999, rc_ge_99999, rc_le_99999, rc_ge_m99999, rc_le_m99999, rc_ge_m1, rc_le_m1, rc_isBoat, hn', pb]
theorem ap_speed (hI : Inv c D) : ap d L xs c D 57 [some (.ref 17)] 202 [some (.ref 109), none, none] := by
  obtain ⟨h0, ⟨n, m, hr, hv, htn, hh⟩, -⟩ := id hI
  have h35 := is_s35
  have hn9 := sv_n9 hv
  have hn : D 35 1 = nI n := hr.1.1.trans (sv_n hv)
  have hn' := sv_n hv
  have hs := fun d x => cc_has (sx_rom L xs) c D d n h35 hn hn9 x
  by_cases e : n = 0
  · have pb : (¬ D 35 2 < 0 ∧ ¬ nI n - 1 < D 35 2) = False := eq_false (fun z => by
      obtain ⟨j, hj, -⟩ := (nz_bt (by omega) _).mp z
      omega)
    refine ap_c 0 D D ?_ ?_ hI
    · simp (disch := first | assumption | omega | exact kd_sea _ _ _ (by assumption) | exact is_bts (by assumption) _ (by omega) | exact kd_bt _ _ _ (is_bts (by assumption) _ (by omega)) | exact kd_109 _ _ _ | exact kd_17 _ _ _ | exact kd_20 _ _ _) only [iq_57_0, iq_57_1, iq_57_4, iq_57_7, iq_58_0, iq_58_1, iq_58_2, iq_58_5, iq_58_8, iq_58_11, iq_58_12, iq_58_13, iq_58_14, iq_58_15, iq_58_16, iq_58_17, iq_58_18, iq_58_19, iq_58_22, iq_58_25, iq_58_26, iq_58_27, iq_58_30, iq_58_33, iq_58_34, iq_58_37, iq_58_38, iq_58_39, iq_58_42, iq_58_45, iq_58_46, iq_58_47, iq_58_50, iq_58_51, iq_58_52, iq_58_55, iq_58_56, iq_58_59, iq_58_60, iq_58_61, iq_58_64_1, iq_58_64_2, iq_58_64_3, iq_58_64_4, iq_58_64_7, iq_58_64_9, iq_58_67, iq_58_68, iq_58_69, iq_58_72, iq_58_75, iq_58_76, iq_58_77, iq_58_78, iq_58_81, iq_58_82, iq_58_85, iq_58_86, iq_58_89, iq_58_90, iq_58_91, iq_58_92, iq_58_93, iq_58_96, gf_17_0, gf_17_1, gf_17_2, gf_17_3, gf_17_4, gf_17_5, gf_17_6, gf_17_7, gf_17_8, gf_17_9, gf_17_10, gf_17_11, gf_17_12, gf_17_13, kd_17, pf_17_4, pf_17_13, gf_sea_0, gf_sea_1, gf_sea_2, gf_sea_3, gf_sea_4, gf_sea_5, gf_sea_6, gf_sea_7, gf_sea_8, gf_sea_9, gf_sea_10, kd_sea, pf_sea_1, pf_sea_2, pf_sea_4, pf_sea_5, pf_sea_6, pf_sea_7, pf_sea_9, gf_bt_0, gf_bt_1, gf_bt_2, gf_bt_3, gf_bt_4, gf_bt_5, gf_bt_6, kd_bt, pf_bt_0, pf_bt_1, pf_bt_2, pf_bt_3, pf_bt_4, pf_bt_5, pf_bt_6, ld_rul, st_rul, ld_cnt, st_cnt, aa_bs, aa_tx, ru_0, ru_1, ru_2, ru_3, ru_4, su_r0, su_r1, su_r2, Option.bind_some, Option.toList, List.cons_append, List.nil_append, ↓reduceIte, nI_1, Int32.reduceLT, Int32.reduceLE, dv_1, dv_2, dv_3, dv_4, dv_6, dv_8, dv_10, dv_20, dv_100, dv_200, dv_500, Bool.false_eq_true, hs, pb]
    · subst e
      simp (disch := first | assumption | omega | exact kd_sea _ _ _ (by assumption) | exact is_bts (by assumption) _ (by omega) | exact kd_bt _ _ _ (is_bts (by assumption) _ (by omega)) | exact kd_109 _ _ _ | exact kd_17 _ _ _ | exact kd_20 _ _ _) only [iq_202_0, iq_202_1, iq_202_4, iq_202_5, iq_202_6, iq_202_9, iq_202_10, iq_202_11, iq_202_12, iq_202_13, iq_202_14, iq_202_15, iq_202_16, iq_202_17, iq_202_20, iq_202_21, iq_202_22, iq_202_25, iq_202_26, iq_202_27, iq_202_28, iq_202_31, iq_202_32, iq_202_33, iq_202_36, iq_202_37, iq_202_38, iq_202_39, iq_202_42, iq_202_43, iq_202_46, iq_202_47, iq_202_48, iq_202_51, iq_202_54, iq_202_55, iq_202_56, iq_202_57, iq_202_60, iq_202_63, iq_202_64, iq_202_65, iq_202_68, iq_202_69, iq_202_70, iq_202_73, iq_202_74, iq_202_77, gf_109_0, gf_109_1, gf_109_2, gf_109_3, gf_109_4, gf_109_5, gf_109_6, gf_109_7, gf_109_8, gf_109_9, gf_109_10, gf_109_11, gf_109_12, gf_109_13, gf_109_14, gf_109_15, gf_109_16, gf_109_17, gf_109_18, gf_109_19, gf_109_20, gf_109_21, gf_109_22, gf_109_23, gf_109_24, gf_109_25, gf_109_26, gf_109_27, gf_109_28, gf_109_29, gf_109_30, kd_109, ld_110_0, st_110_0, ld_110_1, st_110_1, ld_110_2, st_110_2, ld_110_3, st_110_3, ld_110_4, st_110_4, ld_110_5, st_110_5, ld_110_6, st_110_6, ld_110_7, st_110_7, ld_110_8, st_110_8, ld_110_9, st_110_9, ld_110_10, st_110_10, ld_110_11, st_110_11, ld_110_12, st_110_12, ld_110_75, st_110_75, Option.bind_some, Option.toList, List.cons_append, List.nil_append, ↓reduceIte, nI_1, Int32.reduceLT, Int32.reduceLE, dv_1, dv_2, dv_3, dv_4, dv_6, dv_8, dv_10, dv_20, dv_100, dv_200, dv_500, Bool.false_eq_true, rc_ee, rc_ge_0, rc_le_0, rc_ge_1, rc_le_1, rc_ge_2, rc_le_2, rc_ge_3, rc_le_3, rc_ge_4, rc_le_4, rc_ge_5, rc_le_5, rc_ge_9, rc_le_9, rc_ge_30, rc_le_30, rc_ge_40, rc_le_40, rc_ge_48, rc_le_48, rc_ge_50, rc_le_50, rc_ge_57, rc_le_57, rc_ge_60, rc_le_60, rc_ge_97, rc_le_97, rc_ge_100, rc_le_100, rc_ge_122, rc_le_122, rc_ge_9999, rc_le_9999, rc_ge_99999, rc_le_99999, rc_ge_m99999, rc_le_m99999, rc_ge_m1, rc_le_m1, rc_isBoat, hn', nI_0]
  · have hn0 : (nI n = 0) = False := nz_ne_0 (by omega) (by omega)
    obtain ⟨D1, g1, f1⟩ := cc_pace (sx_rom L xs) c D (d + 96) h35 hr hv (by omega)
    have e110 : D1 110 = D 110 := f1 110 (by unfold Xt; omega)
    obtain ⟨D2, g2, f2⟩ := rc_speed (sx_rom L xs) c D1 (d + 97) n m (by rw [e110]; exact hv)
    rw [e110] at g2
    refine ap_c (sp_spd (D 110) n m) D1 D2 ?_ g2 (Inv_all hI (fun a ha => by rw [f2 a (by unfold Xs; omega), f1 a (by unfold Xt; omega)]))
    simp (disch := first | assumption | omega | exact kd_sea _ _ _ (by assumption) | exact is_bts (by assumption) _ (by omega) | exact kd_bt _ _ _ (is_bts (by assumption) _ (by omega)) | exact kd_109 _ _ _ | exact kd_17 _ _ _ | exact kd_20 _ _ _) only [iq_57_0, iq_57_1, iq_57_4, iq_57_7, gf_17_0, gf_17_1, gf_17_2, gf_17_3, gf_17_4, gf_17_5, gf_17_6, gf_17_7, gf_17_8, gf_17_9, gf_17_10, gf_17_11, gf_17_12, gf_17_13, kd_17, pf_17_4, pf_17_13, gf_sea_0, gf_sea_1, gf_sea_2, gf_sea_3, gf_sea_4, gf_sea_5, gf_sea_6, gf_sea_7, gf_sea_8, gf_sea_9, gf_sea_10, kd_sea, pf_sea_1, pf_sea_2, pf_sea_4, pf_sea_5, pf_sea_6, pf_sea_7, pf_sea_9, gf_bt_0, gf_bt_1, gf_bt_2, gf_bt_3, gf_bt_4, gf_bt_5, gf_bt_6, kd_bt, pf_bt_0, pf_bt_1, pf_bt_2, pf_bt_3, pf_bt_4, pf_bt_5, pf_bt_6, ld_rul, st_rul, ld_cnt, st_cnt, aa_bs, aa_tx, ru_0, ru_1, ru_2, ru_3, ru_4, su_r0, su_r1, su_r2, Option.bind_some, Option.toList, List.cons_append, List.nil_append, ↓reduceIte, nI_1, Int32.reduceLT, Int32.reduceLE, dv_1, dv_2, dv_3, dv_4, dv_6, dv_8, dv_10, dv_20, dv_100, dv_200, dv_500, Bool.false_eq_true, hs, g1]
