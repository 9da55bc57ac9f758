variable (R : Nat → Option mx_MC) (c : Nat × Nat) (D : hz_D) {B : Nat} {n m : Nat} {s : Nat → Int32}
theorem cc_toGo (d k : Nat) (hB : is_sea B) (hr : sea_rel c D B s n m) (hn9 : n ≤ 9) (hk : k < n) : mx_run d 71 0 [some (.ref (B + 5 + k))] [] (hp R c D) = some (some (.int (sp_tg s k)), hp R c D) := by
  obtain ⟨b0, b1, b2, b3, b4, b5, b6⟩ := hr.2.2.1 k hk
  unfold sp_tg
  simp (disch := first | assumption | omega | exact kd_sea _ _ _ (by assumption) | exact is_bts (by assumption) _ (by omega) | exact kd_bt _ _ _ (is_bts (by assumption) _ (by omega)) | exact kd_109 _ _ _ | exact kd_17 _ _ _ | exact kd_20 _ _ _) only [iq_71_0, iq_71_1, iq_71_4, iq_71_5, iq_71_8, iq_71_9, Option.bind_some, Option.toList, List.cons_append, List.nil_append, ↓reduceIte, nI_1, Int32.reduceLT, Int32.reduceLE, dv_1, dv_2, dv_3, dv_4, dv_6, dv_8, dv_10, dv_20, dv_100, dv_200, dv_500, gf_bt_0, gf_bt_1, gf_bt_2, gf_bt_3, gf_bt_4, gf_bt_5, gf_bt_6, kd_bt, pf_bt_0, pf_bt_1, pf_bt_2, pf_bt_3, pf_bt_4, pf_bt_5, pf_bt_6, b2, b3]
theorem cc_gain (d k : Nat) (hB : is_sea B) (hk : k < 9) : mx_run d 85 0 [some (.ref (B + 5 + k))] [] (hp R c D) = some (some (.int (D (B + 5 + k) 4 + D (B + 5 + k) 2)), hp R c D) := by
  simp (disch := first | assumption | omega | exact kd_sea _ _ _ (by assumption) | exact is_bts (by assumption) _ (by omega) | exact kd_bt _ _ _ (is_bts (by assumption) _ (by omega)) | exact kd_109 _ _ _ | exact kd_17 _ _ _ | exact kd_20 _ _ _) only [iq_85_0, iq_85_1, iq_85_4, iq_85_5, iq_85_8, iq_85_9, Option.bind_some, Option.toList, List.cons_append, List.nil_append, ↓reduceIte, nI_1, Int32.reduceLT, Int32.reduceLE, dv_1, dv_2, dv_3, dv_4, dv_6, dv_8, dv_10, dv_20, dv_100, dv_200, dv_500, gf_bt_0, gf_bt_1, gf_bt_2, gf_bt_3, gf_bt_4, gf_bt_5, gf_bt_6, kd_bt, pf_bt_0, pf_bt_1, pf_bt_2, pf_bt_3, pf_bt_4, pf_bt_5, pf_bt_6]
theorem cc_heav_lp (d : Nat) (hB : is_sea B) (hr : sea_rel c D B s n m) (hv : sv s n m) : ∀ i j : Nat, j + i = n → 0 < j → mx_run d 64 4 [some (.ref B), some (.int (nI (sp_hv s j))), some (.int (nI j))] [] (hp R c D) = some (some (.int (nI (sp_hv s n))), hp R c D) := by
  have hn : D B 1 = nI n := hr.1.1.trans (sv_n hv)
  have hn9 := sv_n9 hv
  intro i
  induction i with
  | zero =>
    intro j hj h0
    obtain rfl : j = n := by omega
    rw [iq_64_4]
    simp (disch := first | assumption | omega | exact kd_sea _ _ _ (by assumption) | exact is_bts (by assumption) _ (by omega) | exact kd_bt _ _ _ (is_bts (by assumption) _ (by omega)) | exact kd_109 _ _ _ | exact kd_17 _ _ _ | exact kd_20 _ _ _) only [iq_64_0, iq_64_1, iq_64_2, iq_64_3, iq_64_5, iq_64_6, iq_64_9, iq_64_12, iq_64_13, iq_64_16, iq_64_17, iq_64_18, iq_64_21, iq_64_22, iq_64_25, iq_64_26, iq_64_27, iq_64_30, iq_64_33, iq_64_34, iq_64_35, iq_64_38, iq_64_41, iq_64_42, Option.bind_some, Option.toList, List.cons_append, List.nil_append, ↓reduceIte, nI_1, Int32.reduceLT, Int32.reduceLE, dv_1, dv_2, dv_3, dv_4, dv_6, dv_8, dv_10, dv_20, dv_100, dv_200, dv_500, gf_sea_0, gf_sea_1, gf_sea_2, gf_sea_3, gf_sea_4, gf_sea_5, gf_sea_6, gf_sea_7, gf_sea_8, gf_sea_9, gf_sea_10, kd_sea, pf_sea_1, pf_sea_2, pf_sea_4, pf_sea_5, pf_sea_6, pf_sea_7, pf_sea_9, hn, nz_lt, nz_nlt, nz_eq, nz_ne]
  | succ i ih =>
    intro j hj h0
    have hb : sp_hv s j < j := sp_mx_lt _ j h0
    obtain ⟨b0, b1, b2, b3, b4, b5, b6⟩ := hr.2.2.1 j (by omega)
    obtain ⟨x0, x1, x2, x3, x4, x5, x6⟩ := hr.2.2.1 (sp_hv s j) (by omega)
    rw [iq_64_4, ← ih (j + 1) (by omega) (by omega), sp_hv_s]
    by_cases hc : s (12 + 7 * sp_hv s j + 1) < s (12 + 7 * j + 1)
    · simp (disch := first | assumption | omega | exact kd_sea _ _ _ (by assumption) | exact is_bts (by assumption) _ (by omega) | exact kd_bt _ _ _ (is_bts (by assumption) _ (by omega)) | exact kd_109 _ _ _ | exact kd_17 _ _ _ | exact kd_20 _ _ _) only [iq_64_0, iq_64_1, iq_64_2, iq_64_3, iq_64_5, iq_64_6, iq_64_9, iq_64_12, iq_64_13, iq_64_16, iq_64_17, iq_64_18, iq_64_21, iq_64_22, iq_64_25, iq_64_26, iq_64_27, iq_64_30, iq_64_33, iq_64_34, iq_64_35, iq_64_38, iq_64_41, iq_64_42, Option.bind_some, Option.toList, List.cons_append, List.nil_append, ↓reduceIte, nI_1, Int32.reduceLT, Int32.reduceLE, dv_1, dv_2, dv_3, dv_4, dv_6, dv_8, dv_10, dv_20, dv_100, dv_200, dv_500, gf_sea_0, gf_sea_1, gf_sea_2, gf_sea_3, gf_sea_4, gf_sea_5, gf_sea_6, gf_sea_7, gf_sea_8, gf_sea_9, gf_sea_10, kd_sea, pf_sea_1, pf_sea_2, pf_sea_4, pf_sea_5, pf_sea_6, pf_sea_7, pf_sea_9, gf_bt_0, gf_bt_1, gf_bt_2, gf_bt_3, gf_bt_4, gf_bt_5, gf_bt_6, kd_bt, pf_bt_0, pf_bt_1, pf_bt_2, pf_bt_3, pf_bt_4, pf_bt_5, pf_bt_6, ld_rul, st_rul, ld_cnt, st_cnt, aa_bs, aa_tx, ru_0, ru_1, ru_2, ru_3, ru_4, su_r0, su_r1, su_r2, hn, nz_lt, nz_nlt, nz_eq, nz_ne, b1, x1, hc]
    · simp (disch := first | assumption | omega | exact kd_sea _ _ _ (by assumption) | exact is_bts (by assumption) _ (by omega) | exact kd_bt _ _ _ (is_bts (by assumption) _ (by omega)) | exact kd_109 _ _ _ | exact kd_17 _ _ _ | exact kd_20 _ _ _) only [iq_64_0, iq_64_1, iq_64_2, iq_64_3, iq_64_5, iq_64_6, iq_64_9, iq_64_12, iq_64_13, iq_64_16, iq_64_17, iq_64_18, iq_64_21, iq_64_22, iq_64_25, iq_64_26, iq_64_27, iq_64_30, iq_64_33, iq_64_34, iq_64_35, iq_64_38, iq_64_41, iq_64_42, Option.bind_some, Option.toList, List.cons_append, List.nil_append, ↓reduceIte, nI_1, Int32.reduceLT, Int32.reduceLE, dv_1, dv_2, dv_3, dv_4, dv_6, dv_8, dv_10, dv_20, dv_100, dv_200, dv_500, gf_sea_0, gf_sea_1, gf_sea_2, gf_sea_3, gf_sea_4, gf_sea_5, gf_sea_6, gf_sea_7, gf_sea_8, gf_sea_9, gf_sea_10, kd_sea, pf_sea_1, pf_sea_2, pf_sea_4, pf_sea_5, pf_sea_6, pf_sea_7, pf_sea_9, gf_bt_0, gf_bt_1, gf_bt_2, gf_bt_3, gf_bt_4, gf_bt_5, gf_bt_6, kd_bt, pf_bt_0, pf_bt_1, pf_bt_2, pf_bt_3, pf_bt_4, pf_bt_5, pf_bt_6, ld_rul, st_rul, ld_cnt, st_cnt, aa_bs, aa_tx, ru_0, ru_1, ru_2, ru_3, ru_4, su_r0, su_r1, su_r2, hn, nz_lt, nz_nlt, nz_eq, nz_ne, b1, x1, hc]
theorem cc_heav (d : Nat) (hB : is_sea B) (hr : sea_rel c D B s n m) (hv : sv s n m) (h0 : 0 < n) : mx_run d 64 0 [some (.ref B), none, none] [] (hp R c D) = some (some (.int (nI (sp_hv s n))), hp R c D) := by
  simp only [iq_64_0, iq_64_1, iq_64_2, iq_64_3]
  rw [← cc_heav_lp R c D d hB hr hv (n - 1) 1 (by omega) (by omega)]
  unfold sp_hv
  rw [sp_mx1]
  rfl
theorem cc_last_lp (d : Nat) (hB : is_sea B) (hr : sea_rel c D B s n m) (hv : sv s n m) : ∀ i j : Nat, j + i = n → 0 < j → mx_run d 69 4 [some (.ref B), some (.int (nI (sp_lp s j))), some (.int (nI j))] [] (hp R c D) = some (some (.int (nI (sp_lp s n))), hp R c D) := by
  have hn : D B 1 = nI n := hr.1.1.trans (sv_n hv)
  have hn9 := sv_n9 hv
  intro i
  induction i with
  | zero =>
    intro j hj h0
    obtain rfl : j = n := by omega
    rw [iq_69_4]
    simp (disch := first | assumption | omega | exact kd_sea _ _ _ (by assumption) | exact is_bts (by assumption) _ (by omega) | exact kd_bt _ _ _ (is_bts (by assumption) _ (by omega)) | exact kd_109 _ _ _ | exact kd_17 _ _ _ | exact kd_20 _ _ _) only [iq_69_0, iq_69_1, iq_69_2, iq_69_3, iq_69_5, iq_69_6, iq_69_9, iq_69_12, iq_69_13, iq_69_16, iq_69_17, iq_69_18, iq_69_21, iq_69_22, iq_69_25, iq_69_26, iq_69_27, iq_69_30, iq_69_33, iq_69_34, iq_69_35, iq_69_38, iq_69_41, iq_69_42, Option.bind_some, Option.toList, List.cons_append, List.nil_append, ↓reduceIte, nI_1, Int32.reduceLT, Int32.reduceLE, dv_1, dv_2, dv_3, dv_4, dv_6, dv_8, dv_10, dv_20, dv_100, dv_200, dv_500, gf_sea_0, gf_sea_1, gf_sea_2, gf_sea_3, gf_sea_4, gf_sea_5, gf_sea_6, gf_sea_7, gf_sea_8, gf_sea_9, gf_sea_10, kd_sea, pf_sea_1, pf_sea_2, pf_sea_4, pf_sea_5, pf_sea_6, pf_sea_7, pf_sea_9, hn, nz_lt, nz_nlt, nz_eq, nz_ne]
  | succ i ih =>
    intro j hj h0
    have hb : sp_lp s j < j := sp_mn_lt _ j h0
    obtain ⟨b0, b1, b2, b3, b4, b5, b6⟩ := hr.2.2.1 j (by omega)
    obtain ⟨x0, x1, x2, x3, x4, x5, x6⟩ := hr.2.2.1 (sp_lp s j) (by omega)
    rw [iq_69_4, ← ih (j + 1) (by omega) (by omega), sp_lp_s]
    by_cases hc : s (12 + 7 * j + 2) < s (12 + 7 * sp_lp s j + 2)
    · simp (disch := first | assumption | omega | exact kd_sea _ _ _ (by assumption) | exact is_bts (by assumption) _ (by omega) | exact kd_bt _ _ _ (is_bts (by assumption) _ (by omega)) | exact kd_109 _ _ _ | exact kd_17 _ _ _ | exact kd_20 _ _ _) only [iq_69_0, iq_69_1, iq_69_2, iq_69_3, iq_69_5, iq_69_6, iq_69_9, iq_69_12, iq_69_13, iq_69_16, iq_69_17, iq_69_18, iq_69_21, iq_69_22, iq_69_25, iq_69_26, iq_69_27, iq_69_30, iq_69_33, iq_69_34, iq_69_35, iq_69_38, iq_69_41, iq_69_42, Option.bind_some, Option.toList, List.cons_append, List.nil_append, ↓reduceIte, nI_1, Int32.reduceLT, Int32.reduceLE, dv_1, dv_2, dv_3, dv_4, dv_6, dv_8, dv_10, dv_20, dv_100, dv_200, dv_500, gf_sea_0, gf_sea_1, gf_sea_2, gf_sea_3, gf_sea_4, gf_sea_5, gf_sea_6, gf_sea_7, gf_sea_8, gf_sea_9, gf_sea_10, kd_sea, pf_sea_1, pf_sea_2, pf_sea_4, pf_sea_5, pf_sea_6, pf_sea_7, pf_sea_9, gf_bt_0, gf_bt_1, gf_bt_2, gf_bt_3, gf_bt_4, gf_bt_5, gf_bt_6, kd_bt, pf_bt_0, pf_bt_1, pf_bt_2, pf_bt_3, pf_bt_4, pf_bt_5, pf_bt_6, ld_rul, st_rul, ld_cnt, st_cnt, aa_bs, aa_tx, ru_0, ru_1, ru_2, ru_3, ru_4, su_r0, su_r1, su_r2, hn, nz_lt, nz_nlt, nz_eq, nz_ne, b2, x2, hc]
    · simp (disch := first | assumption | omega | exact kd_sea _ _ _ (by assumption) | exact is_bts (by assumption) _ (by omega) | exact kd_bt _ _ _ (is_bts (by assumption) _ (by omega)) | exact kd_109 _ _ _ | exact kd_17 _ _ _ | exact kd_20 _ _ _) only [iq_69_0, iq_69_1, iq_69_2, iq_69_3, iq_69_5, iq_69_6, iq_69_9, iq_69_12, iq_69_13, iq_69_16, iq_69_17, iq_69_18, iq_69_21, iq_69_22, iq_69_25, iq_69_26, iq_69_27, iq_69_30, iq_69_33, iq_69_34, iq_69_35, iq_69_38, iq_69_41, iq_69_42, Option.bind_some, Option.toList, List.cons_append, List.nil_append, ↓reduceIte, nI_1, Int32.reduceLT, Int32.reduceLE, dv_1, dv_2, dv_3, dv_4, dv_6, dv_8, dv_10, dv_20, dv_100, dv_200, dv_500, gf_sea_0, gf_sea_1, gf_sea_2, gf_sea_3, gf_sea_4, gf_sea_5, gf_sea_6, gf_sea_7, gf_sea_8, gf_sea_9, gf_sea_10, kd_sea, pf_sea_1, pf_sea_2, pf_sea_4, pf_sea_5, pf_sea_6, pf_sea_7, pf_sea_9, gf_bt_0, gf_bt_1, gf_bt_2, gf_bt_3, gf_bt_4, gf_bt_5, gf_bt_6, kd_bt, pf_bt_0, pf_bt_1, pf_bt_2, pf_bt_3, pf_bt_4, pf_bt_5, pf_bt_6, ld_rul, st_rul, ld_cnt, st_cnt, aa_bs, aa_tx, ru_0, ru_1, ru_2, ru_3, ru_4, su_r0, su_r1, su_r2, hn, nz_lt, nz_nlt, nz_eq, nz_ne, b2, x2, hc]
theorem cc_last (d : Nat) (hB : is_sea B) (hr : sea_rel c D B s n m) (hv : sv s n m) (h0 : 0 < n) : mx_run d 69 0 [some (.ref B), none, none] [] (hp R c D) = some (some (.int (nI (sp_lp s n))), hp R c D) := by
  simp only [iq_69_0, iq_69_1, iq_69_2, iq_69_3]
  rw [← cc_last_lp R c D d hB hr hv (n - 1) 1 (by omega) (by omega)]
  unfold sp_lp
  rw [sp_mn1]
  rfl
theorem cc_farth_lp (d : Nat) (hB : is_sea B) (hr : sea_rel c D B s n m) (hv : sv s n m) : ∀ i j : Nat, j + i = n → 0 < j → mx_run (d + 1) 70 4 [some (.ref B), some (.int (nI (sp_mg s j))), some (.int (nI j))] [] (hp R c D) = some (some (.int (nI (sp_mg s n))), hp R c D) := by
  have hn : D B 1 = nI n := hr.1.1.trans (sv_n hv)
  have hn9 := sv_n9 hv
  intro i
  induction i with
  | zero =>
    intro j hj h0
    obtain rfl : j = n := by omega
    rw [iq_70_4]
    simp (disch := first | assumption | omega | exact kd_sea _ _ _ (by assumption) | exact is_bts (by assumption) _ (by omega) | exact kd_bt _ _ _ (is_bts (by assumption) _ (by omega)) | exact kd_109 _ _ _ | exact kd_17 _ _ _ | exact kd_20 _ _ _) only [iq_70_0, iq_70_1, iq_70_2, iq_70_3, iq_70_5, iq_70_6, iq_70_9, iq_70_12, iq_70_13, iq_70_16, iq_70_17, iq_70_18, iq_70_21, iq_70_22, iq_70_25, iq_70_26, iq_70_27, iq_70_30, iq_70_33, iq_70_34, iq_70_35, iq_70_38, iq_70_41, iq_70_42, Option.bind_some, Option.toList, List.cons_append, List.nil_append, ↓reduceIte, nI_1, Int32.reduceLT, Int32.reduceLE, dv_1, dv_2, dv_3, dv_4, dv_6, dv_8, dv_10, dv_20, dv_100, dv_200, dv_500, gf_sea_0, gf_sea_1, gf_sea_2, gf_sea_3, gf_sea_4, gf_sea_5, gf_sea_6, gf_sea_7, gf_sea_8, gf_sea_9, gf_sea_10, kd_sea, pf_sea_1, pf_sea_2, pf_sea_4, pf_sea_5, pf_sea_6, pf_sea_7, pf_sea_9, hn, nz_lt, nz_nlt, nz_eq, nz_ne]
  | succ i ih =>
    intro j hj h0
    have hb : sp_mg s j < j := sp_mx_lt _ j h0
    rw [iq_70_4, ← ih (j + 1) (by omega) (by omega), sp_mg_s]
    by_cases hc : sp_tg s (sp_mg s j) < sp_tg s j
    · simp (disch := first | assumption | omega | exact kd_sea _ _ _ (by assumption) | exact is_bts (by assumption) _ (by omega) | exact kd_bt _ _ _ (is_bts (by assumption) _ (by omega)) | exact kd_109 _ _ _ | exact kd_17 _ _ _ | exact kd_20 _ _ _) only [iq_70_0, iq_70_1, iq_70_2, iq_70_3, iq_70_5, iq_70_6, iq_70_9, iq_70_12, iq_70_13, iq_70_16, iq_70_17, iq_70_18, iq_70_21, iq_70_22, iq_70_25, iq_70_26, iq_70_27, iq_70_30, iq_70_33, iq_70_34, iq_70_35, iq_70_38, iq_70_41, iq_70_42, Option.bind_some, Option.toList, List.cons_append, List.nil_append, ↓reduceIte, nI_1, Int32.reduceLT, Int32.reduceLE, dv_1, dv_2, dv_3, dv_4, dv_6, dv_8, dv_10, dv_20, dv_100, dv_200, dv_500, gf_sea_0, gf_sea_1, gf_sea_2, gf_sea_3, gf_sea_4, gf_sea_5, gf_sea_6, gf_sea_7, gf_sea_8, gf_sea_9, gf_sea_10, kd_sea, pf_sea_1, pf_sea_2, pf_sea_4, pf_sea_5, pf_sea_6, pf_sea_7, pf_sea_9, gf_bt_0, gf_bt_1, gf_bt_2, gf_bt_3, gf_bt_4, gf_bt_5, gf_bt_6, kd_bt, pf_bt_0, pf_bt_1, pf_bt_2, pf_bt_3, pf_bt_4, pf_bt_5, pf_bt_6, ld_rul, st_rul, ld_cnt, st_cnt, aa_bs, aa_tx, ru_0, ru_1, ru_2, ru_3, ru_4, su_r0, su_r1, su_r2, hn, nz_lt, nz_nlt, nz_eq, nz_ne, cc_toGo R c D d j hB hr hn9 (by omega), cc_toGo R c D d (sp_mg s j) hB hr hn9 (by omega), hc]
    · simp (disch := first | assumption | omega | exact kd_sea _ _ _ (by assumption) | exact is_bts (by assumption) _ (by omega) | exact kd_bt _ _ _ (is_bts (by assumption) _ (by omega)) | exact kd_109 _ _ _ | exact kd_17 _ _ _ | exact kd_20 _ _ _) only [iq_70_0, iq_70_1, iq_70_2, iq_70_3, iq_70_5, iq_70_6, iq_70_9, iq_70_12, iq_70_13, iq_70_16, iq_70_17, iq_70_18, iq_70_21, iq_70_22, iq_70_25, iq_70_26, iq_70_27, iq_70_30, iq_70_33, iq_70_34, iq_70_35, iq_70_38, iq_70_41, iq_70_42, Option.bind_some, Option.toList, List.cons_append, List.nil_append, ↓reduceIte, nI_1, Int32.reduceLT, Int32.reduceLE, dv_1, dv_2, dv_3, dv_4, dv_6, dv_8, dv_10, dv_20, dv_100, dv_200, dv_500, gf_sea_0, gf_sea_1, gf_sea_2, gf_sea_3, gf_sea_4, gf_sea_5, gf_sea_6, gf_sea_7, gf_sea_8, gf_sea_9, gf_sea_10, kd_sea, pf_sea_1, pf_sea_2, pf_sea_4, pf_sea_5, pf_sea_6, pf_sea_7, pf_sea_9, gf_bt_0, gf_bt_1, gf_bt_2, gf_bt_3, gf_bt_4, gf_bt_5, gf_bt_6, kd_bt, pf_bt_0, pf_bt_1, pf_bt_2, pf_bt_3, pf_bt_4, pf_bt_5, pf_bt_6, ld_rul, st_rul, ld_cnt, st_cnt, aa_bs, aa_tx, ru_0, ru_1, ru_2, ru_3, ru_4, su_r0, su_r1, su_r2, hn, nz_lt, nz_nlt, nz_eq, nz_ne, cc_toGo R c D d j hB hr hn9 (by omega), cc_toGo R c D d (sp_mg s j) hB hr hn9 (by omega), hc]
theorem cc_farth (d : Nat) (hB : is_sea B) (hr : sea_rel c D B s n m) (hv : sv s n m) (h0 : 0 < n) : mx_run (d + 1) 70 0 [some (.ref B), none, none] [] (hp R c D) = some (some (.int (nI (sp_mg s n))), hp R c D) := by
  simp only [iq_70_0, iq_70_1, iq_70_2, iq_70_3]
  rw [← cc_farth_lp R c D d hB hr hv (n - 1) 1 (by omega) (by omega)]
  unfold sp_mg
  rw [sp_mx1]
  rfl
theorem cc_caught_lp (d : Nat) (hB : is_sea B) (hr : sea_rel c D B s n m) (hv : sv s n m) : ∀ i j : Nat, j + i = n → mx_run d 60 4 [some (.ref B), some (.int (sp_sum s 4 j)), some (.int (nI j))] [] (hp R c D) = some (some (.int (sp_sum s 4 n)), hp R c D) := by
  have hn : D B 1 = nI n := hr.1.1.trans (sv_n hv)
  have hn9 := sv_n9 hv
  intro i
  induction i with
  | zero =>
    intro j hj
    obtain rfl : j = n := by omega
    rw [iq_60_4]
    simp (disch := first | assumption | omega | exact kd_sea _ _ _ (by assumption) | exact is_bts (by assumption) _ (by omega) | exact kd_bt _ _ _ (is_bts (by assumption) _ (by omega)) | exact kd_109 _ _ _ | exact kd_17 _ _ _ | exact kd_20 _ _ _) only [iq_60_0, iq_60_1, iq_60_2, iq_60_3, iq_60_5, iq_60_6, iq_60_9, iq_60_12, iq_60_13, iq_60_14, iq_60_17, iq_60_18, iq_60_19, iq_60_22, iq_60_23, iq_60_24, iq_60_27, iq_60_30, iq_60_31, Option.bind_some, Option.toList, List.cons_append, List.nil_append, ↓reduceIte, nI_1, Int32.reduceLT, Int32.reduceLE, dv_1, dv_2, dv_3, dv_4, dv_6, dv_8, dv_10, dv_20, dv_100, dv_200, dv_500, gf_sea_0, gf_sea_1, gf_sea_2, gf_sea_3, gf_sea_4, gf_sea_5, gf_sea_6, gf_sea_7, gf_sea_8, gf_sea_9, gf_sea_10, kd_sea, pf_sea_1, pf_sea_2, pf_sea_4, pf_sea_5, pf_sea_6, pf_sea_7, pf_sea_9, hn, nz_lt, nz_nlt, nz_eq, nz_ne]
  | succ i ih =>
    intro j hj
    obtain ⟨b0, b1, b2, b3, b4, b5, b6⟩ := hr.2.2.1 j (by omega)
    rw [iq_60_4]
    simp (disch := first | assumption | omega | exact kd_sea _ _ _ (by assumption) | exact is_bts (by assumption) _ (by omega) | exact kd_bt _ _ _ (is_bts (by assumption) _ (by omega)) | exact kd_109 _ _ _ | exact kd_17 _ _ _ | exact kd_20 _ _ _) only [iq_60_0, iq_60_1, iq_60_2, iq_60_3, iq_60_5, iq_60_6, iq_60_9, iq_60_12, iq_60_13, iq_60_14, iq_60_17, iq_60_18, iq_60_19, iq_60_22, iq_60_23, iq_60_24, iq_60_27, iq_60_30, iq_60_31, Option.bind_some, Option.toList, List.cons_append, List.nil_append, ↓reduceIte, nI_1, Int32.reduceLT, Int32.reduceLE, dv_1, dv_2, dv_3, dv_4, dv_6, dv_8, dv_10, dv_20, dv_100, dv_200, dv_500, gf_sea_0, gf_sea_1, gf_sea_2, gf_sea_3, gf_sea_4, gf_sea_5, gf_sea_6, gf_sea_7, gf_sea_8, gf_sea_9, gf_sea_10, kd_sea, pf_sea_1, pf_sea_2, pf_sea_4, pf_sea_5, pf_sea_6, pf_sea_7, pf_sea_9, gf_bt_0, gf_bt_1, gf_bt_2, gf_bt_3, gf_bt_4, gf_bt_5, gf_bt_6, kd_bt, pf_bt_0, pf_bt_1, pf_bt_2, pf_bt_3, pf_bt_4, pf_bt_5, pf_bt_6, ld_rul, st_rul, ld_cnt, st_cnt, aa_bs, aa_tx, ru_0, ru_1, ru_2, ru_3, ru_4, su_r0, su_r1, su_r2, hn, nz_lt, nz_nlt, nz_eq, nz_ne, b4]
    exact ih (j + 1) (by omega)
theorem cc_caught (d : Nat) (hB : is_sea B) (hr : sea_rel c D B s n m) (hv : sv s n m) : mx_run d 60 0 [some (.ref B), none, none] [] (hp R c D) = some (some (.int (sp_sum s 4 n)), hp R c D) := by
  simp only [iq_60_0, iq_60_1, iq_60_2, iq_60_3]
  exact cc_caught_lp R c D d hB hr hv n 0 (by omega)
theorem cc_places_lp (d : Nat) (hB : is_sea B) (hr : sea_rel c D B s n m) (hv : sv s n m) : ∀ i j : Nat, j + i = n → mx_run d 73 4 [some (.ref B), some (.int (sp_sum s 2 j)), some (.int (nI j))] [] (hp R c D) = some (some (.int (sp_sum s 2 n)), hp R c D) := by
  have hn : D B 1 = nI n := hr.1.1.trans (sv_n hv)
  have hn9 := sv_n9 hv
  intro i
  induction i with
  | zero =>
    intro j hj
    obtain rfl : j = n := by omega
    rw [iq_73_4]
    simp (disch := first | assumption | omega | exact kd_sea _ _ _ (by assumption) | exact is_bts (by assumption) _ (by omega) | exact kd_bt _ _ _ (is_bts (by assumption) _ (by omega)) | exact kd_109 _ _ _ | exact kd_17 _ _ _ | exact kd_20 _ _ _) only [iq_73_0, iq_73_1, iq_73_2, iq_73_3, iq_73_5, iq_73_6, iq_73_9, iq_73_12, iq_73_13, iq_73_14, iq_73_17, iq_73_18, iq_73_19, iq_73_22, iq_73_23, iq_73_24, iq_73_27, iq_73_30, iq_73_31, Option.bind_some, Option.toList, List.cons_append, List.nil_append, ↓reduceIte, nI_1, Int32.reduceLT, Int32.reduceLE, dv_1, dv_2, dv_3, dv_4, dv_6, dv_8, dv_10, dv_20, dv_100, dv_200, dv_500, gf_sea_0, gf_sea_1, gf_sea_2, gf_sea_3, gf_sea_4, gf_sea_5, gf_sea_6, gf_sea_7, gf_sea_8, gf_sea_9, gf_sea_10, kd_sea, pf_sea_1, pf_sea_2, pf_sea_4, pf_sea_5, pf_sea_6, pf_sea_7, pf_sea_9, hn, nz_lt, nz_nlt, nz_eq, nz_ne]
  | succ i ih =>
    intro j hj
    obtain ⟨b0, b1, b2, b3, b4, b5, b6⟩ := hr.2.2.1 j (by omega)
    rw [iq_73_4]
    simp (disch := first | assumption | omega | exact kd_sea _ _ _ (by assumption) | exact is_bts (by assumption) _ (by omega) | exact kd_bt _ _ _ (is_bts (by assumption) _ (by omega)) | exact kd_109 _ _ _ | exact kd_17 _ _ _ | exact kd_20 _ _ _) only [iq_73_0, iq_73_1, iq_73_2, iq_73_3, iq_73_5, iq_73_6, iq_73_9, iq_73_12, iq_73_13, iq_73_14, iq_73_17, iq_73_18, iq_73_19, iq_73_22, iq_73_23, iq_73_24, iq_73_27, iq_73_30, iq_73_31, Option.bind_some, Option.toList, List.cons_append, List.nil_append, ↓reduceIte, nI_1, Int32.reduceLT, Int32.reduceLE, dv_1, dv_2, dv_3, dv_4, dv_6, dv_8, dv_10, dv_20, dv_100, dv_200, dv_500, gf_sea_0, gf_sea_1, gf_sea_2, gf_sea_3, gf_sea_4, gf_sea_5, gf_sea_6, gf_sea_7, gf_sea_8, gf_sea_9, gf_sea_10, kd_sea, pf_sea_1, pf_sea_2, pf_sea_4, pf_sea_5, pf_sea_6, pf_sea_7, pf_sea_9, gf_bt_0, gf_bt_1, gf_bt_2, gf_bt_3, gf_bt_4, gf_bt_5, gf_bt_6, kd_bt, pf_bt_0, pf_bt_1, pf_bt_2, pf_bt_3, pf_bt_4, pf_bt_5, pf_bt_6, ld_rul, st_rul, ld_cnt, st_cnt, aa_bs, aa_tx, ru_0, ru_1, ru_2, ru_3, ru_4, su_r0, su_r1, su_r2, hn, nz_lt, nz_nlt, nz_eq, nz_ne, b2]
    exact ih (j + 1) (by omega)
theorem cc_places (d : Nat) (hB : is_sea B) (hr : sea_rel c D B s n m) (hv : sv s n m) : mx_run d 73 0 [some (.ref B), none, none] [] (hp R c D) = some (some (.int (sp_sum s 2 n)), hp R c D) := by
  simp only [iq_73_0, iq_73_1, iq_73_2, iq_73_3]
  exact cc_places_lp R c D d hB hr hv n 0 (by omega)
theorem i3_or0 (x : Int32) : x ||| 0 = x := by
  exact Int32.or_zero
theorem i3_0shl (k : Nat) (hk : k < 9) : (0 : Int32) <<< (nI k &&& 31) = 0 := by
  have : ∀ k : Nat, k < 9 → (0 : Int32) <<< (nI k &&& 31) = 0 := by decide
  exact this k hk
theorem cc_tied_lp (d : Nat) (hB : is_sea B) (hr : sea_rel c D B s n m) (hv : sv s n m) : ∀ i j : Nat, j + i = n → mx_run d 74 4 [some (.ref B), some (.int (sp_tie s j)), some (.int (nI j))] [] (hp R c D) = some (some (.int (sp_tie s n)), hp R c D) := by
  have hn : D B 1 = nI n := hr.1.1.trans (sv_n hv)
  have hn9 := sv_n9 hv
  intro i
  induction i with
  | zero =>
    intro j hj
    obtain rfl : j = n := by omega
    rw [iq_74_4]
    simp (disch := first | assumption | omega | exact kd_sea _ _ _ (by assumption) | exact is_bts (by assumption) _ (by omega) | exact kd_bt _ _ _ (is_bts (by assumption) _ (by omega)) | exact kd_109 _ _ _ | exact kd_17 _ _ _ | exact kd_20 _ _ _) only [iq_74_0, iq_74_1, iq_74_2, iq_74_3, iq_74_5, iq_74_6, iq_74_9, iq_74_12, iq_74_13, iq_74_16, iq_74_17, iq_74_18, iq_74_21, iq_74_24, iq_74_25, iq_74_26, iq_74_27, iq_74_28, iq_74_29, iq_74_30, iq_74_33, iq_74_36, iq_74_37, Option.bind_some, Option.toList, List.cons_append, List.nil_append, ↓reduceIte, nI_1, Int32.reduceLT, Int32.reduceLE, dv_1, dv_2, dv_3, dv_4, dv_6, dv_8, dv_10, dv_20, dv_100, dv_200, dv_500, gf_sea_0, gf_sea_1, gf_sea_2, gf_sea_3, gf_sea_4, gf_sea_5, gf_sea_6, gf_sea_7, gf_sea_8, gf_sea_9, gf_sea_10, kd_sea, pf_sea_1, pf_sea_2, pf_sea_4, pf_sea_5, pf_sea_6, pf_sea_7, pf_sea_9, hn, nz_lt, nz_nlt, nz_eq, nz_ne]
  | succ i ih =>
    intro j hj
    obtain ⟨b0, b1, b2, b3, b4, b5, b6⟩ := hr.2.2.1 j (by omega)
    obtain ⟨-, -, -, ht⟩ := hv.2.2.2.2.2.1 j (by omega)
    rw [iq_74_4, ← ih (j + 1) (by omega)]
    show _ = mx_run d 74 4 [some (.ref B), some (.int (sp_tie s j ||| (s (12 + 7 * j + 5) <<< (nI j &&& 31)))), _] _ _
    rcases ht with ht | ht
    · simp (disch := first | assumption | omega | exact kd_sea _ _ _ (by assumption) | exact is_bts (by assumption) _ (by omega) | exact kd_bt _ _ _ (is_bts (by assumption) _ (by omega)) | exact kd_109 _ _ _ | exact kd_17 _ _ _ | exact kd_20 _ _ _) only [iq_74_0, iq_74_1, iq_74_2, iq_74_3, iq_74_5, iq_74_6, iq_74_9, iq_74_12, iq_74_13, iq_74_16, iq_74_17, iq_74_18, iq_74_21, iq_74_24, iq_74_25, iq_74_26, iq_74_27, iq_74_28, iq_74_29, iq_74_30, iq_74_33, iq_74_36, iq_74_37, Option.bind_some, Option.toList, List.cons_append, List.nil_append, ↓reduceIte, nI_1, Int32.reduceLT, Int32.reduceLE, dv_1, dv_2, dv_3, dv_4, dv_6, dv_8, dv_10, dv_20, dv_100, dv_200, dv_500, gf_sea_0, gf_sea_1, gf_sea_2, gf_sea_3, gf_sea_4, gf_sea_5, gf_sea_6, gf_sea_7, gf_sea_8, gf_sea_9, gf_sea_10, kd_sea, pf_sea_1, pf_sea_2, pf_sea_4, pf_sea_5, pf_sea_6, pf_sea_7, pf_sea_9, gf_bt_0, gf_bt_1, gf_bt_2, gf_bt_3, gf_bt_4, gf_bt_5, gf_bt_6, kd_bt, pf_bt_0, pf_bt_1, pf_bt_2, pf_bt_3, pf_bt_4, pf_bt_5, pf_bt_6, ld_rul, st_rul, ld_cnt, st_cnt, aa_bs, aa_tx, ru_0, ru_1, ru_2, ru_3, ru_4, su_r0, su_r1, su_r2, hn, nz_lt, nz_nlt, nz_eq, nz_ne, b6, ht, i3_0shl, i3_or0]
    · simp (disch := first | assumption | omega | exact kd_sea _ _ _ (by assumption) | exact is_bts (by assumption) _ (by omega) | exact kd_bt _ _ _ (is_bts (by assumption) _ (by omega)) | exact kd_109 _ _ _ | exact kd_17 _ _ _ | exact kd_20 _ _ _) only [iq_74_0, iq_74_1, iq_74_2, iq_74_3, iq_74_5, iq_74_6, iq_74_9, iq_74_12, iq_74_13, iq_74_16, iq_74_17, iq_74_18, iq_74_21, iq_74_24, iq_74_25, iq_74_26, iq_74_27, iq_74_28, iq_74_29, iq_74_30, iq_74_33, iq_74_36, iq_74_37, Option.bind_some, Option.toList, List.cons_append, List.nil_append, ↓reduceIte, nI_1, Int32.reduceLT, Int32.reduceLE, dv_1, dv_2, dv_3, dv_4, dv_6, dv_8, dv_10, dv_20, dv_100, dv_200, dv_500, gf_sea_0, gf_sea_1, gf_sea_2, gf_sea_3, gf_sea_4, gf_sea_5, gf_sea_6, gf_sea_7, gf_sea_8, gf_sea_9, gf_sea_10, kd_sea, pf_sea_1, pf_sea_2, pf_sea_4, pf_sea_5, pf_sea_6, pf_sea_7, pf_sea_9, gf_bt_0, gf_bt_1, gf_bt_2, gf_bt_3, gf_bt_4, gf_bt_5, gf_bt_6, kd_bt, pf_bt_0, pf_bt_1, pf_bt_2, pf_bt_3, pf_bt_4, pf_bt_5, pf_bt_6, ld_rul, st_rul, ld_cnt, st_cnt, aa_bs, aa_tx, ru_0, ru_1, ru_2, ru_3, ru_4, su_r0, su_r1, su_r2, hn, nz_lt, nz_nlt, nz_eq, nz_ne, b6, ht]
theorem cc_tied (d : Nat) (hB : is_sea B) (hr : sea_rel c D B s n m) (hv : sv s n m) : mx_run d 74 0 [some (.ref B), none, none] [] (hp R c D) = some (some (.int (sp_tie s n)), hp R c D) := by
  simp only [iq_74_0, iq_74_1, iq_74_2, iq_74_3]
  exact cc_tied_lp R c D d hB hr hv n 0 (by omega)
theorem cc_hset_lp (d : Nat) (hB : is_sea B) (hr : sea_rel c D B s n m) (hv : sv s n m) : ∀ i j : Nat, j + i = n → mx_run (d + 1) 75 4 [some (.ref B), some (.int (sp_hom s j)), some (.int (nI j))] [] (hp R c D) = some (some (.int (sp_hom s n)), hp R c D) := by
  have hn : D B 1 = nI n := hr.1.1.trans (sv_n hv)
  have hn9 := sv_n9 hv
  intro i
  induction i with
  | zero =>
    intro j hj
    obtain rfl : j = n := by omega
    rw [iq_75_4]
    simp (disch := first | assumption | omega | exact kd_sea _ _ _ (by assumption) | exact is_bts (by assumption) _ (by omega) | exact kd_bt _ _ _ (is_bts (by assumption) _ (by omega)) | exact kd_109 _ _ _ | exact kd_17 _ _ _ | exact kd_20 _ _ _) only [iq_75_0, iq_75_1, iq_75_2, iq_75_3, iq_75_5, iq_75_6, iq_75_9, iq_75_12, iq_75_13, iq_75_16, iq_75_17, iq_75_18, iq_75_21, iq_75_24, iq_75_25, iq_75_26, iq_75_27, iq_75_28, iq_75_29, iq_75_30, iq_75_33, iq_75_36, iq_75_37, Option.bind_some, Option.toList, List.cons_append, List.nil_append, ↓reduceIte, nI_1, Int32.reduceLT, Int32.reduceLE, dv_1, dv_2, dv_3, dv_4, dv_6, dv_8, dv_10, dv_20, dv_100, dv_200, dv_500, gf_sea_0, gf_sea_1, gf_sea_2, gf_sea_3, gf_sea_4, gf_sea_5, gf_sea_6, gf_sea_7, gf_sea_8, gf_sea_9, gf_sea_10, kd_sea, pf_sea_1, pf_sea_2, pf_sea_4, pf_sea_5, pf_sea_6, pf_sea_7, pf_sea_9, hn, nz_lt, nz_nlt, nz_eq, nz_ne]
  | succ i ih =>
    intro j hj
    rw [iq_75_4, ← ih (j + 1) (by omega), sp_hom_s]
    have tg := cc_toGo R c D d j hB hr hn9 (by omega)
    by_cases hc : 0 < sp_tg s j
    · simp (disch := first | assumption | omega | exact kd_sea _ _ _ (by assumption) | exact is_bts (by assumption) _ (by omega) | exact kd_bt _ _ _ (is_bts (by assumption) _ (by omega)) | exact kd_109 _ _ _ | exact kd_17 _ _ _ | exact kd_20 _ _ _) only [iq_75_0, iq_75_1, iq_75_2, iq_75_3, iq_75_5, iq_75_6, iq_75_9, iq_75_12, iq_75_13, iq_75_16, iq_75_17, iq_75_18, iq_75_21, iq_75_24, iq_75_25, iq_75_26, iq_75_27, iq_75_28, iq_75_29, iq_75_30, iq_75_33, iq_75_36, iq_75_37, Option.bind_some, Option.toList, List.cons_append, List.nil_append, ↓reduceIte, nI_1, Int32.reduceLT, Int32.reduceLE, dv_1, dv_2, dv_3, dv_4, dv_6, dv_8, dv_10, dv_20, dv_100, dv_200, dv_500, gf_sea_0, gf_sea_1, gf_sea_2, gf_sea_3, gf_sea_4, gf_sea_5, gf_sea_6, gf_sea_7, gf_sea_8, gf_sea_9, gf_sea_10, kd_sea, pf_sea_1, pf_sea_2, pf_sea_4, pf_sea_5, pf_sea_6, pf_sea_7, pf_sea_9, gf_bt_0, gf_bt_1, gf_bt_2, gf_bt_3, gf_bt_4, gf_bt_5, gf_bt_6, kd_bt, pf_bt_0, pf_bt_1, pf_bt_2, pf_bt_3, pf_bt_4, pf_bt_5, pf_bt_6, ld_rul, st_rul, ld_cnt, st_cnt, aa_bs, aa_tx, ru_0, ru_1, ru_2, ru_3, ru_4, su_r0, su_r1, su_r2, hn, nz_lt, nz_nlt, nz_eq, nz_ne, tg, hc, i3_or0]
    · simp (disch := first | assumption | omega | exact kd_sea _ _ _ (by assumption) | exact is_bts (by assumption) _ (by omega) | exact kd_bt _ _ _ (is_bts (by assumption) _ (by omega)) | exact kd_109 _ _ _ | exact kd_17 _ _ _ | exact kd_20 _ _ _) only [iq_75_0, iq_75_1, iq_75_2, iq_75_3, iq_75_5, iq_75_6, iq_75_9, iq_75_12, iq_75_13, iq_75_16, iq_75_17, iq_75_18, iq_75_21, iq_75_24, iq_75_25, iq_75_26, iq_75_27, iq_75_28, iq_75_29, iq_75_30, iq_75_33, iq_75_36, iq_75_37, Option.bind_some, Option.toList, List.cons_append, List.nil_append, ↓reduceIte, nI_1, Int32.reduceLT, Int32.reduceLE, dv_1, dv_2, dv_3, dv_4, dv_6, dv_8, dv_10, dv_20, dv_100, dv_200, dv_500, gf_sea_0, gf_sea_1, gf_sea_2, gf_sea_3, gf_sea_4, gf_sea_5, gf_sea_6, gf_sea_7, gf_sea_8, gf_sea_9, gf_sea_10, kd_sea, pf_sea_1, pf_sea_2, pf_sea_4, pf_sea_5, pf_sea_6, pf_sea_7, pf_sea_9, gf_bt_0, gf_bt_1, gf_bt_2, gf_bt_3, gf_bt_4, gf_bt_5, gf_bt_6, kd_bt, pf_bt_0, pf_bt_1, pf_bt_2, pf_bt_3, pf_bt_4, pf_bt_5, pf_bt_6, ld_rul, st_rul, ld_cnt, st_cnt, aa_bs, aa_tx, ru_0, ru_1, ru_2, ru_3, ru_4, su_r0, su_r1, su_r2, hn, nz_lt, nz_nlt, nz_eq, nz_ne, tg, hc]
theorem cc_hset (d : Nat) (hB : is_sea B) (hr : sea_rel c D B s n m) (hv : sv s n m) : mx_run (d + 1) 75 0 [some (.ref B), none, none] [] (hp R c D) = some (some (.int (sp_hom s n)), hp R c D) := by
  simp only [iq_75_0, iq_75_1, iq_75_2, iq_75_3]
  exact cc_hset_lp R c D d hB hr hv n 0 (by omega)
theorem cc_home (d : Nat) (hB : is_sea B) (hr : sea_rel c D B s n m) (hv : sv s n m) : mx_run (d + 2) 80 0 [some (.ref B)] [] (hp R c D) = some (some (.int (if sp_hom s n = (1 : Int32) <<< (nI n &&& 31) - 1 then 1 else 0)), hp R c D) := by
  have hn : D B 1 = nI n := hr.1.1.trans (sv_n hv)
  have hn9 := sv_n9 hv
  have hh := cc_hset R c D d hB hr hv
  by_cases hc : sp_hom s n = (1 : Int32) <<< (nI n &&& 31) - 1
  · simp (disch := first | assumption | omega | exact kd_sea _ _ _ (by assumption) | exact is_bts (by assumption) _ (by omega) | exact kd_bt _ _ _ (is_bts (by assumption) _ (by omega)) | exact kd_109 _ _ _ | exact kd_17 _ _ _ | exact kd_20 _ _ _) only [iq_80_0, iq_80_1, iq_80_4, iq_80_5, iq_80_6, iq_80_9, iq_80_10, iq_80_11, iq_80_12, iq_80_15, iq_80_16, iq_80_19, iq_80_20, iq_80_20z, ib_80_20, Option.bind_some, Option.toList, List.cons_append, List.nil_append, ↓reduceIte, nI_1, Int32.reduceLT, Int32.reduceLE, dv_1, dv_2, dv_3, dv_4, dv_6, dv_8, dv_10, dv_20, dv_100, dv_200, dv_500, gf_sea_0, gf_sea_1, gf_sea_2, gf_sea_3, gf_sea_4, gf_sea_5, gf_sea_6, gf_sea_7, gf_sea_8, gf_sea_9, gf_sea_10, kd_sea, pf_sea_1, pf_sea_2, pf_sea_4, pf_sea_5, pf_sea_6, pf_sea_7, pf_sea_9, hn, hh, hc]
  · simp (disch := first | assumption | omega | exact kd_sea _ _ _ (by assumption) | exact is_bts (by assumption) _ (by omega) | exact kd_bt _ _ _ (is_bts (by assumption) _ (by omega)) | exact kd_109 _ _ _ | exact kd_17 _ _ _ | exact kd_20 _ _ _) only [iq_80_0, iq_80_1, iq_80_4, iq_80_5, iq_80_6, iq_80_9, iq_80_10, iq_80_11, iq_80_12, iq_80_15, iq_80_16, iq_80_19, iq_80_20, iq_80_20z, ib_80_20, Option.bind_some, Option.toList, List.cons_append, List.nil_append, ↓reduceIte, nI_1, Int32.reduceLT, Int32.reduceLE, dv_1, dv_2, dv_3, dv_4, dv_6, dv_8, dv_10, dv_20, dv_100, dv_200, dv_500, gf_sea_0, gf_sea_1, gf_sea_2, gf_sea_3, gf_sea_4, gf_sea_5, gf_sea_6, gf_sea_7, gf_sea_8, gf_sea_9, gf_sea_10, kd_sea, pf_sea_1, pf_sea_2, pf_sea_4, pf_sea_5, pf_sea_6, pf_sea_7, pf_sea_9, hn, hh, hc]
def Xsea (B a : Nat) : Prop := (B ≤ a ∧ a ≤ B + 13 ∧ a ≠ B + 1 ∧ a ≠ B + 3 ∧ a ≠ B + 4) ∨ Xt a
theorem cc_tear (d : Nat) (hB : is_sea B) (hr : sea_rel c D B s n m) (hv : sv s n m) (h0 : 0 < n) : ∃ D', mx_run (d + 1) 63 0 [some (.ref B), none] [] (hp R c D) = some (none, hp R c D') ∧ sea_rel c D' B (sp_tea s n) n m ∧ fr (Xsea B) D D' := by
  have hn : D B 1 = nI n := hr.1.1.trans (sv_n hv)
  have hn9 := sv_n9 hv
  have hb : sp_hv s n < n := sp_mx_lt _ n h0
  have hh := cc_heav R c D d hB hr hv h0
  have hb63 : 35 ≤ B ∧ B ≤ 63 := by rcases hB with rfl | rfl | rfl <;> omega
  have r1 := su_5 hB hn9 (su_2 hB hn9 hr (nI (sp_hv s n))) 0
  rw [up_s, up_up] at r1
  have r2 := su_4 hB hn9 r1 (s 4 + 5)
  rw [up_s, up_up] at r2
  have r3 := su_b5 hB hn9 r2 (sp_hv s n) (by omega) (s (12 + 7 * sp_hv s n + 6) + 1)
  have f4 : D B 4 = s 4 := hr.1.2.2.1
  obtain ⟨b0, b1, b2, b3, b4, b5, b6⟩ := hr.2.2.1 (sp_hv s n) hb
  rw [up_cm s 3 5 _ _ (by omega)] at r3
  refine ⟨_, ?_, r3, fr_up (fr_up (fr_refl _ _) _ _ (Or.inl (by omega))) _ _ (Or.inl (by omega))⟩
  simp (disch := first | assumption | omega | exact kd_sea _ _ _ (by assumption) | exact is_bts (by assumption) _ (by omega) | exact kd_bt _ _ _ (is_bts (by assumption) _ (by omega)) | exact kd_109 _ _ _ | exact kd_17 _ _ _ | exact kd_20 _ _ _) only [iq_63_0, iq_63_1, iq_63_4, iq_63_5, iq_63_6, iq_63_7, iq_63_10, iq_63_11, iq_63_12, iq_63_15, iq_63_16, iq_63_17, iq_63_20, iq_63_21, iq_63_24, iq_63_25, iq_63_26, iq_63_27, iq_63_30, iq_63_31, iq_63_32, iq_63_35, Option.bind_some, Option.toList, List.cons_append, List.nil_append, ↓reduceIte, nI_1, Int32.reduceLT, Int32.reduceLE, dv_1, dv_2, dv_3, dv_4, dv_6, dv_8, dv_10, dv_20, dv_100, dv_200, dv_500, gf_sea_0, gf_sea_1, gf_sea_2, gf_sea_3, gf_sea_4, gf_sea_5, gf_sea_6, gf_sea_7, gf_sea_8, gf_sea_9, gf_sea_10, kd_sea, pf_sea_1, pf_sea_2, pf_sea_4, pf_sea_5, pf_sea_6, pf_sea_7, pf_sea_9, gf_bt_0, gf_bt_1, gf_bt_2, gf_bt_3, gf_bt_4, gf_bt_5, gf_bt_6, kd_bt, pf_bt_0, pf_bt_1, pf_bt_2, pf_bt_3, pf_bt_4, pf_bt_5, pf_bt_6, ld_rul, st_rul, ld_cnt, st_cnt, aa_bs, aa_tx, ru_0, ru_1, ru_2, ru_3, ru_4, su_r0, su_r1, su_r2, up_s, up_up, up_n, ne_eq, Nat.reduceEqDiff, not_false_eq_true, hh, cc_give, f4, b5]
theorem cc_moveBy (d k : Nat) (hB : is_sea B) (hk : k < 9) (v : Int32) : mx_run d 66 0 [some (.ref (B + 5 + k)), some (.int v)] [] (hp R c D) = some (none, hp R c (mx_up D (B + 5 + k) (mx_up (D (B + 5 + k)) 2 (if D (B + 5 + k) 2 + v < 9999 then D (B + 5 + k) 2 + v else 9999)))) := by
  simp (disch := first | assumption | omega | exact kd_sea _ _ _ (by assumption) | exact is_bts (by assumption) _ (by omega) | exact kd_bt _ _ _ (is_bts (by assumption) _ (by omega)) | exact kd_109 _ _ _ | exact kd_17 _ _ _ | exact kd_20 _ _ _) only [iq_66_0, iq_66_1, iq_66_4, iq_66_5, iq_66_8, iq_66_9, iq_66_10, iq_66_13, iq_66_16, Option.bind_some, Option.toList, List.cons_append, List.nil_append, ↓reduceIte, nI_1, Int32.reduceLT, Int32.reduceLE, dv_1, dv_2, dv_3, dv_4, dv_6, dv_8, dv_10, dv_20, dv_100, dv_200, dv_500, gf_bt_0, gf_bt_1, gf_bt_2, gf_bt_3, gf_bt_4, gf_bt_5, gf_bt_6, kd_bt, pf_bt_0, pf_bt_1, pf_bt_2, pf_bt_3, pf_bt_4, pf_bt_5, pf_bt_6]
theorem sp_wi_mn {p : Nat} {v : Int32} (hp : p ≤ 9999) (h0 : ¬ v < 0) (h1 : v.toInt < 2 ^ 30) : (if nI p + v < 9999 then nI p + v else 9999) = sp_wi (nI p + v) 9999 := by
  obtain ⟨j, hj, rfl⟩ := nI_of h0
  rw [nI_toInt hj] at h1
  rw [nI_add]
  unfold sp_wi
  rw [if_neg (nI_pos (by omega))]
  by_cases h2 : p + j < 9999
  · rw [show (9999 : Int32) = nI 9999 from rfl, if_pos (nI_lt h2 (by omega)), if_neg (nI_nlt (by omega) (by omega))]
  · rw [show (9999 : Int32) = nI 9999 from rfl, if_neg (nI_nlt (by omega) (by omega))]
    by_cases h3 : 9999 < p + j
    · rw [if_pos (nI_lt h3 (by omega))]
    · rw [if_neg (nI_nlt (by omega) (by omega)), show p + j = 9999 by omega]
theorem sp_pk_b (k v : Int32) : (sp_pk k (sp_wi v 999)).toInt ≤ 2008 ∧ 0 ≤ (sp_pk k (sp_wi v 999)).toInt := by
  have hw : ∃ p : Nat, p ≤ 999 ∧ sp_wi v 999 = nI p := by
    unfold sp_wi
    by_cases h1 : v < 0
    · rw [if_pos h1]
      exact ⟨0, by omega, rfl⟩
    · rw [if_neg h1]
      by_cases h2 : 999 < v
      · rw [if_pos h2]
        exact ⟨999, by omega, rfl⟩
      · rw [if_neg h2]
        obtain ⟨j, hj, rfl⟩ := nI_of h1
        refine ⟨j, ?_, rfl⟩
        rw [show (999 : Int32) = nI 999 from rfl, nI_ltI (by omega) hj] at h2
        omega
  obtain ⟨p, hp, e⟩ := hw
  rw [e]
  unfold sp_pk
  have e5 : nI p + 5 = nI (p + 5) := nI_add p 5
  have e2 : nI p / 2 = nI (p / 2) := pk_div (d := 2) (by omega) (by omega) (by omega)
  have e25 : 2 * (nI p + 5) = nI (2 * (p + 5)) := by rw [e5]; exact rc_mul 2 (p + 5)
  have e29 : nI p / 2 + 9 = nI (p / 2 + 9) := by rw [e2]; exact nI_add (p / 2) 9
  rw [e29, e25, e5, e2]
  by_cases h1 : k = 1
  · rw [if_pos h1, nI_toInt (by omega)]
    omega
  · rw [if_neg h1]
    by_cases h2 : k = 2
    · rw [if_pos h2, nI_toInt (by omega)]
      omega
    · rw [if_neg h2]
      by_cases h3 : k = 3
      · rw [if_pos h3, nI_toInt (by omega)]
        omega
      · rw [if_neg h3]
        by_cases h4 : k = 4
        · rw [if_pos h4, nI_toInt (by omega)]
          omega
        · rw [if_neg h4]
          by_cases h5 : k = 5
          · rw [if_pos h5]
            decide
          · rw [if_neg h5, nI_toInt (by omega)]
            omega
theorem sp_div4 (x : Int32) : -2 ^ 29 ≤ (x / 4).toInt ∧ (x / 4).toInt ≤ 2 ^ 29 := by
  have h1 := Int32.le_toInt x
  have h2 := Int32.toInt_lt x
  have ht : -2 ^ 29 ≤ x.toInt.tdiv 4 ∧ x.toInt.tdiv 4 ≤ 2 ^ 29 := by
    by_cases h0 : 0 ≤ x.toInt
    · rw [Int.tdiv_eq_ediv_of_nonneg h0]
      omega
    · have e : x.toInt.tdiv 4 = -((-x.toInt).tdiv 4) := by rw [Int.neg_tdiv, Int.neg_neg]
      rw [e, Int.tdiv_eq_ediv_of_nonneg (by omega)]
      omega
  have e : (x / 4).toInt = x.toInt.tdiv 4 := by
    rw [Int32.toInt_div, show (4 : Int32).toInt = 4 by decide]
    exact Int.bmod_eq_of_le (by omega) (by omega)
  rw [e]
  exact ht
theorem sp_spd_b (s : Nat → Int32) (n m : Nat) : ¬ sp_spd s n m < 0 ∧ (sp_spd s n m).toInt < 2 ^ 30 := by
  unfold sp_spd
  by_cases e : n = 0
  · rw [if_pos e]
    decide
  · rw [if_neg e]
    unfold sp_sby sp_pul
    obtain ⟨q, hq⟩ : ∃ q, q = (s 3).toNatClampNeg := ⟨_, rfl⟩
    rw [← hq]
    obtain ⟨x, hx⟩ : ∃ x, x = sp_pk (s (12 + 7 * q + 0)) (sp_wi (sp_gv s 0 m (10 * s 7 - s (12 + 7 * q + 1)) (s 7) (s (12 + 7 * q + 1)) (s 5)) 999) := ⟨_, rfl⟩
    have b := sp_pk_b (s (12 + 7 * q + 0)) (sp_gv s 0 m (10 * s 7 - s (12 + 7 * q + 1)) (s 7) (s (12 + 7 * q + 1)) (s 5))
    rw [← hx] at b ⊢
    have d4 := sp_div4 (sp_all s n)
    by_cases h5 : x - sp_all s n / 4 < 0
    · rw [if_pos h5]
      decide
    · rw [if_neg h5]
      refine ⟨h5, ?_⟩
      rw [Int32.toInt_sub, Int.bmod_eq_of_le (by omega) (by omega)]
      omega
theorem sp_row_b (k : Int32) : ¬ sp_row k < 0 ∧ (sp_row k).toInt < 2 ^ 30 := by
  unfold sp_row
  by_cases h1 : k = 1
  · rw [if_pos h1]
    decide
  · rw [if_neg h1]
    by_cases h2 : k = 3
    · rw [if_pos h2]
      decide
    · rw [if_neg h2]
      by_cases h3 : k = 4
      · rw [if_pos h3]
        decide
      · rw [if_neg h3]
        decide
