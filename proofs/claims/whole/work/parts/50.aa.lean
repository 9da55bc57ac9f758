theorem i3_rg {k : Int32} (m : Nat) (hm : m < 2 ^ 31) (h : ¬ k < 0 ∧ ¬ nI m < k) : ∃ a : Nat, a ≤ m ∧ k = nI a := by
  obtain ⟨j, hj, rfl⟩ := nI_of h.1
  exact ⟨j, by have := h.2; rw [nI_ltI hm hj] at this; omega, rfl⟩
section K47
variable (R : Nat → Option mx_MC) (c : Nat × Nat) (D : hz_D)
theorem pf_bt_0k {a : Nat} (h : is_bt a) (k : Nat) (hk : k ≤ 5) : mg_p (hp R c D) a [0] 0 2 (.ref (29 + k)) = some (hp R c (mx_up D a (mx_up (D a) 0 (29 + nI k)))) := by
  have := pf_bt_0 R c D h (29 + nI k)
  rw [ga_kd rfl hk] at this
  exact this
theorem gk_29_0 : mg_f (hp R c D) 29 [1, 2, 3, 4, 7, 9] 0 = some (.int 0) := rfl
theorem gk_30_0 : mg_f (hp R c D) 30 [1, 2, 3, 4, 7, 9] 0 = some (.int 1) := rfl
theorem gk_31_0 : mg_f (hp R c D) 31 [1, 2, 3, 4, 7, 9] 0 = some (.int 2) := rfl
theorem gk_32_0 : mg_f (hp R c D) 32 [1, 2, 3, 4, 7, 9] 0 = some (.int 3) := rfl
theorem gk_33_0 : mg_f (hp R c D) 33 [1, 2, 3, 4, 7, 9] 0 = some (.int 4) := rfl
theorem gk_34_0 : mg_f (hp R c D) 34 [1, 2, 3, 4, 7, 9] 0 = some (.int 5) := rfl
theorem gk_29_1 : mg_f (hp R c D) 29 [1, 2, 3, 4, 7, 9] 1 = some .null := rfl
theorem gk_30_1 : mg_f (hp R c D) 30 [1, 2, 3, 4, 7, 9] 1 = some (.ref 29) := rfl
theorem gk_31_1 : mg_f (hp R c D) 31 [1, 2, 3, 4, 7, 9] 1 = some (.ref 29) := rfl
theorem gk_32_1 : mg_f (hp R c D) 32 [1, 2, 3, 4, 7, 9] 1 = some (.ref 30) := rfl
theorem gk_33_1 : mg_f (hp R c D) 33 [1, 2, 3, 4, 7, 9] 1 = some (.ref 31) := rfl
theorem gk_34_1 : mg_f (hp R c D) 34 [1, 2, 3, 4, 7, 9] 1 = some (.ref 29) := rfl
theorem gk_n (a : Nat) (ha : a ≤ 5) : mg_f (hp R c D) (29 + a) [1, 2, 3, 4, 7, 9] 0 = some (.int (nI a)) := by
  rcases a6 ha with rfl | rfl | rfl | rfl | rfl | rfl <;> rfl
theorem ck_47 (d a b : Nat) (ha : a ≤ 5) (hb : b ≤ 5) : mx_run d 47 0 [some (.ref (29 + a)), some (.int (nI b)), none] [] (hp R c D) = some (some (.int (if sp_isOf (nI a) (nI b) = true then 1 else 0)), hp R c D) := by
  rcases a6 ha with rfl | rfl | rfl | rfl | rfl | rfl <;> rcases a6 hb with rfl | rfl | rfl | rfl | rfl | rfl <;> simp [iq_47_0, iq_47_1, iq_47_1n, iq_47_2, iq_47_2n, iq_47_3, iq_47_3n, iq_47_6, iq_47_6n, iq_47_7, iq_47_10, iq_47_11, iq_47_14, iq_47_15, iq_47_15z, iq_47_16, iq_47_16n, iq_47_17, iq_47_20, iq_47_20n, iq_47_21, iq_47_24, iq_47_25, iq_47_25z, ib_47_15, ib_47_25, gk_29_0, gk_30_0, gk_31_0, gk_32_0, gk_33_0, gk_34_0, gk_29_1, gk_30_1, gk_31_1, gk_32_1, gk_33_1, gk_34_1, nI, sp_isOf]
theorem vc_46_36 (d a b : Nat) (ha : a ≤ 5) (hb : b ≤ 5) (ls : mx_Lo) : mx_run (d + 1) 46 36 ls [.int (nI b), .ref (29 + a)] (hp R c D) = mx_run (d + 1) 46 39 ls [.int (if sp_isOf (nI a) (nI b) = true then 1 else 0)] (hp R c D) := by
  have e := ck_47 R c D d a b ha hb
  rcases a6 ha with rfl | rfl | rfl | rfl | rfl | rfl
  · refine (iq_46_36_1 d ls 29 (nI b) (hp R c D) (kd_29 R c D)).trans ?_
    rw [e]; rfl
  · refine (iq_46_36_4 d ls 30 (nI b) (hp R c D) (kd_30 R c D)).trans ?_
    rw [e]; rfl
  · refine (iq_46_36_7 d ls 31 (nI b) (hp R c D) (kd_31 R c D)).trans ?_
    rw [e]; rfl
  · refine (iq_46_36_2 d ls 32 (nI b) (hp R c D) (kd_32 R c D)).trans ?_
    rw [e]; rfl
  · refine (iq_46_36_3 d ls 33 (nI b) (hp R c D) (kd_33 R c D)).trans ?_
    rw [e]; rfl
  · refine (iq_46_36_9 d ls 34 (nI b) (hp R c D) (kd_34 R c D)).trans ?_
    rw [e]; rfl
theorem vc_163_44 (d a b : Nat) (ha : a ≤ 5) (hb : b ≤ 5) (ls : mx_Lo) : mx_run (d + 1) 163 44 ls [.int (nI b), .ref (29 + a)] (hp R c D) = mx_run (d + 1) 163 47 ls [.int (if sp_isOf (nI a) (nI b) = true then 1 else 0)] (hp R c D) := by
  have e := ck_47 R c D d a b ha hb
  rcases a6 ha with rfl | rfl | rfl | rfl | rfl | rfl
  · refine (iq_163_44_1 d ls 29 (nI b) (hp R c D) (kd_29 R c D)).trans ?_
    rw [e]; rfl
  · refine (iq_163_44_4 d ls 30 (nI b) (hp R c D) (kd_30 R c D)).trans ?_
    rw [e]; rfl
  · refine (iq_163_44_7 d ls 31 (nI b) (hp R c D) (kd_31 R c D)).trans ?_
    rw [e]; rfl
  · refine (iq_163_44_2 d ls 32 (nI b) (hp R c D) (kd_32 R c D)).trans ?_
    rw [e]; rfl
  · refine (iq_163_44_3 d ls 33 (nI b) (hp R c D) (kd_33 R c D)).trans ?_
    rw [e]; rfl
  · refine (iq_163_44_9 d ls 34 (nI b) (hp R c D) (kd_34 R c D)).trans ?_
    rw [e]; rfl
end K47
theorem I_mk {c : Nat × Nat} {D' D'' : hz_D} {s' : Nat → Int32} {n m : Nat} (hr : sea_rel c D' 35 s' n m) (hv : sv s' n m) (htn : tn_ok c D' 35) (hh : ∃ h : Nat, h ≤ 9999 ∧ s' 2 = nI h) (e110 : D'' 110 = s') (hD : ∀ a, (35 ≤ a ∧ a ≤ 48) ∨ (128 ≤ a ∧ (a - 128) % 3 ≠ 2) → D'' a = D' a) : I_sea c D'' n m := by
  refine ⟨?_, by rw [e110]; exact hv, fun t ht => ?_, by rw [e110]; exact hh⟩
  · rw [e110]
    exact sea_fr hr (sv_n9 hv) (fun a ha => hD a (by omega))
  · rw [hD (35 + 3) (by omega)]
    exact htn t ht
variable {d L : Nat} {xs : Nat → Int32} {c : Nat × Nat} {D : hz_D}
theorem ap_seed (hI : Inv c D) (v : Int32) : ap d L xs c D 56 [some (.ref 17), some (.int v), none] 201 [some (.ref 109), some (.int v)] := by
  obtain ⟨h0, ⟨n, m, hr, hv, htn, hh⟩, -⟩ := id hI
  have h35 := is_s35
  have hn9 := sv_n9 hv
  have f7 : D 35 7 = D 110 6 := hr.1.2.2.2.2.2.1
  have r1 := su_7 h35 hn9 hr v
  refine ap_c (D 110 6) (mx_up D 35 (mx_up (D 35) 7 v)) (mx_up (mx_up D 35 (mx_up (D 35) 7 v)) 110 (mx_up (D 110) 6 v)) ?_ ?_ ?_
  · simp (disch := first | assumption | omega | exact kd_sea _ _ _ (by assumption) | exact is_bts (by assumption) _ (by omega) | exact kd_bt _ _ _ (is_bts (by assumption) _ (by omega)) | exact kd_109 _ _ _ | exact kd_17 _ _ _ | exact kd_20 _ _ _) only [iq_56_0, iq_56_1, iq_56_4, iq_56_7, iq_56_8, iq_56_9, iq_56_12, iq_56_13, iq_56_16, iq_56_17, gf_17_0, gf_17_1, gf_17_2, gf_17_3, gf_17_4, gf_17_5, gf_17_6, gf_17_7, gf_17_8, gf_17_9, gf_17_10, gf_17_11, gf_17_12, gf_17_13, kd_17, pf_17_4, pf_17_13, gf_sea_0, gf_sea_1, gf_sea_2, gf_sea_3, gf_sea_4, gf_sea_5, gf_sea_6, gf_sea_7, gf_sea_8, gf_sea_9, gf_sea_10, kd_sea, pf_sea_1, pf_sea_2, pf_sea_4, pf_sea_5, pf_sea_6, pf_sea_7, pf_sea_9, Option.bind_some, Option.toList, List.cons_append, List.nil_append, ↓reduceIte, nI_1, Int32.reduceLT, Int32.reduceLE, dv_1, dv_2, dv_3, dv_4, dv_6, dv_8, dv_10, dv_20, dv_100, dv_200, dv_500, Bool.false_eq_true, f7]
  · simp (disch := first | assumption | omega | exact kd_sea _ _ _ (by assumption) | exact is_bts (by assumption) _ (by omega) | exact kd_bt _ _ _ (is_bts (by assumption) _ (by omega)) | exact kd_109 _ _ _ | exact kd_17 _ _ _ | exact kd_20 _ _ _) only [iq_201_0, iq_201_1, iq_201_3, iq_201_4, iq_201_7, gf_109_0, gf_109_1, gf_109_2, gf_109_3, gf_109_4, gf_109_5, gf_109_6, gf_109_7, gf_109_8, gf_109_9, gf_109_10, gf_109_11, gf_109_12, gf_109_13, gf_109_14, gf_109_15, gf_109_16, gf_109_17, gf_109_18, gf_109_19, gf_109_20, gf_109_21, gf_109_22, gf_109_23, gf_109_24, gf_109_25, gf_109_26, gf_109_27, gf_109_28, gf_109_29, gf_109_30, kd_109, Option.bind_some, Option.toList, List.cons_append, List.nil_append, ↓reduceIte, nI_1, Int32.reduceLT, Int32.reduceLE, dv_1, dv_2, dv_3, dv_4, dv_6, dv_8, dv_10, dv_20, dv_100, dv_200, dv_500, Bool.false_eq_true, up_s, up_up, up_n, ne_eq, Nat.reduceEqDiff, not_false_eq_true, rc_becomes6]
  · refine Inv_sea1 hI (I_mk r1 (sv_lo hv 6 v (by omega) (by omega)) (fun t ht => ?_) ?_ (up_s _ _ _) (fun a ha => up_n _ _ _ _ (by omega))) (fun a ha => by rw [up_n _ _ _ _ (by omega), up_n _ _ _ _ (by omega)])
    · rw [up_n _ _ _ _ (by omega)]
      exact htn t ht
    · rw [up_n _ _ _ _ (by omega)]
      exact hh
theorem ap_as (hI : Inv c D) (b k : Int32) : ap d L xs c D 46 [some (.ref 17), some (.int b), some (.int k), none] 189 [some (.ref 109), some (.int b), some (.int k)] := by
  obtain ⟨h0, ⟨n, m, hr, hv, htn, hh⟩, -⟩ := id hI
  have h35 := is_s35
  have hn9 := sv_n9 hv
  have hn : D 35 1 = nI n := hr.1.1.trans (sv_n hv)
  have hn' := sv_n hv
  have hs := fun d x => cc_has (sx_rom L xs) c D d n h35 hn hn9 x
  by_cases hb : ¬ b < 0 ∧ ¬ nI n - 1 < b
  · by_cases hk : ¬ k < 0 ∧ ¬ 5 < k
    · obtain ⟨j, hj, rfl⟩ := (nz_bt (by omega) _).mp hb
      obtain ⟨k', hk', rfl⟩ := i3_rg 5 (by omega) hk
      have pb := eq_true hb
      have pk := eq_true hk
      obtain ⟨⟨a, ha, hka⟩, -, -, -⟩ := hv.2.2.2.2.2.1 j hj
      obtain ⟨b0, b1, b2, b3, b4, b5, b6⟩ := hr.2.2.1 j hj
      rw [hka] at b0
      have ga := ga_kd b0 ha
      have vc := fun d ls => vc_46_36 (sx_rom L xs) c D d a k' ha hk' ls
      refine ap_c (if sp_isOf (nI a) (nI k') = true then D 110 (12 + 7 * j + 1) else -1000000012) D D ?_ ?_ hI
      · by_cases hc : sp_isOf (nI a) (nI k') = true
        · simp (disch := first | assumption | omega | exact kd_sea _ _ _ (by assumption) | exact is_bts (by assumption) _ (by omega) | exact kd_bt _ _ _ (is_bts (by assumption) _ (by omega)) | exact kd_109 _ _ _ | exact kd_17 _ _ _ | exact kd_20 _ _ _) only [iq_46_0, iq_46_1, iq_46_4, iq_46_5, iq_46_8, iq_46_11, iq_46_12, iq_46_15, iq_46_18, iq_46_20, iq_46_21, iq_46_22, iq_46_25, iq_46_28, iq_46_29, iq_46_30, iq_46_30n, iq_46_31, iq_46_31n, iq_46_32, iq_46_35, iq_46_39, iq_46_42, iq_46_42n, iq_46_43, iq_46_46, iq_46_49, iq_46_51, gf_17_0, gf_17_1, gf_17_2, gf_17_3, gf_17_4, gf_17_5, gf_17_6, gf_17_7, gf_17_8, gf_17_9, gf_17_10, gf_17_11, gf_17_12, gf_17_13, kd_17, pf_17_4, pf_17_13, gf_sea_0, gf_sea_1, gf_sea_2, gf_sea_3, gf_sea_4, gf_sea_5, gf_sea_6, gf_sea_7, gf_sea_8, gf_sea_9, gf_sea_10, kd_sea, pf_sea_1, pf_sea_2, pf_sea_4, pf_sea_5, pf_sea_6, pf_sea_7, pf_sea_9, gf_bt_0, gf_bt_1, gf_bt_2, gf_bt_3, gf_bt_4, gf_bt_5, gf_bt_6, kd_bt, pf_bt_0, pf_bt_1, pf_bt_2, pf_bt_3, pf_bt_4, pf_bt_5, pf_bt_6, ld_rul, st_rul, ld_cnt, st_cnt, aa_bs, aa_tx, ru_0, ru_1, ru_2, ru_3, ru_4, su_r0, su_r1, su_r2, Option.bind_some, Option.toList, List.cons_append, List.nil_append, ↓reduceIte, nI_1, Int32.reduceLT, Int32.reduceLE, dv_1, dv_2, dv_3, dv_4, dv_6, dv_8, dv_10, dv_20, dv_100, dv_200, dv_500, Bool.false_eq_true, hs, pb, pk, ci_isKind, b1, ga, vc, hc]
        · simp (disch := first | assumption | omega | exact kd_sea _ _ _ (by assumption) | exact is_bts (by assumption) _ (by omega) | exact kd_bt _ _ _ (is_bts (by assumption) _ (by omega)) | exact kd_109 _ _ _ | exact kd_17 _ _ _ | exact kd_20 _ _ _) only [iq_46_0, iq_46_1, iq_46_4, iq_46_5, iq_46_8, iq_46_11, iq_46_12, iq_46_15, iq_46_18, iq_46_20, iq_46_21, iq_46_22, iq_46_25, iq_46_28, iq_46_29, iq_46_30, iq_46_30n, iq_46_31, iq_46_31n, iq_46_32, iq_46_35, iq_46_39, iq_46_42, iq_46_42n, iq_46_43, iq_46_46, iq_46_49, iq_46_51, gf_17_0, gf_17_1, gf_17_2, gf_17_3, gf_17_4, gf_17_5, gf_17_6, gf_17_7, gf_17_8, gf_17_9, gf_17_10, gf_17_11, gf_17_12, gf_17_13, kd_17, pf_17_4, pf_17_13, gf_sea_0, gf_sea_1, gf_sea_2, gf_sea_3, gf_sea_4, gf_sea_5, gf_sea_6, gf_sea_7, gf_sea_8, gf_sea_9, gf_sea_10, kd_sea, pf_sea_1, pf_sea_2, pf_sea_4, pf_sea_5, pf_sea_6, pf_sea_7, pf_sea_9, gf_bt_0, gf_bt_1, gf_bt_2, gf_bt_3, gf_bt_4, gf_bt_5, gf_bt_6, kd_bt, pf_bt_0, pf_bt_1, pf_bt_2, pf_bt_3, pf_bt_4, pf_bt_5, pf_bt_6, ld_rul, st_rul, ld_cnt, st_cnt, aa_bs, aa_tx, ru_0, ru_1, ru_2, ru_3, ru_4, su_r0, su_r1, su_r2, Option.bind_some, Option.toList, List.cons_append, List.nil_append, ↓reduceIte, nI_1, Int32.reduceLT, Int32.reduceLE, dv_1, dv_2, dv_3, dv_4, dv_6, dv_8, dv_10, dv_20, dv_100, dv_200, dv_500, Bool.false_eq_true, hs, pb, pk, ci_isKind, b1, ga, vc, hc]
      · by_cases hc : sp_isOf (nI a) (nI k') = true
        · simp (disch := first | assumption | omega | exact kd_sea _ _ _ (by assumption) | exact is_bts (by assumption) _ (by omega) | exact kd_bt _ _ _ (is_bts (by assumption) _ (by omega)) | exact kd_109 _ _ _ | exact kd_17 _ _ _ | exact kd_20 _ _ _) only [iq_189_0, iq_189_1, iq_189_2, iq_189_5, iq_189_8, iq_189_9, iq_189_10, iq_189_11, iq_189_14, iq_189_17, iq_189_20, iq_189_22, iq_189_23, iq_189_24, iq_189_25, iq_189_26, iq_189_29, iq_189_30, iq_189_33, iq_189_36, iq_189_37, iq_189_38, iq_189_39, iq_189_42, iq_189_45, iq_189_47, gf_109_0, gf_109_1, gf_109_2, gf_109_3, gf_109_4, gf_109_5, gf_109_6, gf_109_7, gf_109_8, gf_109_9, gf_109_10, gf_109_11, gf_109_12, gf_109_13, gf_109_14, gf_109_15, gf_109_16, gf_109_17, gf_109_18, gf_109_19, gf_109_20, gf_109_21, gf_109_22, gf_109_23, gf_109_24, gf_109_25, gf_109_26, gf_109_27, gf_109_28, gf_109_29, gf_109_30, kd_109, Option.bind_some, Option.toList, List.cons_append, List.nil_append, ↓reduceIte, nI_1, Int32.reduceLT, Int32.reduceLE, dv_1, dv_2, dv_3, dv_4, dv_6, dv_8, dv_10, dv_20, dv_100, dv_200, dv_500, Bool.false_eq_true, rc_ee, rc_ge_0, rc_le_0, rc_ge_1, rc_le_1, rc_ge_2, rc_le_2, rc_ge_3, rc_le_3, rc_ge_4, rc_le_4, rc_ge_5, rc_le_5, rc_ge_9, rc_le_9, rc_ge_30, rc_le_30, rc_ge_40, rc_le_40, rc_ge_48, rc_le_48, rc_ge_50, rc_le_50, rc_ge_57, rc_le_57, rc_ge_60, rc_le_60, rc_ge_97, rc_le_97, rc_ge_100, rc_le_100, rc_ge_122, rc_le_122, rc_ge_9999, rc_le_9999, rc_ge_99999, rc_le_99999, rc_ge_m99999, rc_le_m99999, rc_ge_m1, rc_le_m1, rc_isBoat, rc_isOf, hn', pb, pk, rc_of0, rc_of1, hka, hc]
        · simp (disch := first | assumption | omega | exact kd_sea _ _ _ (by assumption) | exact is_bts (by assumption) _ (by omega) | exact kd_bt _ _ _ (is_bts (by assumption) _ (by omega)) | exact kd_109 _ _ _ | exact kd_17 _ _ _ | exact kd_20 _ _ _) only [iq_189_0, iq_189_1, iq_189_2, iq_189_5, iq_189_8, iq_189_9, iq_189_10, iq_189_11, iq_189_14, iq_189_17, iq_189_20, iq_189_22, iq_189_23, iq_189_24, iq_189_25, iq_189_26, iq_189_29, iq_189_30, iq_189_33, iq_189_36, iq_189_37, iq_189_38, iq_189_39, iq_189_42, iq_189_45, iq_189_47, gf_109_0, gf_109_1, gf_109_2, gf_109_3, gf_109_4, gf_109_5, gf_109_6, gf_109_7, gf_109_8, gf_109_9, gf_109_10, gf_109_11, gf_109_12, gf_109_13, gf_109_14, gf_109_15, gf_109_16, gf_109_17, gf_109_18, gf_109_19, gf_109_20, gf_109_21, gf_109_22, gf_109_23, gf_109_24, gf_109_25, gf_109_26, gf_109_27, gf_109_28, gf_109_29, gf_109_30, kd_109, Option.bind_some, Option.toList, List.cons_append, List.nil_append, ↓reduceIte, nI_1, Int32.reduceLT, Int32.reduceLE, dv_1, dv_2, dv_3, dv_4, dv_6, dv_8, dv_10, dv_20, dv_100, dv_200, dv_500, Bool.false_eq_true, rc_ee, rc_ge_0, rc_le_0, rc_ge_1, rc_le_1, rc_ge_2, rc_le_2, rc_ge_3, rc_le_3, rc_ge_4, rc_le_4, rc_ge_5, rc_le_5, rc_ge_9, rc_le_9, rc_ge_30, rc_le_30, rc_ge_40, rc_le_40, rc_ge_48, rc_le_48, rc_ge_50, rc_le_50, rc_ge_57, rc_le_57, rc_ge_60, rc_le_60, rc_ge_97, rc_le_97, rc_ge_100, rc_le_100, rc_ge_122, rc_le_122, rc_ge_9999, rc_le_9999, rc_ge_99999, rc_le_99999, rc_ge_m99999, rc_le_m99999, rc_ge_m1, rc_le_m1, rc_isBoat, rc_isOf, hn', pb, pk, rc_of0, rc_of1, hka, hc]
    · have pb := eq_true hb
      have pk := eq_false hk
      refine ap_c (-1000000001) D D ?_ ?_ hI
      · simp (disch := first | assumption | omega | exact kd_sea _ _ _ (by assumption) | exact is_bts (by assumption) _ (by omega) | exact kd_bt _ _ _ (is_bts (by assumption) _ (by omega)) | exact kd_109 _ _ _ | exact kd_17 _ _ _ | exact kd_20 _ _ _) only [iq_46_0, iq_46_1, iq_46_4, iq_46_5, iq_46_8, iq_46_11, iq_46_12, iq_46_15, iq_46_18, iq_46_20, iq_46_21, iq_46_22, iq_46_25, iq_46_28, iq_46_29, iq_46_30, iq_46_30n, iq_46_31, iq_46_31n, iq_46_32, iq_46_35, iq_46_39, iq_46_42, iq_46_42n, iq_46_43, iq_46_46, iq_46_49, iq_46_51, gf_17_0, gf_17_1, gf_17_2, gf_17_3, gf_17_4, gf_17_5, gf_17_6, gf_17_7, gf_17_8, gf_17_9, gf_17_10, gf_17_11, gf_17_12, gf_17_13, kd_17, pf_17_4, pf_17_13, gf_sea_0, gf_sea_1, gf_sea_2, gf_sea_3, gf_sea_4, gf_sea_5, gf_sea_6, gf_sea_7, gf_sea_8, gf_sea_9, gf_sea_10, kd_sea, pf_sea_1, pf_sea_2, pf_sea_4, pf_sea_5, pf_sea_6, pf_sea_7, pf_sea_9, Option.bind_some, Option.toList, List.cons_append, List.nil_append, ↓reduceIte, nI_1, Int32.reduceLT, Int32.reduceLE, dv_1, dv_2, dv_3, dv_4, dv_6, dv_8, dv_10, dv_20, dv_100, dv_200, dv_500, Bool.false_eq_true, hs, pb, pk, ci_isKind]
      · simp (disch := first | assumption | omega | exact kd_sea _ _ _ (by assumption) | exact is_bts (by assumption) _ (by omega) | exact kd_bt _ _ _ (is_bts (by assumption) _ (by omega)) | exact kd_109 _ _ _ | exact kd_17 _ _ _ | exact kd_20 _ _ _) only [iq_189_0, iq_189_1, iq_189_2, iq_189_5, iq_189_8, iq_189_9, iq_189_10, iq_189_11, iq_189_14, iq_189_17, iq_189_20, iq_189_22, iq_189_23, iq_189_24, iq_189_25, iq_189_26, iq_189_29, iq_189_30, iq_189_33, iq_189_36, iq_189_37, iq_189_38, iq_189_39, iq_189_42, iq_189_45, iq_189_47, gf_109_0, gf_109_1, gf_109_2, gf_109_3, gf_109_4, gf_109_5, gf_109_6, gf_109_7, gf_109_8, gf_109_9, gf_109_10, gf_109_11, gf_109_12, gf_109_13, gf_109_14, gf_109_15, gf_109_16, gf_109_17, gf_109_18, gf_109_19, gf_109_20, gf_109_21, gf_109_22, gf_109_23, gf_109_24, gf_109_25, gf_109_26, gf_109_27, gf_109_28, gf_109_29, gf_109_30, kd_109, Option.bind_some, Option.toList, List.cons_append, List.nil_append, ↓reduceIte, nI_1, Int32.reduceLT, Int32.reduceLE, dv_1, dv_2, dv_3, dv_4, dv_6, dv_8, dv_10, dv_20, dv_100, dv_200, dv_500, Bool.false_eq_true, rc_ee, rc_ge_0, rc_le_0, rc_ge_1, rc_le_1, rc_ge_2, rc_le_2, rc_ge_3, rc_le_3, rc_ge_4, rc_le_4, rc_ge_5, rc_le_5, rc_ge_9, rc_le_9, rc_ge_30, rc_le_30, rc_ge_40, rc_le_40, rc_ge_48, rc_le_48, rc_ge_50, rc_le_50, rc_ge_57, rc_le_57, rc_ge_60, rc_le_60, rc_ge_97, rc_le_97, rc_ge_100, rc_le_100, rc_ge_122, rc_le_122, rc_ge_9999, rc_le_9999, rc_ge_99999, rc_le_99999, rc_ge_m99999, rc_le_m99999, rc_ge_m1, rc_le_m1, rc_isBoat, hn', pb, pk]
  · have pb := eq_false hb
    refine ap_c (-1000000001) D D ?_ ?_ hI
    · simp (disch := first | assumption | omega | exact kd_sea _ _ _ (by assumption) | exact is_bts (by assumption) _ (by omega) | exact kd_bt _ _ _ (is_bts (by assumption) _ (by omega)) | exact kd_109 _ _ _ | exact kd_17 _ _ _ | exact kd_20 _ _ _) only [iq_46_0, iq_46_1, iq_46_4, iq_46_5, iq_46_8, iq_46_11, iq_46_12, iq_46_15, iq_46_18, iq_46_20, iq_46_21, iq_46_22, iq_46_25, iq_46_28, iq_46_29, iq_46_30, iq_46_30n, iq_46_31, iq_46_31n, iq_46_32, iq_46_35, iq_46_39, iq_46_42, iq_46_42n, iq_46_43, iq_46_46, iq_46_49, iq_46_51, gf_17_0, gf_17_1, gf_17_2, gf_17_3, gf_17_4, gf_17_5, gf_17_6, gf_17_7, gf_17_8, gf_17_9, gf_17_10, gf_17_11, gf_17_12, gf_17_13, kd_17, pf_17_4, pf_17_13, gf_sea_0, gf_sea_1, gf_sea_2, gf_sea_3, gf_sea_4, gf_sea_5, gf_sea_6, gf_sea_7, gf_sea_8, gf_sea_9, gf_sea_10, kd_sea, pf_sea_1, pf_sea_2, pf_sea_4, pf_sea_5, pf_sea_6, pf_sea_7, pf_sea_9, Option.bind_some, Option.toList, List.cons_append, List.nil_append, ↓reduceIte, nI_1, Int32.reduceLT, Int32.reduceLE, dv_1, dv_2, dv_3, dv_4, dv_6, dv_8, dv_10, dv_20, dv_100, dv_200, dv_500, Bool.false_eq_true, hs, pb]
    · simp (disch := first | assumption | omega | exact kd_sea _ _ _ (by assumption) | exact is_bts (by assumption) _ (by omega) | exact kd_bt _ _ _ (is_bts (by assumption) _ (by omega)) | exact kd_109 _ _ _ | exact kd_17 _ _ _ | exact kd_20 _ _ _) only [iq_189_0, iq_189_1, iq_189_2, iq_189_5, iq_189_8, iq_189_9, iq_189_10, iq_189_11, iq_189_14, iq_189_17, iq_189_20, iq_189_22, iq_189_23, iq_189_24, iq_189_25, iq_189_26, iq_189_29, iq_189_30, iq_189_33, iq_189_36, iq_189_37, iq_189_38, iq_189_39, iq_189_42, iq_189_45, iq_189_47, gf_109_0, gf_109_1, gf_109_2, gf_109_3, gf_109_4, gf_109_5, gf_109_6, gf_109_7, gf_109_8, gf_109_9, gf_109_10, gf_109_11, gf_109_12, gf_109_13, gf_109_14, gf_109_15, gf_109_16, gf_109_17, gf_109_18, gf_109_19, gf_109_20, gf_109_21, gf_109_22, gf_109_23, gf_109_24, gf_109_25, gf_109_26, gf_109_27, gf_109_28, gf_109_29, gf_109_30, kd_109, Option.bind_some, Option.toList, List.cons_append, List.nil_append, ↓reduceIte, nI_1, Int32.reduceLT, Int32.reduceLE, dv_1, dv_2, dv_3, dv_4, dv_6, dv_8, dv_10, dv_20, dv_100, dv_200, dv_500, Bool.false_eq_true, rc_ee, rc_ge_0, rc_le_0, rc_ge_1, rc_le_1, rc_ge_2, rc_le_2, rc_ge_3, rc_le_3, rc_ge_4, rc_le_4, rc_ge_5, rc_le_5, rc_ge_9, rc_le_9, rc_ge_30, rc_le_30, rc_ge_40, rc_le_40, rc_ge_48, rc_le_48, rc_ge_50, rc_le_50, rc_ge_57, rc_le_57, rc_ge_60, rc_le_60, rc_ge_97, rc_le_97, rc_ge_100, rc_le_100, rc_ge_122, rc_le_122, rc_ge_9999, rc_le_9999, rc_ge_99999, rc_le_99999, rc_ge_m99999, rc_le_m99999, rc_ge_m1, rc_le_m1, rc_isBoat, hn', pb]
