section CM
variable (s : Nat → Int32) (y : Int32)
theorem c2_hv (n : Nat) : sp_hv (mx_up s 2 y) n = sp_hv s n := by
  unfold sp_hv
  congr 1
  funext k
  exact up_n _ _ _ _ (by omega)
theorem c2_lp (n : Nat) : sp_lp (mx_up s 2 y) n = sp_lp s n := by
  unfold sp_lp
  congr 1
  funext k
  exact up_n _ _ _ _ (by omega)
theorem c2_tg (k : Nat) : sp_tg (mx_up s 2 y) k = sp_tg s k := by
  unfold sp_tg
  rw [up_n _ _ _ _ (by omega), up_n _ _ _ _ (by omega)]
theorem c2_mg (n : Nat) : sp_mg (mx_up s 2 y) n = sp_mg s n := by
  unfold sp_mg
  congr 1
  funext k
  exact c2_tg s y k
theorem c2_gt (k : Int32) : sp_gt (mx_up s 2 y) k = mx_up (sp_gt s k) 2 y := by
  unfold sp_gt
  rw [up_cm s 2 5 _ _ (by omega), up_cm _ 2 3 _ _ (by omega)]
theorem c2_tea (n : Nat) : sp_tea (mx_up s 2 y) n = mx_up (sp_tea s n) 2 y := by
  unfold sp_tea
  rw [c2_hv, c2_gt, up_n s _ _ _ (by omega), up_n s _ _ _ (by omega), up_cm _ 2 4 _ _ (by omega), up_cm _ 2 _ _ _ (by omega)]
theorem c2_mv1 (v : Int32) (k : Nat) : sp_mv1 (mx_up s 2 y) v k = mx_up (sp_mv1 s v k) 2 y := by
  unfold sp_mv1
  rw [up_n s _ _ _ (by omega), up_n s _ _ _ (by omega), up_n s _ _ _ (by omega), up_n s _ _ _ (by omega), up_cm _ 2 _ _ _ (by omega)]
theorem c2_mv (v : Int32) : ∀ k, sp_mv (mx_up s 2 y) v k = mx_up (sp_mv s v k) 2 y
  | 0 => rfl
  | k + 1 => by
    show sp_mv1 (sp_mv (mx_up s 2 y) v k) v k = mx_up (sp_mv1 (sp_mv s v k) v k) 2 y
    rw [c2_mv v k, c2_mv1]
theorem c2_fi1 (k : Nat) : sp_fi1 (mx_up s 2 y) k = mx_up (sp_fi1 s k) 2 y := by
  unfold sp_fi1
  rw [up_n s _ _ _ (by omega), up_n s _ _ _ (by omega), up_n s _ _ _ (by omega), up_n s _ _ _ (by omega), up_cm _ 2 _ _ _ (by omega)]
theorem c2_fi : ∀ k, sp_fi (mx_up s 2 y) k = mx_up (sp_fi s k) 2 y
  | 0 => rfl
  | k + 1 => by
    show sp_fi1 (sp_fi (mx_up s 2 y) k) k = mx_up (sp_fi1 (sp_fi s k) k) 2 y
    rw [c2_fi k, c2_fi1]
theorem c2_wr : sp_wr (mx_up s 2 y) = mx_up (sp_wr s) 2 y := by
  unfold sp_wr
  rw [up_n s _ _ _ (by omega), up_n s _ _ _ (by omega), up_cm _ 2 4 _ _ (by omega), up_cm _ 2 5 _ _ (by omega)]
theorem c2_ps (n : Nat) : sp_ps (mx_up s 2 y) n = mx_up (sp_ps s n) 2 y := by
  unfold sp_ps
  rw [c2_lp, c2_mg, c2_tg, c2_gt, c2_gt, c2_gt, up_n s _ _ _ (by omega), up_n s _ _ _ (by omega), up_n s _ _ _ (by omega), up_n s _ _ _ (by omega), up_n s _ _ _ (by omega)]
  by_cases h1 : s 8 = 0
  · rw [if_pos h1, if_pos h1]
    by_cases h2 : s 5 < s 9
    · rw [if_pos h2, if_pos h2]
    · rw [if_neg h2, if_neg h2]
  · rw [if_neg h1, if_neg h1]
    by_cases h2 : s 8 = 1
    · rw [if_pos h2, if_pos h2]
      by_cases h3 : s 7 < 4
      · rw [if_pos h3, if_pos h3]
      · rw [if_neg h3, if_neg h3]
    · rw [if_neg h2, if_neg h2]
      by_cases h3 : 0 < sp_tg s (sp_mg s n)
      · rw [if_pos h3, if_pos h3]
      · rw [if_neg h3, if_neg h3]
theorem c2_all : ∀ k, sp_all (mx_up s 2 y) k = sp_all s k
  | 0 => rfl
  | k + 1 => by
    unfold sp_all
    rw [c2_all k, up_n s _ _ _ (by omega), up_n s _ _ _ (by omega), up_n s _ _ _ (by omega), up_n s _ _ _ (by omega)]
theorem c2_pul (m k : Nat) : sp_pul (mx_up s 2 y) m k = sp_pul s m k := by
  have h75 : ∀ i, 75 ≤ i → (mx_up s 2 y) i = s i := fun i hi => up_n _ _ _ _ (by omega)
  unfold sp_pul sp_gv
  rw [sp_cnt_cg h75, sp_tx_cg h75, up_n s _ _ _ (by omega), up_n s _ _ _ (by omega), up_n s _ _ _ (by omega), up_n s _ _ _ (by omega)]
theorem c2_spd (n m : Nat) : sp_spd (mx_up s 2 y) n m = sp_spd s n m := by
  unfold sp_spd
  rw [c2_pul, c2_all, up_n s _ _ _ (by omega)]
theorem c2_h2 (n m : Nat) : sp_h2 (mx_up s 2 y) n m = mx_up (sp_h2 s n m) 2 y := by
  unfold sp_h2
  rw [c2_spd, c2_mv, up_n s _ _ _ (by omega)]
  by_cases h1 : 0 < s 7
  · rw [if_pos h1, if_pos h1]
  · rw [if_neg h1, if_neg h1]
theorem c2_h3 (n m : Nat) : sp_h3 (mx_up s 2 y) n m = mx_up (sp_h3 s n m) 2 y := by
  unfold sp_h3
  rw [c2_h2, c2_fi, c2_wr, c2_ps]
/-- the hour stays in these -/
theorem h2_tea (n : Nat) : sp_tea s n 2 = s 2 := by
  unfold sp_tea sp_gt
  rw [up_n _ _ _ _ (by omega), up_n _ _ _ _ (by omega), up_n _ _ _ _ (by omega), up_n _ _ _ _ (by omega)]
theorem h2_mv (v : Int32) : ∀ k, sp_mv s v k 2 = s 2
  | 0 => rfl
  | k + 1 => by
    show sp_mv1 (sp_mv s v k) v k 2 = _
    unfold sp_mv1
    rw [up_n _ _ _ _ (by omega)]
    exact h2_mv v k
theorem h2_fi : ∀ k, sp_fi s k 2 = s 2
  | 0 => rfl
  | k + 1 => by
    show sp_fi1 (sp_fi s k) k 2 = _
    unfold sp_fi1
    rw [up_n _ _ _ _ (by omega)]
    exact h2_fi k
theorem h2_ps (n : Nat) : sp_ps s n 2 = s 2 := by
  have g : ∀ x, sp_gt s x 2 = s 2 := fun x => by
    unfold sp_gt
    rw [up_n _ _ _ _ (by omega), up_n _ _ _ _ (by omega)]
  unfold sp_ps
  by_cases h1 : s 8 = 0
  · rw [if_pos h1]
    by_cases h2 : s 5 < s 9
    · rw [if_pos h2]
    · rw [if_neg h2, g]
  · rw [if_neg h1]
    by_cases h2 : s 8 = 1
    · rw [if_pos h2]
      by_cases h3 : s 7 < 4
      · rw [if_pos h3, g]
      · rw [if_neg h3]
    · rw [if_neg h2]
      by_cases h3 : 0 < sp_tg s (sp_mg s n)
      · rw [if_pos h3, g]
      · rw [if_neg h3]
theorem h2_h3 (n m : Nat) : sp_h3 s n m 2 = s 2 := by
  unfold sp_h3
  rw [h2_ps]
  unfold sp_wr
  rw [up_n _ _ _ _ (by omega), up_n _ _ _ _ (by omega), h2_fi]
  unfold sp_h2
  by_cases h1 : 0 < s 7
  · rw [if_pos h1, h2_mv]
  · rw [if_neg h1]
def sp_h0 : Nat → Int32 := mx_up (mx_up (mx_up s 6 (sp_nx (s 6))) 7 (sp_rm (sp_sh (sp_nx (s 6))) 10)) 6 (sp_nx (sp_nx (s 6)))
theorem sp_h1_0 : sp_h1 s = mx_up (sp_h0 s) 2 (s 2 + 1) := rfl
theorem h2_h0 : sp_h0 s 2 = s 2 := by
  unfold sp_h0
  rw [up_n _ _ _ _ (by omega), up_n _ _ _ _ (by omega), up_n _ _ _ _ (by omega)]
theorem sp_hr_0 (n m : Nat) (hn : n ≠ 0) : sp_hr s n m = mx_up (sp_h3 (if sp_stm s = true then sp_tea (sp_h0 s) n else sp_h0 s) n m) 2 (s 2 + 1) := by
  unfold sp_hr
  rw [if_neg hn, sp_h1_0]
  by_cases h1 : sp_stm s = true
  · rw [if_pos h1, if_pos h1, c2_tea, c2_h3]
  · rw [if_neg h1, if_neg h1, c2_h3]
theorem sv_h0 {n m : Nat} (h : sv s n m) : sv (sp_h0 s) n m := sv_lo (sv_lo (sv_lo h 6 _ (by omega) (by omega)) 7 _ (by omega) (by omega)) 6 _ (by omega) (by omega)
end CM
variable (R : Nat → Option mx_MC) (c : Nat × Nat) (D : hz_D) {B : Nat} {n m : Nat} {s : Nat → Int32}
theorem cc_hour_a (d : Nat) (hB : is_sea B) (hr : sea_rel c D B s n m) (hv : sv s n m) : ∃ D', mx_run (d + 1) 62 0 [some (.ref B), none] [] (hp R c D) = mx_run (d + 1) 62 35 [some (.ref B), some (.int (if sp_stm s = true then 1 else 0))] [] (hp R c D') ∧ sea_rel c D' B (sp_h0 s) n m ∧ fr (Xsea B) D D' := by
  have hn9 := sv_n9 hv
  have f7 : D B 7 = s 6 := hr.1.2.2.2.2.2.1
  have r4 : D (B + 2) 4 = s 11 := hr.2.1 4 (by omega)
  have hb63 : 35 ≤ B ∧ B ≤ 63 := by rcases hB with rfl | rfl | rfl <;> omega
  have q1 := su_7 hB hn9 (su_rul hB hn9 (su_7 hB hn9 hr (sp_nx (s 6))) 0 (by omega) (sp_rm (sp_sh (sp_nx (s 6))) 10)) (sp_nx (sp_nx (s 6)))
  rw [up_n D B _ (B + 2) (by omega), up_n _ (B + 2) _ B (by omega), up_s] at q1
  refine ⟨_, ?_, q1, fr_up (fr_up (fr_up (fr_refl _ _) _ _ (Or.inl (by omega))) _ _ (Or.inl (by omega))) _ _ (Or.inl (by omega))⟩
  unfold sp_stm
  simp only [decide_eq_true_eq]
  unfold sp_rm
  by_cases h1 : sp_sh (sp_nx (sp_nx (s 6))) - sp_sh (sp_nx (sp_nx (s 6))) / 100 * 100 < s 11
  · simp (disch := first | assumption | omega | exact kd_sea _ _ _ (by assumption) | exact is_bts (by assumption) _ (by omega) | exact kd_bt _ _ _ (is_bts (by assumption) _ (by omega)) | exact kd_109 _ _ _ | exact kd_17 _ _ _ | exact kd_20 _ _ _) only [iq_62_0, iq_62_1, iq_62_4, iq_62_5, iq_62_6, iq_62_9, iq_62_11, iq_62_12, iq_62_13, iq_62_14, iq_62_17, iq_62_19, iq_62_20, iq_62_21, iq_62_24, iq_62_25, iq_62_26, iq_62_29, iq_62_30, iq_62_33, iq_62_34, iq_62_36, iq_62_39, iq_62_42, iq_62_43, iq_62_46, iq_62_47, iq_62_50, iq_62_51, iq_62_54, iq_62_55, iq_62_56, iq_62_59, iq_62_60, iq_62_61, iq_62_64, iq_62_67, iq_62_68, iq_62_71, iq_62_72, iq_62_73, iq_62_76, iq_62_77, iq_62_78, iq_62_81, iq_62_82, iq_62_83, iq_62_86, iq_62_87, iq_62_88, iq_62_91, iq_62_92, iq_62_95, iq_62_96, iq_62_97, iq_62_100, iq_62_101, iq_62_102, iq_62_105, Option.bind_some, Option.toList, List.cons_append, List.nil_append, ↓reduceIte, nI_1, Int32.reduceLT, Int32.reduceLE, dv_1, dv_2, dv_3, dv_4, dv_6, dv_8, dv_10, dv_20, dv_100, dv_200, dv_500, gf_sea_0, gf_sea_1, gf_sea_2, gf_sea_3, gf_sea_4, gf_sea_5, gf_sea_6, gf_sea_7, gf_sea_8, gf_sea_9, gf_sea_10, kd_sea, pf_sea_1, pf_sea_2, pf_sea_4, pf_sea_5, pf_sea_6, pf_sea_7, pf_sea_9, ld_rul, st_rul, ld_cnt, st_cnt, aa_bs, aa_tx, ru_0, ru_1, ru_2, ru_3, ru_4, su_r0, su_r1, su_r2, up_s, up_up, up_n, ne_eq, Nat.reduceEqDiff, not_false_eq_true, cc_draw, f7, r4, h1]
  · simp (disch := first | assumption | omega | exact kd_sea _ _ _ (by assumption) | exact is_bts (by assumption) _ (by omega) | exact kd_bt _ _ _ (is_bts (by assumption) _ (by omega)) | exact kd_109 _ _ _ | exact kd_17 _ _ _ | exact kd_20 _ _ _) only [iq_62_0, iq_62_1, iq_62_4, iq_62_5, iq_62_6, iq_62_9, iq_62_11, iq_62_12, iq_62_13, iq_62_14, iq_62_17, iq_62_19, iq_62_20, iq_62_21, iq_62_24, iq_62_25, iq_62_26, iq_62_29, iq_62_30, iq_62_33, iq_62_34, iq_62_36, iq_62_39, iq_62_42, iq_62_43, iq_62_46, iq_62_47, iq_62_50, iq_62_51, iq_62_54, iq_62_55, iq_62_56, iq_62_59, iq_62_60, iq_62_61, iq_62_64, iq_62_67, iq_62_68, iq_62_71, iq_62_72, iq_62_73, iq_62_76, iq_62_77, iq_62_78, iq_62_81, iq_62_82, iq_62_83, iq_62_86, iq_62_87, iq_62_88, iq_62_91, iq_62_92, iq_62_95, iq_62_96, iq_62_97, iq_62_100, iq_62_101, iq_62_102, iq_62_105, Option.bind_some, Option.toList, List.cons_append, List.nil_append, ↓reduceIte, nI_1, Int32.reduceLT, Int32.reduceLE, dv_1, dv_2, dv_3, dv_4, dv_6, dv_8, dv_10, dv_20, dv_100, dv_200, dv_500, gf_sea_0, gf_sea_1, gf_sea_2, gf_sea_3, gf_sea_4, gf_sea_5, gf_sea_6, gf_sea_7, gf_sea_8, gf_sea_9, gf_sea_10, kd_sea, pf_sea_1, pf_sea_2, pf_sea_4, pf_sea_5, pf_sea_6, pf_sea_7, pf_sea_9, ld_rul, st_rul, ld_cnt, st_cnt, aa_bs, aa_tx, ru_0, ru_1, ru_2, ru_3, ru_4, su_r0, su_r1, su_r2, up_s, up_up, up_n, ne_eq, Nat.reduceEqDiff, not_false_eq_true, cc_draw, f7, r4, h1]
theorem cc_hour_z (d : Nat) (hB : is_sea B) (hn9 : n ≤ 9) (hr : sea_rel c D B s n m) (l1 : Option Value) (x : Int32) (hx : s 2 = x) : ∃ D', mx_run d 62 95 [some (.ref B), l1] [] (hp R c D) = some (none, hp R c D') ∧ sea_rel c D' B (mx_up s 2 (x + 1)) n m ∧ fr (Xsea B) D D' := by
  have f6 : D B 6 = x := hr.1.2.2.2.2.1.trans hx
  refine ⟨_, ?_, su_6 hB hn9 hr (x + 1), fr_up (fr_refl _ _) _ _ (Or.inl (by omega))⟩
  simp (disch := first | assumption | omega | exact kd_sea _ _ _ (by assumption) | exact is_bts (by assumption) _ (by omega) | exact kd_bt _ _ _ (is_bts (by assumption) _ (by omega)) | exact kd_109 _ _ _ | exact kd_17 _ _ _ | exact kd_20 _ _ _) only [iq_62_0, iq_62_1, iq_62_4, iq_62_5, iq_62_6, iq_62_9, iq_62_11, iq_62_12, iq_62_13, iq_62_14, iq_62_17, iq_62_19, iq_62_20, iq_62_21, iq_62_24, iq_62_25, iq_62_26, iq_62_29, iq_62_30, iq_62_33, iq_62_34, iq_62_35, iq_62_36, iq_62_39, iq_62_42, iq_62_43, iq_62_46, iq_62_47, iq_62_50, iq_62_51, iq_62_54, iq_62_55, iq_62_56, iq_62_59, iq_62_60, iq_62_61, iq_62_64, iq_62_67, iq_62_68, iq_62_71, iq_62_72, iq_62_73, iq_62_76, iq_62_77, iq_62_78, iq_62_81, iq_62_82, iq_62_83, iq_62_86, iq_62_87, iq_62_88, iq_62_91, iq_62_92, iq_62_95, iq_62_96, iq_62_97, iq_62_100, iq_62_101, iq_62_102, iq_62_105, Option.bind_some, Option.toList, List.cons_append, List.nil_append, ↓reduceIte, nI_1, Int32.reduceLT, Int32.reduceLE, dv_1, dv_2, dv_3, dv_4, dv_6, dv_8, dv_10, dv_20, dv_100, dv_200, dv_500, gf_sea_0, gf_sea_1, gf_sea_2, gf_sea_3, gf_sea_4, gf_sea_5, gf_sea_6, gf_sea_7, gf_sea_8, gf_sea_9, gf_sea_10, kd_sea, pf_sea_1, pf_sea_2, pf_sea_4, pf_sea_5, pf_sea_6, pf_sea_7, pf_sea_9, f6]
theorem cc_hour_b (d : Nat) (hB : is_sea B) (hr : sea_rel c D B s n m) (hv : sv s n m) (h0 : 0 < n) (l1 : Option Value) : ∃ D', mx_run (d + 4) 62 50 [some (.ref B), l1] [] (hp R c D) = mx_run (d + 4) 62 95 [some (.ref B), l1] [] (hp R c D') ∧ sea_rel c D' B (sp_h3 s n m) n m ∧ fr (Xsea B) D D' := by
  have hn9 := sv_n9 hv
  have r0 : D (B + 2) 0 = s 7 := hr.2.1 0 (by omega)
  have hb63 : 35 ≤ B ∧ B ≤ 63 := by rcases hB with rfl | rfl | rfl <;> omega
  have key : ∃ D1, mx_run (d + 4) 62 50 [some (.ref B), l1] [] (hp R c D) = mx_run (d + 4) 62 67 [some (.ref B), l1] [] (hp R c D1) ∧ sea_rel c D1 B (sp_h2 s n m) n m ∧ fr (Xsea B) D D1 := by
    unfold sp_h2
    by_cases hw : 0 < s 7
    · rw [if_pos hw]
      obtain ⟨D1, a1, a2⟩ := cc_pace R c D d hB hr hv h0
      have hr1 : sea_rel c D1 B s n m := sea_fr hr hn9 (fun a ha => a2 a (fun hx => by unfold Xt at hx; omega))
      obtain ⟨D2, b1, b2, b3⟩ := cc_move R c D1 (d + 1) hB hr1 hv _ (sp_spd_b s n m)
      refine ⟨D2, ?_, b2, fr_trans (fr_mono a2 (fun a ha => Or.inr ha)) b3⟩
      simp (disch := first | assumption | omega | exact kd_sea _ _ _ (by assumption) | exact is_bts (by assumption) _ (by omega) | exact kd_bt _ _ _ (is_bts (by assumption) _ (by omega)) | exact kd_109 _ _ _ | exact kd_17 _ _ _ | exact kd_20 _ _ _) only [iq_62_0, iq_62_1, iq_62_4, iq_62_5, iq_62_6, iq_62_9, iq_62_11, iq_62_12, iq_62_13, iq_62_14, iq_62_17, iq_62_19, iq_62_20, iq_62_21, iq_62_24, iq_62_25, iq_62_26, iq_62_29, iq_62_30, iq_62_33, iq_62_34, iq_62_35, iq_62_36, iq_62_39, iq_62_42, iq_62_43, iq_62_46, iq_62_47, iq_62_50, iq_62_51, iq_62_54, iq_62_55, iq_62_56, iq_62_59, iq_62_60, iq_62_61, iq_62_64, iq_62_68, iq_62_71, iq_62_72, iq_62_73, iq_62_76, iq_62_77, iq_62_78, iq_62_81, iq_62_82, iq_62_83, iq_62_86, iq_62_87, iq_62_88, iq_62_91, iq_62_92, iq_62_95, iq_62_96, iq_62_97, iq_62_100, iq_62_101, iq_62_102, iq_62_105, Option.bind_some, Option.toList, List.cons_append, List.nil_append, ↓reduceIte, nI_1, Int32.reduceLT, Int32.reduceLE, dv_1, dv_2, dv_3, dv_4, dv_6, dv_8, dv_10, dv_20, dv_100, dv_200, dv_500, gf_sea_0, gf_sea_1, gf_sea_2, gf_sea_3, gf_sea_4, gf_sea_5, gf_sea_6, gf_sea_7, gf_sea_8, gf_sea_9, gf_sea_10, kd_sea, pf_sea_1, pf_sea_2, pf_sea_4, pf_sea_5, pf_sea_6, pf_sea_7, pf_sea_9, ld_rul, st_rul, ld_cnt, st_cnt, aa_bs, aa_tx, ru_0, ru_1, ru_2, ru_3, ru_4, su_r0, su_r1, su_r2, r0, hw, a1, b1]
    · rw [if_neg hw]
      refine ⟨D, ?_, hr, fr_refl _ _⟩
      simp (disch := first | assumption | omega | exact kd_sea _ _ _ (by assumption) | exact is_bts (by assumption) _ (by omega) | exact kd_bt _ _ _ (is_bts (by assumption) _ (by omega)) | exact kd_109 _ _ _ | exact kd_17 _ _ _ | exact kd_20 _ _ _) only [iq_62_0, iq_62_1, iq_62_4, iq_62_5, iq_62_6, iq_62_9, iq_62_11, iq_62_12, iq_62_13, iq_62_14, iq_62_17, iq_62_19, iq_62_20, iq_62_21, iq_62_24, iq_62_25, iq_62_26, iq_62_29, iq_62_30, iq_62_33, iq_62_34, iq_62_35, iq_62_36, iq_62_39, iq_62_42, iq_62_43, iq_62_46, iq_62_47, iq_62_50, iq_62_51, iq_62_54, iq_62_55, iq_62_56, iq_62_59, iq_62_60, iq_62_61, iq_62_64, iq_62_68, iq_62_71, iq_62_72, iq_62_73, iq_62_76, iq_62_77, iq_62_78, iq_62_81, iq_62_82, iq_62_83, iq_62_86, iq_62_87, iq_62_88, iq_62_91, iq_62_92, iq_62_95, iq_62_96, iq_62_97, iq_62_100, iq_62_101, iq_62_102, iq_62_105, Option.bind_some, Option.toList, List.cons_append, List.nil_append, ↓reduceIte, nI_1, Int32.reduceLT, Int32.reduceLE, dv_1, dv_2, dv_3, dv_4, dv_6, dv_8, dv_10, dv_20, dv_100, dv_200, dv_500, gf_sea_0, gf_sea_1, gf_sea_2, gf_sea_3, gf_sea_4, gf_sea_5, gf_sea_6, gf_sea_7, gf_sea_8, gf_sea_9, gf_sea_10, kd_sea, pf_sea_1, pf_sea_2, pf_sea_4, pf_sea_5, pf_sea_6, pf_sea_7, pf_sea_9, ld_rul, st_rul, ld_cnt, st_cnt, aa_bs, aa_tx, ru_0, ru_1, ru_2, ru_3, ru_4, su_r0, su_r1, su_r2, r0, hw]
  obtain ⟨D1, a1, a2, a3⟩ := key
  have hv2 := sv_h2 hv
  obtain ⟨D2, b1, b2, b3⟩ := cc_fish R c D1 (d + 3) hB a2 hv2
  have hv3 := sv_fi hv2 n hn9
  have q := su_5 hB hn9 (su_4 hB hn9 b2 (sp_fi (sp_h2 s n m) n 4 + 1)) (sp_fi (sp_h2 s n m) n 5 + 1)
  rw [up_s, up_up] at q
  have f4 : D2 B 4 = sp_fi (sp_h2 s n m) n 4 := b2.1.2.2.1
  have f5 : D2 B 5 = sp_fi (sp_h2 s n m) n 5 := b2.1.2.2.2.1
  have q' : sea_rel c (mx_up D2 B (mx_up (mx_up (D2 B) 4 (sp_fi (sp_h2 s n m) n 4 + 1)) 5 (sp_fi (sp_h2 s n m) n 5 + 1))) B (sp_wr (sp_fi (sp_h2 s n m) n)) n m := q
  obtain ⟨D3, e1, e2, e3⟩ := cc_pass R c _ (d + 1) hB q' (sv_wr hv3) h0
  refine ⟨D3, ?_, e2, fr_trans a3 (fr_trans b3 (fr_trans (fr_up (fr_refl _ _) _ _ (Or.inl (by omega))) e3))⟩
  rw [a1]
  simp (disch := first | assumption | omega | exact kd_sea _ _ _ (by assumption) | exact is_bts (by assumption) _ (by omega) | exact kd_bt _ _ _ (is_bts (by assumption) _ (by omega)) | exact kd_109 _ _ _ | exact kd_17 _ _ _ | exact kd_20 _ _ _) only [iq_62_0, iq_62_1, iq_62_4, iq_62_5, iq_62_6, iq_62_9, iq_62_11, iq_62_12, iq_62_13, iq_62_14, iq_62_17, iq_62_19, iq_62_20, iq_62_21, iq_62_24, iq_62_25, iq_62_26, iq_62_29, iq_62_30, iq_62_33, iq_62_34, iq_62_35, iq_62_36, iq_62_39, iq_62_42, iq_62_43, iq_62_46, iq_62_47, iq_62_50, iq_62_51, iq_62_54, iq_62_55, iq_62_56, iq_62_59, iq_62_60, iq_62_61, iq_62_64, iq_62_67, iq_62_68, iq_62_71, iq_62_72, iq_62_73, iq_62_76, iq_62_77, iq_62_78, iq_62_81, iq_62_82, iq_62_83, iq_62_86, iq_62_87, iq_62_88, iq_62_91, iq_62_92, iq_62_96, iq_62_97, iq_62_100, iq_62_101, iq_62_102, iq_62_105, Option.bind_some, Option.toList, List.cons_append, List.nil_append, ↓reduceIte, nI_1, Int32.reduceLT, Int32.reduceLE, dv_1, dv_2, dv_3, dv_4, dv_6, dv_8, dv_10, dv_20, dv_100, dv_200, dv_500, gf_sea_0, gf_sea_1, gf_sea_2, gf_sea_3, gf_sea_4, gf_sea_5, gf_sea_6, gf_sea_7, gf_sea_8, gf_sea_9, gf_sea_10, kd_sea, pf_sea_1, pf_sea_2, pf_sea_4, pf_sea_5, pf_sea_6, pf_sea_7, pf_sea_9, up_s, up_up, up_n, ne_eq, Nat.reduceEqDiff, not_false_eq_true, b1, f4, f5, e1]
theorem cc_hour (d : Nat) (hB : is_sea B) (hr : sea_rel c D B s n m) (hv : sv s n m) : ∃ D', mx_run (d + 4) 62 0 [some (.ref B), none] [] (hp R c D) = some (none, hp R c D') ∧ sea_rel c D' B (sp_hr s n m) n m ∧ fr (Xsea B) D D' := by
  have hn9 := sv_n9 hv
  obtain ⟨D1, a1, a2, a3⟩ := cc_hour_a R c D (d + 3) hB hr hv
  have hv0 := sv_h0 s hv
  have hn : D1 B 1 = nI n := a2.1.1.trans (sv_n hv0)
  rw [a1]
  by_cases e : n = 0
  · obtain ⟨D2, b1, b2, b3⟩ := cc_hour_z R c D1 (d + 4) hB hn9 a2 (some (.int (if sp_stm s = true then 1 else 0))) (s 2) (h2_h0 s)
    refine ⟨D2, ?_, ?_, fr_trans a3 b3⟩
    · rw [← b1]
      simp (disch := first | assumption | omega | exact kd_sea _ _ _ (by assumption) | exact is_bts (by assumption) _ (by omega) | exact kd_bt _ _ _ (is_bts (by assumption) _ (by omega)) | exact kd_109 _ _ _ | exact kd_17 _ _ _ | exact kd_20 _ _ _) only [iq_62_0, iq_62_1, iq_62_4, iq_62_5, iq_62_6, iq_62_9, iq_62_11, iq_62_12, iq_62_13, iq_62_14, iq_62_17, iq_62_19, iq_62_20, iq_62_21, iq_62_24, iq_62_25, iq_62_26, iq_62_29, iq_62_30, iq_62_33, iq_62_34, iq_62_35, iq_62_36, iq_62_39, iq_62_42, iq_62_43, iq_62_46, iq_62_47, iq_62_50, iq_62_51, iq_62_54, iq_62_55, iq_62_56, iq_62_59, iq_62_60, iq_62_61, iq_62_64, iq_62_67, iq_62_68, iq_62_71, iq_62_72, iq_62_73, iq_62_76, iq_62_77, iq_62_78, iq_62_81, iq_62_82, iq_62_83, iq_62_86, iq_62_87, iq_62_88, iq_62_91, iq_62_92, iq_62_96, iq_62_97, iq_62_100, iq_62_101, iq_62_102, iq_62_105, Option.bind_some, Option.toList, List.cons_append, List.nil_append, ↓reduceIte, nI_1, Int32.reduceLT, Int32.reduceLE, dv_1, dv_2, dv_3, dv_4, dv_6, dv_8, dv_10, dv_20, dv_100, dv_200, dv_500, gf_sea_0, gf_sea_1, gf_sea_2, gf_sea_3, gf_sea_4, gf_sea_5, gf_sea_6, gf_sea_7, gf_sea_8, gf_sea_9, gf_sea_10, kd_sea, pf_sea_1, pf_sea_2, pf_sea_4, pf_sea_5, pf_sea_6, pf_sea_7, pf_sea_9, hn, nz_ngt_0]
    · unfold sp_hr
      rw [if_pos e]
      exact b2
  · have h0 : 0 < n := by omega
    rw [sp_hr_0 s n m e]
    by_cases h1 : sp_stm s = true
    · rw [if_pos h1, if_pos h1]
      obtain ⟨D2, b1, b2, b3⟩ := cc_tear R c D1 (d + 2) hB a2 hv0 h0
      obtain ⟨D3, e1, e2, e3⟩ := cc_hour_b R c D2 d hB b2 (sv_tea hv0 h0) h0 (some (.int 1))
      obtain ⟨D4, g1, g2, g3⟩ := cc_hour_z R c D3 (d + 4) hB hn9 e2 (some (.int 1)) (s 2) (by rw [h2_h3, h2_tea, h2_h0])
      refine ⟨D4, ?_, g2, fr_trans a3 (fr_trans b3 (fr_trans e3 g3))⟩
      rw [← g1, ← e1]
      simp (disch := first | assumption | omega | exact kd_sea _ _ _ (by assumption) | exact is_bts (by assumption) _ (by omega) | exact kd_bt _ _ _ (is_bts (by assumption) _ (by omega)) | exact kd_109 _ _ _ | exact kd_17 _ _ _ | exact kd_20 _ _ _) only [iq_62_0, iq_62_1, iq_62_4, iq_62_5, iq_62_6, iq_62_9, iq_62_11, iq_62_12, iq_62_13, iq_62_14, iq_62_17, iq_62_19, iq_62_20, iq_62_21, iq_62_24, iq_62_25, iq_62_26, iq_62_29, iq_62_30, iq_62_33, iq_62_34, iq_62_35, iq_62_36, iq_62_39, iq_62_42, iq_62_43, iq_62_46, iq_62_47, iq_62_51, iq_62_54, iq_62_55, iq_62_56, iq_62_59, iq_62_60, iq_62_61, iq_62_64, iq_62_67, iq_62_68, iq_62_71, iq_62_72, iq_62_73, iq_62_76, iq_62_77, iq_62_78, iq_62_81, iq_62_82, iq_62_83, iq_62_86, iq_62_87, iq_62_88, iq_62_91, iq_62_92, iq_62_96, iq_62_97, iq_62_100, iq_62_101, iq_62_102, iq_62_105, Option.bind_some, Option.toList, List.cons_append, List.nil_append, ↓reduceIte, nI_1, Int32.reduceLT, Int32.reduceLE, dv_1, dv_2, dv_3, dv_4, dv_6, dv_8, dv_10, dv_20, dv_100, dv_200, dv_500, gf_sea_0, gf_sea_1, gf_sea_2, gf_sea_3, gf_sea_4, gf_sea_5, gf_sea_6, gf_sea_7, gf_sea_8, gf_sea_9, gf_sea_10, kd_sea, pf_sea_1, pf_sea_2, pf_sea_4, pf_sea_5, pf_sea_6, pf_sea_7, pf_sea_9, hn, nz_gt_0, b1]
    · rw [if_neg h1, if_neg h1]
      obtain ⟨D3, e1, e2, e3⟩ := cc_hour_b R c D1 d hB a2 hv0 h0 (some (.int 0))
      obtain ⟨D4, g1, g2, g3⟩ := cc_hour_z R c D3 (d + 4) hB hn9 e2 (some (.int 0)) (s 2) (by rw [h2_h3, h2_h0])
      refine ⟨D4, ?_, g2, fr_trans a3 (fr_trans e3 g3)⟩
      rw [← g1, ← e1]
      simp (disch := first | assumption | omega | exact kd_sea _ _ _ (by assumption) | exact is_bts (by assumption) _ (by omega) | exact kd_bt _ _ _ (is_bts (by assumption) _ (by omega)) | exact kd_109 _ _ _ | exact kd_17 _ _ _ | exact kd_20 _ _ _) only [iq_62_0, iq_62_1, iq_62_4, iq_62_5, iq_62_6, iq_62_9, iq_62_11, iq_62_12, iq_62_13, iq_62_14, iq_62_17, iq_62_19, iq_62_20, iq_62_21, iq_62_24, iq_62_25, iq_62_26, iq_62_29, iq_62_30, iq_62_33, iq_62_34, iq_62_35, iq_62_36, iq_62_39, iq_62_42, iq_62_43, iq_62_46, iq_62_47, iq_62_51, iq_62_54, iq_62_55, iq_62_56, iq_62_59, iq_62_60, iq_62_61, iq_62_64, iq_62_67, iq_62_68, iq_62_71, iq_62_72, iq_62_73, iq_62_76, iq_62_77, iq_62_78, iq_62_81, iq_62_82, iq_62_83, iq_62_86, iq_62_87, iq_62_88, iq_62_91, iq_62_92, iq_62_96, iq_62_97, iq_62_100, iq_62_101, iq_62_102, iq_62_105, Option.bind_some, Option.toList, List.cons_append, List.nil_append, ↓reduceIte, nI_1, Int32.reduceLT, Int32.reduceLE, dv_1, dv_2, dv_3, dv_4, dv_6, dv_8, dv_10, dv_20, dv_100, dv_200, dv_500, gf_sea_0, gf_sea_1, gf_sea_2, gf_sea_3, gf_sea_4, gf_sea_5, gf_sea_6, gf_sea_7, gf_sea_8, gf_sea_9, gf_sea_10, kd_sea, pf_sea_1, pf_sea_2, pf_sea_4, pf_sea_5, pf_sea_6, pf_sea_7, pf_sea_9, hn, nz_gt_0]
def sp_it (s : Nat → Int32) (n m : Nat) : Nat → Nat → Int32
  | 0 => s
  | k + 1 => sp_hr (sp_it s n m k) n m
theorem sv_it {s : Nat → Int32} {n m : Nat} (h : sv s n m) : ∀ k, sv (sp_it s n m k) n m
  | 0 => h
  | k + 1 => sv_hr (sv_it h k)
theorem cc_let_lp (d N : Nat) (hN : N < 2 ^ 31) (hB : is_sea B) (hv : sv s n m) : ∀ i j : Nat, j + i = N → ∀ (D : hz_D), sea_rel c D B (sp_it s n m j) n m → ∃ D', mx_run (d + 5) 61 2 [some (.ref B), some (.int (nI N)), some (.int (nI j))] [] (hp R c D) = some (none, hp R c D') ∧ sea_rel c D' B (sp_it s n m N) n m ∧ fr (Xsea B) D D' := by
  intro i
  induction i with
  | zero =>
    intro j hj D hr
    obtain rfl : j = N := by omega
    refine ⟨D, ?_, hr, fr_refl _ _⟩
    rw [iq_61_2]
    simp (disch := first | assumption | omega | exact kd_sea _ _ _ (by assumption) | exact is_bts (by assumption) _ (by omega) | exact kd_bt _ _ _ (is_bts (by assumption) _ (by omega)) | exact kd_109 _ _ _ | exact kd_17 _ _ _ | exact kd_20 _ _ _) only [iq_61_0, iq_61_1, iq_61_3, iq_61_4, iq_61_7, iq_61_8, iq_61_11, iq_61_14, iq_61_17, Option.bind_some, Option.toList, List.cons_append, List.nil_append, ↓reduceIte, nI_1, Int32.reduceLT, Int32.reduceLE, dv_1, dv_2, dv_3, dv_4, dv_6, dv_8, dv_10, dv_20, dv_100, dv_200, dv_500, nz_lt, nz_nlt, nz_eq, nz_ne]
  | succ i ih =>
    intro j hj D hr
    obtain ⟨D1, a1, a2, a3⟩ := cc_hour R c D d hB hr (sv_it hv j)
    obtain ⟨D2, b1, b2, b3⟩ := ih (j + 1) (by omega) D1 a2
    refine ⟨D2, ?_, b2, fr_trans a3 b3⟩
    rw [← b1, iq_61_2]
    simp (disch := first | assumption | omega | exact kd_sea _ _ _ (by assumption) | exact is_bts (by assumption) _ (by omega) | exact kd_bt _ _ _ (is_bts (by assumption) _ (by omega)) | exact kd_109 _ _ _ | exact kd_17 _ _ _ | exact kd_20 _ _ _) only [iq_61_0, iq_61_1, iq_61_3, iq_61_4, iq_61_7, iq_61_8, iq_61_11, iq_61_14, iq_61_17, Option.bind_some, Option.toList, List.cons_append, List.nil_append, ↓reduceIte, nI_1, Int32.reduceLT, Int32.reduceLE, dv_1, dv_2, dv_3, dv_4, dv_6, dv_8, dv_10, dv_20, dv_100, dv_200, dv_500, nz_lt, nz_nlt, nz_eq, nz_ne, a1]
theorem cc_let (d N : Nat) (hN : N < 2 ^ 31) (hB : is_sea B) (hr : sea_rel c D B s n m) (hv : sv s n m) : ∃ D', mx_run (d + 5) 61 0 [some (.ref B), some (.int (nI N)), none] [] (hp R c D) = some (none, hp R c D') ∧ sea_rel c D' B (sp_it s n m N) n m ∧ fr (Xsea B) D D' := by
  obtain ⟨D', h⟩ := cc_let_lp R c d N hN hB hv N 0 (by omega) D hr
  refine ⟨D', ?_, h.2⟩
  simp only [iq_61_0, iq_61_1]
  exact h.1
