section CO
variable (c : Nat × Nat) {n m : Nat} {s : Nat → Int32}
def sp_gn (s : Nat → Int32) (k : Nat) : Int32 := s (12 + 7 * k + 4) + s (12 + 7 * k + 2)
def sp_ct (s : Nat → Int32) (k : Nat) : Nat → Int32 := mx_up s (12 + 7 * k + 5) 0
def sp_cf (s : Nat → Int32) (n m N : Nat) : Nat → Int32
  | 0 => 0
  | k + 1 => sp_cf s n m N k ||| (if s (12 + 7 * k + 5) = 1 then (if sp_gn (sp_it s n m N) k < sp_gn (sp_it (sp_ct s k) n m N) k then (1 : Int32) <<< (nI k &&& 31) else 0) else 0)
theorem cc_co_1 (R : Nat → Option mx_MC) (d : Nat) (l1 l3 : Option Value) : ∀ i j : Nat, j + i = 9 → ∀ (D : hz_D), ∃ D', mx_run (d + 1) 84 35 [some (.ref 17), l1, some (.int (nI j)), l3] [] (hp R c D) = mx_run (d + 1) 84 65 [some (.ref 17), l1, some (.int (nI 9)), l3] [] (hp R c D') ∧ (∀ k, j ≤ k → k < 9 → D' 19 k = D (49 + 5 + k) 4 + D (49 + 5 + k) 2) ∧ (∀ k, k < j → D' 19 k = D 19 k) ∧ (∀ a, a ≠ 19 → D' a = D a) := by
  have h49 := is_s49
  intro i
  induction i with
  | zero =>
    intro j hj D
    obtain rfl : j = 9 := by omega
    refine ⟨D, ?_, fun k h1 h2 => by omega, fun _ _ => rfl, fun _ _ => rfl⟩
    rw [iq_84_35]
    simp (disch := first | assumption | omega | exact kd_sea _ _ _ (by assumption) | exact is_bts (by assumption) _ (by omega) | exact kd_bt _ _ _ (is_bts (by assumption) _ (by omega)) | exact kd_109 _ _ _ | exact kd_17 _ _ _ | exact kd_20 _ _ _) only [iq_84_0, iq_84_1, iq_84_2, iq_84_5, iq_84_6, iq_84_8, iq_84_11, iq_84_13, iq_84_14, iq_84_15, iq_84_18, iq_84_19, iq_84_22, iq_84_25, iq_84_26, iq_84_29, iq_84_30, iq_84_33, iq_84_34, iq_84_36, iq_84_38, iq_84_41, iq_84_42, iq_84_45, iq_84_46, iq_84_47, iq_84_50, iq_84_53, iq_84_54, iq_84_55, iq_84_58, iq_84_59, iq_84_62, iq_84_66, iq_84_67, iq_84_68, iq_84_69, iq_84_70, iq_84_72, iq_84_75, iq_84_76, iq_84_79, iq_84_80, iq_84_83, iq_84_86, iq_84_87, iq_84_90, iq_84_93, iq_84_94, iq_84_95, iq_84_98, iq_84_101, iq_84_102, iq_84_105, iq_84_106, iq_84_109, iq_84_112, iq_84_113, iq_84_116, iq_84_119, iq_84_120, iq_84_121, iq_84_122, iq_84_125, iq_84_126, iq_84_129, iq_84_130, iq_84_133, iq_84_134, iq_84_137, iq_84_140, iq_84_141, iq_84_142, iq_84_145, iq_84_146, iq_84_149, iq_84_150, iq_84_151, iq_84_154, iq_84_155, iq_84_156, iq_84_157, iq_84_158, iq_84_159, iq_84_160, iq_84_163, iq_84_166, iq_84_167, Option.bind_some, Option.toList, List.cons_append, List.nil_append, ↓reduceIte, nI_1, Int32.reduceLT, Int32.reduceLE, dv_1, dv_2, dv_3, dv_4, dv_6, dv_8, dv_10, dv_20, dv_100, dv_200, dv_500, Bool.false_eq_true, nz_nlt_9]
  | succ i ih =>
    intro j hj D
    have gn := cc_gain R c D d j h49 (by omega)
    obtain ⟨D', k1, k2, k3, k4⟩ := ih (j + 1) (by omega) (mx_up D 19 (mx_up (D 19) j (D (49 + 5 + j) 4 + D (49 + 5 + j) 2)))
    refine ⟨D', ?_, ?_, ?_, ?_⟩
    · rw [← k1, iq_84_35]
      simp (disch := first | assumption | omega | exact kd_sea _ _ _ (by assumption) | exact is_bts (by assumption) _ (by omega) | exact kd_bt _ _ _ (is_bts (by assumption) _ (by omega)) | exact kd_109 _ _ _ | exact kd_17 _ _ _ | exact kd_20 _ _ _) only [iq_84_0, iq_84_1, iq_84_2, iq_84_5, iq_84_6, iq_84_8, iq_84_11, iq_84_13, iq_84_14, iq_84_15, iq_84_18, iq_84_19, iq_84_22, iq_84_25, iq_84_26, iq_84_29, iq_84_30, iq_84_33, iq_84_34, iq_84_36, iq_84_38, iq_84_41, iq_84_42, iq_84_45, iq_84_46, iq_84_47, iq_84_50, iq_84_53, iq_84_54, iq_84_55, iq_84_58, iq_84_59, iq_84_62, iq_84_66, iq_84_67, iq_84_68, iq_84_69, iq_84_70, iq_84_72, iq_84_75, iq_84_76, iq_84_79, iq_84_80, iq_84_83, iq_84_86, iq_84_87, iq_84_90, iq_84_93, iq_84_94, iq_84_95, iq_84_98, iq_84_101, iq_84_102, iq_84_105, iq_84_106, iq_84_109, iq_84_112, iq_84_113, iq_84_116, iq_84_119, iq_84_120, iq_84_121, iq_84_122, iq_84_125, iq_84_126, iq_84_129, iq_84_130, iq_84_133, iq_84_134, iq_84_137, iq_84_140, iq_84_141, iq_84_142, iq_84_145, iq_84_146, iq_84_149, iq_84_150, iq_84_151, iq_84_154, iq_84_155, iq_84_156, iq_84_157, iq_84_158, iq_84_159, iq_84_160, iq_84_163, iq_84_166, iq_84_167, Option.bind_some, Option.toList, List.cons_append, List.nil_append, ↓reduceIte, nI_1, Int32.reduceLT, Int32.reduceLE, dv_1, dv_2, dv_3, dv_4, dv_6, dv_8, dv_10, dv_20, dv_100, dv_200, dv_500, Bool.false_eq_true, gf_17_0, gf_17_1, gf_17_2, gf_17_3, gf_17_4, gf_17_5, gf_17_6, gf_17_7, gf_17_8, gf_17_9, gf_17_10, gf_17_11, gf_17_12, gf_17_13, kd_17, pf_17_4, pf_17_13, gf_sea_0, gf_sea_1, gf_sea_2, gf_sea_3, gf_sea_4, gf_sea_5, gf_sea_6, gf_sea_7, gf_sea_8, gf_sea_9, gf_sea_10, kd_sea, pf_sea_1, pf_sea_2, pf_sea_4, pf_sea_5, pf_sea_6, pf_sea_7, pf_sea_9, ld_rul, st_rul, ld_cnt, st_cnt, aa_bs, aa_tx, ru_0, ru_1, ru_2, ru_3, ru_4, su_r0, su_r1, su_r2, nz_lt_9, gn, st_19]
    · intro k h1 h2
      by_cases e : k = j
      · subst e
        rw [k3 k (by omega), up_s, up_s]
      · rw [k2 k (by omega) h2, up_n _ _ _ _ (by omega)]
    · intro k h1
      rw [k3 k (by omega), up_s, up_n _ _ _ _ (by omega)]
    · intro a ha
      rw [k4 a ha, up_n _ _ _ _ ha]
def Xco (a : Nat) : Prop := a = 19 ∨ Xth a
theorem cc_co_2 (d L N : Nat) (xs : Nat → Int32) (hN : N ≤ 60) (hv : sv s n m) : ∀ i j : Nat, j + i = 9 → ∀ (D : hz_D), sea_rel c D 35 s n m → tn_ok c D 35 → (∀ k, k < n → D 19 k = sp_gn (sp_it s n m N) k) → ∃ D', mx_run (d + 6) 84 69 [some (.ref 17), some (.int (nI N)), some (.int (sp_cf s n m N (min j n))), some (.int (nI j))] [] (hp (sx_rom L xs) c D) = some (some (.int (sp_cf s n m N n)), hp (sx_rom L xs) c D') ∧ fr Xth D D' := by
  have h49 := is_s49
  have h35 := is_s35
  have hn9 := sv_n9 hv
  intro i
  induction i with
  | zero =>
    intro j hj D hr htn hg
    obtain rfl : j = 9 := by omega
    refine ⟨D, ?_, fr_refl _ _⟩
    rw [iq_84_69, show min 9 n = n by omega]
    simp (disch := first | assumption | omega | exact kd_sea _ _ _ (by assumption) | exact is_bts (by assumption) _ (by omega) | exact kd_bt _ _ _ (is_bts (by assumption) _ (by omega)) | exact kd_109 _ _ _ | exact kd_17 _ _ _ | exact kd_20 _ _ _) only [iq_84_0, iq_84_1, iq_84_2, iq_84_5, iq_84_6, iq_84_8, iq_84_11, iq_84_13, iq_84_14, iq_84_15, iq_84_18, iq_84_19, iq_84_22, iq_84_25, iq_84_26, iq_84_29, iq_84_30, iq_84_33, iq_84_34, iq_84_35, iq_84_36, iq_84_38, iq_84_41, iq_84_42, iq_84_45, iq_84_46, iq_84_47, iq_84_50, iq_84_53, iq_84_54, iq_84_55, iq_84_58, iq_84_59, iq_84_62, iq_84_65, iq_84_66, iq_84_67, iq_84_68, iq_84_70, iq_84_72, iq_84_75, iq_84_76, iq_84_79, iq_84_80, iq_84_83, iq_84_86, iq_84_87, iq_84_90, iq_84_93, iq_84_94, iq_84_95, iq_84_98, iq_84_101, iq_84_102, iq_84_105, iq_84_106, iq_84_109, iq_84_112, iq_84_113, iq_84_116, iq_84_119, iq_84_120, iq_84_121, iq_84_122, iq_84_125, iq_84_126, iq_84_129, iq_84_130, iq_84_133, iq_84_134, iq_84_137, iq_84_140, iq_84_141, iq_84_142, iq_84_145, iq_84_146, iq_84_149, iq_84_150, iq_84_151, iq_84_154, iq_84_155, iq_84_156, iq_84_157, iq_84_158, iq_84_159, iq_84_160, iq_84_163, iq_84_166, iq_84_167, Option.bind_some, Option.toList, List.cons_append, List.nil_append, ↓reduceIte, nI_1, Int32.reduceLT, Int32.reduceLE, dv_1, dv_2, dv_3, dv_4, dv_6, dv_8, dv_10, dv_20, dv_100, dv_200, dv_500, Bool.false_eq_true, nz_nlt_9]
  | succ i ih =>
    intro j hj D hr htn hg
    have hn : D 35 1 = nI n := hr.1.1.trans (sv_n hv)
    have hs := fun d x => cc_has (sx_rom L xs) c D d n h35 hn hn9 x
    rw [iq_84_69]
    by_cases hjn : j < n
    · have ph : (¬ nI j < 0 ∧ ¬ nI n - 1 < nI j) = True := eq_true ((nz_bt (by omega) _).mpr ⟨j, hjn, rfl⟩)
      obtain ⟨b0, b1, b2, b3, b4, b5, b6⟩ := hr.2.2.1 j hjn
      obtain ⟨-, -, -, ht⟩ := hv.2.2.2.2.2.1 j hjn
      have hcf : sp_cf s n m N (j + 1) = sp_cf s n m N j ||| (if s (12 + 7 * j + 5) = 1 then (if sp_gn (sp_it s n m N) j < sp_gn (sp_it (sp_ct s j) n m N) j then (1 : Int32) <<< (nI j &&& 31) else 0) else 0) := rfl
      rw [show min j n = j by omega]
      have IH := ih (j + 1) (by omega)
      rw [show min (j + 1) n = j + 1 by omega, hcf] at IH
      rcases ht with ht | ht
      · rw [ht, if_neg (by decide), i3_or0] at IH
        obtain ⟨D', k1, k2⟩ := IH D hr htn hg
        refine ⟨D', ?_, k2⟩
        rw [← k1]
        simp (disch := first | assumption | omega | exact kd_sea _ _ _ (by assumption) | exact is_bts (by assumption) _ (by omega) | exact kd_bt _ _ _ (is_bts (by assumption) _ (by omega)) | exact kd_109 _ _ _ | exact kd_17 _ _ _ | exact kd_20 _ _ _) only [iq_84_0, iq_84_1, iq_84_2, iq_84_5, iq_84_6, iq_84_8, iq_84_11, iq_84_13, iq_84_14, iq_84_15, iq_84_18, iq_84_19, iq_84_22, iq_84_25, iq_84_26, iq_84_29, iq_84_30, iq_84_33, iq_84_34, iq_84_35, iq_84_36, iq_84_38, iq_84_41, iq_84_42, iq_84_45, iq_84_46, iq_84_47, iq_84_50, iq_84_53, iq_84_54, iq_84_55, iq_84_58, iq_84_59, iq_84_62, iq_84_65, iq_84_66, iq_84_67, iq_84_68, iq_84_70, iq_84_72, iq_84_75, iq_84_76, iq_84_79, iq_84_80, iq_84_83, iq_84_86, iq_84_87, iq_84_90, iq_84_93, iq_84_94, iq_84_95, iq_84_98, iq_84_101, iq_84_102, iq_84_105, iq_84_106, iq_84_109, iq_84_112, iq_84_113, iq_84_116, iq_84_119, iq_84_120, iq_84_121, iq_84_122, iq_84_125, iq_84_126, iq_84_129, iq_84_130, iq_84_133, iq_84_134, iq_84_137, iq_84_140, iq_84_141, iq_84_142, iq_84_145, iq_84_146, iq_84_149, iq_84_150, iq_84_151, iq_84_154, iq_84_155, iq_84_156, iq_84_157, iq_84_158, iq_84_159, iq_84_160, iq_84_163, iq_84_166, iq_84_167, Option.bind_some, Option.toList, List.cons_append, List.nil_append, ↓reduceIte, nI_1, Int32.reduceLT, Int32.reduceLE, dv_1, dv_2, dv_3, dv_4, dv_6, dv_8, dv_10, dv_20, dv_100, dv_200, dv_500, Bool.false_eq_true, gf_17_0, gf_17_1, gf_17_2, gf_17_3, gf_17_4, gf_17_5, gf_17_6, gf_17_7, gf_17_8, gf_17_9, gf_17_10, gf_17_11, gf_17_12, gf_17_13, kd_17, pf_17_4, pf_17_13, gf_sea_0, gf_sea_1, gf_sea_2, gf_sea_3, gf_sea_4, gf_sea_5, gf_sea_6, gf_sea_7, gf_sea_8, gf_sea_9, gf_sea_10, kd_sea, pf_sea_1, pf_sea_2, pf_sea_4, pf_sea_5, pf_sea_6, pf_sea_7, pf_sea_9, gf_bt_0, gf_bt_1, gf_bt_2, gf_bt_3, gf_bt_4, gf_bt_5, gf_bt_6, kd_bt, pf_bt_0, pf_bt_1, pf_bt_2, pf_bt_3, pf_bt_4, pf_bt_5, pf_bt_6, ld_rul, st_rul, ld_cnt, st_cnt, aa_bs, aa_tx, ru_0, ru_1, ru_2, ru_3, ru_4, su_r0, su_r1, su_r2, nz_lt_9, hs, ph, b6, ht]
      · rw [ht, if_pos rfl] at IH
        obtain ⟨D1, a1, a2, a3⟩ := th_bec c (d + 4) L xs hr hv htn
        have r2 := su_b6 h49 hn9 a2 j (by omega) 0 (Or.inl rfl)
        have v2 := sv_b5 hv j hjn 0 (Or.inl rfl)
        obtain ⟨D3, q1, q2, q3⟩ := cc_let (sx_rom L xs) c _ d N (by omega) h49 r2 v2
        have gn := cc_gain (sx_rom L xs) c D3 (d + 5) j h49 (by omega)
        obtain ⟨-, -, w2, -, w4, -, -⟩ := q2.2.2.1 j hjn
        rw [w2, w4] at gn
        have f13 : fr Xth D D3 := fr_trans a3 (fr_trans (fr_up (fr_refl _ _) (49 + 5 + j) _ (Or.inl (by omega))) (th_fr q3))
        have e19 : D3 19 = D 19 := f13 19 (by unfold Xth; omega)
        obtain ⟨D', k1, k2⟩ := IH D3 (th_sea c f13 hn9 hr) (th_tn c f13 htn) (fun k hk => by rw [e19]; exact hg k hk)
        refine ⟨D', ?_, fr_trans f13 k2⟩
        rw [← k1]
        have g19 : D3 19 j = sp_gn (sp_it s n m N) j := by rw [e19]; exact hg j hjn
        have i0 : mx_tcOk 1 (.int 0) = true := rfl
        have hgn : (sp_it (mx_up s (12 + 7 * j + 5) 0) n m N) (12 + 7 * j + 4) + (sp_it (mx_up s (12 + 7 * j + 5) 0) n m N) (12 + 7 * j + 2) = sp_gn (sp_it (sp_ct s j) n m N) j := rfl
        rw [hgn] at gn
        by_cases hc : sp_gn (sp_it s n m N) j < sp_gn (sp_it (sp_ct s j) n m N) j
        · simp (disch := first | assumption | omega | exact kd_sea _ _ _ (by assumption) | exact is_bts (by assumption) _ (by omega) | exact kd_bt _ _ _ (is_bts (by assumption) _ (by omega)) | exact kd_109 _ _ _ | exact kd_17 _ _ _ | exact kd_20 _ _ _) only [iq_84_0, iq_84_1, iq_84_2, iq_84_5, iq_84_6, iq_84_8, iq_84_11, iq_84_13, iq_84_14, iq_84_15, iq_84_18, iq_84_19, iq_84_22, iq_84_25, iq_84_26, iq_84_29, iq_84_30, iq_84_33, iq_84_34, iq_84_35, iq_84_36, iq_84_38, iq_84_41, iq_84_42, iq_84_45, iq_84_46, iq_84_47, iq_84_50, iq_84_53, iq_84_54, iq_84_55, iq_84_58, iq_84_59, iq_84_62, iq_84_65, iq_84_66, iq_84_67, iq_84_68, iq_84_70, iq_84_72, iq_84_75, iq_84_76, iq_84_79, iq_84_80, iq_84_83, iq_84_86, iq_84_87, iq_84_90, iq_84_93, iq_84_94, iq_84_95, iq_84_98, iq_84_101, iq_84_102, iq_84_105, iq_84_106, iq_84_109, iq_84_112, iq_84_113, iq_84_116, iq_84_119, iq_84_120, iq_84_121, iq_84_122, iq_84_125, iq_84_126, iq_84_129, iq_84_130, iq_84_133, iq_84_134, iq_84_137, iq_84_140, iq_84_141, iq_84_142, iq_84_145, iq_84_146, iq_84_149, iq_84_150, iq_84_151, iq_84_154, iq_84_155, iq_84_156, iq_84_157, iq_84_158, iq_84_159, iq_84_160, iq_84_163, iq_84_166, iq_84_167, Option.bind_some, Option.toList, List.cons_append, List.nil_append, ↓reduceIte, nI_1, Int32.reduceLT, Int32.reduceLE, dv_1, dv_2, dv_3, dv_4, dv_6, dv_8, dv_10, dv_20, dv_100, dv_200, dv_500, Bool.false_eq_true, gf_17_0, gf_17_1, gf_17_2, gf_17_3, gf_17_4, gf_17_5, gf_17_6, gf_17_7, gf_17_8, gf_17_9, gf_17_10, gf_17_11, gf_17_12, gf_17_13, kd_17, pf_17_4, pf_17_13, gf_sea_0, gf_sea_1, gf_sea_2, gf_sea_3, gf_sea_4, gf_sea_5, gf_sea_6, gf_sea_7, gf_sea_8, gf_sea_9, gf_sea_10, kd_sea, pf_sea_1, pf_sea_2, pf_sea_4, pf_sea_5, pf_sea_6, pf_sea_7, pf_sea_9, gf_bt_0, gf_bt_1, gf_bt_2, gf_bt_3, gf_bt_4, gf_bt_5, gf_bt_6, kd_bt, pf_bt_0, pf_bt_1, pf_bt_2, pf_bt_3, pf_bt_4, pf_bt_5, pf_bt_6, ld_rul, st_rul, ld_cnt, st_cnt, aa_bs, aa_tx, ru_0, ru_1, ru_2, ru_3, ru_4, su_r0, su_r1, su_r2, nz_lt_9, hs, ph, b6, ht, a1, q1, gn, ld_19, g19, hc]
        · simp (disch := first | assumption | omega | exact kd_sea _ _ _ (by assumption) | exact is_bts (by assumption) _ (by omega) | exact kd_bt _ _ _ (is_bts (by assumption) _ (by omega)) | exact kd_109 _ _ _ | exact kd_17 _ _ _ | exact kd_20 _ _ _) only [iq_84_0, iq_84_1, iq_84_2, iq_84_5, iq_84_6, iq_84_8, iq_84_11, iq_84_13, iq_84_14, iq_84_15, iq_84_18, iq_84_19, iq_84_22, iq_84_25, iq_84_26, iq_84_29, iq_84_30, iq_84_33, iq_84_34, iq_84_35, iq_84_36, iq_84_38, iq_84_41, iq_84_42, iq_84_45, iq_84_46, iq_84_47, iq_84_50, iq_84_53, iq_84_54, iq_84_55, iq_84_58, iq_84_59, iq_84_62, iq_84_65, iq_84_66, iq_84_67, iq_84_68, iq_84_70, iq_84_72, iq_84_75, iq_84_76, iq_84_79, iq_84_80, iq_84_83, iq_84_86, iq_84_87, iq_84_90, iq_84_93, iq_84_94, iq_84_95, iq_84_98, iq_84_101, iq_84_102, iq_84_105, iq_84_106, iq_84_109, iq_84_112, iq_84_113, iq_84_116, iq_84_119, iq_84_120, iq_84_121, iq_84_122, iq_84_125, iq_84_126, iq_84_129, iq_84_130, iq_84_133, iq_84_134, iq_84_137, iq_84_140, iq_84_141, iq_84_142, iq_84_145, iq_84_146, iq_84_149, iq_84_150, iq_84_151, iq_84_154, iq_84_155, iq_84_156, iq_84_157, iq_84_158, iq_84_159, iq_84_160, iq_84_163, iq_84_166, iq_84_167, Option.bind_some, Option.toList, List.cons_append, List.nil_append, ↓reduceIte, nI_1, Int32.reduceLT, Int32.reduceLE, dv_1, dv_2, dv_3, dv_4, dv_6, dv_8, dv_10, dv_20, dv_100, dv_200, dv_500, Bool.false_eq_true, gf_17_0, gf_17_1, gf_17_2, gf_17_3, gf_17_4, gf_17_5, gf_17_6, gf_17_7, gf_17_8, gf_17_9, gf_17_10, gf_17_11, gf_17_12, gf_17_13, kd_17, pf_17_4, pf_17_13, gf_sea_0, gf_sea_1, gf_sea_2, gf_sea_3, gf_sea_4, gf_sea_5, gf_sea_6, gf_sea_7, gf_sea_8, gf_sea_9, gf_sea_10, kd_sea, pf_sea_1, pf_sea_2, pf_sea_4, pf_sea_5, pf_sea_6, pf_sea_7, pf_sea_9, gf_bt_0, gf_bt_1, gf_bt_2, gf_bt_3, gf_bt_4, gf_bt_5, gf_bt_6, kd_bt, pf_bt_0, pf_bt_1, pf_bt_2, pf_bt_3, pf_bt_4, pf_bt_5, pf_bt_6, ld_rul, st_rul, ld_cnt, st_cnt, aa_bs, aa_tx, ru_0, ru_1, ru_2, ru_3, ru_4, su_r0, su_r1, su_r2, nz_lt_9, hs, ph, b6, ht, a1, q1, gn, ld_19, g19, hc, i3_or0]
    · have ph : (¬ nI j < 0 ∧ ¬ nI n - 1 < nI j) = False := eq_false (fun z => by
        obtain ⟨k, hk, e⟩ := (nz_bt (by omega) _).mp z
        have := (nI_eq (by omega) (by omega)).mp e
        omega)
      have IH := ih (j + 1) (by omega)
      rw [show min (j + 1) n = n by omega] at IH
      rw [show min j n = n by omega]
      obtain ⟨D', k1, k2⟩ := IH D hr htn hg
      refine ⟨D', ?_, k2⟩
      rw [← k1]
      simp (disch := first | assumption | omega | exact kd_sea _ _ _ (by assumption) | exact is_bts (by assumption) _ (by omega) | exact kd_bt _ _ _ (is_bts (by assumption) _ (by omega)) | exact kd_109 _ _ _ | exact kd_17 _ _ _ | exact kd_20 _ _ _) only [iq_84_0, iq_84_1, iq_84_2, iq_84_5, iq_84_6, iq_84_8, iq_84_11, iq_84_13, iq_84_14, iq_84_15, iq_84_18, iq_84_19, iq_84_22, iq_84_25, iq_84_26, iq_84_29, iq_84_30, iq_84_33, iq_84_34, iq_84_35, iq_84_36, iq_84_38, iq_84_41, iq_84_42, iq_84_45, iq_84_46, iq_84_47, iq_84_50, iq_84_53, iq_84_54, iq_84_55, iq_84_58, iq_84_59, iq_84_62, iq_84_65, iq_84_66, iq_84_67, iq_84_68, iq_84_70, iq_84_72, iq_84_75, iq_84_76, iq_84_79, iq_84_80, iq_84_83, iq_84_86, iq_84_87, iq_84_90, iq_84_93, iq_84_94, iq_84_95, iq_84_98, iq_84_101, iq_84_102, iq_84_105, iq_84_106, iq_84_109, iq_84_112, iq_84_113, iq_84_116, iq_84_119, iq_84_120, iq_84_121, iq_84_122, iq_84_125, iq_84_126, iq_84_129, iq_84_130, iq_84_133, iq_84_134, iq_84_137, iq_84_140, iq_84_141, iq_84_142, iq_84_145, iq_84_146, iq_84_149, iq_84_150, iq_84_151, iq_84_154, iq_84_155, iq_84_156, iq_84_157, iq_84_158, iq_84_159, iq_84_160, iq_84_163, iq_84_166, iq_84_167, Option.bind_some, Option.toList, List.cons_append, List.nil_append, ↓reduceIte, nI_1, Int32.reduceLT, Int32.reduceLE, dv_1, dv_2, dv_3, dv_4, dv_6, dv_8, dv_10, dv_20, dv_100, dv_200, dv_500, Bool.false_eq_true, gf_17_0, gf_17_1, gf_17_2, gf_17_3, gf_17_4, gf_17_5, gf_17_6, gf_17_7, gf_17_8, gf_17_9, gf_17_10, gf_17_11, gf_17_12, gf_17_13, kd_17, pf_17_4, pf_17_13, gf_sea_0, gf_sea_1, gf_sea_2, gf_sea_3, gf_sea_4, gf_sea_5, gf_sea_6, gf_sea_7, gf_sea_8, gf_sea_9, gf_sea_10, kd_sea, pf_sea_1, pf_sea_2, pf_sea_4, pf_sea_5, pf_sea_6, pf_sea_7, pf_sea_9, nz_lt_9, hs, ph]
theorem rt_co_lp (R : Nat → Option mx_MC) (d N : Nat) (hN : N ≤ 60) (hv : sv s n m) : ∀ i j : Nat, j + i = n → ∀ (D : hz_D) (l4 : Option Value), D 110 = s → (∀ i, i < 75 → D 121 i = s i) → ∃ D', mx_run (d + 6) 222 23 [some (.ref 109), some (.int (nI N)), some (.int (sp_cf s n m N j)), some (.int (nI j)), l4] [] (hp R c D) = some (some (.int (sp_cf s n m N n)), hp R c D') ∧ D' 110 = s ∧ fr Xr D D' := by
  have hn9 := sv_n9 hv
  have hn' := sv_n hv
  intro i
  induction i with
  | zero =>
    intro j hj D l4 hD h121
    obtain rfl : j = n := by omega
    refine ⟨D, ?_, hD, fr_refl _ _⟩
    rw [iq_222_23]
    simp (disch := first | assumption | exact kd_109 _ _ _ | omega) only [iq_222_0, iq_222_1, iq_222_2, iq_222_3, iq_222_6, iq_222_9, iq_222_12, iq_222_14, iq_222_15, iq_222_16, iq_222_19, iq_222_20, iq_222_21, iq_222_22, iq_222_24, iq_222_25, iq_222_28, iq_222_29, iq_222_30, iq_222_33, iq_222_34, iq_222_35, iq_222_36, iq_222_39, iq_222_40, iq_222_43, iq_222_44, iq_222_45, iq_222_48, iq_222_49, iq_222_50, iq_222_51, iq_222_54, iq_222_55, iq_222_56, iq_222_57, iq_222_60, iq_222_61, iq_222_63, iq_222_64, iq_222_67, iq_222_68, iq_222_69, iq_222_70, iq_222_71, iq_222_74, iq_222_75, iq_222_76, iq_222_79, iq_222_80, iq_222_81, iq_222_82, iq_222_83, iq_222_86, iq_222_87, iq_222_88, iq_222_89, iq_222_92, iq_222_93, iq_222_95, iq_222_98, iq_222_99, iq_222_100, iq_222_101, iq_222_104, iq_222_105, iq_222_106, iq_222_107, iq_222_108, iq_222_111, iq_222_114, iq_222_117, iq_222_118, Option.bind_some, Option.toList, List.cons_append, List.nil_append, ↓reduceIte, nI_1, Int32.reduceLT, Int32.reduceLE, dv_1, dv_2, dv_3, dv_4, dv_6, dv_8, dv_10, dv_20, dv_100, dv_200, dv_500, Bool.false_eq_true, gf_109_0, gf_109_1, gf_109_2, gf_109_3, gf_109_4, gf_109_5, gf_109_6, gf_109_7, gf_109_8, gf_109_9, gf_109_10, gf_109_11, gf_109_12, gf_109_13, gf_109_14, gf_109_15, gf_109_16, gf_109_17, gf_109_18, gf_109_19, gf_109_20, gf_109_21, gf_109_22, gf_109_23, gf_109_24, gf_109_25, gf_109_26, gf_109_27, gf_109_28, gf_109_29, gf_109_30, kd_109, ld_110_0, st_110_0, ld_110_1, st_110_1, ld_110_2, st_110_2, ld_110_3, st_110_3, ld_110_4, st_110_4, ld_110_5, st_110_5, ld_110_6, st_110_6, ld_110_7, st_110_7, ld_110_8, st_110_8, ld_110_9, st_110_9, ld_110_10, st_110_10, ld_110_11, st_110_11, ld_110_12, st_110_12, ld_110_75, st_110_75, hD, hn', nz_lt, nz_nlt, nz_eq, nz_ne]
  | succ i ih =>
    intro j hj D l4 hD h121
    obtain ⟨-, -, -, ht⟩ := hv.2.2.2.2.2.1 j (by omega)
    have hcf : sp_cf s n m N (j + 1) = sp_cf s n m N j ||| (if s (12 + 7 * j + 5) = 1 then (if sp_gn (sp_it s n m N) j < sp_gn (sp_it (sp_ct s j) n m N) j then (1 : Int32) <<< (nI j &&& 31) else 0) else 0) := rfl
    have IH := ih (j + 1) (by omega)
    rw [hcf] at IH
    rw [iq_222_23]
    rcases ht with ht | ht
    · rw [ht, if_neg (by decide), i3_or0] at IH
      obtain ⟨D', k1, k2, k3⟩ := IH D l4 hD h121
      refine ⟨D', ?_, k2, k3⟩
      rw [← k1]
      simp (disch := first | assumption | exact kd_109 _ _ _ | omega) only [iq_222_0, iq_222_1, iq_222_2, iq_222_3, iq_222_6, iq_222_9, iq_222_12, iq_222_14, iq_222_15, iq_222_16, iq_222_19, iq_222_20, iq_222_21, iq_222_22, iq_222_24, iq_222_25, iq_222_28, iq_222_29, iq_222_30, iq_222_33, iq_222_34, iq_222_35, iq_222_36, iq_222_39, iq_222_40, iq_222_43, iq_222_44, iq_222_45, iq_222_48, iq_222_49, iq_222_50, iq_222_51, iq_222_54, iq_222_55, iq_222_56, iq_222_57, iq_222_60, iq_222_61, iq_222_63, iq_222_64, iq_222_67, iq_222_68, iq_222_69, iq_222_70, iq_222_71, iq_222_74, iq_222_75, iq_222_76, iq_222_79, iq_222_80, iq_222_81, iq_222_82, iq_222_83, iq_222_86, iq_222_87, iq_222_88, iq_222_89, iq_222_92, iq_222_93, iq_222_95, iq_222_98, iq_222_99, iq_222_100, iq_222_101, iq_222_104, iq_222_105, iq_222_106, iq_222_107, iq_222_108, iq_222_111, iq_222_114, iq_222_117, iq_222_118, Option.bind_some, Option.toList, List.cons_append, List.nil_append, ↓reduceIte, nI_1, Int32.reduceLT, Int32.reduceLE, dv_1, dv_2, dv_3, dv_4, dv_6, dv_8, dv_10, dv_20, dv_100, dv_200, dv_500, Bool.false_eq_true, gf_109_0, gf_109_1, gf_109_2, gf_109_3, gf_109_4, gf_109_5, gf_109_6, gf_109_7, gf_109_8, gf_109_9, gf_109_10, gf_109_11, gf_109_12, gf_109_13, gf_109_14, gf_109_15, gf_109_16, gf_109_17, gf_109_18, gf_109_19, gf_109_20, gf_109_21, gf_109_22, gf_109_23, gf_109_24, gf_109_25, gf_109_26, gf_109_27, gf_109_28, gf_109_29, gf_109_30, kd_109, ld_110_0, st_110_0, ld_110_1, st_110_1, ld_110_2, st_110_2, ld_110_3, st_110_3, ld_110_4, st_110_4, ld_110_5, st_110_5, ld_110_6, st_110_6, ld_110_7, st_110_7, ld_110_8, st_110_8, ld_110_9, st_110_9, ld_110_10, st_110_10, ld_110_11, st_110_11, ld_110_12, st_110_12, ld_110_75, st_110_75, hD, hn', nz_lt, nz_nlt, nz_eq, nz_ne, rc_of5, ht, show ((0 : Int32) = 1) = False by decide]
    · rw [ht, if_pos rfl] at IH
      obtain ⟨D1, a1, a2, a3, a4⟩ := rt_go R c (s := s) d N (D := D) (by omega) s hD hv h121 (fun _ _ => rfl)
      have lb := rc_laysBack R c D1 (d + 5)
      rw [a4] at lb
      have o4 := rc_of4 (d + 5) j R c D1 (by omega)
      have o2 := rc_of2 (d + 5) j R c D1 (by omega)
      rw [a2] at o4 o2
      have v2 := sv_b5 hv j (by omega) 0 (Or.inl rfl)
      have h121a : ∀ i, i < 75 → (mx_up D1 110 (sp_ct s j)) 121 i = s i := fun i hi => by rw [up_n _ _ _ _ (by omega), a3 121 (by unfold Xr; omega)]; exact h121 i hi
      obtain ⟨D2, b1, b2, b3, b4⟩ := rt_go R c (s := s) d N (D := mx_up D1 110 (sp_ct s j)) (by omega) (sp_ct s j) (up_s _ _ _) v2 h121a (fun i hi => up_n _ _ _ _ (by omega))
      have lb2 := rc_laysBack R c D2 (d + 5)
      rw [b4] at lb2
      have p4 := rc_of4 (d + 5) j R c D2 (by omega)
      have p2 := rc_of2 (d + 5) j R c D2 (by omega)
      rw [b2] at p4 p2
      have st := rc_set5 (d + 5) j 0 R c (mx_up D1 110 s) (by omega)
      rw [up_s, up_up] at st
      have st' : mx_run (d + 5) 176 0 [some (.ref 109), some (.int (nI j)), some (.int 5), some (.int 0)] [] (hp R c (mx_up D1 110 s)) = some (none, hp R c (mx_up D1 110 (sp_ct s j))) := st
      have f1 : fr Xr D (mx_up D2 110 s) := fr_up (fr_trans (fr_up a3 110 _ (Or.inl rfl)) b3) 110 _ (Or.inl rfl)
      obtain ⟨D', k1, k2, k3⟩ := IH (mx_up D2 110 s) (some (.int (sp_gn (sp_it s n m N) j))) (up_s _ _ _) (fun i hi => by rw [f1 121 (by unfold Xr; omega)]; exact h121 i hi)
      refine ⟨D', ?_, k2, fr_trans f1 k3⟩
      rw [← k1]
      have g1 : sp_it s n m N (12 + 7 * j + 4) + sp_it s n m N (12 + 7 * j + 2) = sp_gn (sp_it s n m N) j := rfl
      have g2 : sp_it (sp_ct s j) n m N (12 + 7 * j + 4) + sp_it (sp_ct s j) n m N (12 + 7 * j + 2) = sp_gn (sp_it (sp_ct s j) n m N) j := rfl
      by_cases hc : sp_gn (sp_it s n m N) j < sp_gn (sp_it (sp_ct s j) n m N) j
      · simp (disch := first | assumption | exact kd_109 _ _ _ | omega) only [iq_222_0, iq_222_1, iq_222_2, iq_222_3, iq_222_6, iq_222_9, iq_222_12, iq_222_14, iq_222_15, iq_222_16, iq_222_19, iq_222_20, iq_222_21, iq_222_22, iq_222_24, iq_222_25, iq_222_28, iq_222_29, iq_222_30, iq_222_33, iq_222_34, iq_222_35, iq_222_36, iq_222_39, iq_222_40, iq_222_43, iq_222_44, iq_222_45, iq_222_48, iq_222_49, iq_222_50, iq_222_51, iq_222_54, iq_222_55, iq_222_56, iq_222_57, iq_222_60, iq_222_61, iq_222_63, iq_222_64, iq_222_67, iq_222_68, iq_222_69, iq_222_70, iq_222_71, iq_222_74, iq_222_75, iq_222_76, iq_222_79, iq_222_80, iq_222_81, iq_222_82, iq_222_83, iq_222_86, iq_222_87, iq_222_88, iq_222_89, iq_222_92, iq_222_93, iq_222_95, iq_222_98, iq_222_99, iq_222_100, iq_222_101, iq_222_104, iq_222_105, iq_222_106, iq_222_107, iq_222_108, iq_222_111, iq_222_114, iq_222_117, iq_222_118, Option.bind_some, Option.toList, List.cons_append, List.nil_append, ↓reduceIte, nI_1, Int32.reduceLT, Int32.reduceLE, dv_1, dv_2, dv_3, dv_4, dv_6, dv_8, dv_10, dv_20, dv_100, dv_200, dv_500, Bool.false_eq_true, gf_109_0, gf_109_1, gf_109_2, gf_109_3, gf_109_4, gf_109_5, gf_109_6, gf_109_7, gf_109_8, gf_109_9, gf_109_10, gf_109_11, gf_109_12, gf_109_13, gf_109_14, gf_109_15, gf_109_16, gf_109_17, gf_109_18, gf_109_19, gf_109_20, gf_109_21, gf_109_22, gf_109_23, gf_109_24, gf_109_25, gf_109_26, gf_109_27, gf_109_28, gf_109_29, gf_109_30, kd_109, ld_110_0, st_110_0, ld_110_1, st_110_1, ld_110_2, st_110_2, ld_110_3, st_110_3, ld_110_4, st_110_4, ld_110_5, st_110_5, ld_110_6, st_110_6, ld_110_7, st_110_7, ld_110_8, st_110_8, ld_110_9, st_110_9, ld_110_10, st_110_10, ld_110_11, st_110_11, ld_110_12, st_110_12, ld_110_75, st_110_75, hD, hn', nz_lt, nz_nlt, nz_eq, nz_ne, rc_of5, ht, a1, o4, o2, lb, st', b1, p4, p2, lb2, g1, g2, hc]
      · simp (disch := first | assumption | exact kd_109 _ _ _ | omega) only [iq_222_0, iq_222_1, iq_222_2, iq_222_3, iq_222_6, iq_222_9, iq_222_12, iq_222_14, iq_222_15, iq_222_16, iq_222_19, iq_222_20, iq_222_21, iq_222_22, iq_222_24, iq_222_25, iq_222_28, iq_222_29, iq_222_30, iq_222_33, iq_222_34, iq_222_35, iq_222_36, iq_222_39, iq_222_40, iq_222_43, iq_222_44, iq_222_45, iq_222_48, iq_222_49, iq_222_50, iq_222_51, iq_222_54, iq_222_55, iq_222_56, iq_222_57, iq_222_60, iq_222_61, iq_222_63, iq_222_64, iq_222_67, iq_222_68, iq_222_69, iq_222_70, iq_222_71, iq_222_74, iq_222_75, iq_222_76, iq_222_79, iq_222_80, iq_222_81, iq_222_82, iq_222_83, iq_222_86, iq_222_87, iq_222_88, iq_222_89, iq_222_92, iq_222_93, iq_222_95, iq_222_98, iq_222_99, iq_222_100, iq_222_101, iq_222_104, iq_222_105, iq_222_106, iq_222_107, iq_222_108, iq_222_111, iq_222_114, iq_222_117, iq_222_118, Option.bind_some, Option.toList, List.cons_append, List.nil_append, ↓reduceIte, nI_1, Int32.reduceLT, Int32.reduceLE, dv_1, dv_2, dv_3, dv_4, dv_6, dv_8, dv_10, dv_20, dv_100, dv_200, dv_500, Bool.false_eq_true, gf_109_0, gf_109_1, gf_109_2, gf_109_3, gf_109_4, gf_109_5, gf_109_6, gf_109_7, gf_109_8, gf_109_9, gf_109_10, gf_109_11, gf_109_12, gf_109_13, gf_109_14, gf_109_15, gf_109_16, gf_109_17, gf_109_18, gf_109_19, gf_109_20, gf_109_21, gf_109_22, gf_109_23, gf_109_24, gf_109_25, gf_109_26, gf_109_27, gf_109_28, gf_109_29, gf_109_30, kd_109, ld_110_0, st_110_0, ld_110_1, st_110_1, ld_110_2, st_110_2, ld_110_3, st_110_3, ld_110_4, st_110_4, ld_110_5, st_110_5, ld_110_6, st_110_6, ld_110_7, st_110_7, ld_110_8, st_110_8, ld_110_9, st_110_9, ld_110_10, st_110_10, ld_110_11, st_110_11, ld_110_12, st_110_12, ld_110_75, st_110_75, hD, hn', nz_lt, nz_nlt, nz_eq, nz_ne, rc_of5, ht, a1, o4, o2, lb, st', b1, p4, p2, lb2, g1, g2, hc]
end CO
variable {d L : Nat} {xs : Nat → Int32} {c : Nat × Nat} {D : hz_D}
theorem ap_cutOff (hI : Inv c D) (x : Int32) : ap d L xs c D 84 [some (.ref 17), some (.int x), none, none] 222 [some (.ref 109), some (.int x), none, none, none] := by
  obtain ⟨h0, ⟨n, m, hr, hv, htn, hh⟩, -⟩ := id hI
  have h35 := is_s35
  have h49 := is_s49
  have hn9 := sv_n9 hv
  by_cases hk : ¬ x < 1 ∧ ¬ 60 < x
  · obtain ⟨N, h1, h60, rfl⟩ := i3_rg1 60 (by omega) hk
    have pk := eq_true hk
    have k1 := eq_false hk.1
    have k2 := eq_false hk.2
    obtain ⟨D0, z1, z2, z3⟩ := th_bec c (d + 98) L xs hr hv htn
    obtain ⟨Da, a1, a2, a3⟩ := cc_let (sx_rom L xs) c D0 (d + 94) N (by omega) h49 z2 hv
    obtain ⟨Db, b1, b2, b3, b4⟩ := cc_co_1 c (sx_rom L xs) (d + 99) (some (.int (nI N))) none 9 0 (by omega) Da
    have fa : fr Xth D Da := fr_trans z3 (th_fr a3)
    have fb : ∀ a, ¬ Xco a → Db a = D a := fun a ha => by
      rw [b4 a (fun z => ha (Or.inl z)), fa a (fun z => ha (Or.inr z))]
    have hr2 : sea_rel c Db 35 (D 110) n m := sea_fr hr hn9 (fun a ha => fb a (by unfold Xco Xth; omega))
    have htn2 : tn_ok c Db 35 := fun t ht => by
      rw [fb (35 + 3) (by unfold Xco Xth; omega)]
      exact htn t ht
    have hg : ∀ k, k < n → Db 19 k = sp_gn (sp_it (D 110) n m N) k := fun k hk => by
      obtain ⟨-, -, w2, -, w4, -, -⟩ := a2.2.2.1 k hk
      rw [b2 k (by omega) (by omega), w2, w4]
      rfl
    obtain ⟨D1, e1, e2⟩ := cc_co_2 c (d + 94) L N xs h60 hv 9 0 (by omega) Db hr2 htn2 hg
    have f1 : ∀ a, ¬ Xco a → D1 a = D a := fun a ha => by rw [e2 a (fun z => ha (Or.inr z)), fb a ha]
    have e110 : D1 110 = D 110 := f1 110 (by unfold Xco Xth; omega)
    have e121 : D1 121 = D 121 := f1 121 (by unfold Xco Xth; omega)
    have ly := rc_laysBy (sx_rom L xs) c D1 (d + 99)
    rw [e110, e121] at ly
    obtain ⟨D2, g1, g2, g3⟩ := rt_co_lp c (sx_rom L xs) (d + 94) N h60 hv n 0 (by omega) (mx_up D1 121 (sp_mix 75 (D 110) (D 121))) none (by rw [up_n _ _ _ _ (by omega)]; exact e110) (fun i hi => by rw [up_s]; exact sp_mix_lt hi)
    have fD : ∀ a, ¬ (a = 19 ∨ (49 ≤ a ∧ a ≤ 62) ∨ a = 110 ∨ a = 112 ∨ a = 121 ∨ a = 123 ∨ a = 124 ∨ a = 125 ∨ a = 127 ∨ (128 ≤ a ∧ (a - 128) % 3 = 2)) → D2 a = D a := fun a ha => by
      rw [g3 a (by unfold Xr; omega), up_n _ _ _ _ (by omega), f1 a (by unfold Xco Xth; omega)]
    refine ap_c (sp_cf (D 110) n m N n) D1 D2 ?_ ?_ (Inv_sea1 hI (I_sea_fr ⟨hr, hv, htn, hh⟩ g2 (fun a ha => fD a (by omega))) (fun a ha => fD a (by omega)))
    · simp (disch := first | assumption | omega | exact kd_sea _ _ _ (by assumption) | exact is_bts (by assumption) _ (by omega) | exact kd_bt _ _ _ (is_bts (by assumption) _ (by omega)) | exact kd_109 _ _ _ | exact kd_17 _ _ _ | exact kd_20 _ _ _) only [iq_84_0, iq_84_1, iq_84_2, iq_84_5, iq_84_6, iq_84_8, iq_84_11, iq_84_13, iq_84_14, iq_84_15, iq_84_18, iq_84_19, iq_84_22, iq_84_25, iq_84_26, iq_84_29, iq_84_30, iq_84_33, iq_84_34, iq_84_36, iq_84_38, iq_84_41, iq_84_42, iq_84_45, iq_84_46, iq_84_47, iq_84_50, iq_84_53, iq_84_54, iq_84_55, iq_84_58, iq_84_59, iq_84_62, iq_84_66, iq_84_67, iq_84_68, iq_84_70, iq_84_72, iq_84_75, iq_84_76, iq_84_79, iq_84_80, iq_84_83, iq_84_86, iq_84_87, iq_84_90, iq_84_93, iq_84_94, iq_84_95, iq_84_98, iq_84_101, iq_84_102, iq_84_105, iq_84_106, iq_84_109, iq_84_112, iq_84_113, iq_84_116, iq_84_119, iq_84_120, iq_84_121, iq_84_122, iq_84_125, iq_84_126, iq_84_129, iq_84_130, iq_84_133, iq_84_134, iq_84_137, iq_84_140, iq_84_141, iq_84_142, iq_84_145, iq_84_146, iq_84_149, iq_84_150, iq_84_151, iq_84_154, iq_84_155, iq_84_156, iq_84_157, iq_84_158, iq_84_159, iq_84_160, iq_84_163, iq_84_166, iq_84_167, Option.bind_some, Option.toList, List.cons_append, List.nil_append, ↓reduceIte, nI_1, Int32.reduceLT, Int32.reduceLE, dv_1, dv_2, dv_3, dv_4, dv_6, dv_8, dv_10, dv_20, dv_100, dv_200, dv_500, Bool.false_eq_true, gf_17_0, gf_17_1, gf_17_2, gf_17_3, gf_17_4, gf_17_5, gf_17_6, gf_17_7, gf_17_8, gf_17_9, gf_17_10, gf_17_11, gf_17_12, gf_17_13, kd_17, pf_17_4, pf_17_13, k1, k2, z1, a1]
      refine (show mx_run (d + 100) 84 35 [some (.ref 17), some (.int (nI N)), some (.int 0), none] [] (hp (sx_rom L xs) c Da) = _ from b1).trans ?_
      simp (disch := first | assumption | omega | exact kd_sea _ _ _ (by assumption) | exact is_bts (by assumption) _ (by omega) | exact kd_bt _ _ _ (is_bts (by assumption) _ (by omega)) | exact kd_109 _ _ _ | exact kd_17 _ _ _ | exact kd_20 _ _ _) only [iq_84_0, iq_84_1, iq_84_2, iq_84_5, iq_84_6, iq_84_8, iq_84_11, iq_84_13, iq_84_14, iq_84_15, iq_84_18, iq_84_19, iq_84_22, iq_84_25, iq_84_26, iq_84_29, iq_84_30, iq_84_33, iq_84_34, iq_84_36, iq_84_38, iq_84_41, iq_84_42, iq_84_45, iq_84_46, iq_84_47, iq_84_50, iq_84_53, iq_84_54, iq_84_55, iq_84_58, iq_84_59, iq_84_62, iq_84_65, iq_84_66, iq_84_67, iq_84_68, iq_84_70, iq_84_72, iq_84_75, iq_84_76, iq_84_79, iq_84_80, iq_84_83, iq_84_86, iq_84_87, iq_84_90, iq_84_93, iq_84_94, iq_84_95, iq_84_98, iq_84_101, iq_84_102, iq_84_105, iq_84_106, iq_84_109, iq_84_112, iq_84_113, iq_84_116, iq_84_119, iq_84_120, iq_84_121, iq_84_122, iq_84_125, iq_84_126, iq_84_129, iq_84_130, iq_84_133, iq_84_134, iq_84_137, iq_84_140, iq_84_141, iq_84_142, iq_84_145, iq_84_146, iq_84_149, iq_84_150, iq_84_151, iq_84_154, iq_84_155, iq_84_156, iq_84_157, iq_84_158, iq_84_159, iq_84_160, iq_84_163, iq_84_166, iq_84_167, Option.bind_some, Option.toList, List.cons_append, List.nil_append, ↓reduceIte, nI_1, Int32.reduceLT, Int32.reduceLE, dv_1, dv_2, dv_3, dv_4, dv_6, dv_8, dv_10, dv_20, dv_100, dv_200, dv_500, Bool.false_eq_true]
      rw [show min 0 n = 0 by omega] at e1
      exact e1
    · simp (disch := first | assumption | omega | exact kd_sea _ _ _ (by assumption) | exact is_bts (by assumption) _ (by omega) | exact kd_bt _ _ _ (is_bts (by assumption) _ (by omega)) | exact kd_109 _ _ _ | exact kd_17 _ _ _ | exact kd_20 _ _ _) only [iq_222_0, iq_222_1, iq_222_2, iq_222_3, iq_222_6, iq_222_9, iq_222_12, iq_222_14, iq_222_15, iq_222_16, iq_222_19, iq_222_20, iq_222_21, iq_222_22, iq_222_24, iq_222_25, iq_222_28, iq_222_29, iq_222_30, iq_222_33, iq_222_34, iq_222_35, iq_222_36, iq_222_39, iq_222_40, iq_222_43, iq_222_44, iq_222_45, iq_222_48, iq_222_49, iq_222_50, iq_222_51, iq_222_54, iq_222_55, iq_222_56, iq_222_57, iq_222_60, iq_222_61, iq_222_63, iq_222_64, iq_222_67, iq_222_68, iq_222_69, iq_222_70, iq_222_71, iq_222_74, iq_222_75, iq_222_76, iq_222_79, iq_222_80, iq_222_81, iq_222_82, iq_222_83, iq_222_86, iq_222_87, iq_222_88, iq_222_89, iq_222_92, iq_222_93, iq_222_95, iq_222_98, iq_222_99, iq_222_100, iq_222_101, iq_222_104, iq_222_105, iq_222_106, iq_222_107, iq_222_108, iq_222_111, iq_222_114, iq_222_117, iq_222_118, Option.bind_some, Option.toList, List.cons_append, List.nil_append, ↓reduceIte, nI_1, Int32.reduceLT, Int32.reduceLE, dv_1, dv_2, dv_3, dv_4, dv_6, dv_8, dv_10, dv_20, dv_100, dv_200, dv_500, Bool.false_eq_true, rc_ee, rc_ge_0, rc_le_0, rc_ge_1, rc_le_1, rc_ge_2, rc_le_2, rc_ge_3, rc_le_3, rc_ge_4, rc_le_4, rc_ge_5, rc_le_5, rc_ge_9, rc_le_9, rc_ge_30, rc_le_30, rc_ge_40, rc_le_40, rc_ge_48, rc_le_48, rc_ge_50, rc_le_50, rc_ge_57, rc_le_57, rc_ge_60, rc_le_60, rc_ge_97, rc_le_97, rc_ge_100, rc_le_100, rc_ge_122, rc_le_122, rc_ge_9999, rc_le_9999, rc_ge_99999, rc_le_99999, rc_ge_m99999, rc_le_m99999, rc_ge_m1, rc_le_m1, pk, ly]
      exact g1
  · have pk := eq_false hk
    refine ap_c (-1000000001) D D ?_ ?_ hI
    · by_cases k1 : x < 1
      · simp (disch := first | assumption | omega | exact kd_sea _ _ _ (by assumption) | exact is_bts (by assumption) _ (by omega) | exact kd_bt _ _ _ (is_bts (by assumption) _ (by omega)) | exact kd_109 _ _ _ | exact kd_17 _ _ _ | exact kd_20 _ _ _) only [iq_84_0, iq_84_1, iq_84_2, iq_84_5, iq_84_6, iq_84_8, iq_84_11, iq_84_13, iq_84_14, iq_84_15, iq_84_18, iq_84_19, iq_84_22, iq_84_25, iq_84_26, iq_84_29, iq_84_30, iq_84_33, iq_84_34, iq_84_36, iq_84_38, iq_84_41, iq_84_42, iq_84_45, iq_84_46, iq_84_47, iq_84_50, iq_84_53, iq_84_54, iq_84_55, iq_84_58, iq_84_59, iq_84_62, iq_84_66, iq_84_67, iq_84_68, iq_84_70, iq_84_72, iq_84_75, iq_84_76, iq_84_79, iq_84_80, iq_84_83, iq_84_86, iq_84_87, iq_84_90, iq_84_93, iq_84_94, iq_84_95, iq_84_98, iq_84_101, iq_84_102, iq_84_105, iq_84_106, iq_84_109, iq_84_112, iq_84_113, iq_84_116, iq_84_119, iq_84_120, iq_84_121, iq_84_122, iq_84_125, iq_84_126, iq_84_129, iq_84_130, iq_84_133, iq_84_134, iq_84_137, iq_84_140, iq_84_141, iq_84_142, iq_84_145, iq_84_146, iq_84_149, iq_84_150, iq_84_151, iq_84_154, iq_84_155, iq_84_156, iq_84_157, iq_84_158, iq_84_159, iq_84_160, iq_84_163, iq_84_166, iq_84_167, Option.bind_some, Option.toList, List.cons_append, List.nil_append, ↓reduceIte, nI_1, Int32.reduceLT, Int32.reduceLE, dv_1, dv_2, dv_3, dv_4, dv_6, dv_8, dv_10, dv_20, dv_100, dv_200, dv_500, Bool.false_eq_true, k1]
      · have k2 : 60 < x := by
          by_cases z : 60 < x
          · exact z
          · exact absurd ⟨k1, z⟩ hk
        simp (disch := first | assumption | omega | exact kd_sea _ _ _ (by assumption) | exact is_bts (by assumption) _ (by omega) | exact kd_bt _ _ _ (is_bts (by assumption) _ (by omega)) | exact kd_109 _ _ _ | exact kd_17 _ _ _ | exact kd_20 _ _ _) only [iq_84_0, iq_84_1, iq_84_2, iq_84_5, iq_84_6, iq_84_8, iq_84_11, iq_84_13, iq_84_14, iq_84_15, iq_84_18, iq_84_19, iq_84_22, iq_84_25, iq_84_26, iq_84_29, iq_84_30, iq_84_33, iq_84_34, iq_84_36, iq_84_38, iq_84_41, iq_84_42, iq_84_45, iq_84_46, iq_84_47, iq_84_50, iq_84_53, iq_84_54, iq_84_55, iq_84_58, iq_84_59, iq_84_62, iq_84_66, iq_84_67, iq_84_68, iq_84_70, iq_84_72, iq_84_75, iq_84_76, iq_84_79, iq_84_80, iq_84_83, iq_84_86, iq_84_87, iq_84_90, iq_84_93, iq_84_94, iq_84_95, iq_84_98, iq_84_101, iq_84_102, iq_84_105, iq_84_106, iq_84_109, iq_84_112, iq_84_113, iq_84_116, iq_84_119, iq_84_120, iq_84_121, iq_84_122, iq_84_125, iq_84_126, iq_84_129, iq_84_130, iq_84_133, iq_84_134, iq_84_137, iq_84_140, iq_84_141, iq_84_142, iq_84_145, iq_84_146, iq_84_149, iq_84_150, iq_84_151, iq_84_154, iq_84_155, iq_84_156, iq_84_157, iq_84_158, iq_84_159, iq_84_160, iq_84_163, iq_84_166, iq_84_167, Option.bind_some, Option.toList, List.cons_append, List.nil_append, ↓reduceIte, nI_1, Int32.reduceLT, Int32.reduceLE, dv_1, dv_2, dv_3, dv_4, dv_6, dv_8, dv_10, dv_20, dv_100, dv_200, dv_500, Bool.false_eq_true, k1, k2]
    · simp (disch := first | assumption | omega | exact kd_sea _ _ _ (by assumption) | exact is_bts (by assumption) _ (by omega) | exact kd_bt _ _ _ (is_bts (by assumption) _ (by omega)) | exact kd_109 _ _ _ | exact kd_17 _ _ _ | exact kd_20 _ _ _) only [iq_222_0, iq_222_1, iq_222_2, iq_222_3, iq_222_6, iq_222_9, iq_222_12, iq_222_14, iq_222_15, iq_222_16, iq_222_19, iq_222_20, iq_222_21, iq_222_22, iq_222_24, iq_222_25, iq_222_28, iq_222_29, iq_222_30, iq_222_33, iq_222_34, iq_222_35, iq_222_36, iq_222_39, iq_222_40, iq_222_43, iq_222_44, iq_222_45, iq_222_48, iq_222_49, iq_222_50, iq_222_51, iq_222_54, iq_222_55, iq_222_56, iq_222_57, iq_222_60, iq_222_61, iq_222_63, iq_222_64, iq_222_67, iq_222_68, iq_222_69, iq_222_70, iq_222_71, iq_222_74, iq_222_75, iq_222_76, iq_222_79, iq_222_80, iq_222_81, iq_222_82, iq_222_83, iq_222_86, iq_222_87, iq_222_88, iq_222_89, iq_222_92, iq_222_93, iq_222_95, iq_222_98, iq_222_99, iq_222_100, iq_222_101, iq_222_104, iq_222_105, iq_222_106, iq_222_107, iq_222_108, iq_222_111, iq_222_114, iq_222_117, iq_222_118, Option.bind_some, Option.toList, List.cons_append, List.nil_append, ↓reduceIte, nI_1, Int32.reduceLT, Int32.reduceLE, dv_1, dv_2, dv_3, dv_4, dv_6, dv_8, dv_10, dv_20, dv_100, dv_200, dv_500, Bool.false_eq_true, rc_ee, rc_ge_0, rc_le_0, rc_ge_1, rc_le_1, rc_ge_2, rc_le_2, rc_ge_3, rc_le_3, rc_ge_4, rc_le_4, rc_ge_5, rc_le_5, rc_ge_9, rc_le_9, rc_ge_30, rc_le_30, rc_ge_40, rc_le_40, rc_ge_48, rc_le_48, rc_ge_50, rc_le_50, rc_ge_57, rc_le_57, rc_ge_60, rc_le_60, rc_ge_97, rc_le_97, rc_ge_100, rc_le_100, rc_ge_122, rc_le_122, rc_ge_9999, rc_le_9999, rc_ge_99999, rc_le_99999, rc_ge_m99999, rc_le_m99999, rc_ge_m1, rc_le_m1, pk]
