def sp_off (v p : Int32) : Int32 := if v < p then p - v else v - p
theorem sp_offa {v : Int32} {p : Nat} (hp : p ≤ 9999) (h1 : -99999 ≤ v.toInt) (h2 : v.toInt ≤ 99999) : (if 0 ≤ nI p - v then nI p - v else 0 - (nI p - v)) = sp_off v (nI p) := by
  have tp : (nI p).toInt = (p : Int) := nI_toInt (by omega)
  have td : (nI p - v).toInt = (p : Int) - v.toInt := by
    rw [Int32.toInt_sub, tp]
    exact Int.bmod_eq_of_le (by omega) (by omega)
  unfold sp_off
  by_cases c1 : v < nI p
  · rw [if_pos c1]
    rw [Int32.lt_iff_toInt_lt, tp] at c1
    rw [if_pos (by rw [Int32.le_iff_toInt_le, td, show (0 : Int32).toInt = 0 by decide]; omega)]
  · rw [if_neg c1]
    rw [Int32.lt_iff_toInt_lt, tp] at c1
    apply Int32.toInt_inj.mp
    have t2 : (v - nI p).toInt = v.toInt - (p : Int) := by
      rw [Int32.toInt_sub, tp]
      exact Int.bmod_eq_of_le (by omega) (by omega)
    rw [t2]
    by_cases c2 : 0 ≤ nI p - v
    · rw [if_pos c2, td]
      rw [Int32.le_iff_toInt_le, td, show (0 : Int32).toInt = 0 by decide] at c2
      omega
    · rw [if_neg c2, Int32.toInt_sub, td, show (0 : Int32).toInt = 0 by decide]
      rw [Int.bmod_eq_of_le (by omega) (by omega)]
      omega
/-- numbers of a sheet are small -/
theorem sh_sm {D : hz_D} {a : Nat} {z : Int32} {f : Nat → Int32} (hr : sh_rel D a z f) (hne : D a 0 ≠ -1) {i : Nat} (hi : i < 24) (hv : f i ≠ -1000000005) : -99999 ≤ (f i).toInt ∧ (f i).toInt ≤ 99999 := by
  obtain ⟨r1, -, -, r4⟩ := hr
  obtain ⟨g0, g1, g2⟩ := r4 i hi
  rcases r1 with e | e | e
  · exact absurd e hne
  · rw [(g1 e).1] at g0
    have h' : (decide (-32768 ≤ f i) && decide (f i ≤ 32767)) = true := g0
    simp only [Bool.and_eq_true, decide_eq_true_eq] at h'
    obtain ⟨h1, h2⟩ := h'
    rw [Int32.le_iff_toInt_le, show (-32768 : Int32).toInt = -32768 by decide] at h1
    rw [Int32.le_iff_toInt_le, show (32767 : Int32).toInt = 32767 by decide] at h2
    omega
  · rcases g2 e with ⟨y, -⟩ | ⟨-, h1, h2, -⟩
    · exact absurd y hv
    · rw [Int32.lt_iff_toInt_lt, show (-99999 : Int32).toInt = -99999 by decide] at h1
      rw [Int32.lt_iff_toInt_lt, show (99999 : Int32).toInt = 99999 by decide] at h2
      omega
def sp_df (f s : Nat → Int32) (n : Nat) : Nat → Int32
  | 0 => 0
  | k + 1 => sp_df f s n k + (if f k = -1000000005 then 0 else sp_off (f k) (if k < n then s (12 + 7 * k + 2) else 0))
section WH
variable (c : Nat × Nat) {n m : Nat} {s : Nat → Int32}
theorem cs_df_lp (R : Nat → Option mx_MC) (D : hz_D) (d q : Nat) {a : Nat} {z : Int32} {f : Nat → Int32} (h : is_sh a) (hr : sh_rel D a z f) (hz : z = nI q) (h24 : q ≤ 24) (hne : D a 0 ≠ -1) (hS : sea_rel c D 49 s n m) (hv : sv s n m) : ∀ i k : Nat, k + i = q → ∀ l4 : Option Value, mx_run (d + 2) 90 4 [some (.ref 49), some (.ref a), some (.int (sp_df f s n k)), some (.int (nI k)), l4] [] (hp R c D) = some (some (.int (sp_df f s n q)), hp R c D) := by
  have h49 := is_s49
  have hn9 := sv_n9 hv
  have hn : D 49 1 = nI n := hS.1.1.trans (sv_n hv)
  have hq : D a 1 = nI q := hr.2.1.trans hz
  have hs := fun d x => cc_has R c D d n h49 hn hn9 x
  intro i
  induction i with
  | zero =>
    intro k hk l4
    obtain rfl : k = q := by omega
    rw [iq_90_4]
    simp (disch := first | assumption | omega | exact kd_sh _ _ _ (by assumption) | exact kd_sea _ _ _ (by assumption) | exact is_bts (by assumption) _ (by omega) | exact kd_bt _ _ _ (by first | assumption | exact is_bts (by assumption) _ (by omega)) | exact kd_109 _ _ _ | exact kd_17 _ _ _ | exact kd_20 _ _ _) only [iq_90_0, iq_90_1, iq_90_2, iq_90_3, iq_90_5, iq_90_5n, iq_90_6, iq_90_9, iq_90_12, iq_90_12n, iq_90_13, iq_90_14, iq_90_17, iq_90_20, iq_90_21, iq_90_22, iq_90_25, iq_90_28, iq_90_29, iq_90_32, iq_90_33, iq_90_34, iq_90_37, iq_90_40, iq_90_41, iq_90_43, iq_90_44, iq_90_46, iq_90_46n, iq_90_47, iq_90_48, iq_90_51, iq_90_52, iq_90_55, iq_90_56, iq_90_57, iq_90_60, iq_90_63, iq_90_64, Option.bind_some, Option.toList, List.cons_append, List.nil_append, ↓reduceIte, nI_1, Int32.reduceLT, Int32.reduceLE, dv_1, dv_2, dv_3, dv_4, dv_6, dv_8, dv_10, dv_20, dv_100, dv_200, dv_500, Bool.false_eq_true, gf_sh_0, gf_sh_1, gf_sh_2, gf_sh_3, kd_sh, pf_sh_0, pf_sh_1, hq, nz_lt, nz_nlt, nz_eq, nz_ne]
  | succ i ih =>
    intro k hk l4
    obtain ⟨c1, c2⟩ := cs_at R c D d q k h hr hz h24 (by omega) hne
    have hst : sp_df f s n (k + 1) = sp_df f s n k + (if f k = -1000000005 then 0 else sp_off (f k) (if k < n then s (12 + 7 * k + 2) else 0)) := rfl
    have IH := ih (k + 1) (by omega)
    rw [hst] at IH
    rw [iq_90_4]
    by_cases hv1 : f k = -1000000005
    · rw [if_pos hv1] at c1
      rw [if_pos hv1, Int32.add_zero] at IH
      rw [← IH l4]
      simp (disch := first | assumption | omega | exact kd_sh _ _ _ (by assumption) | exact kd_sea _ _ _ (by assumption) | exact is_bts (by assumption) _ (by omega) | exact kd_bt _ _ _ (by first | assumption | exact is_bts (by assumption) _ (by omega)) | exact kd_109 _ _ _ | exact kd_17 _ _ _ | exact kd_20 _ _ _) only [iq_90_0, iq_90_1, iq_90_2, iq_90_3, iq_90_5, iq_90_5n, iq_90_6, iq_90_9, iq_90_12, iq_90_12n, iq_90_13, iq_90_14, iq_90_17, iq_90_20, iq_90_21, iq_90_22, iq_90_25, iq_90_28, iq_90_29, iq_90_32, iq_90_33, iq_90_34, iq_90_37, iq_90_40, iq_90_41, iq_90_43, iq_90_44, iq_90_46, iq_90_46n, iq_90_47, iq_90_48, iq_90_51, iq_90_52, iq_90_55, iq_90_56, iq_90_57, iq_90_60, iq_90_63, iq_90_64, Option.bind_some, Option.toList, List.cons_append, List.nil_append, ↓reduceIte, nI_1, Int32.reduceLT, Int32.reduceLE, dv_1, dv_2, dv_3, dv_4, dv_6, dv_8, dv_10, dv_20, dv_100, dv_200, dv_500, Bool.false_eq_true, gf_sh_0, gf_sh_1, gf_sh_2, gf_sh_3, kd_sh, pf_sh_0, pf_sh_1, hq, nz_lt, nz_nlt, nz_eq, nz_ne, c1]
    · rw [if_neg hv1] at c1
      have c2 := c2 hv1
      obtain ⟨sm1, sm2⟩ := sh_sm hr hne (by omega) hv1
      rw [if_neg hv1] at IH
      by_cases hkn : k < n
      · have ph : (¬ nI k < 0 ∧ ¬ nI n - 1 < nI k) = True := eq_true ((nz_bt (by omega) _).mpr ⟨k, hkn, rfl⟩)
        obtain ⟨b0, b1, b2, b3, b4, b5, b6⟩ := hS.2.2.1 k hkn
        obtain ⟨-, -, ⟨p, hp1, ep⟩, -⟩ := hv.2.2.2.2.2.1 k hkn
        rw [if_pos hkn, ep] at IH
        rw [ep] at b2
        have oa := sp_offa hp1 sm1 sm2
        rw [← IH (some (.int (nI p)))]
        simp (disch := first | assumption | omega | exact kd_sh _ _ _ (by assumption) | exact kd_sea _ _ _ (by assumption) | exact is_bts (by assumption) _ (by omega) | exact kd_bt _ _ _ (by first | assumption | exact is_bts (by assumption) _ (by omega)) | exact kd_109 _ _ _ | exact kd_17 _ _ _ | exact kd_20 _ _ _) only [iq_90_0, iq_90_1, iq_90_2, iq_90_3, iq_90_5, iq_90_5n, iq_90_6, iq_90_9, iq_90_12, iq_90_12n, iq_90_13, iq_90_14, iq_90_17, iq_90_20, iq_90_21, iq_90_22, iq_90_25, iq_90_28, iq_90_29, iq_90_32, iq_90_33, iq_90_34, iq_90_37, iq_90_40, iq_90_41, iq_90_43, iq_90_44, iq_90_46, iq_90_46n, iq_90_47, iq_90_48, iq_90_51, iq_90_52, iq_90_55, iq_90_56, iq_90_57, iq_90_60, iq_90_63, iq_90_64, Option.bind_some, Option.toList, List.cons_append, List.nil_append, ↓reduceIte, nI_1, Int32.reduceLT, Int32.reduceLE, dv_1, dv_2, dv_3, dv_4, dv_6, dv_8, dv_10, dv_20, dv_100, dv_200, dv_500, Bool.false_eq_true, gf_sea_0, gf_sea_1, gf_sea_2, gf_sea_3, gf_sea_4, gf_sea_5, gf_sea_6, gf_sea_7, gf_sea_8, gf_sea_9, gf_sea_10, kd_sea, pf_sea_1, pf_sea_2, pf_sea_4, pf_sea_5, pf_sea_6, pf_sea_7, pf_sea_9, gf_bt_0, gf_bt_1, gf_bt_2, gf_bt_3, gf_bt_4, gf_bt_5, gf_bt_6, kd_bt, pf_bt_0, pf_bt_1, pf_bt_2, pf_bt_3, pf_bt_4, pf_bt_5, pf_bt_6, gf_sh_0, gf_sh_1, gf_sh_2, gf_sh_3, kd_sh, pf_sh_0, pf_sh_1, ld_rul, st_rul, ld_cnt, st_cnt, aa_bs, aa_tx, ru_0, ru_1, ru_2, ru_3, ru_4, su_r0, su_r1, su_r2, hq, nz_lt, nz_nlt, nz_eq, nz_ne, c1, c2, hs, ph, b2, oa]
      · have ph : (¬ nI k < 0 ∧ ¬ nI n - 1 < nI k) = False := eq_false (fun y => by
          obtain ⟨j, hj, e⟩ := (nz_bt (by omega) _).mp y
          have := (nI_eq (by omega) (by omega)).mp e
          omega)
        rw [if_neg hkn] at IH
        have oa := sp_offa (v := f k) (p := 0) (by omega) sm1 sm2
        rw [nI_0] at oa
        rw [← IH (some (.int 0))]
        simp (disch := first | assumption | omega | exact kd_sh _ _ _ (by assumption) | exact kd_sea _ _ _ (by assumption) | exact is_bts (by assumption) _ (by omega) | exact kd_bt _ _ _ (by first | assumption | exact is_bts (by assumption) _ (by omega)) | exact kd_109 _ _ _ | exact kd_17 _ _ _ | exact kd_20 _ _ _) only [iq_90_0, iq_90_1, iq_90_2, iq_90_3, iq_90_5, iq_90_5n, iq_90_6, iq_90_9, iq_90_12, iq_90_12n, iq_90_13, iq_90_14, iq_90_17, iq_90_20, iq_90_21, iq_90_22, iq_90_25, iq_90_28, iq_90_29, iq_90_32, iq_90_33, iq_90_34, iq_90_37, iq_90_40, iq_90_41, iq_90_43, iq_90_44, iq_90_46, iq_90_46n, iq_90_47, iq_90_48, iq_90_51, iq_90_52, iq_90_55, iq_90_56, iq_90_57, iq_90_60, iq_90_63, iq_90_64, Option.bind_some, Option.toList, List.cons_append, List.nil_append, ↓reduceIte, nI_1, Int32.reduceLT, Int32.reduceLE, dv_1, dv_2, dv_3, dv_4, dv_6, dv_8, dv_10, dv_20, dv_100, dv_200, dv_500, Bool.false_eq_true, gf_sea_0, gf_sea_1, gf_sea_2, gf_sea_3, gf_sea_4, gf_sea_5, gf_sea_6, gf_sea_7, gf_sea_8, gf_sea_9, gf_sea_10, kd_sea, pf_sea_1, pf_sea_2, pf_sea_4, pf_sea_5, pf_sea_6, pf_sea_7, pf_sea_9, gf_sh_0, gf_sh_1, gf_sh_2, gf_sh_3, kd_sh, pf_sh_0, pf_sh_1, hq, nz_lt, nz_nlt, nz_eq, nz_ne, c1, c2, hs, ph, oa]
theorem rs_df_lp (R : Nat → Option mx_MC) (D : hz_D) (d q k0 : Nat) (f : Nat → Int32) (hk0 : k0 < 4) (hq : D 114 k0 = nI q) (h24 : q ≤ 24) (hf : ∀ i, i < 24 → D 115 (24 * k0 + i) = f i) (hv : sv (D 110) n m) (l2 l3 l4 l5 l6 : Option Value) : ∀ i k : Nat, k + i = q → ∀ l9 : Option Value, ∃ l9', mx_run (d + 1) 252 84 [some (.ref 109), some (.int (nI k0)), l2, l3, l4, l5, l6, some (.int (sp_df f (D 110) n k)), some (.int (nI k)), l9] [] (hp R c D) = mx_run (d + 1) 252 158 [some (.ref 109), some (.int (nI k0)), l2, l3, l4, l5, l6, some (.int (sp_df f (D 110) n q)), some (.int (nI q)), l9'] [] (hp R c D) := by
  have hn' := sv_n hv
  have hn9 := sv_n9 hv
  intro i
  induction i with
  | zero =>
    intro k hk l9
    obtain rfl : k = q := by omega
    refine ⟨l9, ?_⟩
    rw [iq_252_84]
    simp (disch := first | assumption | exact kd_109 _ _ _ | omega) only [iq_252_0, iq_252_1, iq_252_4, iq_252_7, iq_252_8, iq_252_9, iq_252_10, iq_252_13, iq_252_16, iq_252_19, iq_252_20, iq_252_21, iq_252_22, iq_252_23, iq_252_26, iq_252_29, iq_252_31, iq_252_32, iq_252_33, iq_252_36, iq_252_37, iq_252_38, iq_252_41, iq_252_44, iq_252_45, iq_252_46, iq_252_49, iq_252_50, iq_252_52, iq_252_53, iq_252_55, iq_252_56, iq_252_58, iq_252_60, iq_252_61, iq_252_64, iq_252_65, iq_252_68, iq_252_70, iq_252_72, iq_252_73, iq_252_74, iq_252_75, iq_252_78, iq_252_79, iq_252_81, iq_252_82, iq_252_86, iq_252_87, iq_252_90, iq_252_91, iq_252_92, iq_252_95, iq_252_96, iq_252_99, iq_252_101, iq_252_102, iq_252_103, iq_252_105, iq_252_106, iq_252_107, iq_252_109, iq_252_111, iq_252_113, iq_252_115, iq_252_118, iq_252_119, iq_252_122, iq_252_124, iq_252_126, iq_252_127, iq_252_130, iq_252_131, iq_252_132, iq_252_135, iq_252_136, iq_252_138, iq_252_139, iq_252_142, iq_252_145, iq_252_146, iq_252_149, iq_252_150, iq_252_152, iq_252_155, iq_252_159, iq_252_162, iq_252_164, iq_252_167, iq_252_169, iq_252_171, iq_252_174, iq_252_176, iq_252_178, iq_252_180, iq_252_182, iq_252_185, iq_252_188, iq_252_189, iq_252_192, iq_252_194, iq_252_197, iq_252_199, Option.bind_some, Option.toList, List.cons_append, List.nil_append, ↓reduceIte, nI_1, Int32.reduceLT, Int32.reduceLE, dv_1, dv_2, dv_3, dv_4, dv_6, dv_8, dv_10, dv_20, dv_100, dv_200, dv_500, Bool.false_eq_true, gf_109_0, gf_109_1, gf_109_2, gf_109_3, gf_109_4, gf_109_5, gf_109_6, gf_109_7, gf_109_8, gf_109_9, gf_109_10, gf_109_11, gf_109_12, gf_109_13, gf_109_14, gf_109_15, gf_109_16, gf_109_17, gf_109_18, gf_109_19, gf_109_20, gf_109_21, gf_109_22, gf_109_23, gf_109_24, gf_109_25, gf_109_26, gf_109_27, gf_109_28, gf_109_29, gf_109_30, kd_109, ld_114, hq, nz_lt, nz_nlt, nz_eq, nz_ne]
  | succ i ih =>
    intro k hk l9
    have ef := hf k (by omega)
    have hst : sp_df f (D 110) n (k + 1) = sp_df f (D 110) n k + (if f k = -1000000005 then 0 else sp_off (f k) (if k < n then D 110 (12 + 7 * k + 2) else 0)) := rfl
    obtain ⟨l9', IH⟩ := ih (k + 1) (by omega) (some (.int (f k)))
    rw [hst] at IH
    refine ⟨l9', ?_⟩
    rw [← IH, iq_252_84]
    by_cases hv1 : f k = -1000000005
    · rw [if_pos hv1, hv1]
      simp (disch := first | assumption | exact kd_109 _ _ _ | omega) only [iq_252_0, iq_252_1, iq_252_4, iq_252_7, iq_252_8, iq_252_9, iq_252_10, iq_252_13, iq_252_16, iq_252_19, iq_252_20, iq_252_21, iq_252_22, iq_252_23, iq_252_26, iq_252_29, iq_252_31, iq_252_32, iq_252_33, iq_252_36, iq_252_37, iq_252_38, iq_252_41, iq_252_44, iq_252_45, iq_252_46, iq_252_49, iq_252_50, iq_252_52, iq_252_53, iq_252_55, iq_252_56, iq_252_58, iq_252_60, iq_252_61, iq_252_64, iq_252_65, iq_252_68, iq_252_70, iq_252_72, iq_252_73, iq_252_74, iq_252_75, iq_252_78, iq_252_79, iq_252_81, iq_252_82, iq_252_86, iq_252_87, iq_252_90, iq_252_91, iq_252_92, iq_252_95, iq_252_96, iq_252_99, iq_252_101, iq_252_102, iq_252_103, iq_252_105, iq_252_106, iq_252_107, iq_252_109, iq_252_111, iq_252_113, iq_252_115, iq_252_118, iq_252_119, iq_252_122, iq_252_124, iq_252_126, iq_252_127, iq_252_130, iq_252_131, iq_252_132, iq_252_135, iq_252_136, iq_252_138, iq_252_139, iq_252_142, iq_252_145, iq_252_146, iq_252_149, iq_252_150, iq_252_152, iq_252_155, iq_252_159, iq_252_162, iq_252_164, iq_252_167, iq_252_169, iq_252_171, iq_252_174, iq_252_176, iq_252_178, iq_252_180, iq_252_182, iq_252_185, iq_252_188, iq_252_189, iq_252_192, iq_252_194, iq_252_197, iq_252_199, Option.bind_some, Option.toList, List.cons_append, List.nil_append, ↓reduceIte, nI_1, Int32.reduceLT, Int32.reduceLE, dv_1, dv_2, dv_3, dv_4, dv_6, dv_8, dv_10, dv_20, dv_100, dv_200, dv_500, Bool.false_eq_true, gf_109_0, gf_109_1, gf_109_2, gf_109_3, gf_109_4, gf_109_5, gf_109_6, gf_109_7, gf_109_8, gf_109_9, gf_109_10, gf_109_11, gf_109_12, gf_109_13, gf_109_14, gf_109_15, gf_109_16, gf_109_17, gf_109_18, gf_109_19, gf_109_20, gf_109_21, gf_109_22, gf_109_23, gf_109_24, gf_109_25, gf_109_26, gf_109_27, gf_109_28, gf_109_29, gf_109_30, kd_109, ld_114, hq, nz_lt, nz_nlt, nz_eq, nz_ne, ix24, ld_115, ef, hv1]
    · rw [if_neg hv1]
      unfold sp_off
      by_cases hkn : k < n
      · rw [if_pos hkn]
        simp (disch := first | assumption | exact kd_109 _ _ _ | omega) only [iq_252_0, iq_252_1, iq_252_4, iq_252_7, iq_252_8, iq_252_9, iq_252_10, iq_252_13, iq_252_16, iq_252_19, iq_252_20, iq_252_21, iq_252_22, iq_252_23, iq_252_26, iq_252_29, iq_252_31, iq_252_32, iq_252_33, iq_252_36, iq_252_37, iq_252_38, iq_252_41, iq_252_44, iq_252_45, iq_252_46, iq_252_49, iq_252_50, iq_252_52, iq_252_53, iq_252_55, iq_252_56, iq_252_58, iq_252_60, iq_252_61, iq_252_64, iq_252_65, iq_252_68, iq_252_70, iq_252_72, iq_252_73, iq_252_74, iq_252_75, iq_252_78, iq_252_79, iq_252_81, iq_252_82, iq_252_86, iq_252_87, iq_252_90, iq_252_91, iq_252_92, iq_252_95, iq_252_96, iq_252_99, iq_252_101, iq_252_102, iq_252_103, iq_252_105, iq_252_106, iq_252_107, iq_252_109, iq_252_111, iq_252_113, iq_252_115, iq_252_118, iq_252_119, iq_252_122, iq_252_124, iq_252_126, iq_252_127, iq_252_130, iq_252_131, iq_252_132, iq_252_135, iq_252_136, iq_252_138, iq_252_139, iq_252_142, iq_252_145, iq_252_146, iq_252_149, iq_252_150, iq_252_152, iq_252_155, iq_252_159, iq_252_162, iq_252_164, iq_252_167, iq_252_169, iq_252_171, iq_252_174, iq_252_176, iq_252_178, iq_252_180, iq_252_182, iq_252_185, iq_252_188, iq_252_189, iq_252_192, iq_252_194, iq_252_197, iq_252_199, Option.bind_some, Option.toList, List.cons_append, List.nil_append, ↓reduceIte, nI_1, Int32.reduceLT, Int32.reduceLE, dv_1, dv_2, dv_3, dv_4, dv_6, dv_8, dv_10, dv_20, dv_100, dv_200, dv_500, Bool.false_eq_true, gf_109_0, gf_109_1, gf_109_2, gf_109_3, gf_109_4, gf_109_5, gf_109_6, gf_109_7, gf_109_8, gf_109_9, gf_109_10, gf_109_11, gf_109_12, gf_109_13, gf_109_14, gf_109_15, gf_109_16, gf_109_17, gf_109_18, gf_109_19, gf_109_20, gf_109_21, gf_109_22, gf_109_23, gf_109_24, gf_109_25, gf_109_26, gf_109_27, gf_109_28, gf_109_29, gf_109_30, kd_109, ld_110_0, st_110_0, ld_110_1, st_110_1, ld_110_2, st_110_2, ld_110_3, st_110_3, ld_110_4, st_110_4, ld_110_5, st_110_5, ld_110_6, st_110_6, ld_110_7, st_110_7, ld_110_8, st_110_8, ld_110_9, st_110_9, ld_110_10, st_110_10, ld_110_11, st_110_11, ld_110_12, st_110_12, ld_110_75, st_110_75, ld_114, hq, hn', nz_lt, nz_nlt, nz_eq, nz_ne, ix24, ld_115, ef, hv1, rc_of2, rc_off]
      · rw [if_neg hkn]
        simp (disch := first | assumption | exact kd_109 _ _ _ | omega) only [iq_252_0, iq_252_1, iq_252_4, iq_252_7, iq_252_8, iq_252_9, iq_252_10, iq_252_13, iq_252_16, iq_252_19, iq_252_20, iq_252_21, iq_252_22, iq_252_23, iq_252_26, iq_252_29, iq_252_31, iq_252_32, iq_252_33, iq_252_36, iq_252_37, iq_252_38, iq_252_41, iq_252_44, iq_252_45, iq_252_46, iq_252_49, iq_252_50, iq_252_52, iq_252_53, iq_252_55, iq_252_56, iq_252_58, iq_252_60, iq_252_61, iq_252_64, iq_252_65, iq_252_68, iq_252_70, iq_252_72, iq_252_73, iq_252_74, iq_252_75, iq_252_78, iq_252_79, iq_252_81, iq_252_82, iq_252_86, iq_252_87, iq_252_90, iq_252_91, iq_252_92, iq_252_95, iq_252_96, iq_252_99, iq_252_101, iq_252_102, iq_252_103, iq_252_105, iq_252_106, iq_252_107, iq_252_109, iq_252_111, iq_252_113, iq_252_115, iq_252_118, iq_252_119, iq_252_122, iq_252_124, iq_252_126, iq_252_127, iq_252_130, iq_252_131, iq_252_132, iq_252_135, iq_252_136, iq_252_138, iq_252_139, iq_252_142, iq_252_145, iq_252_146, iq_252_149, iq_252_150, iq_252_152, iq_252_155, iq_252_159, iq_252_162, iq_252_164, iq_252_167, iq_252_169, iq_252_171, iq_252_174, iq_252_176, iq_252_178, iq_252_180, iq_252_182, iq_252_185, iq_252_188, iq_252_189, iq_252_192, iq_252_194, iq_252_197, iq_252_199, Option.bind_some, Option.toList, List.cons_append, List.nil_append, ↓reduceIte, nI_1, Int32.reduceLT, Int32.reduceLE, dv_1, dv_2, dv_3, dv_4, dv_6, dv_8, dv_10, dv_20, dv_100, dv_200, dv_500, Bool.false_eq_true, gf_109_0, gf_109_1, gf_109_2, gf_109_3, gf_109_4, gf_109_5, gf_109_6, gf_109_7, gf_109_8, gf_109_9, gf_109_10, gf_109_11, gf_109_12, gf_109_13, gf_109_14, gf_109_15, gf_109_16, gf_109_17, gf_109_18, gf_109_19, gf_109_20, gf_109_21, gf_109_22, gf_109_23, gf_109_24, gf_109_25, gf_109_26, gf_109_27, gf_109_28, gf_109_29, gf_109_30, kd_109, ld_110_0, st_110_0, ld_110_1, st_110_1, ld_110_2, st_110_2, ld_110_3, st_110_3, ld_110_4, st_110_4, ld_110_5, st_110_5, ld_110_6, st_110_6, ld_110_7, st_110_7, ld_110_8, st_110_8, ld_110_9, st_110_9, ld_110_10, st_110_10, ld_110_11, st_110_11, ld_110_12, st_110_12, ld_110_75, st_110_75, ld_114, hq, hn', nz_lt, nz_nlt, nz_eq, nz_ne, ix24, ld_115, ef, hv1, rc_off]
/-- the least of k -/
def sp_lw (g : Nat → Int32) : Nat → Int32 × Int32
  | 0 => (0, 0)
  | k + 1 => if k = 0 then (nI k, g k) else if g k < (sp_lw g k).2 then (nI k, g k) else sp_lw g k
def sp_lr (g : Nat → Int32) : Nat → Int32 × Int32
  | 0 => (-1, 0)
  | k + 1 => if (sp_lr g k).1 < 0 then (nI k, g k) else if g k < (sp_lr g k).2 then (nI k, g k) else sp_lr g k
theorem sp_lw_n (g : Nat → Int32) : ∀ k, k < 100 → ¬ (sp_lw g k).1 < 0
  | 0, _ => by show ¬ (0 : Int32) < 0; decide
  | k + 1, h => by
    unfold sp_lw
    by_cases z : k = 0
    · rw [if_pos z]
      exact nI_pos (by omega)
    · rw [if_neg z]
      by_cases e : g k < (sp_lw g k).2
      · rw [if_pos e]
        exact nI_pos (by omega)
      · rw [if_neg e]
        exact sp_lw_n g k (by omega)
theorem sp_lwr (g : Nat → Int32) : ∀ k, k < 99 → sp_lr g (k + 1) = sp_lw g (k + 1)
  | 0, _ => by
    show (if (-1 : Int32) < 0 then (nI 0, g 0) else _) = if 0 = 0 then (nI 0, g 0) else _
    rw [if_pos (by decide), if_pos rfl]
  | k + 1, h => by
    have IH := sp_lwr g k (by omega)
    show (if (sp_lr g (k + 1)).1 < 0 then (nI (k + 1), g (k + 1)) else if g (k + 1) < (sp_lr g (k + 1)).2 then (nI (k + 1), g (k + 1)) else sp_lr g (k + 1)) = (if k + 1 = 0 then (nI (k + 1), g (k + 1)) else if g (k + 1) < (sp_lw g (k + 1)).2 then (nI (k + 1), g (k + 1)) else sp_lw g (k + 1))
    rw [IH, if_neg (sp_lw_n g (k + 1) (by omega)), if_neg (Nat.succ_ne_zero k)]
def sp_fo (f s : Nat → Int32) (n m N q : Nat) (j : Nat) : Int32 := sp_df f (sp_it (mx_up s 8 (nI j)) n m N) n q
theorem cc_wh_lp (d L N q k0 : Nat) (xs : Nat → Int32) {f : Nat → Int32} {z : Int32} (hk0 : k0 < 4) (hz : z = nI q) (h24 : q ≤ 24) (hN : N ≤ 60) (hv : sv s n m) (w : Option Value) : ∀ i j : Nat, j + i = 3 → ∀ (D : hz_D) (l7 : Option Value), sea_rel c D 35 s n m → tn_ok c D 35 → sh_rel D (77 + 3 * k0) z f → D (77 + 3 * k0) 0 ≠ -1 → ∃ D' l7', mx_run (d + 6) 87 51 [some (.ref 17), some (.int (nI k0)), some (.int (nI N)), w, some (.int (sp_lw (sp_fo f s n m N q) j).1), some (.int (sp_lw (sp_fo f s n m N q) j).2), some (.int (nI j)), l7] [] (hp (sx_rom L xs) c D) = mx_run (d + 6) 87 128 [some (.ref 17), some (.int (nI k0)), some (.int (nI N)), w, some (.int (sp_lw (sp_fo f s n m N q) 3).1), some (.int (sp_lw (sp_fo f s n m N q) 3).2), some (.int (nI 3)), l7'] [] (hp (sx_rom L xs) c D') ∧ fr Xth D D' := by
  have h49 := is_s49
  have h35 := is_s35
  have hn9 := sv_n9 hv
  have ish := is_sh1 k0 hk0
  intro i
  induction i with
  | zero =>
    intro j hj D l7 hr htn hrl hne
    obtain rfl : j = 3 := by omega
    refine ⟨D, l7, ?_, fr_refl _ _⟩
    rw [iq_87_51]
    simp (disch := first | assumption | omega | exact kd_sh _ _ _ (by assumption) | exact kd_sea _ _ _ (by assumption) | exact is_bts (by assumption) _ (by omega) | exact kd_bt _ _ _ (by first | assumption | exact is_bts (by assumption) _ (by omega)) | exact kd_109 _ _ _ | exact kd_17 _ _ _ | exact kd_20 _ _ _) only [iq_87_0, iq_87_1, iq_87_4, iq_87_7, iq_87_8, iq_87_11, iq_87_12, iq_87_14, iq_87_17, iq_87_18, iq_87_21, iq_87_24, iq_87_26, iq_87_27, iq_87_28, iq_87_31, iq_87_32, iq_87_33, iq_87_36, iq_87_39, iq_87_41, iq_87_42, iq_87_43, iq_87_45, iq_87_46, iq_87_48, iq_87_49, iq_87_53, iq_87_54, iq_87_57, iq_87_58, iq_87_61, iq_87_62, iq_87_65, iq_87_68, iq_87_69, iq_87_72, iq_87_75, iq_87_76, iq_87_78, iq_87_79, iq_87_80, iq_87_83, iq_87_84, iq_87_87, iq_87_88, iq_87_91, iq_87_92, iq_87_95, iq_87_96, iq_87_97, iq_87_100, iq_87_102, iq_87_104, iq_87_107, iq_87_109, iq_87_111, iq_87_114, iq_87_116, iq_87_118, iq_87_120, iq_87_122, iq_87_125, iq_87_129, iq_87_132, iq_87_134, iq_87_137, iq_87_139, Option.bind_some, Option.toList, List.cons_append, List.nil_append, ↓reduceIte, nI_1, Int32.reduceLT, Int32.reduceLE, dv_1, dv_2, dv_3, dv_4, dv_6, dv_8, dv_10, dv_20, dv_100, dv_200, dv_500, Bool.false_eq_true, nz_nlt_3]
  | succ i ih =>
    intro j hj D l7 hr htn hrl hne
    obtain ⟨D1, a1, a2, a3⟩ := th_bec c (d + 4) L xs hr hv htn
    have r2 := su_rul h49 hn9 a2 1 (by omega) (nI j)
    have v2 := sv_lo hv 8 (nI j) (by omega) (by omega)
    obtain ⟨D3, b1, b2, b3⟩ := cc_let (sx_rom L xs) c _ d N (by omega) h49 r2 v2
    have v3 := sv_it v2 N
    have f13 : fr Xth D D3 := fr_trans a3 (fr_trans (fr_up (fr_refl _ _) (49 + 2) _ (Or.inl (by omega))) (th_fr b3))
    have ef : ∀ x, 77 ≤ x → x ≤ 88 → D3 x = D x := fun x q1 q2 => f13 x (by unfold Xth; omega)
    have hrl3 : sh_rel D3 (77 + 3 * k0) z f := sh_rel_fr hrl (ef _ (by omega) (by omega)) (ef _ (by omega) (by omega)) (ef _ (by omega) (by omega))
    have hne3 : D3 (77 + 3 * k0) 0 ≠ -1 := by rw [ef _ (by omega) (by omega)]; exact hne
    have df := cs_df_lp c (sx_rom L xs) D3 (d + 3) q ish hrl3 hz h24 hne3 b2 v3 q 0 (by omega) none
    have df' : mx_run (d + 5) 90 0 [some (.ref 49), some (.ref (77 + 3 * k0)), none, none, none] [] (hp (sx_rom L xs) c D3) = some (some (.int (sp_fo f s n m N q j)), hp (sx_rom L xs) c D3) := by
      simp only [iq_90_0, iq_90_1, iq_90_2, iq_90_3]
      exact df
    obtain ⟨D', l7', k1, k2⟩ := ih (j + 1) (by omega) D3 (some (.int (sp_fo f s n m N q j))) (th_sea c f13 hn9 hr) (th_tn c f13 htn) hrl3 hne3
    refine ⟨D', l7', ?_, fr_trans f13 k2⟩
    rw [← k1, iq_87_51]
    have hb : sp_lw (sp_fo f s n m N q) (j + 1) = if j = 0 then (nI j, sp_fo f s n m N q j) else if sp_fo f s n m N q j < (sp_lw (sp_fo f s n m N q) j).2 then (nI j, sp_fo f s n m N q j) else sp_lw (sp_fo f s n m N q) j := rfl
    rw [hb]
    by_cases j0 : j = 0
    · have ej := nz_eq_0 j0
      rw [if_pos j0]
      simp (disch := first | assumption | omega | exact kd_sh _ _ _ (by assumption) | exact kd_sea _ _ _ (by assumption) | exact is_bts (by assumption) _ (by omega) | exact kd_bt _ _ _ (by first | assumption | exact is_bts (by assumption) _ (by omega)) | exact kd_109 _ _ _ | exact kd_17 _ _ _ | exact kd_20 _ _ _) only [iq_87_0, iq_87_1, iq_87_4, iq_87_7, iq_87_8, iq_87_11, iq_87_12, iq_87_14, iq_87_17, iq_87_18, iq_87_21, iq_87_24, iq_87_26, iq_87_27, iq_87_28, iq_87_31, iq_87_32, iq_87_33, iq_87_36, iq_87_39, iq_87_41, iq_87_42, iq_87_43, iq_87_45, iq_87_46, iq_87_48, iq_87_49, iq_87_53, iq_87_54, iq_87_57, iq_87_58, iq_87_61, iq_87_62, iq_87_65, iq_87_68, iq_87_69, iq_87_72, iq_87_75, iq_87_76, iq_87_78, iq_87_79, iq_87_80, iq_87_83, iq_87_84, iq_87_87, iq_87_88, iq_87_91, iq_87_92, iq_87_95, iq_87_96, iq_87_97, iq_87_100, iq_87_102, iq_87_104, iq_87_107, iq_87_109, iq_87_111, iq_87_114, iq_87_116, iq_87_118, iq_87_120, iq_87_122, iq_87_125, iq_87_129, iq_87_132, iq_87_134, iq_87_137, iq_87_139, Option.bind_some, Option.toList, List.cons_append, List.nil_append, ↓reduceIte, nI_1, Int32.reduceLT, Int32.reduceLE, dv_1, dv_2, dv_3, dv_4, dv_6, dv_8, dv_10, dv_20, dv_100, dv_200, dv_500, Bool.false_eq_true, gf_17_0, gf_17_1, gf_17_2, gf_17_3, gf_17_4, gf_17_5, gf_17_6, gf_17_7, gf_17_8, gf_17_9, gf_17_10, gf_17_11, gf_17_12, gf_17_13, kd_17, pf_17_4, pf_17_13, gf_sea_0, gf_sea_1, gf_sea_2, gf_sea_3, gf_sea_4, gf_sea_5, gf_sea_6, gf_sea_7, gf_sea_8, gf_sea_9, gf_sea_10, kd_sea, pf_sea_1, pf_sea_2, pf_sea_4, pf_sea_5, pf_sea_6, pf_sea_7, pf_sea_9, ld_rul, st_rul, ld_cnt, st_cnt, aa_bs, aa_tx, ru_0, ru_1, ru_2, ru_3, ru_4, su_r0, su_r1, su_r2, nz_lt_3, a1, b1, aa_23, df', ej]
    · have ej := nz_ne_0 j0 (by omega)
      rw [if_neg j0]
      by_cases hc : sp_fo f s n m N q j < (sp_lw (sp_fo f s n m N q) j).2
      · simp (disch := first | assumption | omega | exact kd_sh _ _ _ (by assumption) | exact kd_sea _ _ _ (by assumption) | exact is_bts (by assumption) _ (by omega) | exact kd_bt _ _ _ (by first | assumption | exact is_bts (by assumption) _ (by omega)) | exact kd_109 _ _ _ | exact kd_17 _ _ _ | exact kd_20 _ _ _) only [iq_87_0, iq_87_1, iq_87_4, iq_87_7, iq_87_8, iq_87_11, iq_87_12, iq_87_14, iq_87_17, iq_87_18, iq_87_21, iq_87_24, iq_87_26, iq_87_27, iq_87_28, iq_87_31, iq_87_32, iq_87_33, iq_87_36, iq_87_39, iq_87_41, iq_87_42, iq_87_43, iq_87_45, iq_87_46, iq_87_48, iq_87_49, iq_87_53, iq_87_54, iq_87_57, iq_87_58, iq_87_61, iq_87_62, iq_87_65, iq_87_68, iq_87_69, iq_87_72, iq_87_75, iq_87_76, iq_87_78, iq_87_79, iq_87_80, iq_87_83, iq_87_84, iq_87_87, iq_87_88, iq_87_91, iq_87_92, iq_87_95, iq_87_96, iq_87_97, iq_87_100, iq_87_102, iq_87_104, iq_87_107, iq_87_109, iq_87_111, iq_87_114, iq_87_116, iq_87_118, iq_87_120, iq_87_122, iq_87_125, iq_87_129, iq_87_132, iq_87_134, iq_87_137, iq_87_139, Option.bind_some, Option.toList, List.cons_append, List.nil_append, ↓reduceIte, nI_1, Int32.reduceLT, Int32.reduceLE, dv_1, dv_2, dv_3, dv_4, dv_6, dv_8, dv_10, dv_20, dv_100, dv_200, dv_500, Bool.false_eq_true, gf_17_0, gf_17_1, gf_17_2, gf_17_3, gf_17_4, gf_17_5, gf_17_6, gf_17_7, gf_17_8, gf_17_9, gf_17_10, gf_17_11, gf_17_12, gf_17_13, kd_17, pf_17_4, pf_17_13, gf_sea_0, gf_sea_1, gf_sea_2, gf_sea_3, gf_sea_4, gf_sea_5, gf_sea_6, gf_sea_7, gf_sea_8, gf_sea_9, gf_sea_10, kd_sea, pf_sea_1, pf_sea_2, pf_sea_4, pf_sea_5, pf_sea_6, pf_sea_7, pf_sea_9, ld_rul, st_rul, ld_cnt, st_cnt, aa_bs, aa_tx, ru_0, ru_1, ru_2, ru_3, ru_4, su_r0, su_r1, su_r2, nz_lt_3, a1, b1, aa_23, df', ej, hc]
      · simp (disch := first | assumption | omega | exact kd_sh _ _ _ (by assumption) | exact kd_sea _ _ _ (by assumption) | exact is_bts (by assumption) _ (by omega) | exact kd_bt _ _ _ (by first | assumption | exact is_bts (by assumption) _ (by omega)) | exact kd_109 _ _ _ | exact kd_17 _ _ _ | exact kd_20 _ _ _) only [iq_87_0, iq_87_1, iq_87_4, iq_87_7, iq_87_8, iq_87_11, iq_87_12, iq_87_14, iq_87_17, iq_87_18, iq_87_21, iq_87_24, iq_87_26, iq_87_27, iq_87_28, iq_87_31, iq_87_32, iq_87_33, iq_87_36, iq_87_39, iq_87_41, iq_87_42, iq_87_43, iq_87_45, iq_87_46, iq_87_48, iq_87_49, iq_87_53, iq_87_54, iq_87_57, iq_87_58, iq_87_61, iq_87_62, iq_87_65, iq_87_68, iq_87_69, iq_87_72, iq_87_75, iq_87_76, iq_87_78, iq_87_79, iq_87_80, iq_87_83, iq_87_84, iq_87_87, iq_87_88, iq_87_91, iq_87_92, iq_87_95, iq_87_96, iq_87_97, iq_87_100, iq_87_102, iq_87_104, iq_87_107, iq_87_109, iq_87_111, iq_87_114, iq_87_116, iq_87_118, iq_87_120, iq_87_122, iq_87_125, iq_87_129, iq_87_132, iq_87_134, iq_87_137, iq_87_139, Option.bind_some, Option.toList, List.cons_append, List.nil_append, ↓reduceIte, nI_1, Int32.reduceLT, Int32.reduceLE, dv_1, dv_2, dv_3, dv_4, dv_6, dv_8, dv_10, dv_20, dv_100, dv_200, dv_500, Bool.false_eq_true, gf_17_0, gf_17_1, gf_17_2, gf_17_3, gf_17_4, gf_17_5, gf_17_6, gf_17_7, gf_17_8, gf_17_9, gf_17_10, gf_17_11, gf_17_12, gf_17_13, kd_17, pf_17_4, pf_17_13, gf_sea_0, gf_sea_1, gf_sea_2, gf_sea_3, gf_sea_4, gf_sea_5, gf_sea_6, gf_sea_7, gf_sea_8, gf_sea_9, gf_sea_10, kd_sea, pf_sea_1, pf_sea_2, pf_sea_4, pf_sea_5, pf_sea_6, pf_sea_7, pf_sea_9, ld_rul, st_rul, ld_cnt, st_cnt, aa_bs, aa_tx, ru_0, ru_1, ru_2, ru_3, ru_4, su_r0, su_r1, su_r2, nz_lt_3, a1, b1, aa_23, df', ej, hc]
theorem rt_wh_lp (R : Nat → Option mx_MC) (d N q k0 : Nat) (f : Nat → Int32) (hk0 : k0 < 4) (h24 : q ≤ 24) (hN : N ≤ 60) (hv : sv s n m) (w : Option Value) : ∀ i j : Nat, j + i = 3 → ∀ (D : hz_D) (l7 l8 l9 : Option Value), D 110 = s → D 114 k0 = nI q → (∀ i, i < 24 → D 115 (24 * k0 + i) = f i) → (∀ i, i < 75 → D 121 i = s i) → ∃ D' l7' l8' l9', mx_run (d + 6) 252 58 [some (.ref 109), some (.int (nI k0)), some (.int (nI N)), w, some (.int (sp_lr (sp_fo f s n m N q) j).1), some (.int (sp_lr (sp_fo f s n m N q) j).2), some (.int (nI j)), l7, l8, l9] [] (hp R c D) = mx_run (d + 6) 252 188 [some (.ref 109), some (.int (nI k0)), some (.int (nI N)), w, some (.int (sp_lr (sp_fo f s n m N q) 3).1), some (.int (sp_lr (sp_fo f s n m N q) 3).2), some (.int (nI 3)), l7', l8', l9'] [] (hp R c D') ∧ D' 110 = s ∧ fr Xr D D' := by
  have hn9 := sv_n9 hv
  intro i
  induction i with
  | zero =>
    intro j hj D l7 l8 l9 hD hq hf h121
    obtain rfl : j = 3 := by omega
    refine ⟨D, l7, l8, l9, ?_, hD, fr_refl _ _⟩
    rw [iq_252_58]
    simp (disch := first | assumption | exact kd_109 _ _ _ | omega) only [iq_252_0, iq_252_1, iq_252_4, iq_252_7, iq_252_8, iq_252_9, iq_252_10, iq_252_13, iq_252_16, iq_252_19, iq_252_20, iq_252_21, iq_252_22, iq_252_23, iq_252_26, iq_252_29, iq_252_31, iq_252_32, iq_252_33, iq_252_36, iq_252_37, iq_252_38, iq_252_41, iq_252_44, iq_252_45, iq_252_46, iq_252_49, iq_252_50, iq_252_52, iq_252_53, iq_252_55, iq_252_56, iq_252_60, iq_252_61, iq_252_64, iq_252_65, iq_252_68, iq_252_70, iq_252_72, iq_252_73, iq_252_74, iq_252_75, iq_252_78, iq_252_79, iq_252_81, iq_252_82, iq_252_86, iq_252_87, iq_252_90, iq_252_91, iq_252_92, iq_252_95, iq_252_96, iq_252_99, iq_252_101, iq_252_102, iq_252_103, iq_252_105, iq_252_106, iq_252_107, iq_252_109, iq_252_111, iq_252_113, iq_252_115, iq_252_118, iq_252_119, iq_252_122, iq_252_124, iq_252_126, iq_252_127, iq_252_130, iq_252_131, iq_252_132, iq_252_135, iq_252_136, iq_252_138, iq_252_139, iq_252_142, iq_252_145, iq_252_146, iq_252_149, iq_252_150, iq_252_152, iq_252_155, iq_252_159, iq_252_162, iq_252_164, iq_252_167, iq_252_169, iq_252_171, iq_252_174, iq_252_176, iq_252_178, iq_252_180, iq_252_182, iq_252_185, iq_252_189, iq_252_192, iq_252_194, iq_252_197, iq_252_199, Option.bind_some, Option.toList, List.cons_append, List.nil_append, ↓reduceIte, nI_1, Int32.reduceLT, Int32.reduceLE, dv_1, dv_2, dv_3, dv_4, dv_6, dv_8, dv_10, dv_20, dv_100, dv_200, dv_500, Bool.false_eq_true, nz_gt_2]
  | succ i ih =>
    intro j hj D l7 l8 l9 hD hq hf h121
    have v2 := sv_lo hv 8 (nI j) (by omega) (by omega)
    obtain ⟨D1, a1, a2, a3, a4⟩ := rt_go R c (s := s) d N (D := mx_up D 110 (mx_up s 8 (nI j))) (by omega) (mx_up s 8 (nI j)) (up_s _ _ _) v2 (fun i hi => by rw [up_n _ _ _ _ (by omega)]; exact h121 i hi) (fun i hi => up_n _ _ _ _ (by omega))
    have e1 : ∀ x, x ≠ 110 → ¬ Xr x → D1 x = D x := fun x q1 q2 => by rw [a3 x q2, up_n _ _ _ _ q1]
    have q1 : D1 114 k0 = nI q := by rw [e1 114 (by omega) (by unfold Xr; omega)]; exact hq
    have f1 : ∀ i, i < 24 → D1 115 (24 * k0 + i) = f i := fun i hi => by rw [e1 115 (by omega) (by unfold Xr; omega)]; exact hf i hi
    obtain ⟨l9', df⟩ := rs_df_lp c R D1 (d + 5) q k0 f hk0 q1 h24 f1 (by rw [a2]; exact sv_it v2 N) (some (.int (nI N))) w (some (.int (sp_lr (sp_fo f s n m N q) j).1)) (some (.int (sp_lr (sp_fo f s n m N q) j).2)) (some (.int (nI j))) q 0 (by omega) l9
    rw [a2] at df
    have lb := rc_laysBack R c D1 (d + 5)
    rw [a4] at lb
    have g1 : fr Xr D (mx_up D1 110 s) := fr_up (fr_trans (fr_up (fr_refl _ _) 110 _ (Or.inl rfl)) a3) 110 _ (Or.inl rfl)
    obtain ⟨D', m7, m8, m9, k1, k2, k3⟩ := ih (j + 1) (by omega) (mx_up D1 110 s) (some (.int (sp_fo f s n m N q j))) (some (.int (nI q))) l9' (up_s _ _ _) (by rw [up_n _ _ _ _ (by omega)]; exact q1) (fun i hi => by rw [up_n _ _ _ _ (by omega)]; exact f1 i hi) (fun i hi => by rw [g1 121 (by unfold Xr; omega)]; exact h121 i hi)
    refine ⟨D', m7, m8, m9, ?_, k2, fr_trans g1 k3⟩
    rw [← k1, iq_252_58]
    have hb : sp_lr (sp_fo f s n m N q) (j + 1) = if (sp_lr (sp_fo f s n m N q) j).1 < 0 then (nI j, sp_fo f s n m N q j) else if sp_fo f s n m N q j < (sp_lr (sp_fo f s n m N q) j).2 then (nI j, sp_fo f s n m N q j) else sp_lr (sp_fo f s n m N q) j := rfl
    rw [hb]
    have hfo : sp_df f (sp_it (mx_up s 8 (nI j)) n m N) n q = sp_fo f s n m N q j := rfl
    rw [hfo] at df
    have df' : mx_run (d + 6) 252 84 [some (.ref 109), some (.int (nI k0)), some (.int (nI N)), w, some (.int (sp_lr (sp_fo f s n m N q) j).1), some (.int (sp_lr (sp_fo f s n m N q) j).2), some (.int (nI j)), some (.int 0), some (.int 0), l9] [] (hp R c D1) = _ := df
    by_cases hc : (sp_lr (sp_fo f s n m N q) j).1 < 0
    · simp (disch := first | assumption | exact kd_109 _ _ _ | omega) only [iq_252_0, iq_252_1, iq_252_4, iq_252_7, iq_252_8, iq_252_9, iq_252_10, iq_252_13, iq_252_16, iq_252_19, iq_252_20, iq_252_21, iq_252_22, iq_252_23, iq_252_26, iq_252_29, iq_252_31, iq_252_32, iq_252_33, iq_252_36, iq_252_37, iq_252_38, iq_252_41, iq_252_44, iq_252_45, iq_252_46, iq_252_49, iq_252_50, iq_252_52, iq_252_53, iq_252_55, iq_252_56, iq_252_60, iq_252_61, iq_252_64, iq_252_65, iq_252_68, iq_252_70, iq_252_72, iq_252_73, iq_252_74, iq_252_75, iq_252_78, iq_252_79, iq_252_81, iq_252_82, iq_252_86, iq_252_87, iq_252_90, iq_252_91, iq_252_92, iq_252_95, iq_252_96, iq_252_99, iq_252_101, iq_252_102, iq_252_103, iq_252_105, iq_252_106, iq_252_107, iq_252_109, iq_252_111, iq_252_113, iq_252_115, iq_252_118, iq_252_119, iq_252_122, iq_252_124, iq_252_126, iq_252_127, iq_252_130, iq_252_131, iq_252_132, iq_252_135, iq_252_136, iq_252_138, iq_252_139, iq_252_142, iq_252_145, iq_252_146, iq_252_149, iq_252_150, iq_252_152, iq_252_155, iq_252_158, iq_252_159, iq_252_162, iq_252_164, iq_252_167, iq_252_169, iq_252_171, iq_252_174, iq_252_176, iq_252_178, iq_252_180, iq_252_182, iq_252_185, iq_252_189, iq_252_192, iq_252_194, iq_252_197, iq_252_199, Option.bind_some, Option.toList, List.cons_append, List.nil_append, ↓reduceIte, nI_1, Int32.reduceLT, Int32.reduceLE, dv_1, dv_2, dv_3, dv_4, dv_6, dv_8, dv_10, dv_20, dv_100, dv_200, dv_500, Bool.false_eq_true, gf_109_0, gf_109_1, gf_109_2, gf_109_3, gf_109_4, gf_109_5, gf_109_6, gf_109_7, gf_109_8, gf_109_9, gf_109_10, gf_109_11, gf_109_12, gf_109_13, gf_109_14, gf_109_15, gf_109_16, gf_109_17, gf_109_18, gf_109_19, gf_109_20, gf_109_21, gf_109_22, gf_109_23, gf_109_24, gf_109_25, gf_109_26, gf_109_27, gf_109_28, gf_109_29, gf_109_30, kd_109, ld_110_0, st_110_0, ld_110_1, st_110_1, ld_110_2, st_110_2, ld_110_3, st_110_3, ld_110_4, st_110_4, ld_110_5, st_110_5, ld_110_6, st_110_6, ld_110_7, st_110_7, ld_110_8, st_110_8, ld_110_9, st_110_9, ld_110_10, st_110_10, ld_110_11, st_110_11, ld_110_12, st_110_12, ld_110_75, st_110_75, nz_ngt_2, hD, a1, df', lb, hc]
    · by_cases hc2 : sp_fo f s n m N q j < (sp_lr (sp_fo f s n m N q) j).2
      · simp (disch := first | assumption | exact kd_109 _ _ _ | omega) only [iq_252_0, iq_252_1, iq_252_4, iq_252_7, iq_252_8, iq_252_9, iq_252_10, iq_252_13, iq_252_16, iq_252_19, iq_252_20, iq_252_21, iq_252_22, iq_252_23, iq_252_26, iq_252_29, iq_252_31, iq_252_32, iq_252_33, iq_252_36, iq_252_37, iq_252_38, iq_252_41, iq_252_44, iq_252_45, iq_252_46, iq_252_49, iq_252_50, iq_252_52, iq_252_53, iq_252_55, iq_252_56, iq_252_60, iq_252_61, iq_252_64, iq_252_65, iq_252_68, iq_252_70, iq_252_72, iq_252_73, iq_252_74, iq_252_75, iq_252_78, iq_252_79, iq_252_81, iq_252_82, iq_252_86, iq_252_87, iq_252_90, iq_252_91, iq_252_92, iq_252_95, iq_252_96, iq_252_99, iq_252_101, iq_252_102, iq_252_103, iq_252_105, iq_252_106, iq_252_107, iq_252_109, iq_252_111, iq_252_113, iq_252_115, iq_252_118, iq_252_119, iq_252_122, iq_252_124, iq_252_126, iq_252_127, iq_252_130, iq_252_131, iq_252_132, iq_252_135, iq_252_136, iq_252_138, iq_252_139, iq_252_142, iq_252_145, iq_252_146, iq_252_149, iq_252_150, iq_252_152, iq_252_155, iq_252_158, iq_252_159, iq_252_162, iq_252_164, iq_252_167, iq_252_169, iq_252_171, iq_252_174, iq_252_176, iq_252_178, iq_252_180, iq_252_182, iq_252_185, iq_252_189, iq_252_192, iq_252_194, iq_252_197, iq_252_199, Option.bind_some, Option.toList, List.cons_append, List.nil_append, ↓reduceIte, nI_1, Int32.reduceLT, Int32.reduceLE, dv_1, dv_2, dv_3, dv_4, dv_6, dv_8, dv_10, dv_20, dv_100, dv_200, dv_500, Bool.false_eq_true, gf_109_0, gf_109_1, gf_109_2, gf_109_3, gf_109_4, gf_109_5, gf_109_6, gf_109_7, gf_109_8, gf_109_9, gf_109_10, gf_109_11, gf_109_12, gf_109_13, gf_109_14, gf_109_15, gf_109_16, gf_109_17, gf_109_18, gf_109_19, gf_109_20, gf_109_21, gf_109_22, gf_109_23, gf_109_24, gf_109_25, gf_109_26, gf_109_27, gf_109_28, gf_109_29, gf_109_30, kd_109, ld_110_0, st_110_0, ld_110_1, st_110_1, ld_110_2, st_110_2, ld_110_3, st_110_3, ld_110_4, st_110_4, ld_110_5, st_110_5, ld_110_6, st_110_6, ld_110_7, st_110_7, ld_110_8, st_110_8, ld_110_9, st_110_9, ld_110_10, st_110_10, ld_110_11, st_110_11, ld_110_12, st_110_12, ld_110_75, st_110_75, nz_ngt_2, hD, a1, df', lb, hc, hc2]
      · simp (disch := first | assumption | exact kd_109 _ _ _ | omega) only [iq_252_0, iq_252_1, iq_252_4, iq_252_7, iq_252_8, iq_252_9, iq_252_10, iq_252_13, iq_252_16, iq_252_19, iq_252_20, iq_252_21, iq_252_22, iq_252_23, iq_252_26, iq_252_29, iq_252_31, iq_252_32, iq_252_33, iq_252_36, iq_252_37, iq_252_38, iq_252_41, iq_252_44, iq_252_45, iq_252_46, iq_252_49, iq_252_50, iq_252_52, iq_252_53, iq_252_55, iq_252_56, iq_252_60, iq_252_61, iq_252_64, iq_252_65, iq_252_68, iq_252_70, iq_252_72, iq_252_73, iq_252_74, iq_252_75, iq_252_78, iq_252_79, iq_252_81, iq_252_82, iq_252_86, iq_252_87, iq_252_90, iq_252_91, iq_252_92, iq_252_95, iq_252_96, iq_252_99, iq_252_101, iq_252_102, iq_252_103, iq_252_105, iq_252_106, iq_252_107, iq_252_109, iq_252_111, iq_252_113, iq_252_115, iq_252_118, iq_252_119, iq_252_122, iq_252_124, iq_252_126, iq_252_127, iq_252_130, iq_252_131, iq_252_132, iq_252_135, iq_252_136, iq_252_138, iq_252_139, iq_252_142, iq_252_145, iq_252_146, iq_252_149, iq_252_150, iq_252_152, iq_252_155, iq_252_158, iq_252_159, iq_252_162, iq_252_164, iq_252_167, iq_252_169, iq_252_171, iq_252_174, iq_252_176, iq_252_178, iq_252_180, iq_252_182, iq_252_185, iq_252_189, iq_252_192, iq_252_194, iq_252_197, iq_252_199, Option.bind_some, Option.toList, List.cons_append, List.nil_append, ↓reduceIte, nI_1, Int32.reduceLT, Int32.reduceLE, dv_1, dv_2, dv_3, dv_4, dv_6, dv_8, dv_10, dv_20, dv_100, dv_200, dv_500, Bool.false_eq_true, gf_109_0, gf_109_1, gf_109_2, gf_109_3, gf_109_4, gf_109_5, gf_109_6, gf_109_7, gf_109_8, gf_109_9, gf_109_10, gf_109_11, gf_109_12, gf_109_13, gf_109_14, gf_109_15, gf_109_16, gf_109_17, gf_109_18, gf_109_19, gf_109_20, gf_109_21, gf_109_22, gf_109_23, gf_109_24, gf_109_25, gf_109_26, gf_109_27, gf_109_28, gf_109_29, gf_109_30, kd_109, ld_110_0, st_110_0, ld_110_1, st_110_1, ld_110_2, st_110_2, ld_110_3, st_110_3, ld_110_4, st_110_4, ld_110_5, st_110_5, ld_110_6, st_110_6, ld_110_7, st_110_7, ld_110_8, st_110_8, ld_110_9, st_110_9, ld_110_10, st_110_10, ld_110_11, st_110_11, ld_110_12, st_110_12, ld_110_75, st_110_75, nz_ngt_2, hD, a1, df', lb, hc, hc2]
end WH
