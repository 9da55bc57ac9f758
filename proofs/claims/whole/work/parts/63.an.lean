section CO
variable (c : Nat × Nat) {n m : Nat} {s : Nat → Int32}
def sp_gn (s : Nat → Int32) (k : Nat) : Int32 := s (12 + 7 * k + 4) + s (12 + 7 * k + 2)
def sp_ct (s : Nat → Int32) (k : Nat) : Nat → Int32 := mx_up s (12 + 7 * k + 5) 0
def sp_cf (s : Nat → Int32) (n m N : Nat) : Nat → Int32
  | 0 => 0
  | k + 1 => sp_cf s n m N k ||| (if s (12 + 7 * k + 5) = 1 then (if sp_gn (sp_it s n m N) k < sp_gn (sp_it (sp_ct s k) n m N) k then (1 : Int32) <<< (nI k &&& 31) else 0) else 0)
theorem cc_co_1 (R : Nat → Option mx_MC) (d : Nat) (l1 l3 : Option Value) : ∀ i j : Nat, j + i = 9 → ∀ (D : hz_D), ∃ D', mx_run (d + 1) 84 35 [some (.ref 17), l1, some (.int (nI j)), l3] [] (hp R c D) = mx_run (d + 1) 84 65 [some (.ref 17), l1, some (.int (nI 9)), l3] [] (hp R c D') ∧ (∀ k, j ≤ k → k < 9 → D' 19 k = D (49 + 5 + k) 4 + D (49 + 5 + k) 2) ∧ (∀ k, k < j → D' 19 k = D 19 k) ∧ (∀ a, a ≠ 19 → D' a = D a) := by
  have h49 := is_s49
  intro i
  induction i with
  | zero =>
    intro j hj D
    obtain rfl : j = 9 := by omega
    refine ⟨D, ?_, fun k h1 h2 => by omega, fun _ _ => rfl, fun _ _ => rfl⟩
    rw [iq_84_35]
    simp (disch := first | assumption | omega | exact kd_sea _ _ _ (by assumption) | exact is_bts (by assumption) _ (by omega) | exact kd_bt _ _ _ (is_bts (by assumption) _ (by omega)) | exact kd_109 _ _ _ | exact kd_17 _ _ _ | exact kd_20 _ _ _) only [iq_84_0, iq_84_1, iq_84_2, iq_84_5, iq_84_6, iq_84_8, iq_84_11, iq_84_13, iq_84_14, iq_84_15, iq_84_18, iq_84_19, iq_84_22, iq_84_25, iq_84_26, iq_84_29, iq_84_30, iq_84_33, iq_84_34, iq_84_36, iq_84_38, iq_84_41, iq_84_42, iq_84_45, iq_84_46, iq_84_47, iq_84_50, iq_84_53, iq_84_54, iq_84_55, iq_84_58, iq_84_59, iq_84_62, iq_84_66, iq_84_67, iq_84_68, iq_84_69, iq_84_70, iq_84_72, iq_84_75, iq_84_76, iq_84_79, iq_84_80, iq_84_83, iq_84_86, iq_84_87, iq_84_90, iq_84_93, iq_84_94, iq_84_95, iq_84_98, iq_84_101, iq_84_102, iq_84_105, iq_84_106, iq_84_109, iq_84_112, iq_84_113, iq_84_116, iq_84_119, iq_84_120, iq_84_121, iq_84_122, iq_84_125, iq_84_126, iq_84_129, iq_84_130, iq_84_133, iq_84_134, iq_84_137, iq_84_140, iq_84_141, iq_84_142, iq_84_145, iq_84_146, iq_84_149, iq_84_150, iq_84_151, iq_84_154, iq_84_155, iq_84_156, iq_84_157, iq_84_158, iq_84_159, iq_84_160, iq_84_163, iq_84_166, iq_84_167, Option.bind_some, Option.toList, List.cons_append, List.nil_append, ↓reduceIte, nI_1, Int32.reduceLT, Int32.reduceLE, dv_1, dv_2, dv_3, dv_4, dv_6, dv_8, dv_10, dv_20, dv_100, dv_200, dv_500, Bool.false_eq_true, nz_nlt_9]
  | succ i ih =>
    intro j hj D
    have gn := cc_gain R c D d j h49 (by omega)
    obtain ⟨D', k1, k2, k3, k4⟩ := ih (j + 1) (by omega) (mx_up D 19 (mx_up (D 19) j (D (49 + 5 + j) 4 + D (49 + 5 + j) 2)))
    refine ⟨D', ?_, ?_, ?_, ?_⟩
    · rw [← k1, iq_84_35]
      simp (disch := first | assumption | omega | exact kd_sea _ _ _ (by assumption) | exact is_bts (by assumption) _ (by omega) | exact kd_bt _ _ _ (is_bts (by assumption) _ (by omega)) | exact kd_109 _ _ _ | exact kd_17 _ _ _ | exact kd_20 _ _ _) only [iq_84_0, iq_84_1, iq_84_2, iq_84_5, iq_84_6, iq_84_8, iq_84_11, iq_84_13, iq_84_14, iq_84_15, iq_84_18, iq_84_19, iq_84_22, iq_84_25, iq_84_26, iq_84_29, iq_84_30, iq_84_33, iq_84_34, iq_84_36, iq_84_38, iq_84_41, iq_84_42, iq_84_45, iq_84_46, iq_84_47, iq_84_50, iq_84_53, iq_84_54, iq_84_55, iq_84_58, iq_84_59, iq_84_62, iq_84_66, iq_84_67, iq_84_68, iq_84_69, iq_84_70, iq_84_72, iq_84_75, iq_84_76, iq_84_79, iq_84_80, iq_84_83, iq_84_86, iq_84_87, iq_84_90, iq_84_93, iq_84_94, iq_84_95, iq_84_98, iq_84_101, iq_84_102, iq_84_105, iq_84_106, iq_84_109, iq_84_112, iq_84_113, iq_84_116, iq_84_119, iq_84_120, iq_84_121, iq_84_122, iq_84_125, iq_84_126, iq_84_129, iq_84_130, iq_84_133, iq_84_134, iq_84_137, iq_84_140, iq_84_141, iq_84_142, iq_84_145, iq_84_146, iq_84_149, iq_84_150, iq_84_151, iq_84_154, iq_84_155, iq_84_156, iq_84_157, iq_84_158, iq_84_159, iq_84_160, iq_84_163, iq_84_166, iq_84_167, Option.bind_some, Option.toList, List.cons_append, List.nil_append, ↓reduceIte, nI_1, Int32.reduceLT, Int32.reduceLE, dv_1, dv_2, dv_3, dv_4, dv_6, dv_8, dv_10, dv_20, dv_100, dv_200, dv_500, Bool.false_eq_true, gf_17_0, gf_17_1, gf_17_2, gf_17_3, gf_17_4, gf_17_5, gf_17_6, gf_17_7, gf_17_8, gf_17_9, gf_17_10, gf_17_11, gf_17_12, gf_17_13, kd_17, pf_17_4, pf_17_13, gf_sea_0, gf_sea_1, gf_sea_2, gf_sea_3, gf_sea_4, gf_sea_5, gf_sea_6, gf_sea_7, gf_sea_8, gf_sea_9, gf_sea_10, kd_sea, pf_sea_1, pf_sea_2, pf_sea_4, pf_sea_5, pf_sea_6, pf_sea_7, pf_sea_9, ld_rul, st_rul, ld_cnt, st_cnt, aa_bs, aa_tx, ru_0, ru_1, ru_2, ru_3, ru_4, su_r0, su_r1, su_r2, nz_lt_9, gn, st_19]
    · intro k h1 h2
      by_cases e : k = j
      · subst e
        rw [k3 k (by omega), up_s, up_s]
      · rw [k2 k (by omega) h2, up_n _ _ _ _ (by omega)]
    · intro k h1
      rw [k3 k (by omega), up_s, up_n _ _ _ _ (by omega)]
    · intro a ha
      rw [k4 a ha, up_n _ _ _ _ ha]
def Xco (a : Nat) : Prop := a = 19 ∨ Xth a
theorem cc_co_2 (d L N : Nat) (xs : Nat → Int32) (hN : N ≤ 60) (hv : sv s n m) : ∀ i j : Nat, j + i = 9 → ∀ (D : hz_D), sea_rel c D 35 s n m → tn_ok c D 35 → (∀ k, k < n → D 19 k = sp_gn (sp_it s n m N) k) → ∃ D', mx_run (d + 6) 84 69 [some (.ref 17), some (.int (nI N)), some (.int (sp_cf s n m N (min j n))), some (.int (nI j))] [] (hp (sx_rom L xs) c D) = some (some (.int (sp_cf s n m N n)), hp (sx_rom L xs) c D') ∧ fr Xth D D' := by
  have h49 := is_s49
  have h35 := is_s35
  have hn9 := sv_n9 hv
  intro i
  induction i with
  | zero =>
    intro j hj D hr htn hg
    obtain rfl : j = 9 := by omega
    refine ⟨D, ?_, fr_refl _ _⟩
    rw [iq_84_69, show min 9 n = n by omega]
    simp (disch := first | assumption | omega | exact kd_sea _ _ _ (by assumption) | exact is_bts (by assumption) _ (by omega) | exact kd_bt _ _ _ (is_bts (by assumption) _ (by omega)) | exact kd_109 _ _ _ | exact kd_17 _ _ _ | exact kd_20 _ _ _) only [iq_84_0, iq_84_1, iq_84_2, iq_84_5, iq_84_6, iq_84_8, iq_84_11, iq_84_13, iq_84_14, iq_84_15, iq_84_18, iq_84_19, iq_84_22, iq_84_25, iq_84_26, iq_84_29, iq_84_30, iq_84_33, iq_84_34, iq_84_35, iq_84_36, iq_84_38, iq_84_41, iq_84_42, iq_84_45, iq_84_46, iq_84_47, iq_84_50, iq_84_53, iq_84_54, iq_84_55, iq_84_58, iq_84_59, iq_84_62, iq_84_65, iq_84_66, iq_84_67, iq_84_68, iq_84_70, iq_84_72, iq_84_75, iq_84_76, iq_84_79, iq_84_80, iq_84_83, iq_84_86, iq_84_87, iq_84_90, iq_84_93, iq_84_94, iq_84_95, iq_84_98, iq_84_101, iq_84_102, iq_84_105, iq_84_106, iq_84_109, iq_84_112, iq_84_113, iq_84_116, iq_84_119, iq_84_120, iq_84_121, iq_84_122, iq_84_125, iq_84_126, iq_84_129, iq_84_130, iq_84_133, iq_84_134, iq_84_137, iq_84_140, iq_84_141, iq_84_142, iq_84_145, iq_84_146, iq_84_149, iq_84_150, iq_84_151, iq_84_154, iq_84_155, iq_84_156, iq_84_157, iq_84_158, iq_84_159, iq_84_160, iq_84_163, iq_84_166, iq_84_167, Option.bind_some, Option.toList, List.cons_append, List.nil_append, ↓reduceIte, nI_1, Int32.reduceLT, Int32.reduceLE, dv_1, dv_2, dv_3, dv_4, dv_6, dv_8, dv_10, dv_20, dv_100, dv_200, dv_500, Bool.false_eq_true, nz_nlt_9]
  | succ i ih =>
    intro j hj D hr htn hg
    have hn : D 35 1 = nI n := hr.1.1.trans (sv_n hv)
    have hs := fun d x => cc_has (sx_rom L xs) c D d n h35 hn hn9 x
    rw [iq_84_69]
    by_cases hjn : j < n
    · have ph : (¬ nI j < 0 ∧ ¬ nI n - 1 < nI j) = True := eq_true ((nz_bt (by omega) _).mpr ⟨j, hjn, rfl⟩)
      obtain ⟨b0, b1, b2, b3, b4, b5, b6⟩ := hr.2.2.1 j hjn
      obtain ⟨-, -, -, ht⟩ := hv.2.2.2.2.2.1 j hjn
      have hcf : sp_cf s n m N (j + 1) = sp_cf s n m N j ||| (if s (12 + 7 * j + 5) = 1 then (if sp_gn (sp_it s n m N) j < sp_gn (sp_it (sp_ct s j) n m N) j then (1 : Int32) <<< (nI j &&& 31) else 0) else 0) := rfl
      rw [show min j n = j by omega]
      rw [show min (j + 1) n = j + 1 by omega, hcf] at ih'' <;> skip
      sorry
    · sorry
end CO
