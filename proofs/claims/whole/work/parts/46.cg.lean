variable (R : Nat → Option mx_MC) (c : Nat × Nat) (D : hz_D) {B : Nat} {n m : Nat} {s : Nat → Int32}
theorem cc_move_lp (d : Nat) (hB : is_sea B) (v : Int32) (hv0 : ¬ v < 0 ∧ v.toInt < 2 ^ 30) (hv : sv s n m) : ∀ i j : Nat, j + i = n → ∀ (D : hz_D) (l3 : Option Value), sea_rel c D B (sp_mv s v j) n m → ∃ D', mx_run (d + 2) 65 2 [some (.ref B), some (.int v), some (.int (nI j)), l3] [] (hp R c D) = some (none, hp R c D') ∧ sea_rel c D' B (sp_mv s v n) n m ∧ fr (Xsea B) D D' := by
  have hn9 := sv_n9 hv
  intro i
  induction i with
  | zero =>
    intro j hj D l3 hr
    obtain rfl : j = n := by omega
    have hn : D B 1 = nI j := hr.1.1.trans (sv_n (sv_mv hv v j (by omega)))
    refine ⟨D, ?_, hr, fr_refl _ _⟩
    rw [iq_65_2]
    simp (disch := first | assumption | omega | exact kd_sea _ _ _ (by assumption) | exact is_bts (by assumption) _ (by omega) | exact kd_bt _ _ _ (is_bts (by assumption) _ (by omega)) | exact kd_109 _ _ _ | exact kd_17 _ _ _ | exact kd_20 _ _ _) only [iq_65_0, iq_65_1, iq_65_3, iq_65_4, iq_65_7, iq_65_10, iq_65_11, iq_65_12, iq_65_15, iq_65_18, iq_65_19, iq_65_22, iq_65_23, iq_65_24, iq_65_27, iq_65_30, iq_65_31, iq_65_34, iq_65_35, iq_65_36, iq_65_37, iq_65_40, iq_65_41, iq_65_42, iq_65_43, iq_65_46, iq_65_47, iq_65_50, iq_65_51, iq_65_54, iq_65_55, iq_65_56, iq_65_59_1, iq_65_59_2, iq_65_59_3, iq_65_59_4, iq_65_59_7, iq_65_59_9, iq_65_62, iq_65_65, iq_65_68, iq_65_71, Option.bind_some, Option.toList, List.cons_append, List.nil_append, ↓reduceIte, nI_1, Int32.reduceLT, Int32.reduceLE, dv_1, dv_2, dv_3, dv_4, dv_6, dv_8, dv_10, dv_20, dv_100, dv_200, dv_500, gf_sea_0, gf_sea_1, gf_sea_2, gf_sea_3, gf_sea_4, gf_sea_5, gf_sea_6, gf_sea_7, gf_sea_8, gf_sea_9, gf_sea_10, kd_sea, pf_sea_1, pf_sea_2, pf_sea_4, pf_sea_5, pf_sea_6, pf_sea_7, pf_sea_9, hn, nz_lt, nz_nlt, nz_eq, nz_ne]
  | succ i ih =>
    intro j hj D l3 hr
    have hvj := sv_mv hv v j (by omega)
    have hn : D B 1 = nI n := hr.1.1.trans (sv_n hvj)
    have hs3 : D B 2 = sp_mv s v j 3 := hr.1.2.1
    obtain ⟨⟨a, ha, hka⟩, -, ⟨p, hp, hkp⟩, ht⟩ := hvj.2.2.2.2.2.1 j (by omega)
    obtain ⟨b0, b1, b2, b3, b4, b5, b6⟩ := hr.2.2.1 j (by omega)
    rw [hka] at b0
    rw [hkp] at b2
    have vc := fun ls r0 => vc_65_59 R c D d a ha ls r0
    have hs : sp_mv s v (j + 1) = sp_mv1 (sp_mv s v j) v j := rfl
    obtain ⟨x, hx⟩ : ∃ x, x = (if nI j = sp_mv s v j 3 then v else if sp_mv s v j (12 + 7 * j + 5) = 1 then v else sp_row (sp_mv s v j (12 + 7 * j + 0))) := ⟨_, rfl⟩
    have hxb : ¬ x < 0 ∧ x.toInt < 2 ^ 30 := by
      rw [hx]
      by_cases h1 : nI j = sp_mv s v j 3
      · rw [if_pos h1]; exact hv0
      · rw [if_neg h1]
        by_cases h2 : sp_mv s v j (12 + 7 * j + 5) = 1
        · rw [if_pos h2]; exact hv0
        · rw [if_neg h2]; exact sp_row_b _
    have hst : sp_mv1 (sp_mv s v j) v j = mx_up (sp_mv s v j) (12 + 7 * j + 2) (sp_wi (nI p + x) 9999) := by
      unfold sp_mv1
      rw [← hx, hkp]
    have r1 := su_b2 hB hn9 hr j (by omega) (sp_wi (nI p + x) 9999)
    rw [← hst, ← hs] at r1
    obtain ⟨D', k1, k2, k3⟩ := ih (j + 1) (by omega) _ (some (.int (if nI j = sp_mv s v j 3 then 1 else if sp_mv s v j (12 + 7 * j + 5) = 1 then 1 else 0))) r1
    refine ⟨D', ?_, k2, fr_trans (fr_up (fr_refl _ _) _ _ (Or.inl (by omega))) k3⟩
    rw [← k1, iq_65_2]
    have mb := cc_moveBy R c D (d + 1) j hB (by omega) x
    rw [b2, sp_wi_mn hp hxb.1 hxb.2] at mb
    by_cases h1 : sp_mv s v j 3 = nI j
    · rw [if_pos h1.symm] at hx
      rw [hx] at mb
      simp (disch := first | assumption | omega | exact kd_sea _ _ _ (by assumption) | exact is_bts (by assumption) _ (by omega) | exact kd_bt _ _ _ (is_bts (by assumption) _ (by omega)) | exact kd_109 _ _ _ | exact kd_17 _ _ _ | exact kd_20 _ _ _) only [iq_65_0, iq_65_1, iq_65_3, iq_65_4, iq_65_7, iq_65_10, iq_65_11, iq_65_12, iq_65_15, iq_65_18, iq_65_19, iq_65_22, iq_65_23, iq_65_24, iq_65_27, iq_65_30, iq_65_31, iq_65_34, iq_65_35, iq_65_36, iq_65_37, iq_65_40, iq_65_41, iq_65_42, iq_65_43, iq_65_46, iq_65_47, iq_65_50, iq_65_51, iq_65_54, iq_65_55, iq_65_56, iq_65_59_1, iq_65_59_2, iq_65_59_3, iq_65_59_4, iq_65_59_7, iq_65_59_9, iq_65_62, iq_65_65, iq_65_68, iq_65_71, Option.bind_some, Option.toList, List.cons_append, List.nil_append, ↓reduceIte, nI_1, Int32.reduceLT, Int32.reduceLE, dv_1, dv_2, dv_3, dv_4, dv_6, dv_8, dv_10, dv_20, dv_100, dv_200, dv_500, gf_sea_0, gf_sea_1, gf_sea_2, gf_sea_3, gf_sea_4, gf_sea_5, gf_sea_6, gf_sea_7, gf_sea_8, gf_sea_9, gf_sea_10, kd_sea, pf_sea_1, pf_sea_2, pf_sea_4, pf_sea_5, pf_sea_6, pf_sea_7, pf_sea_9, gf_bt_0, gf_bt_1, gf_bt_2, gf_bt_3, gf_bt_4, gf_bt_5, gf_bt_6, kd_bt, pf_bt_0, pf_bt_1, pf_bt_2, pf_bt_3, pf_bt_4, pf_bt_5, pf_bt_6, ld_rul, st_rul, ld_cnt, st_cnt, aa_bs, aa_tx, ru_0, ru_1, ru_2, ru_3, ru_4, su_r0, su_r1, su_r2, hn, nz_lt, nz_nlt, nz_eq, nz_ne, hs3, h1, mb, hx]
    · have h1' : ¬ nI j = sp_mv s v j 3 := fun z => h1 z.symm
      rw [if_neg h1'] at hx
      rcases ht with ht | ht
      · rw [ht, if_neg (by decide), hka] at hx
        rw [hx] at mb
        simp (disch := first | assumption | omega | exact kd_sea _ _ _ (by assumption) | exact is_bts (by assumption) _ (by omega) | exact kd_bt _ _ _ (is_bts (by assumption) _ (by omega)) | exact kd_109 _ _ _ | exact kd_17 _ _ _ | exact kd_20 _ _ _) only [iq_65_0, iq_65_1, iq_65_3, iq_65_4, iq_65_7, iq_65_10, iq_65_11, iq_65_12, iq_65_15, iq_65_18, iq_65_19, iq_65_22, iq_65_23, iq_65_24, iq_65_27, iq_65_30, iq_65_31, iq_65_34, iq_65_35, iq_65_36, iq_65_37, iq_65_40, iq_65_41, iq_65_42, iq_65_43, iq_65_46, iq_65_47, iq_65_50, iq_65_51, iq_65_54, iq_65_55, iq_65_56, iq_65_62, iq_65_65, iq_65_68, iq_65_71, Option.bind_some, Option.toList, List.cons_append, List.nil_append, ↓reduceIte, nI_1, Int32.reduceLT, Int32.reduceLE, dv_1, dv_2, dv_3, dv_4, dv_6, dv_8, dv_10, dv_20, dv_100, dv_200, dv_500, gf_sea_0, gf_sea_1, gf_sea_2, gf_sea_3, gf_sea_4, gf_sea_5, gf_sea_6, gf_sea_7, gf_sea_8, gf_sea_9, gf_sea_10, kd_sea, pf_sea_1, pf_sea_2, pf_sea_4, pf_sea_5, pf_sea_6, pf_sea_7, pf_sea_9, gf_bt_0, gf_bt_1, gf_bt_2, gf_bt_3, gf_bt_4, gf_bt_5, gf_bt_6, kd_bt, pf_bt_0, pf_bt_1, pf_bt_2, pf_bt_3, pf_bt_4, pf_bt_5, pf_bt_6, ld_rul, st_rul, ld_cnt, st_cnt, aa_bs, aa_tx, ru_0, ru_1, ru_2, ru_3, ru_4, su_r0, su_r1, su_r2, hn, nz_lt, nz_nlt, nz_eq, nz_ne, hs3, h1', b6, ht, ga_kd b0 ha, vc, mb, hx, show ((0 : Int32) = 1) = False by decide]
      · rw [ht, if_pos rfl] at hx
        rw [hx] at mb
        simp (disch := first | assumption | omega | exact kd_sea _ _ _ (by assumption) | exact is_bts (by assumption) _ (by omega) | exact kd_bt _ _ _ (is_bts (by assumption) _ (by omega)) | exact kd_109 _ _ _ | exact kd_17 _ _ _ | exact kd_20 _ _ _) only [iq_65_0, iq_65_1, iq_65_3, iq_65_4, iq_65_7, iq_65_10, iq_65_11, iq_65_12, iq_65_15, iq_65_18, iq_65_19, iq_65_22, iq_65_23, iq_65_24, iq_65_27, iq_65_30, iq_65_31, iq_65_34, iq_65_35, iq_65_36, iq_65_37, iq_65_40, iq_65_41, iq_65_42, iq_65_43, iq_65_46, iq_65_47, iq_65_50, iq_65_51, iq_65_54, iq_65_55, iq_65_56, iq_65_59_1, iq_65_59_2, iq_65_59_3, iq_65_59_4, iq_65_59_7, iq_65_59_9, iq_65_62, iq_65_65, iq_65_68, iq_65_71, Option.bind_some, Option.toList, List.cons_append, List.nil_append, ↓reduceIte, nI_1, Int32.reduceLT, Int32.reduceLE, dv_1, dv_2, dv_3, dv_4, dv_6, dv_8, dv_10, dv_20, dv_100, dv_200, dv_500, gf_sea_0, gf_sea_1, gf_sea_2, gf_sea_3, gf_sea_4, gf_sea_5, gf_sea_6, gf_sea_7, gf_sea_8, gf_sea_9, gf_sea_10, kd_sea, pf_sea_1, pf_sea_2, pf_sea_4, pf_sea_5, pf_sea_6, pf_sea_7, pf_sea_9, gf_bt_0, gf_bt_1, gf_bt_2, gf_bt_3, gf_bt_4, gf_bt_5, gf_bt_6, kd_bt, pf_bt_0, pf_bt_1, pf_bt_2, pf_bt_3, pf_bt_4, pf_bt_5, pf_bt_6, ld_rul, st_rul, ld_cnt, st_cnt, aa_bs, aa_tx, ru_0, ru_1, ru_2, ru_3, ru_4, su_r0, su_r1, su_r2, hn, nz_lt, nz_nlt, nz_eq, nz_ne, hs3, h1', b6, ht, mb, hx]
theorem cc_move (d : Nat) (hB : is_sea B) (hr : sea_rel c D B s n m) (hv : sv s n m) (v : Int32) (hv0 : ¬ v < 0 ∧ v.toInt < 2 ^ 30) : ∃ D', mx_run (d + 2) 65 0 [some (.ref B), some (.int v), none, none] [] (hp R c D) = some (none, hp R c D') ∧ sea_rel c D' B (sp_mv s v n) n m ∧ fr (Xsea B) D D' := by
  obtain ⟨D', h1, h2⟩ := cc_move_lp R c d hB v hv0 hv n 0 (by omega) D none hr
  refine ⟨D', ?_, h2⟩
  simp only [iq_65_0, iq_65_1]
  exact h1
theorem cc_fish_lp (d : Nat) (hB : is_sea B) (hv : sv s n m) : ∀ i j : Nat, j + i = n → ∀ (D : hz_D), sea_rel c D B (sp_fi s j) n m → ∃ D', mx_run d 67 9 [some (.ref B), some (.int (s 10)), some (.int (nI j))] [] (hp R c D) = some (none, hp R c D') ∧ sea_rel c D' B (sp_fi s n) n m ∧ fr (Xsea B) D D' := by
  have hn9 := sv_n9 hv
  have h10 : ∀ k, k ≤ 9 → sp_fi s k 10 = s 10 := by
    intro k
    induction k with
    | zero => intro _; rfl
    | succ k ih =>
      intro hk
      show sp_fi1 (sp_fi s k) k 10 = s 10
      unfold sp_fi1
      rw [up_n _ _ _ _ (by omega)]
      exact ih (by omega)
  intro i
  induction i with
  | zero =>
    intro j hj D hr
    obtain rfl : j = n := by omega
    have hn : D B 1 = nI j := hr.1.1.trans (sv_n (sv_fi hv j (by omega)))
    refine ⟨D, ?_, hr, fr_refl _ _⟩
    rw [iq_67_9]
    simp (disch := first | assumption | omega | exact kd_sea _ _ _ (by assumption) | exact is_bts (by assumption) _ (by omega) | exact kd_bt _ _ _ (is_bts (by assumption) _ (by omega)) | exact kd_109 _ _ _ | exact kd_17 _ _ _ | exact kd_20 _ _ _) only [iq_67_0, iq_67_1, iq_67_4, iq_67_5, iq_67_6, iq_67_7, iq_67_8, iq_67_10, iq_67_11, iq_67_14, iq_67_17, iq_67_18, iq_67_19, iq_67_22, iq_67_25, iq_67_26, iq_67_29, iq_67_30, iq_67_31, iq_67_32, iq_67_35, iq_67_36, iq_67_39, iq_67_40, iq_67_41, iq_67_44, iq_67_47, iq_67_48, iq_67_49, iq_67_50, iq_67_53, iq_67_54, iq_67_55, iq_67_58, iq_67_61, iq_67_64, Option.bind_some, Option.toList, List.cons_append, List.nil_append, ↓reduceIte, nI_1, Int32.reduceLT, Int32.reduceLE, dv_1, dv_2, dv_3, dv_4, dv_6, dv_8, dv_10, dv_20, dv_100, dv_200, dv_500, gf_sea_0, gf_sea_1, gf_sea_2, gf_sea_3, gf_sea_4, gf_sea_5, gf_sea_6, gf_sea_7, gf_sea_8, gf_sea_9, gf_sea_10, kd_sea, pf_sea_1, pf_sea_2, pf_sea_4, pf_sea_5, pf_sea_6, pf_sea_7, pf_sea_9, hn, nz_lt, nz_nlt, nz_eq, nz_ne]
  | succ i ih =>
    intro j hj D hr
    have hvj := sv_fi hv j (by omega)
    have hn : D B 1 = nI n := hr.1.1.trans (sv_n hvj)
    have hs3 : D B 2 = sp_fi s j 3 := hr.1.2.1
    obtain ⟨-, -, -, ht⟩ := hvj.2.2.2.2.2.1 j (by omega)
    obtain ⟨b0, b1, b2, b3, b4, b5, b6⟩ := hr.2.2.1 j (by omega)
    have hs : sp_fi s (j + 1) = sp_fi1 (sp_fi s j) j := rfl
    have e10 := h10 j (by omega)
    by_cases h1 : sp_fi s j 3 = nI j
    · have hst : sp_fi1 (sp_fi s j) j = sp_fi s j := by
        unfold sp_fi1
        rw [if_pos h1.symm, Int32.add_zero, up_id]
      obtain ⟨D', k1, k2, k3⟩ := ih (j + 1) (by omega) D (by rw [hs, hst]; exact hr)
      refine ⟨D', ?_, k2, k3⟩
      rw [← k1, iq_67_9]
      simp (disch := first | assumption | omega | exact kd_sea _ _ _ (by assumption) | exact is_bts (by assumption) _ (by omega) | exact kd_bt _ _ _ (is_bts (by assumption) _ (by omega)) | exact kd_109 _ _ _ | exact kd_17 _ _ _ | exact kd_20 _ _ _) only [iq_67_0, iq_67_1, iq_67_4, iq_67_5, iq_67_6, iq_67_7, iq_67_8, iq_67_10, iq_67_11, iq_67_14, iq_67_17, iq_67_18, iq_67_19, iq_67_22, iq_67_25, iq_67_26, iq_67_29, iq_67_30, iq_67_31, iq_67_32, iq_67_35, iq_67_36, iq_67_39, iq_67_40, iq_67_41, iq_67_44, iq_67_47, iq_67_48, iq_67_49, iq_67_50, iq_67_53, iq_67_54, iq_67_55, iq_67_58, iq_67_61, iq_67_64, Option.bind_some, Option.toList, List.cons_append, List.nil_append, ↓reduceIte, nI_1, Int32.reduceLT, Int32.reduceLE, dv_1, dv_2, dv_3, dv_4, dv_6, dv_8, dv_10, dv_20, dv_100, dv_200, dv_500, gf_sea_0, gf_sea_1, gf_sea_2, gf_sea_3, gf_sea_4, gf_sea_5, gf_sea_6, gf_sea_7, gf_sea_8, gf_sea_9, gf_sea_10, kd_sea, pf_sea_1, pf_sea_2, pf_sea_4, pf_sea_5, pf_sea_6, pf_sea_7, pf_sea_9, gf_bt_0, gf_bt_1, gf_bt_2, gf_bt_3, gf_bt_4, gf_bt_5, gf_bt_6, kd_bt, pf_bt_0, pf_bt_1, pf_bt_2, pf_bt_3, pf_bt_4, pf_bt_5, pf_bt_6, ld_rul, st_rul, ld_cnt, st_cnt, aa_bs, aa_tx, ru_0, ru_1, ru_2, ru_3, ru_4, su_r0, su_r1, su_r2, hn, nz_lt, nz_nlt, nz_eq, nz_ne, hs3, h1]
    · have h1' : ¬ nI j = sp_fi s j 3 := fun z => h1 z.symm
      rcases ht with ht | ht
      · have hst : sp_fi1 (sp_fi s j) j = mx_up (sp_fi s j) (12 + 7 * j + 4) (sp_fi s j (12 + 7 * j + 4) + s 10) := by
          unfold sp_fi1
          rw [if_neg h1', ht, if_neg (by decide), e10]
        have r1 := su_b4 hB hn9 hr j (by omega) (sp_fi s j (12 + 7 * j + 4) + s 10)
        rw [← hst, ← hs] at r1
        obtain ⟨D', k1, k2, k3⟩ := ih (j + 1) (by omega) _ r1
        refine ⟨D', ?_, k2, fr_trans (fr_up (fr_refl _ _) _ _ (Or.inl (by omega))) k3⟩
        rw [← k1, iq_67_9]
        simp (disch := first | assumption | omega | exact kd_sea _ _ _ (by assumption) | exact is_bts (by assumption) _ (by omega) | exact kd_bt _ _ _ (is_bts (by assumption) _ (by omega)) | exact kd_109 _ _ _ | exact kd_17 _ _ _ | exact kd_20 _ _ _) only [iq_67_0, iq_67_1, iq_67_4, iq_67_5, iq_67_6, iq_67_7, iq_67_8, iq_67_10, iq_67_11, iq_67_14, iq_67_17, iq_67_18, iq_67_19, iq_67_22, iq_67_25, iq_67_26, iq_67_29, iq_67_30, iq_67_31, iq_67_32, iq_67_35, iq_67_36, iq_67_39, iq_67_40, iq_67_41, iq_67_44, iq_67_47, iq_67_48, iq_67_49, iq_67_50, iq_67_53, iq_67_54, iq_67_55, iq_67_58, iq_67_61, iq_67_64, Option.bind_some, Option.toList, List.cons_append, List.nil_append, ↓reduceIte, nI_1, Int32.reduceLT, Int32.reduceLE, dv_1, dv_2, dv_3, dv_4, dv_6, dv_8, dv_10, dv_20, dv_100, dv_200, dv_500, gf_sea_0, gf_sea_1, gf_sea_2, gf_sea_3, gf_sea_4, gf_sea_5, gf_sea_6, gf_sea_7, gf_sea_8, gf_sea_9, gf_sea_10, kd_sea, pf_sea_1, pf_sea_2, pf_sea_4, pf_sea_5, pf_sea_6, pf_sea_7, pf_sea_9, gf_bt_0, gf_bt_1, gf_bt_2, gf_bt_3, gf_bt_4, gf_bt_5, gf_bt_6, kd_bt, pf_bt_0, pf_bt_1, pf_bt_2, pf_bt_3, pf_bt_4, pf_bt_5, pf_bt_6, ld_rul, st_rul, ld_cnt, st_cnt, aa_bs, aa_tx, ru_0, ru_1, ru_2, ru_3, ru_4, su_r0, su_r1, su_r2, hn, nz_lt, nz_nlt, nz_eq, nz_ne, hs3, h1', b6, b4, ht]
      · have hst : sp_fi1 (sp_fi s j) j = mx_up (sp_fi s j) (12 + 7 * j + 4) (sp_fi s j (12 + 7 * j + 4) + s 10 / 2) := by
          unfold sp_fi1
          rw [if_neg h1', ht, if_pos rfl, e10]
        have r1 := su_b4 hB hn9 hr j (by omega) (sp_fi s j (12 + 7 * j + 4) + s 10 / 2)
        rw [← hst, ← hs] at r1
        obtain ⟨D', k1, k2, k3⟩ := ih (j + 1) (by omega) _ r1
        refine ⟨D', ?_, k2, fr_trans (fr_up (fr_refl _ _) _ _ (Or.inl (by omega))) k3⟩
        rw [← k1, iq_67_9]
        simp (disch := first | assumption | omega | exact kd_sea _ _ _ (by assumption) | exact is_bts (by assumption) _ (by omega) | exact kd_bt _ _ _ (is_bts (by assumption) _ (by omega)) | exact kd_109 _ _ _ | exact kd_17 _ _ _ | exact kd_20 _ _ _) only [iq_67_0, iq_67_1, iq_67_4, iq_67_5, iq_67_6, iq_67_7, iq_67_8, iq_67_10, iq_67_11, iq_67_14, iq_67_17, iq_67_18, iq_67_19, iq_67_22, iq_67_25, iq_67_26, iq_67_29, iq_67_30, iq_67_31, iq_67_32, iq_67_35, iq_67_36, iq_67_39, iq_67_40, iq_67_41, iq_67_44, iq_67_47, iq_67_48, iq_67_49, iq_67_50, iq_67_53, iq_67_54, iq_67_55, iq_67_58, iq_67_61, iq_67_64, Option.bind_some, Option.toList, List.cons_append, List.nil_append, ↓reduceIte, nI_1, Int32.reduceLT, Int32.reduceLE, dv_1, dv_2, dv_3, dv_4, dv_6, dv_8, dv_10, dv_20, dv_100, dv_200, dv_500, gf_sea_0, gf_sea_1, gf_sea_2, gf_sea_3, gf_sea_4, gf_sea_5, gf_sea_6, gf_sea_7, gf_sea_8, gf_sea_9, gf_sea_10, kd_sea, pf_sea_1, pf_sea_2, pf_sea_4, pf_sea_5, pf_sea_6, pf_sea_7, pf_sea_9, gf_bt_0, gf_bt_1, gf_bt_2, gf_bt_3, gf_bt_4, gf_bt_5, gf_bt_6, kd_bt, pf_bt_0, pf_bt_1, pf_bt_2, pf_bt_3, pf_bt_4, pf_bt_5, pf_bt_6, ld_rul, st_rul, ld_cnt, st_cnt, aa_bs, aa_tx, ru_0, ru_1, ru_2, ru_3, ru_4, su_r0, su_r1, su_r2, hn, nz_lt, nz_nlt, nz_eq, nz_ne, hs3, h1', b6, b4, ht]
theorem cc_fish (d : Nat) (hB : is_sea B) (hr : sea_rel c D B s n m) (hv : sv s n m) : ∃ D', mx_run d 67 0 [some (.ref B), none, none] [] (hp R c D) = some (none, hp R c D') ∧ sea_rel c D' B (sp_fi s n) n m ∧ fr (Xsea B) D D' := by
  obtain ⟨D', h1, h2⟩ := cc_fish_lp R c d hB hv n 0 (by omega) D hr
  refine ⟨D', ?_, h2⟩
  have r3 : D (B + 2) 3 = s 10 := hr.2.1 3 (by omega)
  simp (disch := first | assumption | omega | exact kd_sea _ _ _ (by assumption) | exact is_bts (by assumption) _ (by omega) | exact kd_bt _ _ _ (is_bts (by assumption) _ (by omega)) | exact kd_109 _ _ _ | exact kd_17 _ _ _ | exact kd_20 _ _ _) only [iq_67_0, iq_67_1, iq_67_4, iq_67_5, iq_67_6, iq_67_7, iq_67_8, Option.bind_some, Option.toList, List.cons_append, List.nil_append, ↓reduceIte, nI_1, Int32.reduceLT, Int32.reduceLE, dv_1, dv_2, dv_3, dv_4, dv_6, dv_8, dv_10, dv_20, dv_100, dv_200, dv_500, gf_sea_0, gf_sea_1, gf_sea_2, gf_sea_3, gf_sea_4, gf_sea_5, gf_sea_6, gf_sea_7, gf_sea_8, gf_sea_9, gf_sea_10, kd_sea, pf_sea_1, pf_sea_2, pf_sea_4, pf_sea_5, pf_sea_6, pf_sea_7, pf_sea_9, ld_rul, st_rul, ld_cnt, st_cnt, aa_bs, aa_tx, ru_0, ru_1, ru_2, ru_3, ru_4, su_r0, su_r1, su_r2, r3]
  exact h1
theorem su_gt (hB : is_sea B) (hn9 : n ≤ 9) (hr : sea_rel c D B s n m) (x : Int32) : sea_rel c (mx_up D B (mx_up (mx_up (D B) 2 x) 5 0)) B (sp_gt s x) n m := by
  have r1 := su_5 hB hn9 (su_2 hB hn9 hr x) 0
  rw [up_s, up_up, up_cm s 3 5 _ _ (by omega)] at r1
  exact r1
theorem cc_pass (d : Nat) (hB : is_sea B) (hr : sea_rel c D B s n m) (hv : sv s n m) (h0 : 0 < n) : ∃ D', mx_run (d + 2) 68 0 [some (.ref B), none] [] (hp R c D) = some (none, hp R c D') ∧ sea_rel c D' B (sp_ps s n) n m ∧ fr (Xsea B) D D' := by
  have hn : D B 1 = nI n := hr.1.1.trans (sv_n hv)
  have hn9 := sv_n9 hv
  obtain ⟨q, hs, hs9, hsn⟩ := hv.2.2.2.2.1
  have hs3 : D B 2 = nI q := hr.1.2.1.trans hs
  have hq := hsn.1 h0
  have r0 : D (B + 2) 0 = s 7 := hr.2.1 0 (by omega)
  have r1 : D (B + 2) 1 = s 8 := hr.2.1 1 (by omega)
  have r2 : D (B + 2) 2 = s 9 := hr.2.1 2 (by omega)
  have f5 : D B 5 = s 5 := hr.1.2.2.2.1
  have hl : sp_lp s n < n := sp_mn_lt _ n h0
  have hg : sp_mg s n < n := sp_mx_lt _ n h0
  have fx : ∀ x, fr (Xsea B) D (mx_up D B (mx_up (mx_up (D B) 2 x) 5 0)) := fun x => fr_up (fr_refl _ _) _ _ (Or.inl (by omega))
  unfold sp_ps
  by_cases h1 : s 8 = 0
  · rw [if_pos h1]
    by_cases h2 : s 5 < s 9
    · rw [if_pos h2]
      refine ⟨D, ?_, hr, fr_refl _ _⟩
      simp (disch := first | assumption | omega | exact kd_sea _ _ _ (by assumption) | exact is_bts (by assumption) _ (by omega) | exact kd_bt _ _ _ (is_bts (by assumption) _ (by omega)) | exact kd_109 _ _ _ | exact kd_17 _ _ _ | exact kd_20 _ _ _) only [iq_68_0, iq_68_1, iq_68_4, iq_68_5, iq_68_6, iq_68_9, iq_68_10, iq_68_13, iq_68_14, iq_68_17, iq_68_18, iq_68_19, iq_68_22, iq_68_23, iq_68_24, iq_68_27, iq_68_28, iq_68_29, iq_68_30, iq_68_33, iq_68_36, iq_68_37, iq_68_40, iq_68_41, iq_68_42, iq_68_45, iq_68_46, iq_68_49, iq_68_52, iq_68_53, iq_68_56, iq_68_57, iq_68_58, iq_68_59, iq_68_62, iq_68_63, iq_68_66, iq_68_67, iq_68_68, iq_68_69, iq_68_72, iq_68_73, iq_68_74, iq_68_77, iq_68_80, iq_68_83, iq_68_84, iq_68_87, iq_68_88, iq_68_89, iq_68_92, iq_68_93, iq_68_94, iq_68_97, iq_68_100, iq_68_101, iq_68_102, iq_68_105, Option.bind_some, Option.toList, List.cons_append, List.nil_append, ↓reduceIte, nI_1, Int32.reduceLT, Int32.reduceLE, dv_1, dv_2, dv_3, dv_4, dv_6, dv_8, dv_10, dv_20, dv_100, dv_200, dv_500, gf_sea_0, gf_sea_1, gf_sea_2, gf_sea_3, gf_sea_4, gf_sea_5, gf_sea_6, gf_sea_7, gf_sea_8, gf_sea_9, gf_sea_10, kd_sea, pf_sea_1, pf_sea_2, pf_sea_4, pf_sea_5, pf_sea_6, pf_sea_7, pf_sea_9, ld_rul, st_rul, ld_cnt, st_cnt, aa_bs, aa_tx, ru_0, ru_1, ru_2, ru_3, ru_4, su_r0, su_r1, su_r2, r1, r2, f5, h1, h2]
    · rw [if_neg h2, hs, nI_1, sp_rmN (by omega) h0 (by omega)]
      refine ⟨_, ?_, su_gt c D hB hn9 hr _, fx _⟩
      by_cases h3 : q + 1 < n
      · rw [Nat.mod_eq_of_lt h3]
        simp (disch := first | assumption | omega | exact kd_sea _ _ _ (by assumption) | exact is_bts (by assumption) _ (by omega) | exact kd_bt _ _ _ (is_bts (by assumption) _ (by omega)) | exact kd_109 _ _ _ | exact kd_17 _ _ _ | exact kd_20 _ _ _) only [iq_68_0, iq_68_1, iq_68_4, iq_68_5, iq_68_6, iq_68_9, iq_68_10, iq_68_13, iq_68_14, iq_68_17, iq_68_18, iq_68_19, iq_68_22, iq_68_23, iq_68_24, iq_68_27, iq_68_28, iq_68_29, iq_68_30, iq_68_33, iq_68_36, iq_68_37, iq_68_40, iq_68_41, iq_68_42, iq_68_45, iq_68_46, iq_68_49, iq_68_52, iq_68_53, iq_68_56, iq_68_57, iq_68_58, iq_68_59, iq_68_62, iq_68_63, iq_68_66, iq_68_67, iq_68_68, iq_68_69, iq_68_72, iq_68_73, iq_68_74, iq_68_77, iq_68_80, iq_68_83, iq_68_84, iq_68_87, iq_68_88, iq_68_89, iq_68_92, iq_68_93, iq_68_94, iq_68_97, iq_68_100, iq_68_101, iq_68_102, iq_68_105, Option.bind_some, Option.toList, List.cons_append, List.nil_append, ↓reduceIte, nI_1, Int32.reduceLT, Int32.reduceLE, dv_1, dv_2, dv_3, dv_4, dv_6, dv_8, dv_10, dv_20, dv_100, dv_200, dv_500, gf_sea_0, gf_sea_1, gf_sea_2, gf_sea_3, gf_sea_4, gf_sea_5, gf_sea_6, gf_sea_7, gf_sea_8, gf_sea_9, gf_sea_10, kd_sea, pf_sea_1, pf_sea_2, pf_sea_4, pf_sea_5, pf_sea_6, pf_sea_7, pf_sea_9, ld_rul, st_rul, ld_cnt, st_cnt, aa_bs, aa_tx, ru_0, ru_1, ru_2, ru_3, ru_4, su_r0, su_r1, su_r2, r1, r2, f5, h1, h2, hs3, hn, nz_lt, nz_nlt, nz_eq, nz_ne, cc_give]
      · rw [show q + 1 = n by omega, Nat.mod_self]
        simp (disch := first | assumption | omega | exact kd_sea _ _ _ (by assumption) | exact is_bts (by assumption) _ (by omega) | exact kd_bt _ _ _ (is_bts (by assumption) _ (by omega)) | exact kd_109 _ _ _ | exact kd_17 _ _ _ | exact kd_20 _ _ _) only [iq_68_0, iq_68_1, iq_68_4, iq_68_5, iq_68_6, iq_68_9, iq_68_10, iq_68_13, iq_68_14, iq_68_17, iq_68_18, iq_68_19, iq_68_22, iq_68_23, iq_68_24, iq_68_27, iq_68_28, iq_68_29, iq_68_30, iq_68_33, iq_68_36, iq_68_37, iq_68_40, iq_68_41, iq_68_42, iq_68_45, iq_68_46, iq_68_49, iq_68_52, iq_68_53, iq_68_56, iq_68_57, iq_68_58, iq_68_59, iq_68_62, iq_68_63, iq_68_66, iq_68_67, iq_68_68, iq_68_69, iq_68_72, iq_68_73, iq_68_74, iq_68_77, iq_68_80, iq_68_83, iq_68_84, iq_68_87, iq_68_88, iq_68_89, iq_68_92, iq_68_93, iq_68_94, iq_68_97, iq_68_100, iq_68_101, iq_68_102, iq_68_105, Option.bind_some, Option.toList, List.cons_append, List.nil_append, ↓reduceIte, nI_1, Int32.reduceLT, Int32.reduceLE, dv_1, dv_2, dv_3, dv_4, dv_6, dv_8, dv_10, dv_20, dv_100, dv_200, dv_500, gf_sea_0, gf_sea_1, gf_sea_2, gf_sea_3, gf_sea_4, gf_sea_5, gf_sea_6, gf_sea_7, gf_sea_8, gf_sea_9, gf_sea_10, kd_sea, pf_sea_1, pf_sea_2, pf_sea_4, pf_sea_5, pf_sea_6, pf_sea_7, pf_sea_9, ld_rul, st_rul, ld_cnt, st_cnt, aa_bs, aa_tx, ru_0, ru_1, ru_2, ru_3, ru_4, su_r0, su_r1, su_r2, r1, r2, f5, h1, h2, hs3, hn, nz_lt, nz_nlt, nz_eq, nz_ne, cc_give, nI_0]
  · rw [if_neg h1]
    by_cases h2 : s 8 = 1
    · rw [if_pos h2]
      by_cases h3 : s 7 < 4
      · rw [if_pos h3]
        refine ⟨_, ?_, su_gt c D hB hn9 hr _, fx _⟩
        simp (disch := first | assumption | omega | exact kd_sea _ _ _ (by assumption) | exact is_bts (by assumption) _ (by omega) | exact kd_bt _ _ _ (is_bts (by assumption) _ (by omega)) | exact kd_109 _ _ _ | exact kd_17 _ _ _ | exact kd_20 _ _ _) only [iq_68_0, iq_68_1, iq_68_4, iq_68_5, iq_68_6, iq_68_9, iq_68_10, iq_68_13, iq_68_14, iq_68_17, iq_68_18, iq_68_19, iq_68_22, iq_68_23, iq_68_24, iq_68_27, iq_68_28, iq_68_29, iq_68_30, iq_68_33, iq_68_36, iq_68_37, iq_68_40, iq_68_41, iq_68_42, iq_68_45, iq_68_46, iq_68_49, iq_68_52, iq_68_53, iq_68_56, iq_68_57, iq_68_58, iq_68_59, iq_68_62, iq_68_63, iq_68_66, iq_68_67, iq_68_68, iq_68_69, iq_68_72, iq_68_73, iq_68_74, iq_68_77, iq_68_80, iq_68_83, iq_68_84, iq_68_87, iq_68_88, iq_68_89, iq_68_92, iq_68_93, iq_68_94, iq_68_97, iq_68_100, iq_68_101, iq_68_102, iq_68_105, Option.bind_some, Option.toList, List.cons_append, List.nil_append, ↓reduceIte, nI_1, Int32.reduceLT, Int32.reduceLE, dv_1, dv_2, dv_3, dv_4, dv_6, dv_8, dv_10, dv_20, dv_100, dv_200, dv_500, gf_sea_0, gf_sea_1, gf_sea_2, gf_sea_3, gf_sea_4, gf_sea_5, gf_sea_6, gf_sea_7, gf_sea_8, gf_sea_9, gf_sea_10, kd_sea, pf_sea_1, pf_sea_2, pf_sea_4, pf_sea_5, pf_sea_6, pf_sea_7, pf_sea_9, ld_rul, st_rul, ld_cnt, st_cnt, aa_bs, aa_tx, ru_0, ru_1, ru_2, ru_3, ru_4, su_r0, su_r1, su_r2, r0, r1, h1, h2, h3, cc_give, cc_last R c D _ hB hr hv h0]
      · rw [if_neg h3]
        refine ⟨D, ?_, hr, fr_refl _ _⟩
        simp (disch := first | assumption | omega | exact kd_sea _ _ _ (by assumption) | exact is_bts (by assumption) _ (by omega) | exact kd_bt _ _ _ (is_bts (by assumption) _ (by omega)) | exact kd_109 _ _ _ | exact kd_17 _ _ _ | exact kd_20 _ _ _) only [iq_68_0, iq_68_1, iq_68_4, iq_68_5, iq_68_6, iq_68_9, iq_68_10, iq_68_13, iq_68_14, iq_68_17, iq_68_18, iq_68_19, iq_68_22, iq_68_23, iq_68_24, iq_68_27, iq_68_28, iq_68_29, iq_68_30, iq_68_33, iq_68_36, iq_68_37, iq_68_40, iq_68_41, iq_68_42, iq_68_45, iq_68_46, iq_68_49, iq_68_52, iq_68_53, iq_68_56, iq_68_57, iq_68_58, iq_68_59, iq_68_62, iq_68_63, iq_68_66, iq_68_67, iq_68_68, iq_68_69, iq_68_72, iq_68_73, iq_68_74, iq_68_77, iq_68_80, iq_68_83, iq_68_84, iq_68_87, iq_68_88, iq_68_89, iq_68_92, iq_68_93, iq_68_94, iq_68_97, iq_68_100, iq_68_101, iq_68_102, iq_68_105, Option.bind_some, Option.toList, List.cons_append, List.nil_append, ↓reduceIte, nI_1, Int32.reduceLT, Int32.reduceLE, dv_1, dv_2, dv_3, dv_4, dv_6, dv_8, dv_10, dv_20, dv_100, dv_200, dv_500, gf_sea_0, gf_sea_1, gf_sea_2, gf_sea_3, gf_sea_4, gf_sea_5, gf_sea_6, gf_sea_7, gf_sea_8, gf_sea_9, gf_sea_10, kd_sea, pf_sea_1, pf_sea_2, pf_sea_4, pf_sea_5, pf_sea_6, pf_sea_7, pf_sea_9, ld_rul, st_rul, ld_cnt, st_cnt, aa_bs, aa_tx, ru_0, ru_1, ru_2, ru_3, ru_4, su_r0, su_r1, su_r2, r0, r1, h1, h2, h3]
    · rw [if_neg h2]
      have tg := fun d => cc_toGo R c D d (sp_mg s n) hB hr hn9 hg
      by_cases h3 : 0 < sp_tg s (sp_mg s n)
      · rw [if_pos h3]
        refine ⟨_, ?_, su_gt c D hB hn9 hr _, fx _⟩
        simp (disch := first | assumption | omega | exact kd_sea _ _ _ (by assumption) | exact is_bts (by assumption) _ (by omega) | exact kd_bt _ _ _ (is_bts (by assumption) _ (by omega)) | exact kd_109 _ _ _ | exact kd_17 _ _ _ | exact kd_20 _ _ _) only [iq_68_0, iq_68_1, iq_68_4, iq_68_5, iq_68_6, iq_68_9, iq_68_10, iq_68_13, iq_68_14, iq_68_17, iq_68_18, iq_68_19, iq_68_22, iq_68_23, iq_68_24, iq_68_27, iq_68_28, iq_68_29, iq_68_30, iq_68_33, iq_68_36, iq_68_37, iq_68_40, iq_68_41, iq_68_42, iq_68_45, iq_68_46, iq_68_49, iq_68_52, iq_68_53, iq_68_56, iq_68_57, iq_68_58, iq_68_59, iq_68_62, iq_68_63, iq_68_66, iq_68_67, iq_68_68, iq_68_69, iq_68_72, iq_68_73, iq_68_74, iq_68_77, iq_68_80, iq_68_83, iq_68_84, iq_68_87, iq_68_88, iq_68_89, iq_68_92, iq_68_93, iq_68_94, iq_68_97, iq_68_100, iq_68_101, iq_68_102, iq_68_105, Option.bind_some, Option.toList, List.cons_append, List.nil_append, ↓reduceIte, nI_1, Int32.reduceLT, Int32.reduceLE, dv_1, dv_2, dv_3, dv_4, dv_6, dv_8, dv_10, dv_20, dv_100, dv_200, dv_500, gf_sea_0, gf_sea_1, gf_sea_2, gf_sea_3, gf_sea_4, gf_sea_5, gf_sea_6, gf_sea_7, gf_sea_8, gf_sea_9, gf_sea_10, kd_sea, pf_sea_1, pf_sea_2, pf_sea_4, pf_sea_5, pf_sea_6, pf_sea_7, pf_sea_9, ld_rul, st_rul, ld_cnt, st_cnt, aa_bs, aa_tx, ru_0, ru_1, ru_2, ru_3, ru_4, su_r0, su_r1, su_r2, r1, h1, h2, h3, cc_give, cc_farth R c D _ hB hr hv h0, tg]
      · rw [if_neg h3]
        refine ⟨D, ?_, hr, fr_refl _ _⟩
        simp (disch := first | assumption | omega | exact kd_sea _ _ _ (by assumption) | exact is_bts (by assumption) _ (by omega) | exact kd_bt _ _ _ (is_bts (by assumption) _ (by omega)) | exact kd_109 _ _ _ | exact kd_17 _ _ _ | exact kd_20 _ _ _) only [iq_68_0, iq_68_1, iq_68_4, iq_68_5, iq_68_6, iq_68_9, iq_68_10, iq_68_13, iq_68_14, iq_68_17, iq_68_18, iq_68_19, iq_68_22, iq_68_23, iq_68_24, iq_68_27, iq_68_28, iq_68_29, iq_68_30, iq_68_33, iq_68_36, iq_68_37, iq_68_40, iq_68_41, iq_68_42, iq_68_45, iq_68_46, iq_68_49, iq_68_52, iq_68_53, iq_68_56, iq_68_57, iq_68_58, iq_68_59, iq_68_62, iq_68_63, iq_68_66, iq_68_67, iq_68_68, iq_68_69, iq_68_72, iq_68_73, iq_68_74, iq_68_77, iq_68_80, iq_68_83, iq_68_84, iq_68_87, iq_68_88, iq_68_89, iq_68_92, iq_68_93, iq_68_94, iq_68_97, iq_68_100, iq_68_101, iq_68_102, iq_68_105, Option.bind_some, Option.toList, List.cons_append, List.nil_append, ↓reduceIte, nI_1, Int32.reduceLT, Int32.reduceLE, dv_1, dv_2, dv_3, dv_4, dv_6, dv_8, dv_10, dv_20, dv_100, dv_200, dv_500, gf_sea_0, gf_sea_1, gf_sea_2, gf_sea_3, gf_sea_4, gf_sea_5, gf_sea_6, gf_sea_7, gf_sea_8, gf_sea_9, gf_sea_10, kd_sea, pf_sea_1, pf_sea_2, pf_sea_4, pf_sea_5, pf_sea_6, pf_sea_7, pf_sea_9, ld_rul, st_rul, ld_cnt, st_cnt, aa_bs, aa_tx, ru_0, ru_1, ru_2, ru_3, ru_4, su_r0, su_r1, su_r2, r1, h1, h2, h3, cc_farth R c D _ hB hr hv h0, tg]
