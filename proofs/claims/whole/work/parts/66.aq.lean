def Xsh (a : Nat) : Prop := (77 ≤ a ∧ a ≤ 88) ∨ a = 113 ∨ a = 114 ∨ a = 115 ∨ a = 125
theorem Inv_shs {c : Nat × Nat} {D D' : hz_D} (h : Inv c D) (hs : I_shs D') (hD : ∀ a, ¬ Xsh a → D' a = D a) : Inv c D' := by
  obtain ⟨a0, ⟨n, m, a1⟩, ⟨n', m', a2⟩, a3, -, a5, a6⟩ := h
  have e : ∀ a, a < 77 ∨ (89 ≤ a ∧ a < 113) ∨ (116 ≤ a ∧ a < 125) ∨ 126 ≤ a → D' a = D a := fun a ha => hD a (by unfold Xsh; omega)
  exact ⟨a0, ⟨n, m, I_sea_fr a1 (e 110 (by omega)) (fun a ha => e a (by omega))⟩, ⟨n', m', I_img_fr a2 (e 111 (by omega)) (by rw [e 17 (by omega)]) (by rw [e 109 (by omega)]) (fun a ha => e a (by omega))⟩, I_tap_fr a3 (by rw [e 20 (by omega)]) (by rw [e 109 (by omega)]) (e 21 (by omega)) (e 122 (by omega)), hs, I_slt_fr a5 (fun a ha => e a (by omega)), I_wai_fr a6 (by rw [e 17 (by omega)]) (by rw [e 109 (by omega)]) (e 28 (by omega)) (e 126 (by omega))⟩
/-- one sheet is another one -/
theorem I_shs_set {D D' : hz_D} (h : I_shs D) {k : Nat} (hk : k < 4) (so z : Int32) (h113 : D' 113 = mx_up (D 113) k so) (h114 : D' 114 = mx_up (D 114) k z) (h115 : ∀ i, ¬ (24 * k ≤ i ∧ i < 24 * k + 24) → D' 115 i = D 115 i) (ho : ∀ a, 77 ≤ a → a ≤ 88 → ¬ (77 + 3 * k ≤ a ∧ a ≤ 79 + 3 * k) → D' a = D a) (h0 : D' (77 + 3 * k) 0 = so) (hr : sh_rel D' (77 + 3 * k) z (fun i => D' 115 (24 * k + i))) : I_shs D' := by
  intro j hj
  rw [h113, h114]
  by_cases e : j = k
  · subst e
    rw [up_s, up_s]
    exact ⟨h0, hr⟩
  · obtain ⟨a1, a2⟩ := h j hj
    rw [up_n _ _ _ _ e, up_n _ _ _ _ e]
    refine ⟨by rw [ho _ (by omega) (by omega) (by omega)]; exact a1, ?_⟩
    obtain ⟨r1, r2, r3, r4⟩ := a2
    refine ⟨by rw [ho _ (by omega) (by omega) (by omega)]; exact r1, by rw [ho _ (by omega) (by omega) (by omega)]; exact r2, r3, ?_⟩
    intro i hi
    show _ ∧ sh_c _ _ _ (D' 115 (24 * j + i))
    rw [ho (77 + 3 * j) (by omega) (by omega) (by omega), ho (77 + 3 * j + 1) (by omega) (by omega) (by omega), ho (77 + 3 * j + 2) (by omega) (by omega) (by omega), h115 (24 * j + i) (by omega)]
    exact r4 i hi
section ST
variable (R : Nat → Option mx_MC) (c : Nat × Nat) {a : Nat}
theorem cs_start_lp (d : Nat) (h : is_sh a) (l1 l2 : Option Value) : ∀ i j : Nat, j + i = 24 → ∀ D : hz_D, ∃ D', mx_run d 152 21 [some (.ref a), l1, l2, some (.int (nI j))] [] (hp R c D) = some (none, hp R c D') ∧ (∀ k, j ≤ k → k < 24 → D' (a + 1) k = 0 ∧ D' (a + 2) k = FP.fconst0.toInt32) ∧ (∀ k, k < j → D' (a + 1) k = D (a + 1) k ∧ D' (a + 2) k = D (a + 2) k) ∧ (∀ b, b ≠ a + 1 → b ≠ a + 2 → D' b = D b) := by
  intro i
  induction i with
  | zero =>
    intro j hj D
    obtain rfl : j = 24 := by omega
    refine ⟨D, ?_, fun k h1 h2 => by omega, fun _ _ => ⟨rfl, rfl⟩, fun _ _ _ => rfl⟩
    rw [iq_152_21]
    simp (disch := first | assumption | omega | exact kd_sh _ _ _ (by assumption) | exact kd_sea _ _ _ (by assumption) | exact is_bts (by assumption) _ (by omega) | exact kd_bt _ _ _ (by first | assumption | exact is_bts (by assumption) _ (by omega)) | exact kd_109 _ _ _ | exact kd_17 _ _ _ | exact kd_20 _ _ _) only [iq_152_0, iq_152_1, iq_152_2, iq_152_5, iq_152_6, iq_152_7, iq_152_9, iq_152_10, iq_152_13, iq_152_16, iq_152_19, iq_152_20, iq_152_22, iq_152_24, iq_152_27, iq_152_28, iq_152_31, iq_152_32, iq_152_33, iq_152_34, iq_152_35, iq_152_38, iq_152_39, iq_152_40, iq_152_41, iq_152_44, iq_152_47, Option.bind_some, Option.toList, List.cons_append, List.nil_append, ↓reduceIte, nI_1, Int32.reduceLT, Int32.reduceLE, dv_1, dv_2, dv_3, dv_4, dv_6, dv_8, dv_10, dv_20, dv_100, dv_200, dv_500, nz_nlt_24]
  | succ i ih =>
    intro j hj D
    obtain ⟨D', k1, k2, k3, k4⟩ := ih (j + 1) (by omega) (mx_up (mx_up D (a + 1) (mx_up (D (a + 1)) j 0)) (a + 2) (mx_up (D (a + 2)) j FP.fconst0.toInt32))
    refine ⟨D', ?_, ?_, ?_, ?_⟩
    · rw [← k1, iq_152_21]
      have n0 : mx_nar .short 0 = 0 := rfl
      simp (disch := first | assumption | omega | exact kd_sh _ _ _ (by assumption) | exact kd_sea _ _ _ (by assumption) | exact is_bts (by assumption) _ (by omega) | exact kd_bt _ _ _ (by first | assumption | exact is_bts (by assumption) _ (by omega)) | exact kd_109 _ _ _ | exact kd_17 _ _ _ | exact kd_20 _ _ _) only [iq_152_0, iq_152_1, iq_152_2, iq_152_5, iq_152_6, iq_152_7, iq_152_9, iq_152_10, iq_152_13, iq_152_16, iq_152_19, iq_152_20, iq_152_22, iq_152_24, iq_152_27, iq_152_28, iq_152_31, iq_152_32, iq_152_33, iq_152_34, iq_152_35, iq_152_38, iq_152_39, iq_152_40, iq_152_41, iq_152_44, iq_152_47, Option.bind_some, Option.toList, List.cons_append, List.nil_append, ↓reduceIte, nI_1, Int32.reduceLT, Int32.reduceLE, dv_1, dv_2, dv_3, dv_4, dv_6, dv_8, dv_10, dv_20, dv_100, dv_200, dv_500, gf_sh_0, gf_sh_1, gf_sh_2, gf_sh_3, kd_sh, pf_sh_0, pf_sh_1, up_s, up_up, up_n, ne_eq, Nat.reduceEqDiff, not_false_eq_true, nz_lt_24, n0, st_so, st_fl]
    · intro k h1 h2
      by_cases e : k = j
      · subst e
        rw [(k3 k (by omega)).1, (k3 k (by omega)).2, up_n _ _ _ _ (by omega), up_s, up_s, up_s, up_s]
        exact ⟨rfl, rfl⟩
      · exact k2 k (by omega) h2
    · intro k h1
      rw [(k3 k (by omega)).1, (k3 k (by omega)).2, up_n _ _ _ _ (by omega), up_s, up_s, up_n _ _ _ _ (by omega), up_n _ _ _ _ (by omega)]
      exact ⟨rfl, rfl⟩
    · intro b g1 g2
      rw [k4 b g1 g2, up_n _ _ _ _ g2, up_n _ _ _ _ g1]
theorem cs_start (d q : Nat) (D : hz_D) (h : is_sh a) (so : Int32) (hq : q ≤ 24) : ∃ D', mx_run d 152 0 [some (.ref a), some (.int so), some (.int (nI q)), none] [] (hp R c D) = some (none, hp R c D') ∧ D' a = mx_up (mx_up (D a) 0 so) 1 (nI q) ∧ (∀ k, k < 24 → D' (a + 1) k = 0 ∧ D' (a + 2) k = FP.fconst0.toInt32) ∧ (∀ b, b ≠ a → b ≠ a + 1 → b ≠ a + 2 → D' b = D b) := by
  obtain ⟨D', k1, k2, k3, k4⟩ := cs_start_lp R c d h (some (.int so)) (some (.int (nI q))) 24 0 (by omega) (mx_up D a (mx_up (mx_up (D a) 0 so) 1 (nI q)))
  refine ⟨D', ?_, by rw [k4 a (by omega) (by omega), up_s], fun k hk => k2 k (by omega) hk, fun b g0 g1 g2 => by rw [k4 b g1 g2, up_n _ _ _ _ g0]⟩
  have e1 : (if nI q < 24 then nI q else 24) = nI q := by
    by_cases z : q < 24
    · rw [if_pos (by rw [nz_lt_24 z]; trivial)]
    · rw [if_neg (by rw [nz_nlt_24 (by omega) (by omega)]; exact id), show q = 24 by omega]
      rfl
  have e2 : (if 0 < nI q then nI q else 0) = nI q := by
    by_cases z : 0 < q
    · rw [if_pos (by rw [nz_gt_0 z (by omega)]; trivial)]
    · rw [if_neg (by rw [nz_ngt_0 (by omega)]; exact id), show q = 0 by omega]
      rfl
  simp (disch := first | assumption | omega | exact kd_sh _ _ _ (by assumption) | exact kd_sea _ _ _ (by assumption) | exact is_bts (by assumption) _ (by omega) | exact kd_bt _ _ _ (by first | assumption | exact is_bts (by assumption) _ (by omega)) | exact kd_109 _ _ _ | exact kd_17 _ _ _ | exact kd_20 _ _ _) only [iq_152_0, iq_152_1, iq_152_2, iq_152_5, iq_152_6, iq_152_7, iq_152_9, iq_152_10, iq_152_13, iq_152_16, iq_152_19, iq_152_20, iq_152_22, iq_152_24, iq_152_27, iq_152_28, iq_152_31, iq_152_32, iq_152_33, iq_152_34, iq_152_35, iq_152_38, iq_152_39, iq_152_40, iq_152_41, iq_152_44, iq_152_47, Option.bind_some, Option.toList, List.cons_append, List.nil_append, ↓reduceIte, nI_1, Int32.reduceLT, Int32.reduceLE, dv_1, dv_2, dv_3, dv_4, dv_6, dv_8, dv_10, dv_20, dv_100, dv_200, dv_500, gf_sh_0, gf_sh_1, gf_sh_2, gf_sh_3, kd_sh, pf_sh_0, pf_sh_1, up_s, up_up, up_n, ne_eq, Nat.reduceEqDiff, not_false_eq_true, e1, e2]
  exact k1
theorem rs_sheet_lp (d k : Nat) (hk : k < 4) (l2 l3 : Option Value) (x : Int32) : ∀ i j : Nat, j + i = 24 → ∀ D : hz_D, D 114 k = x → ∃ D', mx_run d 247 69 [some (.ref 109), some (.int (nI k)), l2, l3, some (.int (nI j))] [] (hp R c D) = some (some (.int x), hp R c D') ∧ (∀ i, j ≤ i → i < 24 → D' 115 (24 * k + i) = 0) ∧ (∀ i, ¬ (24 * k + j ≤ i ∧ i < 24 * k + 24) → D' 115 i = D 115 i) ∧ (∀ b, b ≠ 115 → D' b = D b) := by
  have ix : ∀ j, (24 : Int32) * nI k + nI j = nI (24 * k + j) := fun j => by
    rw [show (24 : Int32) = nI 24 from rfl, rc_mul, nI_add]
  intro i
  induction i with
  | zero =>
    intro j hj D hx
    obtain rfl : j = 24 := by omega
    refine ⟨D, ?_, fun i h1 h2 => by omega, fun _ _ => rfl, fun _ _ => rfl⟩
    rw [iq_247_69]
    simp (disch := first | assumption | exact kd_109 _ _ _ | omega) only [iq_247_0, iq_247_1, iq_247_4, iq_247_7, iq_247_8, iq_247_9, iq_247_12, iq_247_13, iq_247_16, iq_247_19, iq_247_20, iq_247_23, iq_247_24, iq_247_26, iq_247_29, iq_247_31, iq_247_32, iq_247_33, iq_247_36, iq_247_37, iq_247_40, iq_247_43, iq_247_44, iq_247_45, iq_247_48, iq_247_49, iq_247_50, iq_247_51, iq_247_52, iq_247_55, iq_247_56, iq_247_57, iq_247_60, iq_247_61, iq_247_64, iq_247_65, iq_247_66, iq_247_67, iq_247_71, iq_247_73, iq_247_76, iq_247_77, iq_247_80, iq_247_82, iq_247_83, iq_247_84, iq_247_86, iq_247_87, iq_247_88, iq_247_89, iq_247_92, iq_247_95, iq_247_96, iq_247_99, iq_247_100, iq_247_101, Option.bind_some, Option.toList, List.cons_append, List.nil_append, ↓reduceIte, nI_1, Int32.reduceLT, Int32.reduceLE, dv_1, dv_2, dv_3, dv_4, dv_6, dv_8, dv_10, dv_20, dv_100, dv_200, dv_500, gf_109_0, gf_109_1, gf_109_2, gf_109_3, gf_109_4, gf_109_5, gf_109_6, gf_109_7, gf_109_8, gf_109_9, gf_109_10, gf_109_11, gf_109_12, gf_109_13, gf_109_14, gf_109_15, gf_109_16, gf_109_17, gf_109_18, gf_109_19, gf_109_20, gf_109_21, gf_109_22, gf_109_23, gf_109_24, gf_109_25, gf_109_26, gf_109_27, gf_109_28, gf_109_29, gf_109_30, kd_109, nz_nlt_24, ld_114, hx]
  | succ i ih =>
    intro j hj D hx
    obtain ⟨D', k1, k2, k3, k4⟩ := ih (j + 1) (by omega) (mx_up D 115 (mx_up (D 115) (24 * k + j) 0)) (by rw [up_n _ _ _ _ (by omega)]; exact hx)
    refine ⟨D', ?_, ?_, ?_, ?_⟩
    · rw [← k1, iq_247_69]
      simp (disch := first | assumption | exact kd_109 _ _ _ | omega) only [iq_247_0, iq_247_1, iq_247_4, iq_247_7, iq_247_8, iq_247_9, iq_247_12, iq_247_13, iq_247_16, iq_247_19, iq_247_20, iq_247_23, iq_247_24, iq_247_26, iq_247_29, iq_247_31, iq_247_32, iq_247_33, iq_247_36, iq_247_37, iq_247_40, iq_247_43, iq_247_44, iq_247_45, iq_247_48, iq_247_49, iq_247_50, iq_247_51, iq_247_52, iq_247_55, iq_247_56, iq_247_57, iq_247_60, iq_247_61, iq_247_64, iq_247_65, iq_247_66, iq_247_67, iq_247_71, iq_247_73, iq_247_76, iq_247_77, iq_247_80, iq_247_82, iq_247_83, iq_247_84, iq_247_86, iq_247_87, iq_247_88, iq_247_89, iq_247_92, iq_247_95, iq_247_96, iq_247_99, iq_247_100, iq_247_101, Option.bind_some, Option.toList, List.cons_append, List.nil_append, ↓reduceIte, nI_1, Int32.reduceLT, Int32.reduceLE, dv_1, dv_2, dv_3, dv_4, dv_6, dv_8, dv_10, dv_20, dv_100, dv_200, dv_500, gf_109_0, gf_109_1, gf_109_2, gf_109_3, gf_109_4, gf_109_5, gf_109_6, gf_109_7, gf_109_8, gf_109_9, gf_109_10, gf_109_11, gf_109_12, gf_109_13, gf_109_14, gf_109_15, gf_109_16, gf_109_17, gf_109_18, gf_109_19, gf_109_20, gf_109_21, gf_109_22, gf_109_23, gf_109_24, gf_109_25, gf_109_26, gf_109_27, gf_109_28, gf_109_29, gf_109_30, kd_109, nz_lt_24, ix, st_115]
    · intro i h1 h2
      by_cases e : i = j
      · subst e
        rw [k3 _ (by omega), up_s, up_s]
      · exact k2 i (by omega) h2
    · intro i h1
      rw [k3 i (by omega), up_s, up_n _ _ _ _ (by omega)]
    · intro b hb
      rw [k4 b hb, up_n _ _ _ _ hb]
end ST
theorem fc0 : FP.fconst0 = FP.i2f 0 := by decide
variable {d L : Nat} {xs : Nat → Int32} {c : Nat × Nat} {D : hz_D}
theorem i3_m1 {x : Int32} (h : ¬ x < -1 ∧ ¬ 1 < x) : x = -1 ∨ x = 0 ∨ x = 1 := by
  obtain ⟨h1, h2⟩ := h
  rw [Int32.lt_iff_toInt_lt, show (-1 : Int32).toInt = -1 by decide] at h1
  rw [Int32.lt_iff_toInt_lt, show (1 : Int32).toInt = 1 by decide] at h2
  have : x.toInt = -1 ∨ x.toInt = 0 ∨ x.toInt = 1 := by omega
  rcases this with e | e | e
  · exact Or.inl (Int32.toInt_inj.mp e)
  · exact Or.inr (Or.inl (Int32.toInt_inj.mp e))
  · exact Or.inr (Or.inr (Int32.toInt_inj.mp e))
theorem ap_sheet (hI : Inv c D) (x s n : Int32) : ap d L xs c D 150 [some (.ref 17), some (.int x), some (.int s), some (.int n)] 247 [some (.ref 109), some (.int x), some (.int s), some (.int n), none] := by
  obtain ⟨h0, -, -, -, hS, -, -⟩ := id hI
  by_cases hx : ¬ x < 0 ∧ ¬ 3 < x
  · obtain ⟨k, hk, rfl⟩ := i3_rg 3 (by omega) hx
    have px := eq_true hx
    have ish := is_sh1 k (by omega)
    by_cases hs : ¬ s < -1 ∧ ¬ 1 < s
    · have ps := eq_true hs
      have s1 := eq_false hs.1
      have s2 := eq_false hs.2
      rcases i3_m1 hs with rfl | hs01
      · obtain ⟨Da, hDa⟩ : ∃ Da, Da = mx_up D (77 + 3 * k) (mx_up (mx_up (D (77 + 3 * k)) 0 (-1)) 1 0) := ⟨_, rfl⟩
        have lo := cs_lose (sx_rom L xs) c D (d + 99) ish
        rw [← hDa] at lo
        have ea : ∀ a, a ≠ 77 + 3 * k → Da a = D a := fun a ha => by rw [hDa, up_n _ _ _ _ ha]
        obtain ⟨D2, b1, b2, b3, b4⟩ := rs_sheet_lp (sx_rom L xs) c (d + 100) k (by omega) (some (.int (-1))) (some (.int n)) 0 24 0 (by omega) (mx_up (mx_up Da 113 (mx_up (D 113) k (-1))) 114 (mx_up (D 114) k 0)) (by rw [up_s, up_s])
        have e2 : ∀ a, a ≠ 115 → a ≠ 114 → a ≠ 113 → D2 a = Da a := fun a q1 q2 q3 => by rw [b4 a q1, up_n _ _ _ _ q2, up_n _ _ _ _ q3]
        refine ap_c 0 Da D2 ?_ ?_ (Inv_shs hI (I_shs_set hS (k := k) (by omega) (-1) 0 ?_ ?_ ?_ ?_ ?_ ?_) ?_)
        · simp (disch := first | assumption | omega | exact kd_sh _ _ _ (by assumption) | exact kd_sea _ _ _ (by assumption) | exact is_bts (by assumption) _ (by omega) | exact kd_bt _ _ _ (by first | assumption | exact is_bts (by assumption) _ (by omega)) | exact kd_109 _ _ _ | exact kd_17 _ _ _ | exact kd_20 _ _ _) only [iq_150_0, iq_150_1, iq_150_4, iq_150_7, iq_150_8, iq_150_9, iq_150_12, iq_150_13, iq_150_14, iq_150_17, iq_150_19, iq_150_20, iq_150_21, iq_150_22, iq_150_25, iq_150_26, iq_150_29, iq_150_30, iq_150_31, iq_150_34, iq_150_35, iq_150_36, iq_150_37, iq_150_39, iq_150_42, iq_150_44, iq_150_45, iq_150_46, iq_150_49, iq_150_52, iq_150_53, iq_150_54, iq_150_57, iq_150_58, iq_150_59, iq_150_60, iq_150_61, iq_150_64, iq_150_65, Option.bind_some, Option.toList, List.cons_append, List.nil_append, ↓reduceIte, nI_1, Int32.reduceLT, Int32.reduceLE, dv_1, dv_2, dv_3, dv_4, dv_6, dv_8, dv_10, dv_20, dv_100, dv_200, dv_500, Bool.false_eq_true, gf_17_0, gf_17_1, gf_17_2, gf_17_3, gf_17_4, gf_17_5, gf_17_6, gf_17_7, gf_17_8, gf_17_9, gf_17_10, gf_17_11, gf_17_12, gf_17_13, kd_17, pf_17_4, pf_17_13, ci_isSheet, px, s1, s2, aa_23, lo, show ((-1 : Int32) = -1) = True from eq_self _]
        · have q113 : Da 113 = D 113 := ea 113 (by omega)
          have q114 : Da 114 = D 114 := ea 114 (by omega)
          simp (disch := first | assumption | omega | exact kd_sh _ _ _ (by assumption) | exact kd_sea _ _ _ (by assumption) | exact is_bts (by assumption) _ (by omega) | exact kd_bt _ _ _ (by first | assumption | exact is_bts (by assumption) _ (by omega)) | exact kd_109 _ _ _ | exact kd_17 _ _ _ | exact kd_20 _ _ _) only [iq_247_0, iq_247_1, iq_247_4, iq_247_7, iq_247_8, iq_247_9, iq_247_12, iq_247_13, iq_247_16, iq_247_19, iq_247_20, iq_247_23, iq_247_24, iq_247_26, iq_247_29, iq_247_31, iq_247_32, iq_247_33, iq_247_36, iq_247_37, iq_247_40, iq_247_43, iq_247_44, iq_247_45, iq_247_48, iq_247_49, iq_247_50, iq_247_51, iq_247_52, iq_247_55, iq_247_56, iq_247_57, iq_247_60, iq_247_61, iq_247_64, iq_247_65, iq_247_66, iq_247_67, iq_247_71, iq_247_73, iq_247_76, iq_247_77, iq_247_80, iq_247_82, iq_247_83, iq_247_84, iq_247_86, iq_247_87, iq_247_88, iq_247_89, iq_247_92, iq_247_95, iq_247_96, iq_247_99, iq_247_100, iq_247_101, Option.bind_some, Option.toList, List.cons_append, List.nil_append, ↓reduceIte, nI_1, Int32.reduceLT, Int32.reduceLE, dv_1, dv_2, dv_3, dv_4, dv_6, dv_8, dv_10, dv_20, dv_100, dv_200, dv_500, Bool.false_eq_true, rc_ee, rc_ge_0, rc_le_0, rc_ge_1, rc_le_1, rc_ge_2, rc_le_2, rc_ge_3, rc_le_3, rc_ge_4, rc_le_4, rc_ge_5, rc_le_5, rc_ge_9, rc_le_9, rc_ge_30, rc_le_30, rc_ge_40, rc_le_40, rc_ge_48, rc_le_48, rc_ge_50, rc_le_50, rc_ge_57, rc_le_57, rc_ge_60, rc_le_60, rc_ge_97, rc_le_97, rc_ge_100, rc_le_100, rc_ge_122, rc_le_122, rc_ge_9999, rc_le_9999, rc_ge_99999, rc_le_99999, rc_ge_m99999, rc_le_m99999, rc_ge_m1, rc_le_m1, gf_109_0, gf_109_1, gf_109_2, gf_109_3, gf_109_4, gf_109_5, gf_109_6, gf_109_7, gf_109_8, gf_109_9, gf_109_10, gf_109_11, gf_109_12, gf_109_13, gf_109_14, gf_109_15, gf_109_16, gf_109_17, gf_109_18, gf_109_19, gf_109_20, gf_109_21, gf_109_22, gf_109_23, gf_109_24, gf_109_25, gf_109_26, gf_109_27, gf_109_28, gf_109_29, gf_109_30, kd_109, up_s, up_up, up_n, ne_eq, Nat.reduceEqDiff, not_false_eq_true, rc_isSheet, px, ps, st_113, st_114, q113, q114]
          exact b1
        · rw [b4 _ (by omega), up_n _ _ _ _ (by omega), up_s]
        · rw [b4 _ (by omega), up_s]
        · intro i hi
          rw [b3 i (by omega), up_n _ _ _ _ (by omega), up_n _ _ _ _ (by omega), ea _ (by omega)]
        · intro a g1 g2 g3
          rw [e2 a (by omega) (by omega) (by omega), ea a (by omega)]
        · rw [e2 _ (by omega) (by omega) (by omega), hDa, up_s]
          rfl
        · have t0 : D2 (77 + 3 * k) = mx_up (mx_up (D (77 + 3 * k)) 0 (-1)) 1 0 := by rw [e2 _ (by omega) (by omega) (by omega), hDa, up_s]
          refine ⟨Or.inl (by rw [t0]; rfl), by rw [t0]; rfl, ⟨0, by omega, rfl⟩, ?_⟩
          intro i hi
          obtain ⟨-, -, -, r4⟩ := (hS k (by omega)).2
          rw [e2 (77 + 3 * k + 1) (by omega) (by omega) (by omega), ea _ (by omega), t0]
          refine ⟨(r4 i hi).1, ?_, ?_⟩
          · intro z
            exact absurd (show (-1 : Int32) = 0 from z) (by decide)
          · intro z
            exact absurd (show (-1 : Int32) = 1 from z) (by decide)
        · intro a ha
          unfold Xsh at ha
          rw [e2 a (by omega) (by omega) (by omega), ea a (by omega)]
      · have sne : (s = -1) = False := by rcases hs01 with rfl | rfl <;> decide
        have sn0 : (s < 0) = False := by rcases hs01 with rfl | rfl <;> decide
        by_cases h24 : 24 < n
        · refine ap_c (-1000000001) D D ?_ ?_ hI
          · simp (disch := first | assumption | omega | exact kd_sh _ _ _ (by assumption) | exact kd_sea _ _ _ (by assumption) | exact is_bts (by assumption) _ (by omega) | exact kd_bt _ _ _ (by first | assumption | exact is_bts (by assumption) _ (by omega)) | exact kd_109 _ _ _ | exact kd_17 _ _ _ | exact kd_20 _ _ _) only [iq_150_0, iq_150_1, iq_150_4, iq_150_7, iq_150_8, iq_150_9, iq_150_12, iq_150_13, iq_150_14, iq_150_17, iq_150_19, iq_150_20, iq_150_21, iq_150_22, iq_150_25, iq_150_26, iq_150_29, iq_150_30, iq_150_31, iq_150_34, iq_150_35, iq_150_36, iq_150_37, iq_150_39, iq_150_42, iq_150_44, iq_150_45, iq_150_46, iq_150_49, iq_150_52, iq_150_53, iq_150_54, iq_150_57, iq_150_58, iq_150_59, iq_150_60, iq_150_61, iq_150_64, iq_150_65, Option.bind_some, Option.toList, List.cons_append, List.nil_append, ↓reduceIte, nI_1, Int32.reduceLT, Int32.reduceLE, dv_1, dv_2, dv_3, dv_4, dv_6, dv_8, dv_10, dv_20, dv_100, dv_200, dv_500, Bool.false_eq_true, ci_isSheet, px, s1, s2, sne, h24]
          · simp (disch := first | assumption | omega | exact kd_sh _ _ _ (by assumption) | exact kd_sea _ _ _ (by assumption) | exact is_bts (by assumption) _ (by omega) | exact kd_bt _ _ _ (by first | assumption | exact is_bts (by assumption) _ (by omega)) | exact kd_109 _ _ _ | exact kd_17 _ _ _ | exact kd_20 _ _ _) only [iq_247_0, iq_247_1, iq_247_4, iq_247_7, iq_247_8, iq_247_9, iq_247_12, iq_247_13, iq_247_16, iq_247_19, iq_247_20, iq_247_23, iq_247_24, iq_247_26, iq_247_29, iq_247_31, iq_247_32, iq_247_33, iq_247_36, iq_247_37, iq_247_40, iq_247_43, iq_247_44, iq_247_45, iq_247_48, iq_247_49, iq_247_50, iq_247_51, iq_247_52, iq_247_55, iq_247_56, iq_247_57, iq_247_60, iq_247_61, iq_247_64, iq_247_65, iq_247_66, iq_247_67, iq_247_71, iq_247_73, iq_247_76, iq_247_77, iq_247_80, iq_247_82, iq_247_83, iq_247_84, iq_247_86, iq_247_87, iq_247_88, iq_247_89, iq_247_92, iq_247_95, iq_247_96, iq_247_99, iq_247_100, iq_247_101, Option.bind_some, Option.toList, List.cons_append, List.nil_append, ↓reduceIte, nI_1, Int32.reduceLT, Int32.reduceLE, dv_1, dv_2, dv_3, dv_4, dv_6, dv_8, dv_10, dv_20, dv_100, dv_200, dv_500, Bool.false_eq_true, rc_ee, rc_ge_0, rc_le_0, rc_ge_1, rc_le_1, rc_ge_2, rc_le_2, rc_ge_3, rc_le_3, rc_ge_4, rc_le_4, rc_ge_5, rc_le_5, rc_ge_9, rc_le_9, rc_ge_30, rc_le_30, rc_ge_40, rc_le_40, rc_ge_48, rc_le_48, rc_ge_50, rc_le_50, rc_ge_57, rc_le_57, rc_ge_60, rc_le_60, rc_ge_97, rc_le_97, rc_ge_100, rc_le_100, rc_ge_122, rc_le_122, rc_ge_9999, rc_le_9999, rc_ge_99999, rc_le_99999, rc_ge_m99999, rc_le_m99999, rc_ge_m1, rc_le_m1, rc_isSheet, px, ps, sn0, h24]
        · by_cases hn : n < 0
          · refine ap_c (-1000000014) D D ?_ ?_ hI
            · simp (disch := first | assumption | omega | exact kd_sh _ _ _ (by assumption) | exact kd_sea _ _ _ (by assumption) | exact is_bts (by assumption) _ (by omega) | exact kd_bt _ _ _ (by first | assumption | exact is_bts (by assumption) _ (by omega)) | exact kd_109 _ _ _ | exact kd_17 _ _ _ | exact kd_20 _ _ _) only [iq_150_0, iq_150_1, iq_150_4, iq_150_7, iq_150_8, iq_150_9, iq_150_12, iq_150_13, iq_150_14, iq_150_17, iq_150_19, iq_150_20, iq_150_21, iq_150_22, iq_150_25, iq_150_26, iq_150_29, iq_150_30, iq_150_31, iq_150_34, iq_150_35, iq_150_36, iq_150_37, iq_150_39, iq_150_42, iq_150_44, iq_150_45, iq_150_46, iq_150_49, iq_150_52, iq_150_53, iq_150_54, iq_150_57, iq_150_58, iq_150_59, iq_150_60, iq_150_61, iq_150_64, iq_150_65, Option.bind_some, Option.toList, List.cons_append, List.nil_append, ↓reduceIte, nI_1, Int32.reduceLT, Int32.reduceLE, dv_1, dv_2, dv_3, dv_4, dv_6, dv_8, dv_10, dv_20, dv_100, dv_200, dv_500, Bool.false_eq_true, ci_isSheet, px, s1, s2, sne, h24, hn]
            · simp (disch := first | assumption | omega | exact kd_sh _ _ _ (by assumption) | exact kd_sea _ _ _ (by assumption) | exact is_bts (by assumption) _ (by omega) | exact kd_bt _ _ _ (by first | assumption | exact is_bts (by assumption) _ (by omega)) | exact kd_109 _ _ _ | exact kd_17 _ _ _ | exact kd_20 _ _ _) only [iq_247_0, iq_247_1, iq_247_4, iq_247_7, iq_247_8, iq_247_9, iq_247_12, iq_247_13, iq_247_16, iq_247_19, iq_247_20, iq_247_23, iq_247_24, iq_247_26, iq_247_29, iq_247_31, iq_247_32, iq_247_33, iq_247_36, iq_247_37, iq_247_40, iq_247_43, iq_247_44, iq_247_45, iq_247_48, iq_247_49, iq_247_50, iq_247_51, iq_247_52, iq_247_55, iq_247_56, iq_247_57, iq_247_60, iq_247_61, iq_247_64, iq_247_65, iq_247_66, iq_247_67, iq_247_71, iq_247_73, iq_247_76, iq_247_77, iq_247_80, iq_247_82, iq_247_83, iq_247_84, iq_247_86, iq_247_87, iq_247_88, iq_247_89, iq_247_92, iq_247_95, iq_247_96, iq_247_99, iq_247_100, iq_247_101, Option.bind_some, Option.toList, List.cons_append, List.nil_append, ↓reduceIte, nI_1, Int32.reduceLT, Int32.reduceLE, dv_1, dv_2, dv_3, dv_4, dv_6, dv_8, dv_10, dv_20, dv_100, dv_200, dv_500, Bool.false_eq_true, rc_ee, rc_ge_0, rc_le_0, rc_ge_1, rc_le_1, rc_ge_2, rc_le_2, rc_ge_3, rc_le_3, rc_ge_4, rc_le_4, rc_ge_5, rc_le_5, rc_ge_9, rc_le_9, rc_ge_30, rc_le_30, rc_ge_40, rc_le_40, rc_ge_48, rc_le_48, rc_ge_50, rc_le_50, rc_ge_57, rc_le_57, rc_ge_60, rc_le_60, rc_ge_97, rc_le_97, rc_ge_100, rc_le_100, rc_ge_122, rc_le_122, rc_ge_9999, rc_le_9999, rc_ge_99999, rc_le_99999, rc_ge_m99999, rc_le_m99999, rc_ge_m1, rc_le_m1, rc_isSheet, px, ps, sn0, h24, hn]
          · obtain ⟨q, hq, rfl⟩ := i3_rg (k := n) 24 (by omega) ⟨hn, h24⟩
            obtain ⟨Da, a1, a2, a3, a4⟩ := cs_start (sx_rom L xs) c (d + 99) q D ish s hq
            obtain ⟨D2, b1, b2, b3, b4⟩ := rs_sheet_lp (sx_rom L xs) c (d + 100) k (by omega) (some (.int s)) (some (.int (nI q))) (nI q) 24 0 (by omega) (mx_up (mx_up Da 113 (mx_up (D 113) k s)) 114 (mx_up (D 114) k (nI q))) (by rw [up_s, up_s])
            have e2 : ∀ a, a ≠ 115 → a ≠ 114 → a ≠ 113 → D2 a = Da a := fun a q1 q2 q3 => by rw [b4 a q1, up_n _ _ _ _ q2, up_n _ _ _ _ q3]
            refine ap_c (nI q) Da D2 ?_ ?_ (Inv_shs hI (I_shs_set hS (k := k) (by omega) s (nI q) ?_ ?_ ?_ ?_ ?_ ?_) ?_)
            · simp (disch := first | assumption | omega | exact kd_sh _ _ _ (by assumption) | exact kd_sea _ _ _ (by assumption) | exact is_bts (by assumption) _ (by omega) | exact kd_bt _ _ _ (by first | assumption | exact is_bts (by assumption) _ (by omega)) | exact kd_109 _ _ _ | exact kd_17 _ _ _ | exact kd_20 _ _ _) only [iq_150_0, iq_150_1, iq_150_4, iq_150_7, iq_150_8, iq_150_9, iq_150_12, iq_150_13, iq_150_14, iq_150_17, iq_150_19, iq_150_20, iq_150_21, iq_150_22, iq_150_25, iq_150_26, iq_150_29, iq_150_30, iq_150_31, iq_150_34, iq_150_35, iq_150_36, iq_150_37, iq_150_39, iq_150_42, iq_150_44, iq_150_45, iq_150_46, iq_150_49, iq_150_52, iq_150_53, iq_150_54, iq_150_57, iq_150_58, iq_150_59, iq_150_60, iq_150_61, iq_150_64, iq_150_65, Option.bind_some, Option.toList, List.cons_append, List.nil_append, ↓reduceIte, nI_1, Int32.reduceLT, Int32.reduceLE, dv_1, dv_2, dv_3, dv_4, dv_6, dv_8, dv_10, dv_20, dv_100, dv_200, dv_500, Bool.false_eq_true, gf_17_0, gf_17_1, gf_17_2, gf_17_3, gf_17_4, gf_17_5, gf_17_6, gf_17_7, gf_17_8, gf_17_9, gf_17_10, gf_17_11, gf_17_12, gf_17_13, kd_17, pf_17_4, pf_17_13, ci_isSheet, px, s1, s2, sne, h24, hn, aa_23, a1]
            · have q113 : Da 113 = D 113 := a4 113 (by omega) (by omega) (by omega)
              have q114 : Da 114 = D 114 := a4 114 (by omega) (by omega) (by omega)
              simp (disch := first | assumption | omega | exact kd_sh _ _ _ (by assumption) | exact kd_sea _ _ _ (by assumption) | exact is_bts (by assumption) _ (by omega) | exact kd_bt _ _ _ (by first | assumption | exact is_bts (by assumption) _ (by omega)) | exact kd_109 _ _ _ | exact kd_17 _ _ _ | exact kd_20 _ _ _) only [iq_247_0, iq_247_1, iq_247_4, iq_247_7, iq_247_8, iq_247_9, iq_247_12, iq_247_13, iq_247_16, iq_247_19, iq_247_20, iq_247_23, iq_247_24, iq_247_26, iq_247_29, iq_247_31, iq_247_32, iq_247_33, iq_247_36, iq_247_37, iq_247_40, iq_247_43, iq_247_44, iq_247_45, iq_247_48, iq_247_49, iq_247_50, iq_247_51, iq_247_52, iq_247_55, iq_247_56, iq_247_57, iq_247_60, iq_247_61, iq_247_64, iq_247_65, iq_247_66, iq_247_67, iq_247_71, iq_247_73, iq_247_76, iq_247_77, iq_247_80, iq_247_82, iq_247_83, iq_247_84, iq_247_86, iq_247_87, iq_247_88, iq_247_89, iq_247_92, iq_247_95, iq_247_96, iq_247_99, iq_247_100, iq_247_101, Option.bind_some, Option.toList, List.cons_append, List.nil_append, ↓reduceIte, nI_1, Int32.reduceLT, Int32.reduceLE, dv_1, dv_2, dv_3, dv_4, dv_6, dv_8, dv_10, dv_20, dv_100, dv_200, dv_500, Bool.false_eq_true, rc_ee, rc_ge_0, rc_le_0, rc_ge_1, rc_le_1, rc_ge_2, rc_le_2, rc_ge_3, rc_le_3, rc_ge_4, rc_le_4, rc_ge_5, rc_le_5, rc_ge_9, rc_le_9, rc_ge_30, rc_le_30, rc_ge_40, rc_le_40, rc_ge_48, rc_le_48, rc_ge_50, rc_le_50, rc_ge_57, rc_le_57, rc_ge_60, rc_le_60, rc_ge_97, rc_le_97, rc_ge_100, rc_le_100, rc_ge_122, rc_le_122, rc_ge_9999, rc_le_9999, rc_ge_99999, rc_le_99999, rc_ge_m99999, rc_le_m99999, rc_ge_m1, rc_le_m1, gf_109_0, gf_109_1, gf_109_2, gf_109_3, gf_109_4, gf_109_5, gf_109_6, gf_109_7, gf_109_8, gf_109_9, gf_109_10, gf_109_11, gf_109_12, gf_109_13, gf_109_14, gf_109_15, gf_109_16, gf_109_17, gf_109_18, gf_109_19, gf_109_20, gf_109_21, gf_109_22, gf_109_23, gf_109_24, gf_109_25, gf_109_26, gf_109_27, gf_109_28, gf_109_29, gf_109_30, kd_109, up_s, up_up, up_n, ne_eq, Nat.reduceEqDiff, not_false_eq_true, rc_isSheet, px, ps, sn0, h24, hn, st_113, st_114, q113, q114]
              exact b1
            · rw [b4 _ (by omega), up_n _ _ _ _ (by omega), up_s]
            · rw [b4 _ (by omega), up_s]
            · intro i hi
              rw [b3 i (by omega), up_n _ _ _ _ (by omega), up_n _ _ _ _ (by omega), a4 _ (by omega) (by omega) (by omega)]
            · intro a g1 g2 g3
              rw [e2 a (by omega) (by omega) (by omega), a4 a (by omega) (by omega) (by omega)]
            · rw [e2 _ (by omega) (by omega) (by omega), a2]
              rfl
            · have t0 : D2 (77 + 3 * k) = mx_up (mx_up (D (77 + 3 * k)) 0 s) 1 (nI q) := by rw [e2 _ (by omega) (by omega) (by omega), a2]
              refine ⟨Or.inr (by rw [t0]; exact hs01), by rw [t0]; rfl, ⟨q, hq, rfl⟩, ?_⟩
              intro i hi
              rw [e2 (77 + 3 * k + 1) (by omega) (by omega) (by omega), e2 (77 + 3 * k + 2) (by omega) (by omega) (by omega), (a3 i hi).1, (a3 i hi).2]
              show _ ∧ sh_c _ _ _ (D2 115 (24 * k + i))
              rw [b2 i (by omega) hi]
              refine ⟨rfl, fun _ => ⟨rfl, by decide⟩, fun _ => Or.inr ⟨by decide, by decide, by decide, ?_⟩⟩
              rw [fc0]
            · intro a ha
              unfold Xsh at ha
              rw [e2 a (by omega) (by omega) (by omega), a4 a (by omega) (by omega) (by omega)]
    · have ps := eq_false hs
      refine ap_c (-1000000001) D D ?_ ?_ hI
      · by_cases s1 : s < -1
        · simp (disch := first | assumption | omega | exact kd_sh _ _ _ (by assumption) | exact kd_sea _ _ _ (by assumption) | exact is_bts (by assumption) _ (by omega) | exact kd_bt _ _ _ (by first | assumption | exact is_bts (by assumption) _ (by omega)) | exact kd_109 _ _ _ | exact kd_17 _ _ _ | exact kd_20 _ _ _) only [iq_150_0, iq_150_1, iq_150_4, iq_150_7, iq_150_8, iq_150_9, iq_150_12, iq_150_13, iq_150_14, iq_150_17, iq_150_19, iq_150_20, iq_150_21, iq_150_22, iq_150_25, iq_150_26, iq_150_29, iq_150_30, iq_150_31, iq_150_34, iq_150_35, iq_150_36, iq_150_37, iq_150_39, iq_150_42, iq_150_44, iq_150_45, iq_150_46, iq_150_49, iq_150_52, iq_150_53, iq_150_54, iq_150_57, iq_150_58, iq_150_59, iq_150_60, iq_150_61, iq_150_64, iq_150_65, Option.bind_some, Option.toList, List.cons_append, List.nil_append, ↓reduceIte, nI_1, Int32.reduceLT, Int32.reduceLE, dv_1, dv_2, dv_3, dv_4, dv_6, dv_8, dv_10, dv_20, dv_100, dv_200, dv_500, Bool.false_eq_true, ci_isSheet, px, s1]
        · have s2 : 1 < s := by
            by_cases z : 1 < s
            · exact z
            · exact absurd ⟨s1, z⟩ hs
          simp (disch := first | assumption | omega | exact kd_sh _ _ _ (by assumption) | exact kd_sea _ _ _ (by assumption) | exact is_bts (by assumption) _ (by omega) | exact kd_bt _ _ _ (by first | assumption | exact is_bts (by assumption) _ (by omega)) | exact kd_109 _ _ _ | exact kd_17 _ _ _ | exact kd_20 _ _ _) only [iq_150_0, iq_150_1, iq_150_4, iq_150_7, iq_150_8, iq_150_9, iq_150_12, iq_150_13, iq_150_14, iq_150_17, iq_150_19, iq_150_20, iq_150_21, iq_150_22, iq_150_25, iq_150_26, iq_150_29, iq_150_30, iq_150_31, iq_150_34, iq_150_35, iq_150_36, iq_150_37, iq_150_39, iq_150_42, iq_150_44, iq_150_45, iq_150_46, iq_150_49, iq_150_52, iq_150_53, iq_150_54, iq_150_57, iq_150_58, iq_150_59, iq_150_60, iq_150_61, iq_150_64, iq_150_65, Option.bind_some, Option.toList, List.cons_append, List.nil_append, ↓reduceIte, nI_1, Int32.reduceLT, Int32.reduceLE, dv_1, dv_2, dv_3, dv_4, dv_6, dv_8, dv_10, dv_20, dv_100, dv_200, dv_500, Bool.false_eq_true, ci_isSheet, px, s1, s2]
      · simp (disch := first | assumption | omega | exact kd_sh _ _ _ (by assumption) | exact kd_sea _ _ _ (by assumption) | exact is_bts (by assumption) _ (by omega) | exact kd_bt _ _ _ (by first | assumption | exact is_bts (by assumption) _ (by omega)) | exact kd_109 _ _ _ | exact kd_17 _ _ _ | exact kd_20 _ _ _) only [iq_247_0, iq_247_1, iq_247_4, iq_247_7, iq_247_8, iq_247_9, iq_247_12, iq_247_13, iq_247_16, iq_247_19, iq_247_20, iq_247_23, iq_247_24, iq_247_26, iq_247_29, iq_247_31, iq_247_32, iq_247_33, iq_247_36, iq_247_37, iq_247_40, iq_247_43, iq_247_44, iq_247_45, iq_247_48, iq_247_49, iq_247_50, iq_247_51, iq_247_52, iq_247_55, iq_247_56, iq_247_57, iq_247_60, iq_247_61, iq_247_64, iq_247_65, iq_247_66, iq_247_67, iq_247_71, iq_247_73, iq_247_76, iq_247_77, iq_247_80, iq_247_82, iq_247_83, iq_247_84, iq_247_86, iq_247_87, iq_247_88, iq_247_89, iq_247_92, iq_247_95, iq_247_96, iq_247_99, iq_247_100, iq_247_101, Option.bind_some, Option.toList, List.cons_append, List.nil_append, ↓reduceIte, nI_1, Int32.reduceLT, Int32.reduceLE, dv_1, dv_2, dv_3, dv_4, dv_6, dv_8, dv_10, dv_20, dv_100, dv_200, dv_500, Bool.false_eq_true, rc_ee, rc_ge_0, rc_le_0, rc_ge_1, rc_le_1, rc_ge_2, rc_le_2, rc_ge_3, rc_le_3, rc_ge_4, rc_le_4, rc_ge_5, rc_le_5, rc_ge_9, rc_le_9, rc_ge_30, rc_le_30, rc_ge_40, rc_le_40, rc_ge_48, rc_le_48, rc_ge_50, rc_le_50, rc_ge_57, rc_le_57, rc_ge_60, rc_le_60, rc_ge_97, rc_le_97, rc_ge_100, rc_le_100, rc_ge_122, rc_le_122, rc_ge_9999, rc_le_9999, rc_ge_99999, rc_le_99999, rc_ge_m99999, rc_le_m99999, rc_ge_m1, rc_le_m1, rc_isSheet, px, ps]
  · have px := eq_false hx
    refine ap_c (-1000000001) D D ?_ ?_ hI
    · simp (disch := first | assumption | omega | exact kd_sh _ _ _ (by assumption) | exact kd_sea _ _ _ (by assumption) | exact is_bts (by assumption) _ (by omega) | exact kd_bt _ _ _ (by first | assumption | exact is_bts (by assumption) _ (by omega)) | exact kd_109 _ _ _ | exact kd_17 _ _ _ | exact kd_20 _ _ _) only [iq_150_0, iq_150_1, iq_150_4, iq_150_7, iq_150_8, iq_150_9, iq_150_12, iq_150_13, iq_150_14, iq_150_17, iq_150_19, iq_150_20, iq_150_21, iq_150_22, iq_150_25, iq_150_26, iq_150_29, iq_150_30, iq_150_31, iq_150_34, iq_150_35, iq_150_36, iq_150_37, iq_150_39, iq_150_42, iq_150_44, iq_150_45, iq_150_46, iq_150_49, iq_150_52, iq_150_53, iq_150_54, iq_150_57, iq_150_58, iq_150_59, iq_150_60, iq_150_61, iq_150_64, iq_150_65, Option.bind_some, Option.toList, List.cons_append, List.nil_append, ↓reduceIte, nI_1, Int32.reduceLT, Int32.reduceLE, dv_1, dv_2, dv_3, dv_4, dv_6, dv_8, dv_10, dv_20, dv_100, dv_200, dv_500, Bool.false_eq_true, ci_isSheet, px]
    · simp (disch := first | assumption | omega | exact kd_sh _ _ _ (by assumption) | exact kd_sea _ _ _ (by assumption) | exact is_bts (by assumption) _ (by omega) | exact kd_bt _ _ _ (by first | assumption | exact is_bts (by assumption) _ (by omega)) | exact kd_109 _ _ _ | exact kd_17 _ _ _ | exact kd_20 _ _ _) only [iq_247_0, iq_247_1, iq_247_4, iq_247_7, iq_247_8, iq_247_9, iq_247_12, iq_247_13, iq_247_16, iq_247_19, iq_247_20, iq_247_23, iq_247_24, iq_247_26, iq_247_29, iq_247_31, iq_247_32, iq_247_33, iq_247_36, iq_247_37, iq_247_40, iq_247_43, iq_247_44, iq_247_45, iq_247_48, iq_247_49, iq_247_50, iq_247_51, iq_247_52, iq_247_55, iq_247_56, iq_247_57, iq_247_60, iq_247_61, iq_247_64, iq_247_65, iq_247_66, iq_247_67, iq_247_71, iq_247_73, iq_247_76, iq_247_77, iq_247_80, iq_247_82, iq_247_83, iq_247_84, iq_247_86, iq_247_87, iq_247_88, iq_247_89, iq_247_92, iq_247_95, iq_247_96, iq_247_99, iq_247_100, iq_247_101, Option.bind_some, Option.toList, List.cons_append, List.nil_append, ↓reduceIte, nI_1, Int32.reduceLT, Int32.reduceLE, dv_1, dv_2, dv_3, dv_4, dv_6, dv_8, dv_10, dv_20, dv_100, dv_200, dv_500, Bool.false_eq_true, rc_isSheet, px]
