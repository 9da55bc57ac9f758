def sp_d1 (s : Nat → Int32) (n : Nat) : Nat → Int32 := sp_com (mx_up s 6 (sp_nx (sp_nx (sp_nx (s 6))))) n (sp_rm (sp_sh (sp_nx (s 6))) 6) (1 + sp_rm (sp_sh (sp_nx (sp_nx (s 6)))) 20) (sp_rm (sp_sh (sp_nx (sp_nx (sp_nx (s 6))))) 500)
def sp_dl (s : Nat → Int32) (n : Nat) : Nat → Nat → Int32
  | 0 => s
  | i + 1 => sp_d1 (sp_dl s n i) (n + i)
theorem sp_d1_ok (z : Int32) (k : Nat) (hk : 0 < k) (h2 : k < 2 ^ 31) : ∃ a : Nat, a < k ∧ sp_rm (sp_sh z) (nI k) = nI a := by
  obtain ⟨u, hu, e⟩ := sp_sh_n z
  exact ⟨u % k, Nat.mod_lt _ hk, by rw [e, sp_rmN (by omega) hk h2]⟩
section DL
variable (R : Nat → Option mx_MC) (c : Nat × Nat) (D : hz_D) {n m : Nat} {s : Nat → Int32}
theorem cc_deal_lp (d T : Nat) (l1 : Option Value) (hT : n + T ≤ 9) (hv : sv s n m) : ∀ i j : Nat, j + i = T → ∀ (D : hz_D) (l4 l5 l6 : Option Value), sea_rel c D 35 (sp_dl s n j) (n + j) m → sv (sp_dl s n j) (n + j) m → ∃ D' l4' l5' l6', mx_run (d + 2) 54 31 [some (.ref 17), l1, some (.int (nI T)), some (.int (nI j)), l4, l5, l6] [] (hp R c D) = mx_run (d + 2) 54 99 [some (.ref 17), l1, some (.int (nI T)), some (.int (nI T)), l4', l5', l6'] [] (hp R c D') ∧ sea_rel c D' 35 (sp_dl s n T) (n + T) m ∧ sv (sp_dl s n T) (n + T) m ∧ (∀ a, ¬ (35 ≤ a ∧ a ≤ 48 ∧ a ≠ 38) → D' a = D a) := by
  have h35 := is_s35
  intro i
  induction i with
  | zero =>
    intro j hj D l4 l5 l6 hr hs
    obtain rfl : j = T := by omega
    refine ⟨D, l4, l5, l6, ?_, hr, hs, fun _ _ => rfl⟩
    rw [iq_54_31]
    simp (disch := first | assumption | omega | exact kd_sea _ _ _ (by assumption) | exact is_bts (by assumption) _ (by omega) | exact kd_bt _ _ _ (is_bts (by assumption) _ (by omega)) | exact kd_109 _ _ _ | exact kd_17 _ _ _ | exact kd_20 _ _ _) only [iq_54_0, iq_54_1, iq_54_2, iq_54_5, iq_54_6, iq_54_8, iq_54_11, iq_54_13, iq_54_14, iq_54_15, iq_54_17, iq_54_18, iq_54_21, iq_54_24, iq_54_25, iq_54_28, iq_54_29, iq_54_30, iq_54_32, iq_54_33, iq_54_36, iq_54_37, iq_54_40, iq_54_43, iq_54_45, iq_54_46, iq_54_48, iq_54_49, iq_54_50, iq_54_53, iq_54_56, iq_54_58, iq_54_59, iq_54_60, iq_54_62, iq_54_63, iq_54_66, iq_54_69, iq_54_72, iq_54_73, iq_54_75, iq_54_76, iq_54_79, iq_54_80, iq_54_83, iq_54_85, iq_54_86, iq_54_88, iq_54_90, iq_54_93, iq_54_96, iq_54_100, Option.bind_some, Option.toList, List.cons_append, List.nil_append, ↓reduceIte, nI_1, Int32.reduceLT, Int32.reduceLE, dv_1, dv_2, dv_3, dv_4, dv_6, dv_8, dv_10, dv_20, dv_100, dv_200, dv_500, nz_lt, nz_nlt, nz_eq, nz_ne]
  | succ i ih =>
    intro j hj D l4 l5 l6 hr hs
    obtain ⟨t, ht⟩ : ∃ t, t = sp_dl s n j := ⟨_, rfl⟩
    rw [← ht] at hr hs
    have hn : D 35 1 = nI (n + j) := hr.1.1.trans (sv_n hs)
    have f7 : D 35 7 = t 6 := hr.1.2.2.2.2.2.1
    obtain ⟨a, ha, ea⟩ := sp_d1_ok (sp_nx (t 6)) 6 (by omega) (by omega)
    obtain ⟨w, hw, ew⟩ := sp_d1_ok (sp_nx (sp_nx (t 6))) 20 (by omega) (by omega)
    have ew1 : 1 + sp_rm (sp_sh (sp_nx (sp_nx (t 6)))) 20 = nI (1 + w) := by
      rw [show (20 : Int32) = nI 20 from rfl, ew, show (1 : Int32) = nI 1 from rfl, nI_add]
    have r0 := su_7 h35 (by omega) hr (sp_nx (sp_nx (sp_nx (t 6))))
    have r1 := su_com c _ h35 (by omega) r0 a (by omega) (nI (1 + w)) (sp_rm (sp_sh (sp_nx (sp_nx (sp_nx (t 6))))) 500)
    have v1 := sv_com (sv_lo hs 6 (sp_nx (sp_nx (sp_nx (t 6)))) (by omega) (by omega)) (by omega) a (1 + w) (by omega) (by omega) (sp_rm (sp_sh (sp_nx (sp_nx (sp_nx (t 6))))) 500)
    have ed : sp_dl s n (j + 1) = sp_com (mx_up t 6 (sp_nx (sp_nx (sp_nx (t 6))))) (n + j) (nI a) (nI (1 + w)) (sp_rm (sp_sh (sp_nx (sp_nx (sp_nx (t 6))))) 500) := by
      show sp_d1 (sp_dl s n j) (n + j) = _
      rw [← ht]
      unfold sp_d1
      rw [ew1, show (6 : Int32) = nI 6 from rfl, ea]
    have ln := cc_launch R c (mx_up D 35 (mx_up (D 35) 7 (sp_nx (sp_nx (sp_nx (t 6)))))) d a h35 (n := n + j) (by rw [up_s, up_n _ _ _ _ (by omega)]; exact hn) (by omega) (by omega) (nI (1 + w)) (sp_rm (sp_sh (sp_nx (sp_nx (sp_nx (t 6))))) 500)
    rw [← ed] at r1 v1
    obtain ⟨D', l4', l5', l6', k1, k2, k3, k4⟩ := ih (j + 1) (by omega) _ (some (.int (nI a))) (some (.int (nI (1 + w)))) (some (.int (sp_rm (sp_sh (sp_nx (sp_nx (sp_nx (t 6))))) 500))) r1 v1
    refine ⟨D', l4', l5', l6', ?_, k2, k3, ?_⟩
    · rw [← k1, iq_54_31]
      unfold sp_rm at ea ew ew1 ln ⊢
      rw [show nI 6 = (6 : Int32) from rfl] at ea
      simp (disch := first | assumption | omega | exact kd_sea _ _ _ (by assumption) | exact is_bts (by assumption) _ (by omega) | exact kd_bt _ _ _ (is_bts (by assumption) _ (by omega)) | exact kd_109 _ _ _ | exact kd_17 _ _ _ | exact kd_20 _ _ _) only [iq_54_0, iq_54_1, iq_54_2, iq_54_5, iq_54_6, iq_54_8, iq_54_11, iq_54_13, iq_54_14, iq_54_15, iq_54_17, iq_54_18, iq_54_21, iq_54_24, iq_54_25, iq_54_28, iq_54_29, iq_54_30, iq_54_32, iq_54_33, iq_54_36, iq_54_37, iq_54_40, iq_54_43, iq_54_45, iq_54_46, iq_54_48, iq_54_49, iq_54_50, iq_54_53, iq_54_56, iq_54_58, iq_54_59, iq_54_60, iq_54_62, iq_54_63, iq_54_66, iq_54_69, iq_54_72, iq_54_73, iq_54_75, iq_54_76, iq_54_79, iq_54_80, iq_54_83, iq_54_85, iq_54_86, iq_54_88, iq_54_90, iq_54_93, iq_54_96, iq_54_100, Option.bind_some, Option.toList, List.cons_append, List.nil_append, ↓reduceIte, nI_1, Int32.reduceLT, Int32.reduceLE, dv_1, dv_2, dv_3, dv_4, dv_6, dv_8, dv_10, dv_20, dv_100, dv_200, dv_500, gf_17_0, gf_17_1, gf_17_2, gf_17_3, gf_17_4, gf_17_5, gf_17_6, gf_17_7, gf_17_8, gf_17_9, gf_17_10, gf_17_11, gf_17_12, gf_17_13, kd_17, pf_17_4, pf_17_13, nz_lt, nz_nlt, nz_eq, nz_ne, up_s, up_up, up_n, ne_eq, Nat.reduceEqDiff, not_false_eq_true, cc_draw, f7, ea, ew1, aa_18, ln]
    · intro b hb
      rw [k4 b hb, up_n _ _ _ _ (by omega), up_n _ _ _ _ (by omega), up_n _ _ _ _ (by omega)]
theorem rc_deal_lp (d N T : Nat) (hN : N ≤ 9) (hT : T = min N (9 - n)) (hn9 : n ≤ 9) : ∀ i j : Nat, j + i = T → ∀ (D : hz_D) (l3 l4 : Option Value), D 110 = sp_dl s n j → sv (sp_dl s n j) (n + j) m → (∀ k, j ≤ k → k ≤ T → sv (sp_dl s n k) (n + k) m) → ∃ D', mx_run (d + 2) 199 17 [some (.ref 109), some (.int (nI N)), some (.int (nI j)), l3, l4] [] (hp R c D) = some (some (.int (nI T)), hp R c D') ∧ D' 110 = sp_dl s n T ∧ (∀ a, a ≠ 110 → D' a = D a) := by
  intro i
  induction i with
  | zero =>
    intro j hj D l3 l4 hD hs _
    obtain rfl : j = T := by omega
    refine ⟨D, ?_, hD, fun _ _ => rfl⟩
    have hn : D 110 0 = nI (n + j) := by rw [hD]; exact sv_n hs
    rw [iq_199_17]
    by_cases h : j < N
    · simp (disch := first | assumption | exact kd_109 _ _ _ | omega) only [iq_199_0, iq_199_1, iq_199_2, iq_199_3, iq_199_6, iq_199_9, iq_199_12, iq_199_14, iq_199_15, iq_199_16, iq_199_18, iq_199_19, iq_199_22, iq_199_23, iq_199_26, iq_199_27, iq_199_28, iq_199_30, iq_199_33, iq_199_34, iq_199_37, iq_199_39, iq_199_40, iq_199_41, iq_199_42, iq_199_43, iq_199_46, iq_199_48, iq_199_49, iq_199_50, iq_199_52, iq_199_53, iq_199_54, iq_199_56, iq_199_57, iq_199_60, iq_199_63, iq_199_64, iq_199_67, iq_199_70, iq_199_73, iq_199_74, Option.bind_some, Option.toList, List.cons_append, List.nil_append, ↓reduceIte, nI_1, Int32.reduceLT, Int32.reduceLE, dv_1, dv_2, dv_3, dv_4, dv_6, dv_8, dv_10, dv_20, dv_100, dv_200, dv_500, gf_109_0, gf_109_1, gf_109_2, gf_109_3, gf_109_4, gf_109_5, gf_109_6, gf_109_7, gf_109_8, gf_109_9, gf_109_10, gf_109_11, gf_109_12, gf_109_13, gf_109_14, gf_109_15, gf_109_16, gf_109_17, gf_109_18, gf_109_19, gf_109_20, gf_109_21, gf_109_22, gf_109_23, gf_109_24, gf_109_25, gf_109_26, gf_109_27, gf_109_28, gf_109_29, gf_109_30, kd_109, ld_110_0, st_110_0, ld_110_1, st_110_1, ld_110_2, st_110_2, ld_110_3, st_110_3, ld_110_4, st_110_4, ld_110_5, st_110_5, ld_110_6, st_110_6, ld_110_7, st_110_7, ld_110_8, st_110_8, ld_110_9, st_110_9, ld_110_10, st_110_10, ld_110_11, st_110_11, ld_110_12, st_110_12, ld_110_75, st_110_75, nz_lt, nz_nlt, nz_eq, nz_ne, hn, nz_nlt_9]
    · simp (disch := first | assumption | exact kd_109 _ _ _ | omega) only [iq_199_0, iq_199_1, iq_199_2, iq_199_3, iq_199_6, iq_199_9, iq_199_12, iq_199_14, iq_199_15, iq_199_16, iq_199_18, iq_199_19, iq_199_22, iq_199_23, iq_199_26, iq_199_27, iq_199_28, iq_199_30, iq_199_33, iq_199_34, iq_199_37, iq_199_39, iq_199_40, iq_199_41, iq_199_42, iq_199_43, iq_199_46, iq_199_48, iq_199_49, iq_199_50, iq_199_52, iq_199_53, iq_199_54, iq_199_56, iq_199_57, iq_199_60, iq_199_63, iq_199_64, iq_199_67, iq_199_70, iq_199_73, iq_199_74, Option.bind_some, Option.toList, List.cons_append, List.nil_append, ↓reduceIte, nI_1, Int32.reduceLT, Int32.reduceLE, dv_1, dv_2, dv_3, dv_4, dv_6, dv_8, dv_10, dv_20, dv_100, dv_200, dv_500, nz_lt, nz_nlt, nz_eq, nz_ne]
  | succ i ih =>
    intro j hj D l3 l4 hD hs hall
    obtain ⟨t, ht⟩ : ∃ t, t = sp_dl s n j := ⟨_, rfl⟩
    rw [← ht] at hD hs
    have hn : D 110 0 = nI (n + j) := by rw [hD]; exact sv_n hs
    have cm := rc_comes R c (mx_up D 110 (mx_up t 6 (sp_nx (sp_nx (sp_nx (t 6)))))) d (sp_rm (sp_sh (sp_nx (t 6))) 6) (1 + sp_rm (sp_sh (sp_nx (sp_nx (t 6)))) 20) (sp_rm (sp_sh (sp_nx (sp_nx (sp_nx (t 6))))) 500) (n + j) (by rw [up_s, up_n _ _ _ _ (by omega)]; exact sv_n hs) (by omega)
    rw [up_s, up_up] at cm
    have ed : sp_dl s n (j + 1) = sp_d1 t (n + j) := by rw [ht]; rfl
    obtain ⟨D', k1, k2, k3⟩ := ih (j + 1) (by omega) (mx_up D 110 (sp_d1 t (n + j))) (some (.int (sp_rm (sp_sh (sp_nx (t 6))) 6))) (some (.int (1 + sp_rm (sp_sh (sp_nx (sp_nx (t 6)))) 20))) (by rw [up_s, ed]) (hall (j + 1) (by omega) (by omega)) (fun k q1 q2 => hall k (by omega) q2)
    refine ⟨D', ?_, k2, ?_⟩
    · rw [← k1, iq_199_17]
      unfold sp_d1
      unfold sp_rm at cm ⊢
      simp (disch := first | assumption | exact kd_109 _ _ _ | omega) only [iq_199_0, iq_199_1, iq_199_2, iq_199_3, iq_199_6, iq_199_9, iq_199_12, iq_199_14, iq_199_15, iq_199_16, iq_199_18, iq_199_19, iq_199_22, iq_199_23, iq_199_26, iq_199_27, iq_199_28, iq_199_30, iq_199_33, iq_199_34, iq_199_37, iq_199_39, iq_199_40, iq_199_41, iq_199_42, iq_199_43, iq_199_46, iq_199_48, iq_199_49, iq_199_50, iq_199_52, iq_199_53, iq_199_54, iq_199_56, iq_199_57, iq_199_60, iq_199_63, iq_199_64, iq_199_67, iq_199_70, iq_199_73, iq_199_74, Option.bind_some, Option.toList, List.cons_append, List.nil_append, ↓reduceIte, nI_1, Int32.reduceLT, Int32.reduceLE, dv_1, dv_2, dv_3, dv_4, dv_6, dv_8, dv_10, dv_20, dv_100, dv_200, dv_500, gf_109_0, gf_109_1, gf_109_2, gf_109_3, gf_109_4, gf_109_5, gf_109_6, gf_109_7, gf_109_8, gf_109_9, gf_109_10, gf_109_11, gf_109_12, gf_109_13, gf_109_14, gf_109_15, gf_109_16, gf_109_17, gf_109_18, gf_109_19, gf_109_20, gf_109_21, gf_109_22, gf_109_23, gf_109_24, gf_109_25, gf_109_26, gf_109_27, gf_109_28, gf_109_29, gf_109_30, kd_109, ld_110_0, st_110_0, ld_110_1, st_110_1, ld_110_2, st_110_2, ld_110_3, st_110_3, ld_110_4, st_110_4, ld_110_5, st_110_5, ld_110_6, st_110_6, ld_110_7, st_110_7, ld_110_8, st_110_8, ld_110_9, st_110_9, ld_110_10, st_110_10, ld_110_11, st_110_11, ld_110_12, st_110_12, ld_110_75, st_110_75, nz_lt, nz_nlt, nz_eq, nz_ne, up_s, up_up, up_n, ne_eq, Nat.reduceEqDiff, not_false_eq_true, hn, nz_lt_9, rc_drawn, hD, cm]
    · intro a ha
      rw [k3 a ha, up_n _ _ _ _ ha]
theorem sv_dl (hv : sv s n m) : ∀ i, n + i ≤ 9 → sv (sp_dl s n i) (n + i) m
  | 0, _ => hv
  | i + 1, h => by
    have hs := sv_dl hv i (by omega)
    show sv (sp_d1 (sp_dl s n i) (n + i)) (n + i + 1) m
    unfold sp_d1
    obtain ⟨a, ha, ea⟩ := sp_d1_ok (sp_nx (sp_dl s n i 6)) 6 (by omega) (by omega)
    obtain ⟨w, hw, ew⟩ := sp_d1_ok (sp_nx (sp_nx (sp_dl s n i 6))) 20 (by omega) (by omega)
    rw [show (6 : Int32) = nI 6 from rfl, ea, show (20 : Int32) = nI 20 from rfl, ew, show (1 : Int32) = nI 1 from rfl, nI_add]
    exact sv_com (sv_lo hs 6 _ (by omega) (by omega)) (by omega) a (1 + w) (by omega) (by omega) _
theorem h2_dl : ∀ i, sp_dl s n i 2 = s 2
  | 0 => rfl
  | i + 1 => by
    show sp_d1 (sp_dl s n i) (n + i) 2 = _
    unfold sp_d1
    rw [h2_com, up_n _ _ _ _ (by omega)]
    exact h2_dl i
end DL
variable {d L : Nat} {xs : Nat → Int32} {c : Nat × Nat} {D : hz_D}
theorem ap_deal (hI : Inv c D) (x : Int32) : ap d L xs c D 54 [some (.ref 17), some (.int x), none, none, none, none, none] 199 [some (.ref 109), some (.int x), none, none, none] := by
  obtain ⟨h0, ⟨n, m, hr, hv, htn, hh⟩, -⟩ := id hI
  have h35 := is_s35
  have hn9 := sv_n9 hv
  have hn : D 35 1 = nI n := hr.1.1.trans (sv_n hv)
  have hn' := sv_n hv
  by_cases hk : ¬ x < 1 ∧ ¬ 9 < x
  · obtain ⟨N, h1, h9, rfl⟩ := i3_rg1 9 (by omega) hk
    have pk := eq_true hk
    have k1 := eq_false hk.1
    have k2 := eq_false hk.2
    have e9 : (9 : Int32) - nI n = nI (9 - n) := pk_sub (a := 9) hn9
    have mn := mn_nI (a := N) (b := 9 - n) (by omega) (by omega)
    obtain ⟨D1, l4, l5, l6, a1, a2, a3, a4⟩ := cc_deal_lp (sx_rom L xs) c (d + 98) (min N (9 - n)) (some (.int (nI N))) (by omega) hv (min N (9 - n)) 0 (by omega) D none none none hr hv
    have e110 : D1 110 = D 110 := a4 110 (by omega)
    obtain ⟨D2, b1, b2, b3⟩ := rc_deal_lp (sx_rom L xs) c (m := m) (s := D 110) (d + 98) N (min N (9 - n)) h9 rfl hn9 (min N (9 - n)) 0 (by omega) D1 none none e110 hv (fun k _ q => sv_dl hv k (by omega))
    refine ap_c (nI (min N (9 - n))) D1 D2 ?_ ?_ ?_
    · simp (disch := first | assumption | omega | exact kd_sea _ _ _ (by assumption) | exact is_bts (by assumption) _ (by omega) | exact kd_bt _ _ _ (is_bts (by assumption) _ (by omega)) | exact kd_109 _ _ _ | exact kd_17 _ _ _ | exact kd_20 _ _ _) only [iq_54_0, iq_54_1, iq_54_2, iq_54_5, iq_54_6, iq_54_8, iq_54_11, iq_54_13, iq_54_14, iq_54_15, iq_54_17, iq_54_18, iq_54_21, iq_54_24, iq_54_25, iq_54_28, iq_54_29, iq_54_30, iq_54_32, iq_54_33, iq_54_36, iq_54_37, iq_54_40, iq_54_43, iq_54_45, iq_54_46, iq_54_48, iq_54_49, iq_54_50, iq_54_53, iq_54_56, iq_54_58, iq_54_59, iq_54_60, iq_54_62, iq_54_63, iq_54_66, iq_54_69, iq_54_72, iq_54_73, iq_54_75, iq_54_76, iq_54_79, iq_54_80, iq_54_83, iq_54_85, iq_54_86, iq_54_88, iq_54_90, iq_54_93, iq_54_96, iq_54_100, gf_17_0, gf_17_1, gf_17_2, gf_17_3, gf_17_4, gf_17_5, gf_17_6, gf_17_7, gf_17_8, gf_17_9, gf_17_10, gf_17_11, gf_17_12, gf_17_13, kd_17, pf_17_4, pf_17_13, gf_sea_0, gf_sea_1, gf_sea_2, gf_sea_3, gf_sea_4, gf_sea_5, gf_sea_6, gf_sea_7, gf_sea_8, gf_sea_9, gf_sea_10, kd_sea, pf_sea_1, pf_sea_2, pf_sea_4, pf_sea_5, pf_sea_6, pf_sea_7, pf_sea_9, Option.bind_some, Option.toList, List.cons_append, List.nil_append, ↓reduceIte, nI_1, Int32.reduceLT, Int32.reduceLE, dv_1, dv_2, dv_3, dv_4, dv_6, dv_8, dv_10, dv_20, dv_100, dv_200, dv_500, Bool.false_eq_true, k1, k2, hn, e9, mn]
      refine (show mx_run (d + 100) 54 31 [some (.ref 17), some (.int (nI N)), some (.int (nI (min N (9 - n)))), some (.int 0), none, none, none] [] (hp (sx_rom L xs) c D) = _ from a1).trans ?_
      simp (disch := first | assumption | omega | exact kd_sea _ _ _ (by assumption) | exact is_bts (by assumption) _ (by omega) | exact kd_bt _ _ _ (is_bts (by assumption) _ (by omega)) | exact kd_109 _ _ _ | exact kd_17 _ _ _ | exact kd_20 _ _ _) only [iq_54_0, iq_54_1, iq_54_2, iq_54_5, iq_54_6, iq_54_8, iq_54_11, iq_54_13, iq_54_14, iq_54_15, iq_54_17, iq_54_18, iq_54_21, iq_54_24, iq_54_25, iq_54_28, iq_54_29, iq_54_30, iq_54_32, iq_54_33, iq_54_36, iq_54_37, iq_54_40, iq_54_43, iq_54_45, iq_54_46, iq_54_48, iq_54_49, iq_54_50, iq_54_53, iq_54_56, iq_54_58, iq_54_59, iq_54_60, iq_54_62, iq_54_63, iq_54_66, iq_54_69, iq_54_72, iq_54_73, iq_54_75, iq_54_76, iq_54_79, iq_54_80, iq_54_83, iq_54_85, iq_54_86, iq_54_88, iq_54_90, iq_54_93, iq_54_96, iq_54_99, iq_54_100, Option.bind_some, Option.toList, List.cons_append, List.nil_append, ↓reduceIte, nI_1, Int32.reduceLT, Int32.reduceLE, dv_1, dv_2, dv_3, dv_4, dv_6, dv_8, dv_10, dv_20, dv_100, dv_200, dv_500, Bool.false_eq_true]
    · simp (disch := first | assumption | omega | exact kd_sea _ _ _ (by assumption) | exact is_bts (by assumption) _ (by omega) | exact kd_bt _ _ _ (is_bts (by assumption) _ (by omega)) | exact kd_109 _ _ _ | exact kd_17 _ _ _ | exact kd_20 _ _ _) only [iq_199_0, iq_199_1, iq_199_2, iq_199_3, iq_199_6, iq_199_9, iq_199_12, iq_199_14, iq_199_15, iq_199_16, iq_199_18, iq_199_19, iq_199_22, iq_199_23, iq_199_26, iq_199_27, iq_199_28, iq_199_30, iq_199_33, iq_199_34, iq_199_37, iq_199_39, iq_199_40, iq_199_41, iq_199_42, iq_199_43, iq_199_46, iq_199_48, iq_199_49, iq_199_50, iq_199_52, iq_199_53, iq_199_54, iq_199_56, iq_199_57, iq_199_60, iq_199_63, iq_199_64, iq_199_67, iq_199_70, iq_199_73, iq_199_74, Option.bind_some, Option.toList, List.cons_append, List.nil_append, ↓reduceIte, nI_1, Int32.reduceLT, Int32.reduceLE, dv_1, dv_2, dv_3, dv_4, dv_6, dv_8, dv_10, dv_20, dv_100, dv_200, dv_500, Bool.false_eq_true, rc_ee, rc_ge_0, rc_le_0, rc_ge_1, rc_le_1, rc_ge_2, rc_le_2, rc_ge_3, rc_le_3, rc_ge_4, rc_le_4, rc_ge_5, rc_le_5, rc_ge_9, rc_le_9, rc_ge_30, rc_le_30, rc_ge_40, rc_le_40, rc_ge_48, rc_le_48, rc_ge_50, rc_le_50, rc_ge_57, rc_le_57, rc_ge_60, rc_le_60, rc_ge_97, rc_le_97, rc_ge_100, rc_le_100, rc_ge_122, rc_le_122, rc_ge_9999, rc_le_9999, rc_ge_99999, rc_le_99999, rc_ge_m99999, rc_le_m99999, rc_ge_m1, rc_le_m1, pk]
      exact b1
    · refine Inv_sea1 hI (I_mk a2 a3 (fun t ht => ?_) (by rw [h2_dl]; exact hh) b2 (fun a ha => b3 a (by omega))) (fun a ha => by rw [b3 a (by omega), a4 a (by omega)])
      rw [a4 (35 + 3) (by omega)]
      exact htn t ht
  · have pk := eq_false hk
    refine ap_c (-1000000001) D D ?_ ?_ hI
    · by_cases k1 : x < 1
      · simp (disch := first | assumption | omega | exact kd_sea _ _ _ (by assumption) | exact is_bts (by assumption) _ (by omega) | exact kd_bt _ _ _ (is_bts (by assumption) _ (by omega)) | exact kd_109 _ _ _ | exact kd_17 _ _ _ | exact kd_20 _ _ _) only [iq_54_0, iq_54_1, iq_54_2, iq_54_5, iq_54_6, iq_54_8, iq_54_11, iq_54_13, iq_54_14, iq_54_15, iq_54_17, iq_54_18, iq_54_21, iq_54_24, iq_54_25, iq_54_28, iq_54_29, iq_54_30, iq_54_32, iq_54_33, iq_54_36, iq_54_37, iq_54_40, iq_54_43, iq_54_45, iq_54_46, iq_54_48, iq_54_49, iq_54_50, iq_54_53, iq_54_56, iq_54_58, iq_54_59, iq_54_60, iq_54_62, iq_54_63, iq_54_66, iq_54_69, iq_54_72, iq_54_73, iq_54_75, iq_54_76, iq_54_79, iq_54_80, iq_54_83, iq_54_85, iq_54_86, iq_54_88, iq_54_90, iq_54_93, iq_54_96, iq_54_100, Option.bind_some, Option.toList, List.cons_append, List.nil_append, ↓reduceIte, nI_1, Int32.reduceLT, Int32.reduceLE, dv_1, dv_2, dv_3, dv_4, dv_6, dv_8, dv_10, dv_20, dv_100, dv_200, dv_500, Bool.false_eq_true, k1]
      · have k2 : 9 < x := by
          by_cases z : 9 < x
          · exact z
          · exact absurd ⟨k1, z⟩ hk
        simp (disch := first | assumption | omega | exact kd_sea _ _ _ (by assumption) | exact is_bts (by assumption) _ (by omega) | exact kd_bt _ _ _ (is_bts (by assumption) _ (by omega)) | exact kd_109 _ _ _ | exact kd_17 _ _ _ | exact kd_20 _ _ _) only [iq_54_0, iq_54_1, iq_54_2, iq_54_5, iq_54_6, iq_54_8, iq_54_11, iq_54_13, iq_54_14, iq_54_15, iq_54_17, iq_54_18, iq_54_21, iq_54_24, iq_54_25, iq_54_28, iq_54_29, iq_54_30, iq_54_32, iq_54_33, iq_54_36, iq_54_37, iq_54_40, iq_54_43, iq_54_45, iq_54_46, iq_54_48, iq_54_49, iq_54_50, iq_54_53, iq_54_56, iq_54_58, iq_54_59, iq_54_60, iq_54_62, iq_54_63, iq_54_66, iq_54_69, iq_54_72, iq_54_73, iq_54_75, iq_54_76, iq_54_79, iq_54_80, iq_54_83, iq_54_85, iq_54_86, iq_54_88, iq_54_90, iq_54_93, iq_54_96, iq_54_100, Option.bind_some, Option.toList, List.cons_append, List.nil_append, ↓reduceIte, nI_1, Int32.reduceLT, Int32.reduceLE, dv_1, dv_2, dv_3, dv_4, dv_6, dv_8, dv_10, dv_20, dv_100, dv_200, dv_500, Bool.false_eq_true, k1, k2]
    · simp (disch := first | assumption | omega | exact kd_sea _ _ _ (by assumption) | exact is_bts (by assumption) _ (by omega) | exact kd_bt _ _ _ (is_bts (by assumption) _ (by omega)) | exact kd_109 _ _ _ | exact kd_17 _ _ _ | exact kd_20 _ _ _) only [iq_199_0, iq_199_1, iq_199_2, iq_199_3, iq_199_6, iq_199_9, iq_199_12, iq_199_14, iq_199_15, iq_199_16, iq_199_18, iq_199_19, iq_199_22, iq_199_23, iq_199_26, iq_199_27, iq_199_28, iq_199_30, iq_199_33, iq_199_34, iq_199_37, iq_199_39, iq_199_40, iq_199_41, iq_199_42, iq_199_43, iq_199_46, iq_199_48, iq_199_49, iq_199_50, iq_199_52, iq_199_53, iq_199_54, iq_199_56, iq_199_57, iq_199_60, iq_199_63, iq_199_64, iq_199_67, iq_199_70, iq_199_73, iq_199_74, Option.bind_some, Option.toList, List.cons_append, List.nil_append, ↓reduceIte, nI_1, Int32.reduceLT, Int32.reduceLE, dv_1, dv_2, dv_3, dv_4, dv_6, dv_8, dv_10, dv_20, dv_100, dv_200, dv_500, Bool.false_eq_true, rc_ee, rc_ge_0, rc_le_0, rc_ge_1, rc_le_1, rc_ge_2, rc_le_2, rc_ge_3, rc_le_3, rc_ge_4, rc_le_4, rc_ge_5, rc_le_5, rc_ge_9, rc_le_9, rc_ge_30, rc_le_30, rc_ge_40, rc_le_40, rc_ge_48, rc_le_48, rc_ge_50, rc_le_50, rc_ge_57, rc_le_57, rc_ge_60, rc_le_60, rc_ge_97, rc_le_97, rc_ge_100, rc_le_100, rc_ge_122, rc_le_122, rc_ge_9999, rc_le_9999, rc_ge_99999, rc_le_99999, rc_ge_m99999, rc_le_m99999, rc_ge_m1, rc_le_m1, pk]
