variable (R : Nat → Option mx_MC) (c : Nat × Nat) (D : hz_D) {A B : Nat}
theorem in_nI {k n : Nat} (h : k < n) (hn : n < 2 ^ 31) : mx_in (nI k) n = true := by
  unfold mx_in
  simp only [decide_eq_true_eq]
  exact nI_in h hn
/-- arraycopy from int rows to int rows -/
theorem hp_cp {a b na nb : Nat} (h1 : 17 ≤ a) (h2 : a < 128) (h3 : 17 ≤ b) (h4 : b < 128) (hsa : ∀ f, hz_shp a f = hz_ia na f) (hsb : ∀ f, hz_shp b f = hz_ia nb f) (n : Nat) (hna : n ≤ na) (hnb : n ≤ nb) (hn : n < 2 ^ 31) : mg_cp (hp R c D) a b 0 0 (nI n) = some (hp R c (mx_up D b (sp_mix n (D a) (D b)))) := by
  unfold mg_cp
  rw [hp_arr R c D h1 h2 hsa, hp_arr R c D h3 h4 hsb]
  dsimp only
  rw [nI_clamp hn, show (0 : Int32).toNatClampNeg = 0 by decide]
  rw [if_pos ⟨⟨rfl, Or.inl rfl, by decide, by decide, nI_pos hn, by omega, by omega, fun i _ => rfl⟩, h3⟩]
  refine congrArg some (hp_set R c D h3 h4 _ _ ?_)
  rw [hsb]
  unfold hz_ia sp_mix mx_cpy
  have : (fun k => if 0 ≤ k ∧ k < 0 + n then Value.int (D a (0 + (k - 0))) else Value.int (D b k)) = fun j => Value.int (if j < n then D a j else D b j) := by
    funext k
    by_cases h : k < n
    · rw [if_pos ⟨by omega, by omega⟩, if_pos h]
      congr 2
      omega
    · rw [if_neg (by omega), if_neg h]
  rw [this]
theorem cp_rul (hA : is_sea A) (hB : is_sea B) : mg_cp (hp R c D) (A + 2) (B + 2) 0 0 5 = some (hp R c (mx_up D (B + 2) (sp_mix 5 (D (A + 2)) (D (B + 2))))) := by
  have b1 : 35 ≤ A ∧ A ≤ 63 := by rcases hA with rfl | rfl | rfl <;> omega
  have b2 : 35 ≤ B ∧ B ≤ 63 := by rcases hB with rfl | rfl | rfl <;> omega
  exact hp_cp R c D (by omega) (by omega) (by omega) (by omega) (fun f => by rw [(sea_ok hA).2.2.2.2.1]) (fun f => by rw [(sea_ok hB).2.2.2.2.1]) 5 (by omega) (by omega) (by omega)
theorem cp_cnt (hA : is_sea A) (hB : is_sea B) : mg_cp (hp R c D) (A + 4) (B + 4) 0 0 3 = some (hp R c (mx_up D (B + 4) (sp_mix 3 (D (A + 4)) (D (B + 4))))) := by
  have b1 : 35 ≤ A ∧ A ≤ 63 := by rcases hA with rfl | rfl | rfl <;> omega
  have b2 : 35 ≤ B ∧ B ≤ 63 := by rcases hB with rfl | rfl | rfl <;> omega
  exact hp_cp R c D (by omega) (by omega) (by omega) (by omega) (fun f => by rw [(sea_ok hA).2.2.2.2.2.2]) (fun f => by rw [(sea_ok hB).2.2.2.2.2.2]) 3 (by omega) (by omega) (by omega)
theorem ar_tx (hB : is_sea B) : mx_arr (hp R c D) (B + 3) = some (.object "NineSail$Text", 14, fun j => hz_rf (D (B + 3) j)) := by
  have b2 : 35 ≤ B ∧ B ≤ 63 := by rcases hB with rfl | rfl | rfl <;> omega
  unfold mx_arr
  rw [hp_lo R c D (by omega) (by omega), (sea_ok hB).2.2.2.2.2.1]
  rfl
theorem rf_up (f : Nat → Int32) (j : Nat) (x : Int32) : mx_up (fun k => hz_rf (f k)) j (hz_rf x) = fun k => hz_rf (mx_up f j x k) := by
  funext i
  unfold mx_up
  by_cases e : i = j
  · rw [if_pos e, if_pos e]
  · rw [if_neg e, if_neg e]
theorem aN_tx (hB : is_sea B) (j : Nat) (hj : j < 14) : mg_aN (hp R c D) (B + 3) (nI j) = some (hp R c (mx_up D (B + 3) (mx_up (D (B + 3)) j 0))) := by
  have b2 : 35 ≤ B ∧ B ≤ 63 := by rcases hB with rfl | rfl | rfl <;> omega
  unfold mg_aN
  rw [ar_tx R c D hB]
  dsimp only
  rw [if_pos ⟨in_nI hj (by omega), by omega⟩, nI_clamp (by omega)]
  refine congrArg some (hp_set R c D (by omega) (by omega) _ _ ?_)
  rw [(sea_ok hB).2.2.2.2.2.1]
  unfold hz_tx
  rw [← rf_up]
  rfl
theorem as_tx (hB : is_sea B) (j : Nat) (hj : j < 14) {p : Nat} (hp1 : is_tx c p) (h31 : p < 2 ^ 31) : mg_as (hp R c D) (B + 3) (nI j) p = some (hp R c (mx_up D (B + 3) (mx_up (D (B + 3)) j (nI p)))) := by
  have b2 : 35 ≤ B ∧ B ≤ 63 := by rcases hB with rfl | rfl | rfl <;> omega
  have hp0 := hp1.1
  unfold mg_as
  rw [ar_tx R c D hB, ob_tx R c D hp1]
  dsimp only
  rw [if_pos ⟨in_nI hj (by omega), by decide, by omega, by omega⟩, nI_clamp (by omega)]
  refine congrArg some (hp_set R c D (by omega) (by omega) _ _ ?_)
  rw [(sea_ok hB).2.2.2.2.2.1]
  unfold hz_tx
  rw [← rf_up, hz_rf_p (by omega) h31]
/-- all places for texts hold a text or nothing -/
def tn_ok (c : Nat × Nat) (D : hz_D) (B : Nat) : Prop := ∀ t, t < 14 → D (B + 3) t = 0 ∨ ∃ p, D (B + 3) t = nI p ∧ p < 2 ^ 31 ∧ is_tx c p
def bt_cp (f g : Nat → Int32) : Nat → Int32 := mx_up (mx_up (mx_up (mx_up (mx_up (mx_up (mx_up f 0 (g 0)) 1 (g 1)) 2 (g 2)) 3 (g 3)) 4 (g 4)) 5 (g 5)) 6 (g 6)
theorem bt_cp_at (f g : Nat → Int32) (j : Nat) (hj : j < 7) : bt_cp f g j = g j := by
  have : j = 0 ∨ j = 1 ∨ j = 2 ∨ j = 3 ∨ j = 4 ∨ j = 5 ∨ j = 6 := by omega
  rcases this with rfl | rfl | rfl | rfl | rfl | rfl | rfl <;> rfl
theorem cc_bbec (d a b : Nat) (ha : is_bt a) (hb : is_bt b) (hab : b ≠ a) (ht : D b 6 = 0 ∨ D b 6 = 1) : mx_run d 78 0 [some (.ref a), some (.ref b)] [] (hp R c D) = some (none, hp R c (mx_up D a (bt_cp (D a) (D b)))) := by
  have tc : mx_tcOk 1 (.int (D b 6)) = true := by rcases ht with h | h <;> rw [h] <;> rfl
  unfold bt_cp
  simp (disch := first | assumption | omega | exact kd_sea _ _ _ (by assumption) | exact is_bts (by assumption) _ (by omega) | exact kd_bt _ _ _ (is_bts (by assumption) _ (by omega)) | exact kd_109 _ _ _ | exact kd_17 _ _ _ | exact kd_20 _ _ _) only [iq_78_0, iq_78_1, iq_78_1n, iq_78_2, iq_78_5, iq_78_8, iq_78_9, iq_78_9n, iq_78_10, iq_78_13, iq_78_16, iq_78_17, iq_78_17n, iq_78_18, iq_78_21, iq_78_24, iq_78_25, iq_78_25n, iq_78_26, iq_78_29, iq_78_32, iq_78_33, iq_78_33n, iq_78_34, iq_78_37, iq_78_40, iq_78_41, iq_78_41n, iq_78_42, iq_78_45, iq_78_48, iq_78_49, iq_78_49n, iq_78_50, iq_78_53, iq_78_56, Option.bind_some, Option.toList, List.cons_append, List.nil_append, ↓reduceIte, nI_1, Int32.reduceLT, Int32.reduceLE, dv_1, dv_2, dv_3, dv_4, dv_6, dv_8, dv_10, dv_20, dv_100, dv_200, dv_500, gf_bt_0, gf_bt_1, gf_bt_2, gf_bt_3, gf_bt_4, gf_bt_5, gf_bt_6, kd_bt, pf_bt_0, pf_bt_1, pf_bt_2, pf_bt_3, pf_bt_4, pf_bt_5, pf_bt_6, up_s, up_up, up_n, ne_eq, Nat.reduceEqDiff, not_false_eq_true]
theorem cc_bec_1 (d : Nat) (hA : is_sea A) (hB : is_sea B) (hAB : A ≠ B) : ∀ i j : Nat, j + i = 9 → ∀ D : hz_D, (∀ k, k < 9 → D (A + 5 + k) 6 = 0 ∨ D (A + 5 + k) 6 = 1) → ∃ D', mx_run (d + 1) 77 2 [some (.ref B), some (.ref A), some (.int (nI j))] [] (hp R c D) = mx_run (d + 1) 77 29 [some (.ref B), some (.ref A), some (.int 9)] [] (hp R c D') ∧ (∀ k, j ≤ k → k < 9 → ∀ i, i < 7 → D' (B + 5 + k) i = D (A + 5 + k) i) ∧ (∀ a, ¬ (B + 5 + j ≤ a ∧ a ≤ B + 13) → D' a = D a) := by
  have b1 : (A = 35 ∨ A = 49 ∨ A = 63) := hA
  have b2 : (B = 35 ∨ B = 49 ∨ B = 63) := hB
  intro i
  induction i with
  | zero =>
    intro j hj D _
    obtain rfl : j = 9 := by omega
    refine ⟨D, ?_, fun k h1 h2 => by omega, fun _ _ => rfl⟩
    rw [iq_77_2]
    simp (disch := first | assumption | omega | exact kd_sea _ _ _ (by assumption) | exact is_bts (by assumption) _ (by omega) | exact kd_bt _ _ _ (is_bts (by assumption) _ (by omega)) | exact kd_109 _ _ _ | exact kd_17 _ _ _ | exact kd_20 _ _ _) only [iq_77_0, iq_77_1, iq_77_3, iq_77_5, iq_77_8, iq_77_9, iq_77_12, iq_77_13, iq_77_14, iq_77_14n, iq_77_15, iq_77_18, iq_77_19, iq_77_20, iq_77_23, iq_77_26, iq_77_30, iq_77_30n, iq_77_31, iq_77_34, iq_77_37, iq_77_38, iq_77_38n, iq_77_39, iq_77_42, iq_77_45, iq_77_45n, iq_77_46, iq_77_49, iq_77_50, iq_77_51, iq_77_54, iq_77_55, iq_77_58, iq_77_59, iq_77_62, iq_77_63, iq_77_63n, iq_77_64, iq_77_67, iq_77_70, iq_77_71, iq_77_71n, iq_77_72, iq_77_75, iq_77_78, iq_77_79, iq_77_79n, iq_77_80, iq_77_83, iq_77_86, iq_77_87, iq_77_87n, iq_77_88, iq_77_91, iq_77_94, iq_77_95, iq_77_96, iq_77_97, iq_77_99, iq_77_102, iq_77_103, iq_77_106, iq_77_107, iq_77_107n, iq_77_108, iq_77_111, iq_77_112, iq_77_113, iq_77_113n, iq_77_114, iq_77_117, iq_77_120, iq_77_121, iq_77_121n, iq_77_122, iq_77_125, iq_77_128, iq_77_128n, iq_77_129, iq_77_132, iq_77_133, iq_77_134, iq_77_137, iq_77_138, iq_77_139, iq_77_142, Option.bind_some, Option.toList, List.cons_append, List.nil_append, ↓reduceIte, nI_1, Int32.reduceLT, Int32.reduceLE, dv_1, dv_2, dv_3, dv_4, dv_6, dv_8, dv_10, dv_20, dv_100, dv_200, dv_500, nz_nlt_9]
    rfl
  | succ i ih =>
    intro j hj D ht
    have hbb := cc_bbec R c D d (B + 5 + j) (A + 5 + j) (is_bts hB j (by omega)) (is_bts hA j (by omega)) (by omega) (ht j (by omega))
    obtain ⟨D', h1, h2, h3⟩ := ih (j + 1) (by omega) (mx_up D (B + 5 + j) (bt_cp (D (B + 5 + j)) (D (A + 5 + j)))) (fun k hk => by rw [up_n _ _ _ _ (by omega)]; exact ht k hk)
    refine ⟨D', ?_, ?_, ?_⟩
    · rw [← h1, iq_77_2]
      simp (disch := first | assumption | omega | exact kd_sea _ _ _ (by assumption) | exact is_bts (by assumption) _ (by omega) | exact kd_bt _ _ _ (is_bts (by assumption) _ (by omega)) | exact kd_109 _ _ _ | exact kd_17 _ _ _ | exact kd_20 _ _ _) only [iq_77_0, iq_77_1, iq_77_3, iq_77_5, iq_77_8, iq_77_9, iq_77_12, iq_77_13, iq_77_14, iq_77_14n, iq_77_15, iq_77_18, iq_77_19, iq_77_20, iq_77_23, iq_77_26, iq_77_30, iq_77_30n, iq_77_31, iq_77_34, iq_77_37, iq_77_38, iq_77_38n, iq_77_39, iq_77_42, iq_77_45, iq_77_45n, iq_77_46, iq_77_49, iq_77_50, iq_77_51, iq_77_54, iq_77_55, iq_77_58, iq_77_59, iq_77_62, iq_77_63, iq_77_63n, iq_77_64, iq_77_67, iq_77_70, iq_77_71, iq_77_71n, iq_77_72, iq_77_75, iq_77_78, iq_77_79, iq_77_79n, iq_77_80, iq_77_83, iq_77_86, iq_77_87, iq_77_87n, iq_77_88, iq_77_91, iq_77_94, iq_77_95, iq_77_96, iq_77_97, iq_77_99, iq_77_102, iq_77_103, iq_77_106, iq_77_107, iq_77_107n, iq_77_108, iq_77_111, iq_77_112, iq_77_113, iq_77_113n, iq_77_114, iq_77_117, iq_77_120, iq_77_121, iq_77_121n, iq_77_122, iq_77_125, iq_77_128, iq_77_128n, iq_77_129, iq_77_132, iq_77_133, iq_77_134, iq_77_137, iq_77_138, iq_77_139, iq_77_142, Option.bind_some, Option.toList, List.cons_append, List.nil_append, ↓reduceIte, nI_1, Int32.reduceLT, Int32.reduceLE, dv_1, dv_2, dv_3, dv_4, dv_6, dv_8, dv_10, dv_20, dv_100, dv_200, dv_500, gf_sea_0, gf_sea_1, gf_sea_2, gf_sea_3, gf_sea_4, gf_sea_5, gf_sea_6, gf_sea_7, gf_sea_8, gf_sea_9, gf_sea_10, kd_sea, pf_sea_1, pf_sea_2, pf_sea_4, pf_sea_5, pf_sea_6, pf_sea_7, pf_sea_9, ld_rul, st_rul, ld_cnt, st_cnt, aa_bs, aa_tx, ru_0, ru_1, ru_2, ru_3, ru_4, su_r0, su_r1, su_r2, nz_lt_9, hbb]
    · intro k g1 g2 i g3
      by_cases e : k = j
      · subst e
        rw [h3 _ (by omega), up_s, bt_cp_at _ _ _ g3]
      · rw [h2 k (by omega) g2 i g3, up_n _ _ _ _ (by omega)]
    · intro a g
      rw [h3 a (by omega), up_n _ _ _ _ (by omega)]
theorem cc_bec_2 (d : Nat) (hA : is_sea A) (hB : is_sea B) (hAB : A ≠ B) : ∀ i j : Nat, j + i = 14 → ∀ D : hz_D, tn_ok c D A → ∃ D', mx_run d 77 96 [some (.ref B), some (.ref A), some (.int (nI j))] [] (hp R c D) = mx_run d 77 120 [some (.ref B), some (.ref A), some (.int 14)] [] (hp R c D') ∧ (∀ k, j ≤ k → k < 14 → D' (B + 3) k = D (A + 3) k) ∧ (∀ k, k < j → D' (B + 3) k = D (B + 3) k) ∧ (∀ a, a ≠ B + 3 → D' a = D a) := by
  have b1 : (A = 35 ∨ A = 49 ∨ A = 63) := hA
  have b2 : (B = 35 ∨ B = 49 ∨ B = 63) := hB
  intro i
  induction i with
  | zero =>
    intro j hj D _
    obtain rfl : j = 14 := by omega
    refine ⟨D, ?_, fun k h1 h2 => by omega, fun _ _ => rfl, fun _ _ => rfl⟩
    rw [iq_77_96]
    simp (disch := first | assumption | omega | exact kd_sea _ _ _ (by assumption) | exact is_bts (by assumption) _ (by omega) | exact kd_bt _ _ _ (is_bts (by assumption) _ (by omega)) | exact kd_109 _ _ _ | exact kd_17 _ _ _ | exact kd_20 _ _ _) only [iq_77_0, iq_77_1, iq_77_2, iq_77_3, iq_77_5, iq_77_8, iq_77_9, iq_77_12, iq_77_13, iq_77_14, iq_77_14n, iq_77_15, iq_77_18, iq_77_19, iq_77_20, iq_77_23, iq_77_26, iq_77_29, iq_77_30, iq_77_30n, iq_77_31, iq_77_34, iq_77_37, iq_77_38, iq_77_38n, iq_77_39, iq_77_42, iq_77_45, iq_77_45n, iq_77_46, iq_77_49, iq_77_50, iq_77_51, iq_77_54, iq_77_55, iq_77_58, iq_77_59, iq_77_62, iq_77_63, iq_77_63n, iq_77_64, iq_77_67, iq_77_70, iq_77_71, iq_77_71n, iq_77_72, iq_77_75, iq_77_78, iq_77_79, iq_77_79n, iq_77_80, iq_77_83, iq_77_86, iq_77_87, iq_77_87n, iq_77_88, iq_77_91, iq_77_94, iq_77_95, iq_77_97, iq_77_99, iq_77_102, iq_77_103, iq_77_106, iq_77_107, iq_77_107n, iq_77_108, iq_77_111, iq_77_112, iq_77_113, iq_77_113n, iq_77_114, iq_77_117, iq_77_121, iq_77_121n, iq_77_122, iq_77_125, iq_77_128, iq_77_128n, iq_77_129, iq_77_132, iq_77_133, iq_77_134, iq_77_137, iq_77_138, iq_77_139, iq_77_142, Option.bind_some, Option.toList, List.cons_append, List.nil_append, ↓reduceIte, nI_1, Int32.reduceLT, Int32.reduceLE, dv_1, dv_2, dv_3, dv_4, dv_6, dv_8, dv_10, dv_20, dv_100, dv_200, dv_500, nz_nlt_14]
    rfl
  | succ i ih =>
    intro j hj D ht
    have ht' : tn_ok c (mx_up D (B + 3) (mx_up (D (B + 3)) j (D (A + 3) j))) A := fun t h => by
      rw [up_n _ _ _ _ (by omega)]
      exact ht t h
    obtain ⟨D', h1, h2, h3, h4⟩ := ih (j + 1) (by omega) _ ht'
    refine ⟨D', ?_, ?_, ?_, ?_⟩
    · rw [← h1, iq_77_96]
      rcases ht j (by omega) with e | ⟨p, e, p1, p2⟩
      · rw [e]
        have e0 : hz_rf (D (A + 3) j) = .null := by rw [e]; rfl
        simp (disch := first | assumption | omega | exact kd_sea _ _ _ (by assumption) | exact is_bts (by assumption) _ (by omega) | exact kd_bt _ _ _ (is_bts (by assumption) _ (by omega)) | exact kd_109 _ _ _ | exact kd_17 _ _ _ | exact kd_20 _ _ _) only [iq_77_0, iq_77_1, iq_77_2, iq_77_3, iq_77_5, iq_77_8, iq_77_9, iq_77_12, iq_77_13, iq_77_14, iq_77_14n, iq_77_15, iq_77_18, iq_77_19, iq_77_20, iq_77_23, iq_77_26, iq_77_29, iq_77_30, iq_77_30n, iq_77_31, iq_77_34, iq_77_37, iq_77_38, iq_77_38n, iq_77_39, iq_77_42, iq_77_45, iq_77_45n, iq_77_46, iq_77_49, iq_77_50, iq_77_51, iq_77_54, iq_77_55, iq_77_58, iq_77_59, iq_77_62, iq_77_63, iq_77_63n, iq_77_64, iq_77_67, iq_77_70, iq_77_71, iq_77_71n, iq_77_72, iq_77_75, iq_77_78, iq_77_79, iq_77_79n, iq_77_80, iq_77_83, iq_77_86, iq_77_87, iq_77_87n, iq_77_88, iq_77_91, iq_77_94, iq_77_95, iq_77_97, iq_77_99, iq_77_102, iq_77_103, iq_77_106, iq_77_107, iq_77_107n, iq_77_108, iq_77_111, iq_77_112, iq_77_113, iq_77_113n, iq_77_114, iq_77_117, iq_77_121, iq_77_121n, iq_77_122, iq_77_125, iq_77_128, iq_77_128n, iq_77_129, iq_77_132, iq_77_133, iq_77_134, iq_77_137, iq_77_138, iq_77_139, iq_77_142, Option.bind_some, Option.toList, List.cons_append, List.nil_append, ↓reduceIte, nI_1, Int32.reduceLT, Int32.reduceLE, dv_1, dv_2, dv_3, dv_4, dv_6, dv_8, dv_10, dv_20, dv_100, dv_200, dv_500, gf_sea_0, gf_sea_1, gf_sea_2, gf_sea_3, gf_sea_4, gf_sea_5, gf_sea_6, gf_sea_7, gf_sea_8, gf_sea_9, gf_sea_10, kd_sea, pf_sea_1, pf_sea_2, pf_sea_4, pf_sea_5, pf_sea_6, pf_sea_7, pf_sea_9, ld_rul, st_rul, ld_cnt, st_cnt, aa_bs, aa_tx, ru_0, ru_1, ru_2, ru_3, ru_4, su_r0, su_r1, su_r2, nz_lt_14, e0, aN_tx]
      · rw [e]
        have hp0 := p2.1
        have e0 : hz_rf (D (A + 3) j) = .ref p := by rw [e]; exact hz_rf_p (by omega) p1
        simp (disch := first | assumption | omega | exact kd_sea _ _ _ (by assumption) | exact is_bts (by assumption) _ (by omega) | exact kd_bt _ _ _ (is_bts (by assumption) _ (by omega)) | exact kd_109 _ _ _ | exact kd_17 _ _ _ | exact kd_20 _ _ _) only [iq_77_0, iq_77_1, iq_77_2, iq_77_3, iq_77_5, iq_77_8, iq_77_9, iq_77_12, iq_77_13, iq_77_14, iq_77_14n, iq_77_15, iq_77_18, iq_77_19, iq_77_20, iq_77_23, iq_77_26, iq_77_29, iq_77_30, iq_77_30n, iq_77_31, iq_77_34, iq_77_37, iq_77_38, iq_77_38n, iq_77_39, iq_77_42, iq_77_45, iq_77_45n, iq_77_46, iq_77_49, iq_77_50, iq_77_51, iq_77_54, iq_77_55, iq_77_58, iq_77_59, iq_77_62, iq_77_63, iq_77_63n, iq_77_64, iq_77_67, iq_77_70, iq_77_71, iq_77_71n, iq_77_72, iq_77_75, iq_77_78, iq_77_79, iq_77_79n, iq_77_80, iq_77_83, iq_77_86, iq_77_87, iq_77_87n, iq_77_88, iq_77_91, iq_77_94, iq_77_95, iq_77_97, iq_77_99, iq_77_102, iq_77_103, iq_77_106, iq_77_107, iq_77_107n, iq_77_108, iq_77_111, iq_77_112, iq_77_113, iq_77_113n, iq_77_114, iq_77_117, iq_77_121, iq_77_121n, iq_77_122, iq_77_125, iq_77_128, iq_77_128n, iq_77_129, iq_77_132, iq_77_133, iq_77_134, iq_77_137, iq_77_138, iq_77_139, iq_77_142, Option.bind_some, Option.toList, List.cons_append, List.nil_append, ↓reduceIte, nI_1, Int32.reduceLT, Int32.reduceLE, dv_1, dv_2, dv_3, dv_4, dv_6, dv_8, dv_10, dv_20, dv_100, dv_200, dv_500, gf_sea_0, gf_sea_1, gf_sea_2, gf_sea_3, gf_sea_4, gf_sea_5, gf_sea_6, gf_sea_7, gf_sea_8, gf_sea_9, gf_sea_10, kd_sea, pf_sea_1, pf_sea_2, pf_sea_4, pf_sea_5, pf_sea_6, pf_sea_7, pf_sea_9, ld_rul, st_rul, ld_cnt, st_cnt, aa_bs, aa_tx, ru_0, ru_1, ru_2, ru_3, ru_4, su_r0, su_r1, su_r2, nz_lt_14, e0, as_tx R c D hB j (by omega) p2 p1]
    · intro k g1 g2
      by_cases e : k = j
      · subst e
        rw [h3 k (by omega), up_s, up_s]
      · rw [h2 k (by omega) g2, up_n _ _ _ _ (by omega)]
    · intro k g
      rw [h3 k (by omega), up_s, up_n _ _ _ _ (by omega)]
    · intro a g
      rw [h4 a g, up_n _ _ _ _ g]
theorem cc_bec (d : Nat) (L : Nat) (xs : Nat → Int32) (hA : is_sea A) (hB : is_sea B) (hAB : A ≠ B) (ht : ∀ k, k < 9 → D (A + 5 + k) 6 = 0 ∨ D (A + 5 + k) 6 = 1) (htn : tn_ok c D A) : ∃ D', mx_run (d + 1) 77 0 [some (.ref B), some (.ref A), none] [] (hp (sx_rom L xs) c D) = some (none, hp (sx_rom L xs) c D') ∧ (∀ k, k < 9 → ∀ i, i < 7 → D' (B + 5 + k) i = D (A + 5 + k) i) ∧ (D' B 1 = D A 1 ∧ D' B 2 = D A 2 ∧ D' B 4 = D A 4 ∧ D' B 5 = D A 5 ∧ D' B 6 = D A 6 ∧ D' B 7 = D A 7 ∧ D' B 9 = D A 9) ∧ (∀ i, i < 5 → D' (B + 2) i = D (A + 2) i) ∧ (∀ t, t < 14 → D' (B + 3) t = D (A + 3) t) ∧ (∀ k, k < 3 → D' (B + 4) k = D (A + 4) k) ∧ (∀ a, ¬ (B ≤ a ∧ a ≤ B + 13) → D' a = D a) := by
  have b1 : (A = 35 ∨ A = 49 ∨ A = 63) := hA
  have b2 : (B = 35 ∨ B = 49 ∨ B = 63) := hB
  obtain ⟨D1, h1, h2, h3⟩ := cc_bec_1 (sx_rom L xs) c d hA hB hAB 9 0 (by omega) D ht
  have eA : D1 A = D A := h3 A (by omega)
  have eA2 : D1 (A + 2) = D (A + 2) := h3 _ (by omega)
  have eA3 : D1 (A + 3) = D (A + 3) := h3 _ (by omega)
  have eA4 : D1 (A + 4) = D (A + 4) := h3 _ (by omega)
  obtain ⟨F, hF⟩ : ∃ F, F = mx_up (mx_up (mx_up (mx_up (mx_up (mx_up (D1 B) 1 (D A 1)) 2 (D A 2)) 4 (D A 4)) 5 (D A 5)) 6 (D A 6)) 7 (D A 7) := ⟨_, rfl⟩
  obtain ⟨D2, hD2⟩ : ∃ D2, D2 = mx_up (mx_up D1 (B + 2) (sp_mix 5 (D (A + 2)) (D1 (B + 2)))) B F := ⟨_, rfl⟩
  have htn2 : tn_ok c D2 A := by
    intro t h
    rw [hD2, up_n _ _ _ _ (by omega), up_n _ _ _ _ (by omega), eA3]
    exact htn t h
  obtain ⟨D3, g1, g2, g3, g4⟩ := cc_bec_2 (sx_rom L xs) c (d + 1) hA hB hAB 14 0 (by omega) D2 htn2
  have e3A : D3 A = D A := by rw [g4 _ (by omega), hD2, up_n _ _ _ _ (by omega), up_n _ _ _ _ (by omega), eA]
  have e3A4 : D3 (A + 4) = D (A + 4) := by rw [g4 _ (by omega), hD2, up_n _ _ _ _ (by omega), up_n _ _ _ _ (by omega), eA4]
  have e3B : D3 B = F := by rw [g4 _ (by omega), hD2, up_s]
  have l1 : mg_ln (hp (sx_rom L xs) c D1) 1 = some 5 := rfl
  refine ⟨mx_up (mx_up D3 B (mx_up F 9 (D A 9))) (B + 4) (sp_mix 3 (D (A + 4)) (D3 (B + 4))), ?_, ?_, ?_, ?_, ?_, ?_, ?_⟩
  · rw [iq_77_0, iq_77_1]
    refine h1.trans ?_
    have key : mx_run (d + 1) 77 29 [some (.ref B), some (.ref A), some (.int 9)] [] (hp (sx_rom L xs) c D1) = mx_run (d + 1) 77 96 [some (.ref B), some (.ref A), some (.int (nI 0))] [] (hp (sx_rom L xs) c D2) := by
      have l1' : ∀ D', mg_ln (hp (sx_rom L xs) c D') 1 = some 5 := fun _ => rfl
      rw [hD2, hF]
      simp (disch := first | assumption | omega | exact kd_sea _ _ _ (by assumption) | exact is_bts (by assumption) _ (by omega) | exact kd_bt _ _ _ (is_bts (by assumption) _ (by omega)) | exact kd_109 _ _ _ | exact kd_17 _ _ _ | exact kd_20 _ _ _) only [iq_77_0, iq_77_1, iq_77_2, iq_77_3, iq_77_5, iq_77_8, iq_77_9, iq_77_12, iq_77_13, iq_77_14, iq_77_14n, iq_77_15, iq_77_18, iq_77_19, iq_77_20, iq_77_23, iq_77_26, iq_77_29, iq_77_30, iq_77_30n, iq_77_31, iq_77_34, iq_77_37, iq_77_38, iq_77_38n, iq_77_39, iq_77_42, iq_77_45, iq_77_45n, iq_77_46, iq_77_49, iq_77_50, iq_77_51, iq_77_54, iq_77_55, iq_77_58, iq_77_59, iq_77_62, iq_77_63, iq_77_63n, iq_77_64, iq_77_67, iq_77_70, iq_77_71, iq_77_71n, iq_77_72, iq_77_75, iq_77_78, iq_77_79, iq_77_79n, iq_77_80, iq_77_83, iq_77_86, iq_77_87, iq_77_87n, iq_77_88, iq_77_91, iq_77_94, iq_77_95, iq_77_97, iq_77_99, iq_77_102, iq_77_103, iq_77_106, iq_77_107, iq_77_107n, iq_77_108, iq_77_111, iq_77_112, iq_77_113, iq_77_113n, iq_77_114, iq_77_117, iq_77_121, iq_77_121n, iq_77_122, iq_77_125, iq_77_128, iq_77_128n, iq_77_129, iq_77_132, iq_77_133, iq_77_134, iq_77_137, iq_77_138, iq_77_139, iq_77_142, Option.bind_some, Option.toList, List.cons_append, List.nil_append, ↓reduceIte, nI_1, Int32.reduceLT, Int32.reduceLE, dv_1, dv_2, dv_3, dv_4, dv_6, dv_8, dv_10, dv_20, dv_100, dv_200, dv_500, gf_sea_0, gf_sea_1, gf_sea_2, gf_sea_3, gf_sea_4, gf_sea_5, gf_sea_6, gf_sea_7, gf_sea_8, gf_sea_9, gf_sea_10, kd_sea, pf_sea_1, pf_sea_2, pf_sea_4, pf_sea_5, pf_sea_6, pf_sea_7, pf_sea_9, up_s, up_up, up_n, ne_eq, Nat.reduceEqDiff, not_false_eq_true, l1', cp_rul, eA, eA2, nI_0]
      rw [up_cm _ B (B + 2) _ _ (by omega), up_up]
    rw [key, g1]
    simp (disch := first | assumption | omega | exact kd_sea _ _ _ (by assumption) | exact is_bts (by assumption) _ (by omega) | exact kd_bt _ _ _ (is_bts (by assumption) _ (by omega)) | exact kd_109 _ _ _ | exact kd_17 _ _ _ | exact kd_20 _ _ _) only [iq_77_0, iq_77_1, iq_77_2, iq_77_3, iq_77_5, iq_77_8, iq_77_9, iq_77_12, iq_77_13, iq_77_14, iq_77_14n, iq_77_15, iq_77_18, iq_77_19, iq_77_20, iq_77_23, iq_77_26, iq_77_29, iq_77_30, iq_77_30n, iq_77_31, iq_77_34, iq_77_37, iq_77_38, iq_77_38n, iq_77_39, iq_77_42, iq_77_45, iq_77_45n, iq_77_46, iq_77_49, iq_77_50, iq_77_51, iq_77_54, iq_77_55, iq_77_58, iq_77_59, iq_77_62, iq_77_63, iq_77_63n, iq_77_64, iq_77_67, iq_77_70, iq_77_71, iq_77_71n, iq_77_72, iq_77_75, iq_77_78, iq_77_79, iq_77_79n, iq_77_80, iq_77_83, iq_77_86, iq_77_87, iq_77_87n, iq_77_88, iq_77_91, iq_77_94, iq_77_95, iq_77_97, iq_77_99, iq_77_102, iq_77_103, iq_77_106, iq_77_107, iq_77_107n, iq_77_108, iq_77_111, iq_77_112, iq_77_113, iq_77_113n, iq_77_114, iq_77_117, iq_77_120, iq_77_121, iq_77_121n, iq_77_122, iq_77_125, iq_77_128, iq_77_128n, iq_77_129, iq_77_132, iq_77_133, iq_77_134, iq_77_137, iq_77_138, iq_77_139, iq_77_142, Option.bind_some, Option.toList, List.cons_append, List.nil_append, ↓reduceIte, nI_1, Int32.reduceLT, Int32.reduceLE, dv_1, dv_2, dv_3, dv_4, dv_6, dv_8, dv_10, dv_20, dv_100, dv_200, dv_500, gf_sea_0, gf_sea_1, gf_sea_2, gf_sea_3, gf_sea_4, gf_sea_5, gf_sea_6, gf_sea_7, gf_sea_8, gf_sea_9, gf_sea_10, kd_sea, pf_sea_1, pf_sea_2, pf_sea_4, pf_sea_5, pf_sea_6, pf_sea_7, pf_sea_9, up_s, up_up, up_n, ne_eq, Nat.reduceEqDiff, not_false_eq_true, cp_cnt, e3A, e3B, e3A4]
  · intro k hk i hi
    rw [up_n _ _ _ _ (by omega), up_n _ _ _ _ (by omega), g4 _ (by omega), hD2, up_n _ _ _ _ (by omega), up_n _ _ _ _ (by omega), h2 k (by omega) hk i hi]
  · rw [up_n _ _ _ _ (by omega), up_s, hF]
    exact ⟨rfl, rfl, rfl, rfl, rfl, rfl, rfl⟩
  · intro i hi
    rw [up_n _ _ _ _ (by omega), up_n _ _ _ _ (by omega), g4 _ (by omega), hD2, up_n _ _ _ _ (by omega), up_s]
    unfold sp_mix
    rw [if_pos hi]
  · intro t ht
    rw [up_n _ _ _ _ (by omega), up_n _ _ _ _ (by omega), g2 t (by omega) ht, hD2, up_n _ _ _ _ (by omega), up_n _ _ _ _ (by omega), eA3]
  · intro k hk
    rw [up_s]
    unfold sp_mix
    rw [if_pos hk]
  · intro a ha
    rw [up_n _ _ _ _ (by omega), up_n _ _ _ _ (by omega), g4 _ (by omega), hD2, up_n _ _ _ _ (by omega), up_n _ _ _ _ (by omega), h3 _ (by omega)]
variable {n m : Nat} {s : Nat → Int32}
theorem cc_become (d : Nat) (L : Nat) (xs : Nat → Int32) (hA : is_sea A) (hB : is_sea B) (hAB : A ≠ B) (hr : sea_rel c D A s n m) (hv : sv s n m) (htn : tn_ok c D A) : ∃ D', mx_run (d + 1) 77 0 [some (.ref B), some (.ref A), none] [] (hp (sx_rom L xs) c D) = some (none, hp (sx_rom L xs) c D') ∧ sea_rel c D' B s n m ∧ tn_ok c D' B ∧ (∀ a, ¬ (B ≤ a ∧ a ≤ B + 13) → D' a = D a) := by
  have b1 : (A = 35 ∨ A = 49 ∨ A = 63) := hA
  have b2 : (B = 35 ∨ B = 49 ∨ B = 63) := hB
  have hn9 := sv_n9 hv
  have hm14 := sv_m14 hv
  obtain ⟨D', h1, h2, h3, h4, h5, h6, h7⟩ := cc_bec c D d L xs hA hB hAB hr.2.2.2.1 htn
  refine ⟨D', h1, ⟨?_, ?_, ?_, ?_, ?_, ?_⟩, ?_, h7⟩
  · obtain ⟨a1, a2, a3, a4, a5, a6, a7⟩ := h3
    unfold sf_rel
    rw [a1, a2, a3, a4, a5, a6, a7]
    exact hr.1
  · intro i hi
    rw [h4 i hi]
    exact hr.2.1 i hi
  · intro k hk
    unfold bt_rel
    rw [h2 k (by omega) 0 (by omega), h2 k (by omega) 1 (by omega), h2 k (by omega) 2 (by omega), h2 k (by omega) 3 (by omega), h2 k (by omega) 4 (by omega), h2 k (by omega) 5 (by omega), h2 k (by omega) 6 (by omega)]
    exact hr.2.2.1 k hk
  · intro k hk
    rw [h2 k hk 6 (by omega)]
    exact hr.2.2.2.1 k hk
  · intro k hk
    rw [h6 k hk]
    exact hr.2.2.2.2.1 k hk
  · intro t ht
    obtain ⟨p, p1, p2, p3⟩ := hr.2.2.2.2.2 t ht
    exact ⟨p, by rw [h5 t (by omega)]; exact p1, p2, tx_rel_cg p3 (fun a g1 g2 => h7 a (by omega)) (fun _ _ => rfl)⟩
  · intro t ht
    rw [h5 t ht]
    exact htn t ht
