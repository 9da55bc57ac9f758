theorem sp_sh_n (z : Int32) : ∃ u : Nat, u < 2 ^ 24 ∧ sp_sh z = nI u := by
  obtain ⟨u, hu, rfl⟩ : ∃ u : Nat, u < 2 ^ 32 ∧ z = nI u := by
    refine ⟨z.toBitVec.toNat, z.toBitVec.isLt, ?_⟩
    apply Int32.toBitVec_inj.mp
    show z.toBitVec = (Int32.ofNat z.toBitVec.toNat).toBitVec
    rw [Int32.toBitVec_ofNat']
    simp
  refine ⟨u / 2 ^ 8, by omega, ?_⟩
  unfold sp_sh
  exact pk_ushrN hu 8 8 (by decide)
/-- a boat as it begins -/
def bg_row (f : Nat → Int32) (a w t : Int32) : Nat → Int32 := mx_up (mx_up (mx_up (mx_up (mx_up (mx_up (mx_up f 0 (29 + a)) 1 w) 2 0) 3 t) 4 0) 5 0) 6 1
section LN
variable (R : Nat → Option mx_MC) (c : Nat × Nat) (D : hz_D) {B n m : Nat} {s : Nat → Int32}
theorem cc_begin (d a k : Nat) (ha : is_bt a) (hk : k ≤ 5) (w t : Int32) : mx_run d 18 0 [some (.ref a), some (.ref (29 + k)), some (.int w), some (.int t)] [] (hp R c D) = some (none, hp R c (mx_up D a (bg_row (D a) (nI k) w t))) := by
  have i1 : mx_tcOk 1 (.int 1) = true := rfl
  unfold bg_row
  simp (disch := first | assumption | omega | exact kd_sea _ _ _ (by assumption) | exact is_bts (by assumption) _ (by omega) | exact kd_bt _ _ _ (is_bts (by assumption) _ (by omega)) | exact kd_109 _ _ _ | exact kd_17 _ _ _ | exact kd_20 _ _ _) only [iq_18_0, iq_18_1, iq_18_1n, iq_18_2, iq_18_5, iq_18_6, iq_18_7, iq_18_10, iq_18_11, iq_18_12, iq_18_15, iq_18_16, iq_18_17, iq_18_20, iq_18_21, iq_18_22, iq_18_25, iq_18_26, iq_18_27, iq_18_30, iq_18_31, iq_18_32, iq_18_35, Option.bind_some, Option.toList, List.cons_append, List.nil_append, ↓reduceIte, nI_1, Int32.reduceLT, Int32.reduceLE, dv_1, dv_2, dv_3, dv_4, dv_6, dv_8, dv_10, dv_20, dv_100, dv_200, dv_500, gf_bt_0, gf_bt_1, gf_bt_2, gf_bt_3, gf_bt_4, gf_bt_5, gf_bt_6, kd_bt, pf_bt_0, pf_bt_1, pf_bt_2, pf_bt_3, pf_bt_4, pf_bt_5, pf_bt_6, pf_bt_0k, up_s, up_up, up_n, ne_eq, Nat.reduceEqDiff, not_false_eq_true]
theorem cc_launch (d k : Nat) (hB : is_sea B) (hn : D B 1 = nI n) (hn9 : n < 9) (hk : k ≤ 5) (w t : Int32) : mx_run (d + 1) 17 0 [some (.ref B), some (.ref (29 + k)), some (.int w), some (.int t)] [] (hp R c D) = some (none, hp R c (mx_up (mx_up D (B + 5 + n) (bg_row (D (B + 5 + n)) (nI k) w t)) B (mx_up (D B) 1 (nI (n + 1))))) := by
  have hb : (B = 35 ∨ B = 49 ∨ B = 63) := hB
  have bg := cc_begin R c D d (B + 5 + n) k (is_bts hB n hn9) hk w t
  simp (disch := first | assumption | omega | exact kd_sea _ _ _ (by assumption) | exact is_bts (by assumption) _ (by omega) | exact kd_bt _ _ _ (is_bts (by assumption) _ (by omega)) | exact kd_109 _ _ _ | exact kd_17 _ _ _ | exact kd_20 _ _ _) only [iq_17_0, iq_17_1, iq_17_4, iq_17_6, iq_17_9, iq_17_10, iq_17_13, iq_17_14, iq_17_17, iq_17_18, iq_17_18n, iq_17_19, iq_17_20, iq_17_21, iq_17_24, iq_17_25, iq_17_26, iq_17_29, iq_17_30, iq_17_31, iq_17_34, Option.bind_some, Option.toList, List.cons_append, List.nil_append, ↓reduceIte, nI_1, Int32.reduceLT, Int32.reduceLE, dv_1, dv_2, dv_3, dv_4, dv_6, dv_8, dv_10, dv_20, dv_100, dv_200, dv_500, gf_sea_0, gf_sea_1, gf_sea_2, gf_sea_3, gf_sea_4, gf_sea_5, gf_sea_6, gf_sea_7, gf_sea_8, gf_sea_9, gf_sea_10, kd_sea, pf_sea_1, pf_sea_2, pf_sea_4, pf_sea_5, pf_sea_6, pf_sea_7, pf_sea_9, ld_rul, st_rul, ld_cnt, st_cnt, aa_bs, aa_tx, ru_0, ru_1, ru_2, ru_3, ru_4, su_r0, su_r1, su_r2, hn, nz_lt_9, bg, up_s, up_up, up_n, ne_eq, Nat.reduceEqDiff, not_false_eq_true]
theorem su_com (hB : is_sea B) (hn9 : n < 9) (hr : sea_rel c D B s n m) (k : Nat) (hk : k ≤ 5) (w t : Int32) : sea_rel c (mx_up (mx_up D (B + 5 + n) (bg_row (D (B + 5 + n)) (nI k) w t)) B (mx_up (D B) 1 (nI (n + 1)))) B (sp_com s n (nI k) w t) (n + 1) m := by
  have hb : (B = 35 ∨ B = 49 ∨ B = 63) := hB
  have cs : ∀ i, i ≠ 0 → (∀ j, j < 7 → i ≠ 12 + 7 * n + j) → sp_com s n (nI k) w t i = s i := by
    intro i h0 h1
    have g0 := h1 0 (by omega)
    have g1 := h1 1 (by omega)
    have g2 := h1 2 (by omega)
    have g3 := h1 3 (by omega)
    have g4 := h1 4 (by omega)
    have g5 := h1 5 (by omega)
    have g6 := h1 6 (by omega)
    unfold sp_com
    rw [up_n _ _ _ _ g6, up_n _ _ _ _ g5, up_n _ _ _ _ g4, up_n _ _ _ _ g3, up_n _ _ _ _ g2, up_n _ _ _ _ g1, up_n _ _ _ _ g0, up_n _ _ _ _ h0]
  have c0 : sp_com s n (nI k) w t 0 = nI (n + 1) := by
    unfold sp_com
    rw [up_n _ _ _ _ (by omega), up_n _ _ _ _ (by omega), up_n _ _ _ _ (by omega), up_n _ _ _ _ (by omega), up_n _ _ _ _ (by omega), up_n _ _ _ _ (by omega), up_n _ _ _ _ (by omega), up_s]
  have h75 : ∀ i, 75 ≤ i → sp_com s n (nI k) w t i = s i := fun i hi => cs i (by omega) (fun j hj => by omega)
  obtain ⟨⟨f1, f2, f4, f5, f6, f7, f9⟩, h2, h3, h4, h5, h6⟩ := hr
  refine ⟨⟨?_, ?_, ?_, ?_, ?_, ?_, ?_⟩, ?_, ?_, ?_, ?_, ?_⟩
  · rw [up_s, up_s, c0]
  · rw [up_s, up_n _ _ _ _ (by omega), cs 3 (by omega) (fun j hj => by omega)]; exact f2
  · rw [up_s, up_n _ _ _ _ (by omega), cs 4 (by omega) (fun j hj => by omega)]; exact f4
  · rw [up_s, up_n _ _ _ _ (by omega), cs 5 (by omega) (fun j hj => by omega)]; exact f5
  · rw [up_s, up_n _ _ _ _ (by omega), cs 2 (by omega) (fun j hj => by omega)]; exact f6
  · rw [up_s, up_n _ _ _ _ (by omega), cs 6 (by omega) (fun j hj => by omega)]; exact f7
  · rw [up_s, up_n _ _ _ _ (by omega), cs 1 (by omega) (fun j hj => by omega)]; exact f9
  · intro i hi
    rw [up_n _ _ _ _ (by omega), up_n _ _ _ _ (by omega), cs _ (by omega) (fun j hj => by omega)]
    exact h2 i hi
  · intro i hi
    by_cases e : i = n
    · subst e
      unfold bt_rel
      rw [up_n _ _ _ _ (by omega), up_s]
      unfold bg_row sp_com
      refine ⟨?_, ?_, ?_, ?_, ?_, ?_, ?_⟩
      · show (29 + nI k : Int32) = _
        rw [up_n _ _ _ _ (by omega), up_n _ _ _ _ (by omega), up_n _ _ _ _ (by omega), up_n _ _ _ _ (by omega), up_n _ _ _ _ (by omega), up_n _ _ _ _ (by omega), up_s]
      · show w = _
        rw [up_n _ _ _ _ (by omega), up_n _ _ _ _ (by omega), up_n _ _ _ _ (by omega), up_n _ _ _ _ (by omega), up_n _ _ _ _ (by omega), up_s]
      · show (0 : Int32) = _
        rw [up_n _ _ _ _ (by omega), up_n _ _ _ _ (by omega), up_n _ _ _ _ (by omega), up_n _ _ _ _ (by omega), up_s]
      · show t = _
        rw [up_n _ _ _ _ (by omega), up_n _ _ _ _ (by omega), up_n _ _ _ _ (by omega), up_s]
      · show (0 : Int32) = _
        rw [up_n _ _ _ _ (by omega), up_n _ _ _ _ (by omega), up_s]
      · show (0 : Int32) = _
        rw [up_s]
      · show (1 : Int32) = _
        rw [up_n _ _ _ _ (by omega), up_s]
    · unfold bt_rel
      rw [up_n _ _ _ _ (by omega), up_n _ _ _ _ (by omega), cs _ (by omega) (fun j hj => by omega), cs _ (by omega) (fun j hj => by omega), cs _ (by omega) (fun j hj => by omega), cs _ (by omega) (fun j hj => by omega), cs _ (by omega) (fun j hj => by omega), cs _ (by omega) (fun j hj => by omega), cs _ (by omega) (fun j hj => by omega)]
      exact h3 i (by omega)
  · intro i hi
    by_cases e : i = n
    · subst e
      rw [up_n _ _ _ _ (by omega), up_s]
      exact Or.inr rfl
    · rw [up_n _ _ _ _ (by omega), up_n _ _ _ _ (by omega)]
      exact h4 i hi
  · intro i hi
    rw [up_n _ _ _ _ (by omega), up_n _ _ _ _ (by omega), sp_cnt_cg h75]
    exact h5 i hi
  · intro i hi
    obtain ⟨p, p1, p2, p3⟩ := h6 i hi
    exact ⟨p, by rw [up_n _ _ _ _ (by omega), up_n _ _ _ _ (by omega)]; exact p1, p2, tx_rel_cg p3 (fun a g1 g2 => by rw [up_n _ _ _ _ (by omega), up_n _ _ _ _ (by omega)]) h75⟩
theorem sv_com (hv : sv s n m) (hn9 : n < 9) (k w : Nat) (hk : k ≤ 5) (hw : w ≤ 50) (t : Int32) : sv (sp_com s n (nI k) (nI w) t) (n + 1) m := by
  have cs : ∀ i, i ≠ 0 → (∀ j, j < 7 → i ≠ 12 + 7 * n + j) → sp_com s n (nI k) (nI w) t i = s i := by
    intro i h0 h1
    have g0 := h1 0 (by omega)
    have g1 := h1 1 (by omega)
    have g2 := h1 2 (by omega)
    have g3 := h1 3 (by omega)
    have g4 := h1 4 (by omega)
    have g5 := h1 5 (by omega)
    have g6 := h1 6 (by omega)
    unfold sp_com
    rw [up_n _ _ _ _ g6, up_n _ _ _ _ g5, up_n _ _ _ _ g4, up_n _ _ _ _ g3, up_n _ _ _ _ g2, up_n _ _ _ _ g1, up_n _ _ _ _ g0, up_n _ _ _ _ h0]
  obtain ⟨h1, h2, h3, h4, ⟨q, q1, q2, q3, q4⟩, h6, h7⟩ := hv
  refine ⟨?_, by omega, by rw [cs 1 (by omega) (fun j hj => by omega)]; exact h3, h4, ⟨q, by rw [cs 3 (by omega) (fun j hj => by omega)]; exact q1, q2, fun _ => by omega, fun z => by omega⟩, ?_, fun i hi => tx_ok_cg (fun j hj => cs j (by omega) (fun j hj => by omega)) (h7 i hi)⟩
  · unfold sp_com
    rw [up_n _ _ _ _ (by omega), up_n _ _ _ _ (by omega), up_n _ _ _ _ (by omega), up_n _ _ _ _ (by omega), up_n _ _ _ _ (by omega), up_n _ _ _ _ (by omega), up_n _ _ _ _ (by omega), up_s]
  · intro i hi
    unfold sv_b
    by_cases e : i = n
    · subst e
      refine ⟨⟨k, hk, ?_⟩, ⟨w, hw, ?_⟩, ⟨0, by omega, ?_⟩, Or.inr ?_⟩
      · unfold sp_com
        rw [up_n _ _ _ _ (by omega), up_n _ _ _ _ (by omega), up_n _ _ _ _ (by omega), up_n _ _ _ _ (by omega), up_n _ _ _ _ (by omega), up_n _ _ _ _ (by omega), up_s]
      · unfold sp_com
        rw [up_n _ _ _ _ (by omega), up_n _ _ _ _ (by omega), up_n _ _ _ _ (by omega), up_n _ _ _ _ (by omega), up_n _ _ _ _ (by omega), up_s]
      · unfold sp_com
        rw [up_n _ _ _ _ (by omega), up_n _ _ _ _ (by omega), up_n _ _ _ _ (by omega), up_n _ _ _ _ (by omega), up_s]
        rfl
      · unfold sp_com
        rw [up_n _ _ _ _ (by omega), up_s]
    · rw [cs _ (by omega) (fun j hj => by omega), cs _ (by omega) (fun j hj => by omega), cs _ (by omega) (fun j hj => by omega), cs _ (by omega) (fun j hj => by omega)]
      exact h6 i (by omega)
theorem h2_com (kd w t : Int32) : sp_com s n kd w t 2 = s 2 := by
  unfold sp_com
  rw [up_n _ _ _ _ (by omega), up_n _ _ _ _ (by omega), up_n _ _ _ _ (by omega), up_n _ _ _ _ (by omega), up_n _ _ _ _ (by omega), up_n _ _ _ _ (by omega), up_n _ _ _ _ (by omega), up_n _ _ _ _ (by omega)]
theorem com_0 (kd w t : Int32) : sp_com s n kd w t 0 = nI (n + 1) := by
  unfold sp_com
  rw [up_n _ _ _ _ (by omega), up_n _ _ _ _ (by omega), up_n _ _ _ _ (by omega), up_n _ _ _ _ (by omega), up_n _ _ _ _ (by omega), up_n _ _ _ _ (by omega), up_n _ _ _ _ (by omega), up_s]
end LN
variable {d L : Nat} {xs : Nat → Int32} {c : Nat × Nat} {D : hz_D}
theorem ap_boat (hI : Inv c D) (k w t : Int32) : ap d L xs c D 13 [some (.ref 17), some (.int k), some (.int w), some (.int t)] 173 [some (.ref 109), some (.int k), some (.int w), some (.int t)] := by
  obtain ⟨h0, ⟨n, m, hr, hv, htn, hh⟩, -⟩ := id hI
  have h35 := is_s35
  have hn9 := sv_n9 hv
  have hn : D 35 1 = nI n := hr.1.1.trans (sv_n hv)
  have hn' := sv_n hv
  by_cases hk : ¬ k < 0 ∧ ¬ 5 < k
  · have pk := eq_true hk
    by_cases hw : ¬ w < 1 ∧ ¬ 50 < w
    · have pw := eq_true hw
      by_cases ht : ¬ t < 0 ∧ ¬ 9999 < t
      · have pt := eq_true ht
        by_cases e : n = 9
        · have e9 : nI n = 9 := by rw [e]; rfl
          refine ap_c (-1000000003) D D ?_ ?_ hI
          · simp (disch := first | assumption | omega | exact kd_sea _ _ _ (by assumption) | exact is_bts (by assumption) _ (by omega) | exact kd_bt _ _ _ (is_bts (by assumption) _ (by omega)) | exact kd_109 _ _ _ | exact kd_17 _ _ _ | exact kd_20 _ _ _) only [iq_13_0, iq_13_1, iq_13_4, iq_13_7, iq_13_8, iq_13_11, iq_13_14, iq_13_15, iq_13_18, iq_13_21, iq_13_23, iq_13_24, iq_13_25, iq_13_28, iq_13_31, iq_13_33, iq_13_36, iq_13_38, iq_13_39, iq_13_40, iq_13_43, iq_13_44, iq_13_47, iq_13_48, iq_13_49, iq_13_50, iq_13_51, iq_13_54, iq_13_55, iq_13_58, iq_13_61, iq_13_62, iq_13_63, gf_17_0, gf_17_1, gf_17_2, gf_17_3, gf_17_4, gf_17_5, gf_17_6, gf_17_7, gf_17_8, gf_17_9, gf_17_10, gf_17_11, gf_17_12, gf_17_13, kd_17, pf_17_4, pf_17_13, gf_sea_0, gf_sea_1, gf_sea_2, gf_sea_3, gf_sea_4, gf_sea_5, gf_sea_6, gf_sea_7, gf_sea_8, gf_sea_9, gf_sea_10, kd_sea, pf_sea_1, pf_sea_2, pf_sea_4, pf_sea_5, pf_sea_6, pf_sea_7, pf_sea_9, Option.bind_some, Option.toList, List.cons_append, List.nil_append, ↓reduceIte, nI_1, Int32.reduceLT, Int32.reduceLE, dv_1, dv_2, dv_3, dv_4, dv_6, dv_8, dv_10, dv_20, dv_100, dv_200, dv_500, Bool.false_eq_true, ci_isKind, ci_isWeight, ci_isPlace, pk, pw, pt, hn, nz_nlt_9]
          · simp (disch := first | assumption | omega | exact kd_sea _ _ _ (by assumption) | exact is_bts (by assumption) _ (by omega) | exact kd_bt _ _ _ (is_bts (by assumption) _ (by omega)) | exact kd_109 _ _ _ | exact kd_17 _ _ _ | exact kd_20 _ _ _) only [iq_173_0, iq_173_1, iq_173_2, iq_173_3, iq_173_6, iq_173_9, iq_173_12, iq_173_13, iq_173_14, iq_173_15, iq_173_18, iq_173_21, iq_173_24, iq_173_25, iq_173_26, iq_173_27, iq_173_30, iq_173_33, iq_173_36, iq_173_38, iq_173_39, iq_173_40, iq_173_43, iq_173_44, iq_173_45, iq_173_47, iq_173_50, iq_173_52, iq_173_53, iq_173_54, iq_173_55, iq_173_56, iq_173_57, iq_173_60, iq_173_61, iq_173_64, iq_173_65, iq_173_66, iq_173_67, iq_173_68, gf_109_0, gf_109_1, gf_109_2, gf_109_3, gf_109_4, gf_109_5, gf_109_6, gf_109_7, gf_109_8, gf_109_9, gf_109_10, gf_109_11, gf_109_12, gf_109_13, gf_109_14, gf_109_15, gf_109_16, gf_109_17, gf_109_18, gf_109_19, gf_109_20, gf_109_21, gf_109_22, gf_109_23, gf_109_24, gf_109_25, gf_109_26, gf_109_27, gf_109_28, gf_109_29, gf_109_30, kd_109, ld_110_0, st_110_0, ld_110_1, st_110_1, ld_110_2, st_110_2, ld_110_3, st_110_3, ld_110_4, st_110_4, ld_110_5, st_110_5, ld_110_6, st_110_6, ld_110_7, st_110_7, ld_110_8, st_110_8, ld_110_9, st_110_9, ld_110_10, st_110_10, ld_110_11, st_110_11, ld_110_12, st_110_12, ld_110_75, st_110_75, Option.bind_some, Option.toList, List.cons_append, List.nil_append, ↓reduceIte, nI_1, Int32.reduceLT, Int32.reduceLE, dv_1, dv_2, dv_3, dv_4, dv_6, dv_8, dv_10, dv_20, dv_100, dv_200, dv_500, Bool.false_eq_true, rc_ee, rc_ge_0, rc_le_0, rc_ge_1, rc_le_1, rc_ge_2, rc_le_2, rc_ge_3, rc_le_3, rc_ge_4, rc_le_4, rc_ge_5, rc_le_5, rc_ge_9, rc_le_9, rc_ge_30, rc_le_30, rc_ge_40, rc_le_40, rc_ge_48, rc_le_48, rc_ge_50, rc_le_50, rc_ge_57, rc_le_57, rc_ge_60, rc_le_60, rc_ge_97, rc_le_97, rc_ge_100, rc_le_100, rc_ge_122, rc_le_122, rc_ge_9999, rc_le_9999, rc_ge_99999, rc_le_99999, rc_ge_m99999, rc_le_m99999, rc_ge_m1, rc_le_m1, pk, pw, pt, hn', e9]
        · have e9 : (nI n = 9) = False := nz_ne_9 e (by omega)
          obtain ⟨k', hk', rfl⟩ := i3_rg 5 (by omega) hk
          obtain ⟨w', -, hw', rfl⟩ := i3_rg1 50 (by omega) hw
          have r1 := su_com c D h35 (by omega) hr k' hk' (nI w') t
          have v1 := sv_com hv (by omega) k' w' hk' hw' t
          have ln := cc_launch (sx_rom L xs) c D (d + 98) k' h35 hn (by omega) hk' (nI w') t
          have m1 : nI (n + 1) - 1 = nI n := nI_pred n
          have cm := rc_comes (sx_rom L xs) c (mx_up (mx_up D (35 + 5 + n) (bg_row (D (35 + 5 + n)) (nI k') (nI w') t)) 35 (mx_up (D 35) 1 (nI (n + 1)))) (d + 98) (nI k') (nI w') t n (by rw [up_n _ _ _ _ (by omega), up_n _ _ _ _ (by omega)]; exact hn') (by omega)
          rw [up_n _ _ _ 110 (by omega), up_n _ _ _ 110 (by omega)] at cm
          refine ap_c (nI n) (mx_up (mx_up D (35 + 5 + n) (bg_row (D (35 + 5 + n)) (nI k') (nI w') t)) 35 (mx_up (D 35) 1 (nI (n + 1)))) (mx_up (mx_up (mx_up D (35 + 5 + n) (bg_row (D (35 + 5 + n)) (nI k') (nI w') t)) 35 (mx_up (D 35) 1 (nI (n + 1)))) 110 (sp_com (D 110) n (nI k') (nI w') t)) ?_ ?_ (Inv_sea1 hI (I_mk r1 v1 (fun t ht => ?_) ?_ (up_s _ _ _) (fun a ha => up_n _ _ _ _ (by omega))) (fun a ha => by rw [up_n _ _ _ _ (by omega), up_n _ _ _ _ (by omega), up_n _ _ _ _ (by omega)]))
          · simp (disch := first | assumption | omega | exact kd_sea _ _ _ (by assumption) | exact is_bts (by assumption) _ (by omega) | exact kd_bt _ _ _ (is_bts (by assumption) _ (by omega)) | exact kd_109 _ _ _ | exact kd_17 _ _ _ | exact kd_20 _ _ _) only [iq_13_0, iq_13_1, iq_13_4, iq_13_7, iq_13_8, iq_13_11, iq_13_14, iq_13_15, iq_13_18, iq_13_21, iq_13_23, iq_13_24, iq_13_25, iq_13_28, iq_13_31, iq_13_33, iq_13_36, iq_13_38, iq_13_39, iq_13_40, iq_13_43, iq_13_44, iq_13_47, iq_13_48, iq_13_49, iq_13_50, iq_13_51, iq_13_54, iq_13_55, iq_13_58, iq_13_61, iq_13_62, iq_13_63, gf_17_0, gf_17_1, gf_17_2, gf_17_3, gf_17_4, gf_17_5, gf_17_6, gf_17_7, gf_17_8, gf_17_9, gf_17_10, gf_17_11, gf_17_12, gf_17_13, kd_17, pf_17_4, pf_17_13, gf_sea_0, gf_sea_1, gf_sea_2, gf_sea_3, gf_sea_4, gf_sea_5, gf_sea_6, gf_sea_7, gf_sea_8, gf_sea_9, gf_sea_10, kd_sea, pf_sea_1, pf_sea_2, pf_sea_4, pf_sea_5, pf_sea_6, pf_sea_7, pf_sea_9, Option.bind_some, Option.toList, List.cons_append, List.nil_append, ↓reduceIte, nI_1, Int32.reduceLT, Int32.reduceLE, dv_1, dv_2, dv_3, dv_4, dv_6, dv_8, dv_10, dv_20, dv_100, dv_200, dv_500, Bool.false_eq_true, up_s, up_up, up_n, ne_eq, Nat.reduceEqDiff, not_false_eq_true, ci_isKind, ci_isWeight, ci_isPlace, pk, pw, pt, hn, nz_lt_9, aa_18, ln, m1]
          · simp (disch := first | assumption | omega | exact kd_sea _ _ _ (by assumption) | exact is_bts (by assumption) _ (by omega) | exact kd_bt _ _ _ (is_bts (by assumption) _ (by omega)) | exact kd_109 _ _ _ | exact kd_17 _ _ _ | exact kd_20 _ _ _) only [iq_173_0, iq_173_1, iq_173_2, iq_173_3, iq_173_6, iq_173_9, iq_173_12, iq_173_13, iq_173_14, iq_173_15, iq_173_18, iq_173_21, iq_173_24, iq_173_25, iq_173_26, iq_173_27, iq_173_30, iq_173_33, iq_173_36, iq_173_38, iq_173_39, iq_173_40, iq_173_43, iq_173_44, iq_173_45, iq_173_47, iq_173_50, iq_173_52, iq_173_53, iq_173_54, iq_173_55, iq_173_56, iq_173_57, iq_173_60, iq_173_61, iq_173_64, iq_173_65, iq_173_66, iq_173_67, iq_173_68, gf_109_0, gf_109_1, gf_109_2, gf_109_3, gf_109_4, gf_109_5, gf_109_6, gf_109_7, gf_109_8, gf_109_9, gf_109_10, gf_109_11, gf_109_12, gf_109_13, gf_109_14, gf_109_15, gf_109_16, gf_109_17, gf_109_18, gf_109_19, gf_109_20, gf_109_21, gf_109_22, gf_109_23, gf_109_24, gf_109_25, gf_109_26, gf_109_27, gf_109_28, gf_109_29, gf_109_30, kd_109, ld_110_0, st_110_0, ld_110_1, st_110_1, ld_110_2, st_110_2, ld_110_3, st_110_3, ld_110_4, st_110_4, ld_110_5, st_110_5, ld_110_6, st_110_6, ld_110_7, st_110_7, ld_110_8, st_110_8, ld_110_9, st_110_9, ld_110_10, st_110_10, ld_110_11, st_110_11, ld_110_12, st_110_12, ld_110_75, st_110_75, Option.bind_some, Option.toList, List.cons_append, List.nil_append, ↓reduceIte, nI_1, Int32.reduceLT, Int32.reduceLE, dv_1, dv_2, dv_3, dv_4, dv_6, dv_8, dv_10, dv_20, dv_100, dv_200, dv_500, Bool.false_eq_true, rc_ee, rc_ge_0, rc_le_0, rc_ge_1, rc_le_1, rc_ge_2, rc_le_2, rc_ge_3, rc_le_3, rc_ge_4, rc_le_4, rc_ge_5, rc_le_5, rc_ge_9, rc_le_9, rc_ge_30, rc_le_30, rc_ge_40, rc_le_40, rc_ge_48, rc_le_48, rc_ge_50, rc_le_50, rc_ge_57, rc_le_57, rc_ge_60, rc_le_60, rc_ge_97, rc_le_97, rc_ge_100, rc_le_100, rc_ge_122, rc_le_122, rc_ge_9999, rc_le_9999, rc_ge_99999, rc_le_99999, rc_ge_m99999, rc_le_m99999, rc_ge_m1, rc_le_m1, up_s, up_up, up_n, ne_eq, Nat.reduceEqDiff, not_false_eq_true, pk, pw, pt, hn', e9, cm, com_0, m1]
          · rw [up_n _ _ _ _ (by omega), up_n _ _ _ _ (by omega)]
            exact htn t ht
          · rw [h2_com]
            exact hh
      · have pt := eq_false ht
        refine ap_c (-1000000001) D D ?_ ?_ hI
        · simp (disch := first | assumption | omega | exact kd_sea _ _ _ (by assumption) | exact is_bts (by assumption) _ (by omega) | exact kd_bt _ _ _ (is_bts (by assumption) _ (by omega)) | exact kd_109 _ _ _ | exact kd_17 _ _ _ | exact kd_20 _ _ _) only [iq_13_0, iq_13_1, iq_13_4, iq_13_7, iq_13_8, iq_13_11, iq_13_14, iq_13_15, iq_13_18, iq_13_21, iq_13_23, iq_13_24, iq_13_25, iq_13_28, iq_13_31, iq_13_33, iq_13_36, iq_13_38, iq_13_39, iq_13_40, iq_13_43, iq_13_44, iq_13_47, iq_13_48, iq_13_49, iq_13_50, iq_13_51, iq_13_54, iq_13_55, iq_13_58, iq_13_61, iq_13_62, iq_13_63, gf_17_0, gf_17_1, gf_17_2, gf_17_3, gf_17_4, gf_17_5, gf_17_6, gf_17_7, gf_17_8, gf_17_9, gf_17_10, gf_17_11, gf_17_12, gf_17_13, kd_17, pf_17_4, pf_17_13, gf_sea_0, gf_sea_1, gf_sea_2, gf_sea_3, gf_sea_4, gf_sea_5, gf_sea_6, gf_sea_7, gf_sea_8, gf_sea_9, gf_sea_10, kd_sea, pf_sea_1, pf_sea_2, pf_sea_4, pf_sea_5, pf_sea_6, pf_sea_7, pf_sea_9, Option.bind_some, Option.toList, List.cons_append, List.nil_append, ↓reduceIte, nI_1, Int32.reduceLT, Int32.reduceLE, dv_1, dv_2, dv_3, dv_4, dv_6, dv_8, dv_10, dv_20, dv_100, dv_200, dv_500, Bool.false_eq_true, ci_isKind, ci_isWeight, ci_isPlace, pk, pw, pt]
        · simp (disch := first | assumption | omega | exact kd_sea _ _ _ (by assumption) | exact is_bts (by assumption) _ (by omega) | exact kd_bt _ _ _ (is_bts (by assumption) _ (by omega)) | exact kd_109 _ _ _ | exact kd_17 _ _ _ | exact kd_20 _ _ _) only [iq_173_0, iq_173_1, iq_173_2, iq_173_3, iq_173_6, iq_173_9, iq_173_12, iq_173_13, iq_173_14, iq_173_15, iq_173_18, iq_173_21, iq_173_24, iq_173_25, iq_173_26, iq_173_27, iq_173_30, iq_173_33, iq_173_36, iq_173_38, iq_173_39, iq_173_40, iq_173_43, iq_173_44, iq_173_45, iq_173_47, iq_173_50, iq_173_52, iq_173_53, iq_173_54, iq_173_55, iq_173_56, iq_173_57, iq_173_60, iq_173_61, iq_173_64, iq_173_65, iq_173_66, iq_173_67, iq_173_68, gf_109_0, gf_109_1, gf_109_2, gf_109_3, gf_109_4, gf_109_5, gf_109_6, gf_109_7, gf_109_8, gf_109_9, gf_109_10, gf_109_11, gf_109_12, gf_109_13, gf_109_14, gf_109_15, gf_109_16, gf_109_17, gf_109_18, gf_109_19, gf_109_20, gf_109_21, gf_109_22, gf_109_23, gf_109_24, gf_109_25, gf_109_26, gf_109_27, gf_109_28, gf_109_29, gf_109_30, kd_109, ld_110_0, st_110_0, ld_110_1, st_110_1, ld_110_2, st_110_2, ld_110_3, st_110_3, ld_110_4, st_110_4, ld_110_5, st_110_5, ld_110_6, st_110_6, ld_110_7, st_110_7, ld_110_8, st_110_8, ld_110_9, st_110_9, ld_110_10, st_110_10, ld_110_11, st_110_11, ld_110_12, st_110_12, ld_110_75, st_110_75, Option.bind_some, Option.toList, List.cons_append, List.nil_append, ↓reduceIte, nI_1, Int32.reduceLT, Int32.reduceLE, dv_1, dv_2, dv_3, dv_4, dv_6, dv_8, dv_10, dv_20, dv_100, dv_200, dv_500, Bool.false_eq_true, rc_ee, rc_ge_0, rc_le_0, rc_ge_1, rc_le_1, rc_ge_2, rc_le_2, rc_ge_3, rc_le_3, rc_ge_4, rc_le_4, rc_ge_5, rc_le_5, rc_ge_9, rc_le_9, rc_ge_30, rc_le_30, rc_ge_40, rc_le_40, rc_ge_48, rc_le_48, rc_ge_50, rc_le_50, rc_ge_57, rc_le_57, rc_ge_60, rc_le_60, rc_ge_97, rc_le_97, rc_ge_100, rc_le_100, rc_ge_122, rc_le_122, rc_ge_9999, rc_le_9999, rc_ge_99999, rc_le_99999, rc_ge_m99999, rc_le_m99999, rc_ge_m1, rc_le_m1, pk, pw, pt]
    · have pw := eq_false hw
      refine ap_c (-1000000001) D D ?_ ?_ hI
      · simp (disch := first | assumption | omega | exact kd_sea _ _ _ (by assumption) | exact is_bts (by assumption) _ (by omega) | exact kd_bt _ _ _ (is_bts (by assumption) _ (by omega)) | exact kd_109 _ _ _ | exact kd_17 _ _ _ | exact kd_20 _ _ _) only [iq_13_0, iq_13_1, iq_13_4, iq_13_7, iq_13_8, iq_13_11, iq_13_14, iq_13_15, iq_13_18, iq_13_21, iq_13_23, iq_13_24, iq_13_25, iq_13_28, iq_13_31, iq_13_33, iq_13_36, iq_13_38, iq_13_39, iq_13_40, iq_13_43, iq_13_44, iq_13_47, iq_13_48, iq_13_49, iq_13_50, iq_13_51, iq_13_54, iq_13_55, iq_13_58, iq_13_61, iq_13_62, iq_13_63, gf_17_0, gf_17_1, gf_17_2, gf_17_3, gf_17_4, gf_17_5, gf_17_6, gf_17_7, gf_17_8, gf_17_9, gf_17_10, gf_17_11, gf_17_12, gf_17_13, kd_17, pf_17_4, pf_17_13, gf_sea_0, gf_sea_1, gf_sea_2, gf_sea_3, gf_sea_4, gf_sea_5, gf_sea_6, gf_sea_7, gf_sea_8, gf_sea_9, gf_sea_10, kd_sea, pf_sea_1, pf_sea_2, pf_sea_4, pf_sea_5, pf_sea_6, pf_sea_7, pf_sea_9, Option.bind_some, Option.toList, List.cons_append, List.nil_append, ↓reduceIte, nI_1, Int32.reduceLT, Int32.reduceLE, dv_1, dv_2, dv_3, dv_4, dv_6, dv_8, dv_10, dv_20, dv_100, dv_200, dv_500, Bool.false_eq_true, ci_isKind, ci_isWeight, pk, pw]
      · simp (disch := first | assumption | omega | exact kd_sea _ _ _ (by assumption) | exact is_bts (by assumption) _ (by omega) | exact kd_bt _ _ _ (is_bts (by assumption) _ (by omega)) | exact kd_109 _ _ _ | exact kd_17 _ _ _ | exact kd_20 _ _ _) only [iq_173_0, iq_173_1, iq_173_2, iq_173_3, iq_173_6, iq_173_9, iq_173_12, iq_173_13, iq_173_14, iq_173_15, iq_173_18, iq_173_21, iq_173_24, iq_173_25, iq_173_26, iq_173_27, iq_173_30, iq_173_33, iq_173_36, iq_173_38, iq_173_39, iq_173_40, iq_173_43, iq_173_44, iq_173_45, iq_173_47, iq_173_50, iq_173_52, iq_173_53, iq_173_54, iq_173_55, iq_173_56, iq_173_57, iq_173_60, iq_173_61, iq_173_64, iq_173_65, iq_173_66, iq_173_67, iq_173_68, gf_109_0, gf_109_1, gf_109_2, gf_109_3, gf_109_4, gf_109_5, gf_109_6, gf_109_7, gf_109_8, gf_109_9, gf_109_10, gf_109_11, gf_109_12, gf_109_13, gf_109_14, gf_109_15, gf_109_16, gf_109_17, gf_109_18, gf_109_19, gf_109_20, gf_109_21, gf_109_22, gf_109_23, gf_109_24, gf_109_25, gf_109_26, gf_109_27, gf_109_28, gf_109_29, gf_109_30, kd_109, ld_110_0, st_110_0, ld_110_1, st_110_1, ld_110_2, st_110_2, ld_110_3, st_110_3, ld_110_4, st_110_4, ld_110_5, st_110_5, ld_110_6, st_110_6, ld_110_7, st_110_7, ld_110_8, st_110_8, ld_110_9, st_110_9, ld_110_10, st_110_10, ld_110_11, st_110_11, ld_110_12, st_110_12, ld_110_75, st_110_75, Option.bind_some, Option.toList, List.cons_append, List.nil_append, ↓reduceIte, nI_1, Int32.reduceLT, Int32.reduceLE, dv_1, dv_2, dv_3, dv_4, dv_6, dv_8, dv_10, dv_20, dv_100, dv_200, dv_500, Bool.false_eq_true, rc_ee, rc_ge_0, rc_le_0, rc_ge_1, rc_le_1, rc_ge_2, rc_le_2, rc_ge_3, rc_le_3, rc_ge_4, rc_le_4, rc_ge_5, rc_le_5, rc_ge_9, rc_le_9, rc_ge_30, rc_le_30, rc_ge_40, rc_le_40, rc_ge_48, rc_le_48, rc_ge_50, rc_le_50, rc_ge_57, rc_le_57, rc_ge_60, rc_le_60, rc_ge_97, rc_le_97, rc_ge_100, rc_le_100, rc_ge_122, rc_le_122, rc_ge_9999, rc_le_9999, rc_ge_99999, rc_le_99999, rc_ge_m99999, rc_le_m99999, rc_ge_m1, rc_le_m1, pk, pw]
  · have pk := eq_false hk
    refine ap_c (-1000000001) D D ?_ ?_ hI
    · simp (disch := first | assumption | omega | exact kd_sea _ _ _ (by assumption) | exact is_bts (by assumption) _ (by omega) | exact kd_bt _ _ _ (is_bts (by assumption) _ (by omega)) | exact kd_109 _ _ _ | exact kd_17 _ _ _ | exact kd_20 _ _ _) only [iq_13_0, iq_13_1, iq_13_4, iq_13_7, iq_13_8, iq_13_11, iq_13_14, iq_13_15, iq_13_18, iq_13_21, iq_13_23, iq_13_24, iq_13_25, iq_13_28, iq_13_31, iq_13_33, iq_13_36, iq_13_38, iq_13_39, iq_13_40, iq_13_43, iq_13_44, iq_13_47, iq_13_48, iq_13_49, iq_13_50, iq_13_51, iq_13_54, iq_13_55, iq_13_58, iq_13_61, iq_13_62, iq_13_63, gf_17_0, gf_17_1, gf_17_2, gf_17_3, gf_17_4, gf_17_5, gf_17_6, gf_17_7, gf_17_8, gf_17_9, gf_17_10, gf_17_11, gf_17_12, gf_17_13, kd_17, pf_17_4, pf_17_13, gf_sea_0, gf_sea_1, gf_sea_2, gf_sea_3, gf_sea_4, gf_sea_5, gf_sea_6, gf_sea_7, gf_sea_8, gf_sea_9, gf_sea_10, kd_sea, pf_sea_1, pf_sea_2, pf_sea_4, pf_sea_5, pf_sea_6, pf_sea_7, pf_sea_9, Option.bind_some, Option.toList, List.cons_append, List.nil_append, ↓reduceIte, nI_1, Int32.reduceLT, Int32.reduceLE, dv_1, dv_2, dv_3, dv_4, dv_6, dv_8, dv_10, dv_20, dv_100, dv_200, dv_500, Bool.false_eq_true, ci_isKind, pk]
    · simp (disch := first | assumption | omega | exact kd_sea _ _ _ (by assumption) | exact is_bts (by assumption) _ (by omega) | exact kd_bt _ _ _ (is_bts (by assumption) _ (by omega)) | exact kd_109 _ _ _ | exact kd_17 _ _ _ | exact kd_20 _ _ _) only [iq_173_0, iq_173_1, iq_173_2, iq_173_3, iq_173_6, iq_173_9, iq_173_12, iq_173_13, iq_173_14, iq_173_15, iq_173_18, iq_173_21, iq_173_24, iq_173_25, iq_173_26, iq_173_27, iq_173_30, iq_173_33, iq_173_36, iq_173_38, iq_173_39, iq_173_40, iq_173_43, iq_173_44, iq_173_45, iq_173_47, iq_173_50, iq_173_52, iq_173_53, iq_173_54, iq_173_55, iq_173_56, iq_173_57, iq_173_60, iq_173_61, iq_173_64, iq_173_65, iq_173_66, iq_173_67, iq_173_68, gf_109_0, gf_109_1, gf_109_2, gf_109_3, gf_109_4, gf_109_5, gf_109_6, gf_109_7, gf_109_8, gf_109_9, gf_109_10, gf_109_11, gf_109_12, gf_109_13, gf_109_14, gf_109_15, gf_109_16, gf_109_17, gf_109_18, gf_109_19, gf_109_20, gf_109_21, gf_109_22, gf_109_23, gf_109_24, gf_109_25, gf_109_26, gf_109_27, gf_109_28, gf_109_29, gf_109_30, kd_109, ld_110_0, st_110_0, ld_110_1, st_110_1, ld_110_2, st_110_2, ld_110_3, st_110_3, ld_110_4, st_110_4, ld_110_5, st_110_5, ld_110_6, st_110_6, ld_110_7, st_110_7, ld_110_8, st_110_8, ld_110_9, st_110_9, ld_110_10, st_110_10, ld_110_11, st_110_11, ld_110_12, st_110_12, ld_110_75, st_110_75, Option.bind_some, Option.toList, List.cons_append, List.nil_append, ↓reduceIte, nI_1, Int32.reduceLT, Int32.reduceLE, dv_1, dv_2, dv_3, dv_4, dv_6, dv_8, dv_10, dv_20, dv_100, dv_200, dv_500, Bool.false_eq_true, rc_ee, rc_ge_0, rc_le_0, rc_ge_1, rc_le_1, rc_ge_2, rc_le_2, rc_ge_3, rc_le_3, rc_ge_4, rc_le_4, rc_ge_5, rc_le_5, rc_ge_9, rc_le_9, rc_ge_30, rc_le_30, rc_ge_40, rc_le_40, rc_ge_48, rc_le_48, rc_ge_50, rc_le_50, rc_ge_57, rc_le_57, rc_ge_60, rc_le_60, rc_ge_97, rc_le_97, rc_ge_100, rc_le_100, rc_ge_122, rc_le_122, rc_ge_9999, rc_le_9999, rc_ge_99999, rc_le_99999, rc_ge_m99999, rc_le_m99999, rc_ge_m1, rc_le_m1, pk]
