section PB
variable (L : Nat) (xs : Nat → Int32) (c : Nat × Nat) (B : Nat → Nat) (len : Nat)
/-- where the reference lays the steps -/
def ps_A (m : Nat) : Nat := if m < 14 then 75 + 200 * m + 4 else 2875
theorem ps_A_le (m : Nat) (hm : m ≤ 14) : ps_A m + 192 ≤ 3075 ∧ ps_A m = 75 + 200 * m + 4 ∨ ps_A m + 192 ≤ 3075 ∧ ps_A m = 2875 := by
  unfold ps_A
  by_cases q : m < 14
  · rw [if_pos q]
    exact Or.inl ⟨by omega, rfl⟩
  · rw [if_neg q]
    exact Or.inr ⟨by omega, rfl⟩
def ps_E (D : hz_D) (m : Nat) : hz_D := mx_up D 109 (mx_up (mx_up (mx_up (mx_up (mx_up (mx_up (mx_up (D 109) 16 0) 17 3) 20 0) 21 0) 22 0) 24 0) 23 (nI (ps_A m)))
/-- the reference's state at the first word -/
theorem ps_R0 (d : Nat) {D : hz_D} {m : Nat} (h : tp_r D B len) (hm : m ≤ 14) (h1 : D 110 1 = nI m) : ∃ D0, mx_run (d + 1) 230 0 [some (.ref 109), none, none] [] (hp (sx_rom L xs) c (ps_E D m)) = some (none, hp (sx_rom L xs) c D0) ∧ pz_R D0 B len (tk_st B len 0) (tk_en B len 0) (tk_ty B len 0 0) 0 0 0 (ps_A m) 0 ∧ pz_FE D D0 (ps_A m) 0 := by
  have hE : pz_R (ps_E D m) B len 0 0 3 0 0 0 (ps_A m) 0 ∨ True := Or.inr trivial
  have f : ∀ k, k ≠ 16 → k ≠ 17 → k ≠ 20 → k ≠ 21 → k ≠ 22 → k ≠ 23 → k ≠ 24 → ps_E D m 109 k = D 109 k := by
    intro k k1 k2 k3 k4 k5 k6 k7
    unfold ps_E
    rw [up_s, up_n _ _ _ _ k6, up_n _ _ _ _ k7, up_n _ _ _ _ k5, up_n _ _ _ _ k4, up_n _ _ _ _ k3, up_n _ _ _ _ k2, up_n _ _ _ _ k1]
  have g16 : ps_E D m 109 16 = nI 0 := by
    unfold ps_E
    rw [up_s, up_n _ _ _ _ (by omega), up_n _ _ _ _ (by omega), up_n _ _ _ _ (by omega), up_n _ _ _ _ (by omega), up_n _ _ _ _ (by omega), up_n _ _ _ _ (by omega), up_s]
    rfl
  have g17 : ps_E D m 109 17 = nI 3 := by
    unfold ps_E
    rw [up_s, up_n _ _ _ _ (by omega), up_n _ _ _ _ (by omega), up_n _ _ _ _ (by omega), up_n _ _ _ _ (by omega), up_n _ _ _ _ (by omega), up_s]
    rfl
  have g20 : ps_E D m 109 20 = nI 0 := by
    unfold ps_E
    rw [up_s, up_n _ _ _ _ (by omega), up_n _ _ _ _ (by omega), up_n _ _ _ _ (by omega), up_n _ _ _ _ (by omega), up_s]
    rfl
  have g21 : ps_E D m 109 21 = nI 0 := by
    unfold ps_E
    rw [up_s, up_n _ _ _ _ (by omega), up_n _ _ _ _ (by omega), up_n _ _ _ _ (by omega), up_s]
    rfl
  have g22 : ps_E D m 109 22 = nI 0 := by
    unfold ps_E
    rw [up_s, up_n _ _ _ _ (by omega), up_n _ _ _ _ (by omega), up_s]
    rfl
  have g24 : ps_E D m 109 24 = nI 0 := by
    unfold ps_E
    rw [up_s, up_n _ _ _ _ (by omega), up_s]
    rfl
  have g23 : ps_E D m 109 23 = nI (ps_A m) := by
    unfold ps_E
    rw [up_s, up_s]
  have tp : tp_r (ps_E D m) B len := by
    obtain ⟨a1, a2, a3⟩ := h
    refine ⟨a1, ?_, fun i hi => ?_⟩
    · rw [f 14 (by omega) (by omega) (by omega) (by omega) (by omega) (by omega) (by omega)]
      exact a2
    · unfold ps_E
      rw [up_n _ _ _ _ (by omega)]
      exact a3 i hi
  obtain ⟨F, f1, f2, f3, f4, f5, f6, f7, f8⟩ := rt_next (sx_rom L xs) c d (ps_E D m) B len 0 3 none none tp g16 g17 (by omega) (by omega) (fun z => absurd z (by omega))
  rw [tk_ty_03] at f5
  have hN := ps_T0 B len h.1
  have hn := hN.2.2.2
  have hso : tk_ty B len 0 0 = 3 → tk_so (B (tk_st B len 0)) = 3 := by
    intro z
    unfold tk_ty at z
    by_cases q : len ≤ tk_st B len 0
    · rw [if_pos q] at z
      exact absurd z (by omega)
    · rw [if_neg q] at z
      split at z
      · rename_i y
        exact y
      · split at z
        · exact absurd z (by omega)
        · exact z
  refine ⟨mx_up (ps_E D m) 109 F, f1, ⟨?_, ?_, ?_, ?_, ?_, ?_, ?_, ?_, ?_, ?_, ?_, ?_⟩, ⟨fun a ha _ => ?_, fun k hk => ?_, fun j _ => ?_⟩⟩
  · obtain ⟨a1, a2, a3⟩ := tp
    refine ⟨a1, ?_, fun i hi => ?_⟩
    · rw [up_s, f2 14 (by omega)]
      exact a2
    · rw [up_n _ _ _ _ (by omega)]
      exact a3 i hi
  · rw [up_s]; exact f3
  · rw [up_s]; exact f4
  · rw [up_s]; exact f5
  · intro z
    rw [up_s]
    exact f6 (hn.1 z).1 (hso z)
  · intro z
    rw [up_s]
    exact f7 (by have := (hn.2.1 z).1; have := hN.2.1; omega) (hn.2.1 z).2
  · intro z
    rw [up_s]
    obtain ⟨z1, z2, z3⟩ := hn.2.2 z
    rw [f8 (by have := hN.2.1; omega) (z3 _ (Nat.le_refl _) z1), Nat.min_eq_right z2]
  · rw [up_s, f2 20 (by omega)]; exact g20
  · rw [up_s, f2 21 (by omega)]; exact g21
  · rw [up_s, f2 22 (by omega)]; exact g22
  · rw [up_s, f2 23 (by omega)]; exact g23
  · rw [up_s, f2 24 (by omega)]; exact g24
  · rw [up_n _ _ _ _ ha]
    unfold ps_E
    rw [up_n _ _ _ _ ha]
  · rw [up_s, f2 k (by omega), f k (by omega) (by omega) (by omega) (by omega) (by omega) (by omega) (by omega)]
  · rw [up_n _ _ _ _ (by omega)]
    unfold ps_E
    rw [up_n _ _ _ _ (by omega)]
/-- the reference's parse, up to the key -/
theorem ps_Rkey (d : Nat) {D : hz_D} {m : Nat} (h : tp_r D B len) (hm : m ≤ 14) (h1 : D 110 1 = nI m) {D0 : hz_D} (nx : mx_run (d + 2) 230 0 [some (.ref 109), none, none] [] (hp (sx_rom L xs) c (ps_E D m)) = some (none, hp (sx_rom L xs) c D0)) (h0 : pz_R D0 B len (tk_st B len 0) (tk_en B len 0) (tk_ty B len 0 0) 0 0 0 (ps_A m) 0) : mx_run (d + 3) 229 0 [some (.ref 109), none, none] [] (hp (sx_rom L xs) c D) = mx_run (d + 3) 229 72 [some (.ref 109), some (.int (if tk_key B (tk_st B len 0) (tk_en B len 0) (tk_ty B len 0 0) = 3 then -1 else nI (tk_key B (tk_st B len 0) (tk_en B len 0) (tk_ty B len 0 0)))), none] [] (hp (sx_rom L xs) c D0) := by
  have hN := ps_T0 B len h.1
  have ky := rt_key (sx_rom L xs) c D0 (d + 1) B len _ _ _ h0.1 h0.2.2.2.1 h0.2.1 h0.2.2.1 hN.2.2.1 hN.1 hN.2.1
  have g1 : mg_ld (hp (sx_rom L xs) c (mx_up D 109 (mx_up (mx_up (mx_up (mx_up (mx_up (mx_up (D 109) 16 0) 17 3) 20 0) 21 0) 22 0) 24 0))) 110 .int 1 = some (.int (nI m)) := by
    rw [ld_110_1, up_n _ _ _ _ (by omega), h1]
  have ta := rc_textAt (d + 2) 109 (nI m) (hp (sx_rom L xs) c (mx_up D 109 (mx_up (mx_up (mx_up (mx_up (mx_up (mx_up (D 109) 16 0) 17 3) 20 0) 21 0) 22 0) 24 0)))
  unfold ps_E ps_A at nx
  by_cases q : m < 14
  · have e1 : (nI m < 14) = True := eq_true (nI_lt (b := 14) q (by omega))
    have ea : 75 + 200 * nI m + 4 = nI (75 + 200 * m + 4) := by
      rw [show (200 : Int32) = nI 200 from rfl, rc_mul, show (75 : Int32) = nI 75 from rfl, nI_add, show (4 : Int32) = nI 4 from rfl, nI_add]
    rw [if_pos q] at nx
    simp (disch := first | assumption | omega | exact kd_sh _ _ _ (by assumption) | exact kd_sea _ _ _ (by assumption) | exact is_bts (by assumption) _ (by omega) | exact kd_bt _ _ _ (by first | assumption | exact is_bts (by assumption) _ (by omega)) | exact kd_109 _ _ _ | exact kd_17 _ _ _ | exact kd_20 _ _ _) only [iq_229_0, iq_229_1, iq_229_2, iq_229_5, iq_229_6, iq_229_7, iq_229_10, iq_229_11, iq_229_12, iq_229_15, iq_229_16, iq_229_17, iq_229_20, iq_229_21, iq_229_22, iq_229_25, iq_229_26, iq_229_27, iq_229_30, iq_229_31, iq_229_32, iq_229_35, iq_229_36, iq_229_37, iq_229_39, iq_229_42, iq_229_43, iq_229_44, iq_229_47, iq_229_48, iq_229_49, iq_229_52, iq_229_53, iq_229_54, iq_229_57, iq_229_60, iq_229_63, iq_229_64, iq_229_67, iq_229_68, iq_229_71, iq_229_73, iq_229_76, iq_229_77, iq_229_80, iq_229_81, iq_229_82, iq_229_83, iq_229_86, iq_229_87, iq_229_90, iq_229_91, iq_229_92, iq_229_95, iq_229_98, iq_229_99, iq_229_102, iq_229_105, iq_229_106, iq_229_109, iq_229_110, iq_229_111, iq_229_112, iq_229_113, iq_229_116, iq_229_117, iq_229_120, iq_229_121, iq_229_124, iq_229_125, Option.bind_some, Option.toList, List.cons_append, List.nil_append, ↓reduceIte, nI_1, Int32.reduceLT, Int32.reduceLE, dv_1, dv_2, dv_3, dv_4, dv_6, dv_8, dv_10, dv_20, dv_100, dv_200, dv_500, gf_109_0, gf_109_1, gf_109_2, gf_109_3, gf_109_4, gf_109_5, gf_109_6, gf_109_7, gf_109_8, gf_109_9, gf_109_10, gf_109_11, gf_109_12, gf_109_13, gf_109_14, gf_109_15, gf_109_16, gf_109_17, gf_109_18, gf_109_19, gf_109_20, gf_109_21, gf_109_22, gf_109_23, gf_109_24, gf_109_25, gf_109_26, gf_109_27, gf_109_28, gf_109_29, gf_109_30, kd_109, pf_109_3, pf_109_14, pf_109_15, pf_109_16, pf_109_17, pf_109_18, pf_109_19, pf_109_20, pf_109_21, pf_109_22, pf_109_23, pf_109_24, pf_109_29, up_s, up_up, up_n, ne_eq, Nat.reduceEqDiff, not_false_eq_true, g1, ta, e1, ea, nx, ky]
  · have e1 : (nI m < 14) = False := eq_false (nI_nlt (b := 14) (by omega) (by omega))
    rw [if_neg q, show nI 2875 = (2875 : Int32) from rfl] at nx
    simp (disch := first | assumption | omega | exact kd_sh _ _ _ (by assumption) | exact kd_sea _ _ _ (by assumption) | exact is_bts (by assumption) _ (by omega) | exact kd_bt _ _ _ (by first | assumption | exact is_bts (by assumption) _ (by omega)) | exact kd_109 _ _ _ | exact kd_17 _ _ _ | exact kd_20 _ _ _) only [iq_229_0, iq_229_1, iq_229_2, iq_229_5, iq_229_6, iq_229_7, iq_229_10, iq_229_11, iq_229_12, iq_229_15, iq_229_16, iq_229_17, iq_229_20, iq_229_21, iq_229_22, iq_229_25, iq_229_26, iq_229_27, iq_229_30, iq_229_31, iq_229_32, iq_229_35, iq_229_36, iq_229_37, iq_229_39, iq_229_42, iq_229_43, iq_229_44, iq_229_47, iq_229_48, iq_229_49, iq_229_52, iq_229_53, iq_229_54, iq_229_57, iq_229_60, iq_229_63, iq_229_64, iq_229_67, iq_229_68, iq_229_71, iq_229_73, iq_229_76, iq_229_77, iq_229_80, iq_229_81, iq_229_82, iq_229_83, iq_229_86, iq_229_87, iq_229_90, iq_229_91, iq_229_92, iq_229_95, iq_229_98, iq_229_99, iq_229_102, iq_229_105, iq_229_106, iq_229_109, iq_229_110, iq_229_111, iq_229_112, iq_229_113, iq_229_116, iq_229_117, iq_229_120, iq_229_121, iq_229_124, iq_229_125, Option.bind_some, Option.toList, List.cons_append, List.nil_append, ↓reduceIte, nI_1, Int32.reduceLT, Int32.reduceLE, dv_1, dv_2, dv_3, dv_4, dv_6, dv_8, dv_10, dv_20, dv_100, dv_200, dv_500, gf_109_0, gf_109_1, gf_109_2, gf_109_3, gf_109_4, gf_109_5, gf_109_6, gf_109_7, gf_109_8, gf_109_9, gf_109_10, gf_109_11, gf_109_12, gf_109_13, gf_109_14, gf_109_15, gf_109_16, gf_109_17, gf_109_18, gf_109_19, gf_109_20, gf_109_21, gf_109_22, gf_109_23, gf_109_24, gf_109_25, gf_109_26, gf_109_27, gf_109_28, gf_109_29, gf_109_30, kd_109, pf_109_3, pf_109_14, pf_109_15, pf_109_16, pf_109_17, pf_109_18, pf_109_19, pf_109_20, pf_109_21, pf_109_22, pf_109_23, pf_109_24, pf_109_29, up_s, up_up, up_n, ne_eq, Nat.reduceEqDiff, not_false_eq_true, g1, e1, nx, ky]
/-- and from there -/
theorem ps_Rbad (d : Nat) (D : hz_D) : mx_run (d + 3) 229 72 [some (.ref 109), some (.int (-1)), none] [] (hp (sx_rom L xs) c D) = some (some (.int (-1)), hp (sx_rom L xs) c (mx_up D 109 (mx_up (D 109) 14 0))) := by
  simp (disch := first | assumption | omega | exact kd_sh _ _ _ (by assumption) | exact kd_sea _ _ _ (by assumption) | exact is_bts (by assumption) _ (by omega) | exact kd_bt _ _ _ (by first | assumption | exact is_bts (by assumption) _ (by omega)) | exact kd_109 _ _ _ | exact kd_17 _ _ _ | exact kd_20 _ _ _) only [iq_229_0, iq_229_1, iq_229_2, iq_229_5, iq_229_6, iq_229_7, iq_229_10, iq_229_11, iq_229_12, iq_229_15, iq_229_16, iq_229_17, iq_229_20, iq_229_21, iq_229_22, iq_229_25, iq_229_26, iq_229_27, iq_229_30, iq_229_31, iq_229_32, iq_229_35, iq_229_36, iq_229_37, iq_229_39, iq_229_42, iq_229_43, iq_229_44, iq_229_47, iq_229_48, iq_229_49, iq_229_52, iq_229_53, iq_229_54, iq_229_57, iq_229_60, iq_229_63, iq_229_64, iq_229_67, iq_229_68, iq_229_71, iq_229_72, iq_229_73, iq_229_76, iq_229_77, iq_229_80, iq_229_81, iq_229_82, iq_229_83, iq_229_86, iq_229_87, iq_229_90, iq_229_91, iq_229_92, iq_229_95, iq_229_98, iq_229_99, iq_229_102, iq_229_105, iq_229_106, iq_229_109, iq_229_110, iq_229_111, iq_229_112, iq_229_113, iq_229_116, iq_229_117, iq_229_120, iq_229_121, iq_229_124, iq_229_125, Option.bind_some, Option.toList, List.cons_append, List.nil_append, ↓reduceIte, nI_1, Int32.reduceLT, Int32.reduceLE, dv_1, dv_2, dv_3, dv_4, dv_6, dv_8, dv_10, dv_20, dv_100, dv_200, dv_500, gf_109_0, gf_109_1, gf_109_2, gf_109_3, gf_109_4, gf_109_5, gf_109_6, gf_109_7, gf_109_8, gf_109_9, gf_109_10, gf_109_11, gf_109_12, gf_109_13, gf_109_14, gf_109_15, gf_109_16, gf_109_17, gf_109_18, gf_109_19, gf_109_20, gf_109_21, gf_109_22, gf_109_23, gf_109_24, gf_109_25, gf_109_26, gf_109_27, gf_109_28, gf_109_29, gf_109_30, kd_109, pf_109_3, pf_109_14, pf_109_15, pf_109_16, pf_109_17, pf_109_18, pf_109_19, pf_109_20, pf_109_21, pf_109_22, pf_109_23, pf_109_24, pf_109_29, up_s, up_up, up_n, ne_eq, Nat.reduceEqDiff, not_false_eq_true, show ((-1 : Int32) < 0) = True from by decide]
theorem ps_Rb0 (d key : Nat) (hk : key ≤ 2) (D : hz_D) {D0 D1 : hz_D} (nx : mx_run (d + 2) 230 0 [some (.ref 109), none, none] [] (hp (sx_rom L xs) c D) = some (none, hp (sx_rom L xs) c D0)) (r1 : mx_run (d + 2) 235 0 [some (.ref 109), some (.int (nI key))] [] (hp (sx_rom L xs) c D0) = some (some (.int 0), hp (sx_rom L xs) c D1)) : mx_run (d + 3) 229 72 [some (.ref 109), some (.int (nI key)), none] [] (hp (sx_rom L xs) c D) = some (some (.int (-1)), hp (sx_rom L xs) c (mx_up D1 109 (mx_up (D1 109) 14 0))) := by
  have e1 : (nI key < 0) = False := eq_false (nI_nlt (b := 0) (by omega) (by omega))
  simp (disch := first | assumption | omega | exact kd_sh _ _ _ (by assumption) | exact kd_sea _ _ _ (by assumption) | exact is_bts (by assumption) _ (by omega) | exact kd_bt _ _ _ (by first | assumption | exact is_bts (by assumption) _ (by omega)) | exact kd_109 _ _ _ | exact kd_17 _ _ _ | exact kd_20 _ _ _) only [iq_229_0, iq_229_1, iq_229_2, iq_229_5, iq_229_6, iq_229_7, iq_229_10, iq_229_11, iq_229_12, iq_229_15, iq_229_16, iq_229_17, iq_229_20, iq_229_21, iq_229_22, iq_229_25, iq_229_26, iq_229_27, iq_229_30, iq_229_31, iq_229_32, iq_229_35, iq_229_36, iq_229_37, iq_229_39, iq_229_42, iq_229_43, iq_229_44, iq_229_47, iq_229_48, iq_229_49, iq_229_52, iq_229_53, iq_229_54, iq_229_57, iq_229_60, iq_229_63, iq_229_64, iq_229_67, iq_229_68, iq_229_71, iq_229_72, iq_229_73, iq_229_76, iq_229_77, iq_229_80, iq_229_81, iq_229_82, iq_229_83, iq_229_86, iq_229_87, iq_229_90, iq_229_91, iq_229_92, iq_229_95, iq_229_98, iq_229_99, iq_229_102, iq_229_105, iq_229_106, iq_229_109, iq_229_110, iq_229_111, iq_229_112, iq_229_113, iq_229_116, iq_229_117, iq_229_120, iq_229_121, iq_229_124, iq_229_125, Option.bind_some, Option.toList, List.cons_append, List.nil_append, ↓reduceIte, nI_1, Int32.reduceLT, Int32.reduceLE, dv_1, dv_2, dv_3, dv_4, dv_6, dv_8, dv_10, dv_20, dv_100, dv_200, dv_500, gf_109_0, gf_109_1, gf_109_2, gf_109_3, gf_109_4, gf_109_5, gf_109_6, gf_109_7, gf_109_8, gf_109_9, gf_109_10, gf_109_11, gf_109_12, gf_109_13, gf_109_14, gf_109_15, gf_109_16, gf_109_17, gf_109_18, gf_109_19, gf_109_20, gf_109_21, gf_109_22, gf_109_23, gf_109_24, gf_109_25, gf_109_26, gf_109_27, gf_109_28, gf_109_29, gf_109_30, kd_109, pf_109_3, pf_109_14, pf_109_15, pf_109_16, pf_109_17, pf_109_18, pf_109_19, pf_109_20, pf_109_21, pf_109_22, pf_109_23, pf_109_24, pf_109_29, up_s, up_up, up_n, ne_eq, Nat.reduceEqDiff, not_false_eq_true, e1, nx, r1, ie_0_1, ie_0_2, ie_0_3, ie_0_4, ie_0_5, ie_0_6, ie_0_7, ie_0_8, ie_0_9, ie_0_10, ie_1_0, ie_1_2, ie_1_3, ie_1_4, ie_1_5, ie_1_6, ie_1_7, ie_1_8, ie_1_9, ie_1_10, ie_2_0, ie_2_1, ie_2_3, ie_2_4, ie_2_5, ie_2_6, ie_2_7, ie_2_8, ie_2_9, ie_2_10, ie_3_0, ie_3_1, ie_3_2, ie_3_4, ie_3_5, ie_3_6, ie_3_7, ie_3_8, ie_3_9, ie_3_10, ie_4_0, ie_4_1, ie_4_2, ie_4_3, ie_4_5, ie_4_6, ie_4_7, ie_4_8, ie_4_9, ie_4_10, ie_5_0, ie_5_1, ie_5_2, ie_5_3, ie_5_4, ie_5_6, ie_5_7, ie_5_8, ie_5_9, ie_5_10, ie_6_0, ie_6_1, ie_6_2, ie_6_3, ie_6_4, ie_6_5, ie_6_7, ie_6_8, ie_6_9, ie_6_10, ie_7_0, ie_7_1, ie_7_2, ie_7_3, ie_7_4, ie_7_5, ie_7_6, ie_7_8, ie_7_9, ie_7_10, ie_8_0, ie_8_1, ie_8_2, ie_8_3, ie_8_4, ie_8_5, ie_8_6, ie_8_7, ie_8_9, ie_8_10, ie_9_0, ie_9_1, ie_9_2, ie_9_3, ie_9_4, ie_9_5, ie_9_6, ie_9_7, ie_9_8, ie_9_10, ie_10_0, ie_10_1, ie_10_2, ie_10_3, ie_10_4, ie_10_5, ie_10_6, ie_10_7, ie_10_8, ie_10_9]
theorem ps_Rb1 (d key ty : Nat) (hk : key ≤ 2) (D : hz_D) {D0 D1 : hz_D} (nx : mx_run (d + 2) 230 0 [some (.ref 109), none, none] [] (hp (sx_rom L xs) c D) = some (none, hp (sx_rom L xs) c D0)) (r1 : mx_run (d + 2) 235 0 [some (.ref 109), some (.int (nI key))] [] (hp (sx_rom L xs) c D0) = some (some (.int 1), hp (sx_rom L xs) c D1)) (h7 : D1 109 17 = nI ty) (hty : ty ≤ 4) : mx_run (d + 3) 229 72 [some (.ref 109), some (.int (nI key)), none] [] (hp (sx_rom L xs) c D) = some (some (.int (if ty = 0 then nI key else -1)), hp (sx_rom L xs) c (mx_up D1 109 (mx_up (D1 109) 14 0))) := by
  have e1 : (nI key < 0) = False := eq_false (nI_nlt (b := 0) (by omega) (by omega))
  by_cases q : ty = 0
  · have e2 : (nI ty = 0) = True := eq_true ((nI_eq (b := 0) (by omega) (by omega)).mpr q)
    rw [if_pos q]
    simp (disch := first | assumption | omega | exact kd_sh _ _ _ (by assumption) | exact kd_sea _ _ _ (by assumption) | exact is_bts (by assumption) _ (by omega) | exact kd_bt _ _ _ (by first | assumption | exact is_bts (by assumption) _ (by omega)) | exact kd_109 _ _ _ | exact kd_17 _ _ _ | exact kd_20 _ _ _) only [iq_229_0, iq_229_1, iq_229_2, iq_229_5, iq_229_6, iq_229_7, iq_229_10, iq_229_11, iq_229_12, iq_229_15, iq_229_16, iq_229_17, iq_229_20, iq_229_21, iq_229_22, iq_229_25, iq_229_26, iq_229_27, iq_229_30, iq_229_31, iq_229_32, iq_229_35, iq_229_36, iq_229_37, iq_229_39, iq_229_42, iq_229_43, iq_229_44, iq_229_47, iq_229_48, iq_229_49, iq_229_52, iq_229_53, iq_229_54, iq_229_57, iq_229_60, iq_229_63, iq_229_64, iq_229_67, iq_229_68, iq_229_71, iq_229_72, iq_229_73, iq_229_76, iq_229_77, iq_229_80, iq_229_81, iq_229_82, iq_229_83, iq_229_86, iq_229_87, iq_229_90, iq_229_91, iq_229_92, iq_229_95, iq_229_98, iq_229_99, iq_229_102, iq_229_105, iq_229_106, iq_229_109, iq_229_110, iq_229_111, iq_229_112, iq_229_113, iq_229_116, iq_229_117, iq_229_120, iq_229_121, iq_229_124, iq_229_125, Option.bind_some, Option.toList, List.cons_append, List.nil_append, ↓reduceIte, nI_1, Int32.reduceLT, Int32.reduceLE, dv_1, dv_2, dv_3, dv_4, dv_6, dv_8, dv_10, dv_20, dv_100, dv_200, dv_500, gf_109_0, gf_109_1, gf_109_2, gf_109_3, gf_109_4, gf_109_5, gf_109_6, gf_109_7, gf_109_8, gf_109_9, gf_109_10, gf_109_11, gf_109_12, gf_109_13, gf_109_14, gf_109_15, gf_109_16, gf_109_17, gf_109_18, gf_109_19, gf_109_20, gf_109_21, gf_109_22, gf_109_23, gf_109_24, gf_109_25, gf_109_26, gf_109_27, gf_109_28, gf_109_29, gf_109_30, kd_109, pf_109_3, pf_109_14, pf_109_15, pf_109_16, pf_109_17, pf_109_18, pf_109_19, pf_109_20, pf_109_21, pf_109_22, pf_109_23, pf_109_24, pf_109_29, up_s, up_up, up_n, ne_eq, Nat.reduceEqDiff, not_false_eq_true, e1, nx, r1, h7, e2, ie_0_1, ie_0_2, ie_0_3, ie_0_4, ie_0_5, ie_0_6, ie_0_7, ie_0_8, ie_0_9, ie_0_10, ie_1_0, ie_1_2, ie_1_3, ie_1_4, ie_1_5, ie_1_6, ie_1_7, ie_1_8, ie_1_9, ie_1_10, ie_2_0, ie_2_1, ie_2_3, ie_2_4, ie_2_5, ie_2_6, ie_2_7, ie_2_8, ie_2_9, ie_2_10, ie_3_0, ie_3_1, ie_3_2, ie_3_4, ie_3_5, ie_3_6, ie_3_7, ie_3_8, ie_3_9, ie_3_10, ie_4_0, ie_4_1, ie_4_2, ie_4_3, ie_4_5, ie_4_6, ie_4_7, ie_4_8, ie_4_9, ie_4_10, ie_5_0, ie_5_1, ie_5_2, ie_5_3, ie_5_4, ie_5_6, ie_5_7, ie_5_8, ie_5_9, ie_5_10, ie_6_0, ie_6_1, ie_6_2, ie_6_3, ie_6_4, ie_6_5, ie_6_7, ie_6_8, ie_6_9, ie_6_10, ie_7_0, ie_7_1, ie_7_2, ie_7_3, ie_7_4, ie_7_5, ie_7_6, ie_7_8, ie_7_9, ie_7_10, ie_8_0, ie_8_1, ie_8_2, ie_8_3, ie_8_4, ie_8_5, ie_8_6, ie_8_7, ie_8_9, ie_8_10, ie_9_0, ie_9_1, ie_9_2, ie_9_3, ie_9_4, ie_9_5, ie_9_6, ie_9_7, ie_9_8, ie_9_10, ie_10_0, ie_10_1, ie_10_2, ie_10_3, ie_10_4, ie_10_5, ie_10_6, ie_10_7, ie_10_8, ie_10_9]
  · have e2 : (nI ty = 0) = False := eq_false (fun z => q ((nI_eq (b := 0) (by omega) (by omega)).mp z))
    rw [if_neg q]
    simp (disch := first | assumption | omega | exact kd_sh _ _ _ (by assumption) | exact kd_sea _ _ _ (by assumption) | exact is_bts (by assumption) _ (by omega) | exact kd_bt _ _ _ (by first | assumption | exact is_bts (by assumption) _ (by omega)) | exact kd_109 _ _ _ | exact kd_17 _ _ _ | exact kd_20 _ _ _) only [iq_229_0, iq_229_1, iq_229_2, iq_229_5, iq_229_6, iq_229_7, iq_229_10, iq_229_11, iq_229_12, iq_229_15, iq_229_16, iq_229_17, iq_229_20, iq_229_21, iq_229_22, iq_229_25, iq_229_26, iq_229_27, iq_229_30, iq_229_31, iq_229_32, iq_229_35, iq_229_36, iq_229_37, iq_229_39, iq_229_42, iq_229_43, iq_229_44, iq_229_47, iq_229_48, iq_229_49, iq_229_52, iq_229_53, iq_229_54, iq_229_57, iq_229_60, iq_229_63, iq_229_64, iq_229_67, iq_229_68, iq_229_71, iq_229_72, iq_229_73, iq_229_76, iq_229_77, iq_229_80, iq_229_81, iq_229_82, iq_229_83, iq_229_86, iq_229_87, iq_229_90, iq_229_91, iq_229_92, iq_229_95, iq_229_98, iq_229_99, iq_229_102, iq_229_105, iq_229_106, iq_229_109, iq_229_110, iq_229_111, iq_229_112, iq_229_113, iq_229_116, iq_229_117, iq_229_120, iq_229_121, iq_229_124, iq_229_125, Option.bind_some, Option.toList, List.cons_append, List.nil_append, ↓reduceIte, nI_1, Int32.reduceLT, Int32.reduceLE, dv_1, dv_2, dv_3, dv_4, dv_6, dv_8, dv_10, dv_20, dv_100, dv_200, dv_500, gf_109_0, gf_109_1, gf_109_2, gf_109_3, gf_109_4, gf_109_5, gf_109_6, gf_109_7, gf_109_8, gf_109_9, gf_109_10, gf_109_11, gf_109_12, gf_109_13, gf_109_14, gf_109_15, gf_109_16, gf_109_17, gf_109_18, gf_109_19, gf_109_20, gf_109_21, gf_109_22, gf_109_23, gf_109_24, gf_109_25, gf_109_26, gf_109_27, gf_109_28, gf_109_29, gf_109_30, kd_109, pf_109_3, pf_109_14, pf_109_15, pf_109_16, pf_109_17, pf_109_18, pf_109_19, pf_109_20, pf_109_21, pf_109_22, pf_109_23, pf_109_24, pf_109_29, up_s, up_up, up_n, ne_eq, Nat.reduceEqDiff, not_false_eq_true, e1, nx, r1, h7, e2, ie_0_1, ie_0_2, ie_0_3, ie_0_4, ie_0_5, ie_0_6, ie_0_7, ie_0_8, ie_0_9, ie_0_10, ie_1_0, ie_1_2, ie_1_3, ie_1_4, ie_1_5, ie_1_6, ie_1_7, ie_1_8, ie_1_9, ie_1_10, ie_2_0, ie_2_1, ie_2_3, ie_2_4, ie_2_5, ie_2_6, ie_2_7, ie_2_8, ie_2_9, ie_2_10, ie_3_0, ie_3_1, ie_3_2, ie_3_4, ie_3_5, ie_3_6, ie_3_7, ie_3_8, ie_3_9, ie_3_10, ie_4_0, ie_4_1, ie_4_2, ie_4_3, ie_4_5, ie_4_6, ie_4_7, ie_4_8, ie_4_9, ie_4_10, ie_5_0, ie_5_1, ie_5_2, ie_5_3, ie_5_4, ie_5_6, ie_5_7, ie_5_8, ie_5_9, ie_5_10, ie_6_0, ie_6_1, ie_6_2, ie_6_3, ie_6_4, ie_6_5, ie_6_7, ie_6_8, ie_6_9, ie_6_10, ie_7_0, ie_7_1, ie_7_2, ie_7_3, ie_7_4, ie_7_5, ie_7_6, ie_7_8, ie_7_9, ie_7_10, ie_8_0, ie_8_1, ie_8_2, ie_8_3, ie_8_4, ie_8_5, ie_8_6, ie_8_7, ie_8_9, ie_8_10, ie_9_0, ie_9_1, ie_9_2, ie_9_3, ie_9_4, ie_9_5, ie_9_6, ie_9_7, ie_9_8, ie_9_10, ie_10_0, ie_10_1, ie_10_2, ie_10_3, ie_10_4, ie_10_5, ie_10_6, ie_10_7, ie_10_8, ie_10_9]
end PB
/-- how a tape is read: as a text with its key and steps, or wrong at a place -/
theorem ps_parse (L : Nat) (xs : Nat → Int32) (c : Nat × Nat) (B : Nat → Nat) (len d : Nat) (h96 : len ≤ 96) (hB : ∀ i, i < len → B i < 256) :
    (∃ (key : Nat) (w : List pz_x), key ≤ 2 ∧ w.length < 96 ∧ pz_k key w ∧ (∀ D, tp_c D B len → ∃ D', mx_run (d + 80) 100 0 [some (.ref 20)] [] (hp (sx_rom L xs) c D) = some (none, hp (sx_rom L xs) c D') ∧ D' 20 5 = -1 ∧ D' 20 6 = nI key ∧ D' 20 7 = nI (pz_o w) ∧ D' 20 9 = nI w.length ∧ pz_FC D D' ∧ pz_la (pz_c key (D' 22)) 0 w) ∧ (∀ c' D m, tp_r D B len → m ≤ 14 → D 110 1 = nI m → ∃ D', mx_run (d + 80) 229 0 [some (.ref 109), none, none] [] (hp (sx_rom L xs) c' D) = some (some (.int (nI key)), hp (sx_rom L xs) c' D') ∧ D' 109 14 = 0 ∧ D' 109 22 = nI w.length ∧ D' 109 24 = nI (pz_o w) ∧ (∀ a, a ≠ 109 → a ≠ 110 → D' a = D a) ∧ (∀ k, k < 14 ∨ 24 < k → D' 109 k = D 109 k) ∧ (∀ j, j < ps_A m → D' 110 j = D 110 j) ∧ pz_la (pz_r (D' 110) (ps_A m)) 0 w)) ∨
    (∃ s' : Nat, s' ≤ 96 ∧ (∀ D, tp_c D B len → ∃ D', mx_run (d + 80) 100 0 [some (.ref 20)] [] (hp (sx_rom L xs) c D) = some (none, hp (sx_rom L xs) c D') ∧ D' 20 5 = nI s' ∧ pz_FC D D') ∧ (∀ c' D m, tp_r D B len → m ≤ 14 → D 110 1 = nI m → ∃ D', mx_run (d + 80) 229 0 [some (.ref 109), none, none] [] (hp (sx_rom L xs) c' D) = some (some (.int (-1)), hp (sx_rom L xs) c' D') ∧ D' 109 15 = nI s' ∧ D' 109 14 = 0 ∧ (∀ a, a ≠ 109 → a ≠ 110 → D' a = D a) ∧ (∀ k, k < 14 ∨ 24 < k → D' 109 k = D 109 k) ∧ (∀ j, j < ps_A m → D' 110 j = D 110 j))) := by
  have hT0 := ps_T0 B len h96
  by_cases hk : tk_key B (tk_st B len 0) (tk_en B len 0) (tk_ty B len 0 0) = 3
  · refine Or.inr ⟨tk_st B len 0, by have := hT0.1; have := hT0.2.1; omega, fun D hD => ?_, fun c' D m hD hm hm1 => ?_⟩
    · obtain ⟨D', a1, a2, a3⟩ := ps_Ckey0 L xs c B len (d + 74) hD hk
      exact ⟨D', a1, a2, a3⟩
    · obtain ⟨D0, n1, n2, n3⟩ := ps_R0 L xs c' B len (d + 78) hD hm hm1
      have r0 := ps_Rkey L xs c' B len (d + 77) hD hm hm1 n1 n2
      rw [if_pos hk] at r0
      refine ⟨_, r0.trans (ps_Rbad L xs c' (d + 77) D0), ?_, ?_, fun a ha hb => ?_, fun k hk2 => ?_, fun j hj => ?_⟩
      · rw [up_s, up_n _ _ _ _ (by omega)]
        exact n2.2.1
      · rw [up_s, up_s]
      · rw [up_n _ _ _ _ ha, n3.1 a ha hb]
      · rw [up_s, up_n _ _ _ _ (by omega), n3.2.1 k (by omega)]
      · rw [up_n _ _ _ _ (by omega), n3.2.2 j (by omega)]
  · obtain ⟨hk2, hty1, hes⟩ := tk_key_3 hk
    have hTe := hT0.2.1
    have hN1 := pz_T_next B len (tk_en B len 0) 1 hT0.2.1
    have hJ := pz_or L xs c B len (tk_key B (tk_st B len 0) (tk_en B len 0) (tk_ty B len 0 0)) 0 0 (d + 73) h96 (pz_all L xs c B len _ (d + 13) h96 hB hk2 8 8 0 0 (d + 73) rfl rfl (by omega))
    have hRef : ∀ (c' : Nat × Nat) (D : hz_D) (m : Nat), tp_r D B len → m ≤ 14 → D 110 1 = nI m → ∃ D0 D1, mx_run (d + 80) 229 0 [some (.ref 109), none, none] [] (hp (sx_rom L xs) c' D) = mx_run (d + 80) 229 72 [some (.ref 109), some (.int (nI (tk_key B (tk_st B len 0) (tk_en B len 0) (tk_ty B len 0 0)))), none] [] (hp (sx_rom L xs) c' D0) ∧ mx_run (d + 79) 230 0 [some (.ref 109), none, none] [] (hp (sx_rom L xs) c' D0) = some (none, hp (sx_rom L xs) c' D1) ∧ pz_R D1 B len (tk_st B len (tk_en B len 0)) (tk_en B len (tk_en B len 0)) (tk_ty B len (tk_en B len 0) 1) 0 0 0 (ps_A m) 0 ∧ pz_FE D D1 (ps_A m) 0 := by
      intro c' D m hD hm hm1
      obtain ⟨D0, n1, n2, n3⟩ := ps_R0 L xs c' B len (d + 78) hD hm hm1
      have r0 := ps_Rkey L xs c' B len (d + 77) hD hm hm1 n1 n2
      rw [if_neg hk] at r0
      obtain ⟨D1, m1, m2, m3, m4⟩ := pz_Rnext (sx_rom L xs) c' B len (d + 78) n2 hT0
      rw [hty1] at m2
      exact ⟨D0, D1, r0, m1, m2, pz_FE_t n3 (m3 0) (Nat.le_refl _)⟩
    have hA : ∀ m, m ≤ 14 → ps_A m + 192 ≤ 3075 := fun m hm => by
      rcases ps_A_le m hm with z | z
      · exact z.1
      · exact z.1
    rcases hJ _ _ _ hN1.1 with ⟨w, s', e', ty', hT', hsw, hwk, hG, hH⟩ | ⟨s', hs', hG, hH⟩
    · have ht1 := hT'.1
      have ht2 := hT'.2.1
      by_cases hy : ty' = 0
      · refine Or.inl ⟨_, w, hk2, by omega, hwk, fun D hD => ?_, fun c' D m hD hm hm1 => ?_⟩
        · obtain ⟨D0, cs0, fc0, cont⟩ := ps_Ckey1 L xs c B len (d + 74) hD hk
          obtain ⟨D1, g1, g2, g3, g4, g5⟩ := hG D0 0 0 cs0 (by omega)
          have r1 := (cont D1 g1).trans (ps_Cend L xs c B len (d + 80) g2 hT')
          rw [if_pos hy] at r1
          rw [Nat.zero_add, Nat.zero_add] at g2
          exact ⟨D1, r1, g2.2.2.2.2.1, g2.2.2.2.2.2.1, g2.2.2.2.2.2.2.1, g2.2.2.2.2.2.2.2, pz_FC_t fc0 g3, g5⟩
        · obtain ⟨D0, D1, r0, nx, c1, fe⟩ := hRef c' D m hD hm hm1
          obtain ⟨D2, g1, g2, g3, g5⟩ := hH c' D1 0 0 (ps_A m) c1 (by omega) (hA m hm)
          have r1 := r0.trans (ps_Rb1 L xs c' (d + 77) _ ty' hk2 D0 nx g1 g2.2.2.2.1 hT'.2.2.1)
          rw [if_pos hy] at r1
          rw [Nat.zero_add, Nat.zero_add] at g2
          have fe2 := pz_FE_t fe g3 (Nat.le_refl _)
          refine ⟨_, r1, ?_, ?_, ?_, fun a ha hb => ?_, fun k hk3 => ?_, fun j hj => ?_, ?_⟩
          · rw [up_s, up_s]
          · rw [up_s, up_n _ _ _ _ (by omega)]
            exact g2.2.2.2.2.2.2.2.2.2.1
          · rw [up_s, up_n _ _ _ _ (by omega)]
            exact g2.2.2.2.2.2.2.2.2.2.2.2
          · rw [up_n _ _ _ _ ha, fe2.1 a ha hb]
          · rw [up_s, up_n _ _ _ _ (by omega), fe2.2.1 k (by omega)]
          · rw [up_n _ _ _ _ (by omega), fe2.2.2 j (by omega)]
          · rw [up_n _ _ _ _ (by omega)]
            exact g5
      · refine Or.inr ⟨s', by omega, fun D hD => ?_, fun c' D m hD hm hm1 => ?_⟩
        · obtain ⟨D0, cs0, fc0, cont⟩ := ps_Ckey1 L xs c B len (d + 74) hD hk
          obtain ⟨D1, g1, g2, g3, g4, g5⟩ := hG D0 0 0 cs0 (by omega)
          have r1 := (cont D1 g1).trans (ps_Cend L xs c B len (d + 80) g2 hT')
          rw [if_neg hy] at r1
          refine ⟨_, r1, ?_, fun a ha hb => ?_⟩
          · rw [up_s, up_s]
          · rw [up_n _ _ _ _ ha, g3 a ha hb, fc0 a ha hb]
        · obtain ⟨D0, D1, r0, nx, c1, fe⟩ := hRef c' D m hD hm hm1
          obtain ⟨D2, g1, g2, g3, g5⟩ := hH c' D1 0 0 (ps_A m) c1 (by omega) (hA m hm)
          have r1 := r0.trans (ps_Rb1 L xs c' (d + 77) _ ty' hk2 D0 nx g1 g2.2.2.2.1 hT'.2.2.1)
          rw [if_neg hy] at r1
          have fe2 := pz_FE_t fe g3 (Nat.le_refl _)
          refine ⟨_, r1, ?_, ?_, fun a ha hb => ?_, fun k hk3 => ?_, fun j hj => ?_⟩
          · rw [up_s, up_n _ _ _ _ (by omega)]
            exact g2.2.1
          · rw [up_s, up_s]
          · rw [up_n _ _ _ _ ha, fe2.1 a ha hb]
          · rw [up_s, up_n _ _ _ _ (by omega), fe2.2.1 k (by omega)]
          · rw [up_n _ _ _ _ (by omega), fe2.2.2 j (by omega)]
    · refine Or.inr ⟨s', by omega, fun D hD => ?_, fun c' D m hD hm hm1 => ?_⟩
      · obtain ⟨D0, cs0, fc0, cont⟩ := ps_Ckey1 L xs c B len (d + 74) hD hk
        obtain ⟨D1, n', g1, g2, g3, g4, g5, g6⟩ := hG D0 0 0 cs0 (by omega)
        exact ⟨D1, (cont D1 g1).trans (ps_Cend9 L xs c (d + 80) g2 (by omega)), g2, pz_FC_t fc0 g6⟩
      · obtain ⟨D0, D1, r0, nx, c1, fe⟩ := hRef c' D m hD hm hm1
        obtain ⟨D2, g1, g2, g3⟩ := hH c' D1 0 0 (ps_A m) c1 (by omega) (hA m hm)
        have r1 := r0.trans (ps_Rb0 L xs c' (d + 77) _ hk2 D0 nx g1)
        have fe2 := pz_FE_t fe g3 (Nat.le_refl _)
        refine ⟨_, r1, ?_, ?_, fun a ha hb => ?_, fun k hk3 => ?_, fun j hj => ?_⟩
        · rw [up_s, up_n _ _ _ _ (by omega)]
          exact g2
        · rw [up_s, up_s]
        · rw [up_n _ _ _ _ ha, fe2.1 a ha hb]
        · rw [up_s, up_n _ _ _ _ (by omega), fe2.2.1 k (by omega)]
        · rw [up_n _ _ _ _ (by omega), fe2.2.2 j (by omega)]
