section KZ
variable (L : Nat) (xs : Nat → Int32) (c : Nat × Nat) (D : hz_D)
/-- parseKey of the class -/
theorem ct_key (d : Nat) (B : Nat → Nat) (len s e ty : Nat) (ht : tp_c D B len) (h2 : D 20 2 = nI ty) (h3 : D 20 3 = nI s) (h4 : D 20 4 = nI e) (hty : ty ≤ 4) (hse : s ≤ e) (he : e ≤ len) : mx_run (d + 5) 104 0 [some (.ref 20)] [] (hp (sx_rom L xs) c D) = some (none, hp (sx_rom L xs) c (if tk_key B s e ty = 3 then mx_up D 20 (mx_up (D 20) 5 (nI s)) else tk_D (mx_up D 20 (mx_up (D 20) 6 (nI (tk_key B s e ty)))) B len e ty)) := by
  have g4 : mx_run (d + 4) 105 0 [some (.ref 20), some (.ref 4), none] [] (hp (sx_rom L xs) c D) = some (some (.int (nI (jw_W B s e ty 4))), hp (sx_rom L xs) c D) := ct_isWord L xs c D d 4 (by omega) B len s e ty none ht h2 h3 h4 hty hse he
  have g5 : mx_run (d + 4) 105 0 [some (.ref 20), some (.ref 5), none] [] (hp (sx_rom L xs) c D) = some (some (.int (nI (jw_W B s e ty 5))), hp (sx_rom L xs) c D) := ct_isWord L xs c D d 5 (by omega) B len s e ty none ht h2 h3 h4 hty hse he
  have g6 : mx_run (d + 4) 105 0 [some (.ref 20), some (.ref 6), none] [] (hp (sx_rom L xs) c D) = some (some (.int (nI (jw_W B s e ty 6))), hp (sx_rom L xs) c D) := ct_isWord L xs c D d 6 (by omega) B len s e ty none ht h2 h3 h4 hty hse he
  have nx : ∀ k : Nat, mx_run (d + 4) 101 0 [some (.ref 20), none, none, none] [] (hp (sx_rom L xs) c (mx_up D 20 (mx_up (D 20) 6 (nI k)))) = some (none, hp (sx_rom L xs) c (tk_D (mx_up D 20 (mx_up (D 20) 6 (nI k))) B len e ty)) := fun k => ct_next (sx_rom L xs) c (d + 3) _ B len e ty none none none (tp_c_up ht 6 _ (by omega)) (by rw [up_s, up_n _ _ _ _ (by omega)]; exact h4) (by rw [up_s, up_n _ _ _ _ (by omega)]; exact h2) he hty
  have n0 := nx 0
  have n1 := nx 1
  have n2 := nx 2
  rw [show nI 0 = (0 : Int32) from rfl] at n0
  rw [show nI 1 = (1 : Int32) from rfl] at n1
  rw [show nI 2 = (2 : Int32) from rfl] at n2
  have i4 := jw_W1 B s e ty 4
  have i5 := jw_W1 B s e ty 5
  have i6 := jw_W1 B s e ty 6
  have e4 : (nI (jw_W B s e ty 4) = 0) = (jw_W B s e ty 4 = 0) := propext (nI_eq (b := 0) (by omega) (by omega))
  have e5 : (nI (jw_W B s e ty 5) = 0) = (jw_W B s e ty 5 = 0) := propext (nI_eq (b := 0) (by omega) (by omega))
  have e6 : (nI (jw_W B s e ty 6) = 0) = (jw_W B s e ty 6 = 0) := propext (nI_eq (b := 0) (by omega) (by omega))
  unfold tk_key
  by_cases q4 : jw_W B s e ty 4 = 0
  · by_cases q5 : jw_W B s e ty 5 = 0
    · by_cases q6 : jw_W B s e ty 6 = 0
      · rw [if_neg (not_not_intro q4), if_neg (not_not_intro q5), if_neg (not_not_intro q6), if_pos rfl]
        simp (disch := first | assumption | omega | exact kd_sh _ _ _ (by assumption) | exact kd_sea _ _ _ (by assumption) | exact is_bts (by assumption) _ (by omega) | exact kd_bt _ _ _ (by first | assumption | exact is_bts (by assumption) _ (by omega)) | exact kd_109 _ _ _ | exact kd_17 _ _ _ | exact kd_20 _ _ _) only [iq_104_0, iq_104_1, iq_104_3, iq_104_6, iq_104_9, iq_104_10, iq_104_11, iq_104_14, iq_104_17, iq_104_18, iq_104_20, iq_104_23, iq_104_26, iq_104_27, iq_104_28, iq_104_31, iq_104_34, iq_104_35, iq_104_37, iq_104_40, iq_104_43, iq_104_44, iq_104_45, iq_104_48, iq_104_51, iq_104_52, iq_104_53, iq_104_56, iq_104_59, iq_104_60, iq_104_61, iq_104_64, Option.bind_some, Option.toList, List.cons_append, List.nil_append, ↓reduceIte, nI_1, Int32.reduceLT, Int32.reduceLE, dv_1, dv_2, dv_3, dv_4, dv_6, dv_8, dv_10, dv_20, dv_100, dv_200, dv_500, gf_20_0, gf_20_1, gf_20_2, gf_20_3, gf_20_4, gf_20_5, gf_20_6, gf_20_7, gf_20_8, gf_20_9, kd_20, pf_20_1, pf_20_2, pf_20_3, pf_20_4, pf_20_5, pf_20_6, pf_20_7, pf_20_9, g4, g5, g6, e4, e5, e6, n0, n1, n2, h3]
        simp only [if_pos q4, if_pos q5, if_pos q6]
      · rw [if_neg (not_not_intro q4), if_neg (not_not_intro q5), if_pos q6, if_neg (by omega)]
        simp (disch := first | assumption | omega | exact kd_sh _ _ _ (by assumption) | exact kd_sea _ _ _ (by assumption) | exact is_bts (by assumption) _ (by omega) | exact kd_bt _ _ _ (by first | assumption | exact is_bts (by assumption) _ (by omega)) | exact kd_109 _ _ _ | exact kd_17 _ _ _ | exact kd_20 _ _ _) only [iq_104_0, iq_104_1, iq_104_3, iq_104_6, iq_104_9, iq_104_10, iq_104_11, iq_104_14, iq_104_17, iq_104_18, iq_104_20, iq_104_23, iq_104_26, iq_104_27, iq_104_28, iq_104_31, iq_104_34, iq_104_35, iq_104_37, iq_104_40, iq_104_43, iq_104_44, iq_104_45, iq_104_48, iq_104_51, iq_104_52, iq_104_53, iq_104_56, iq_104_59, iq_104_60, iq_104_61, iq_104_64, Option.bind_some, Option.toList, List.cons_append, List.nil_append, ↓reduceIte, nI_1, Int32.reduceLT, Int32.reduceLE, dv_1, dv_2, dv_3, dv_4, dv_6, dv_8, dv_10, dv_20, dv_100, dv_200, dv_500, gf_20_0, gf_20_1, gf_20_2, gf_20_3, gf_20_4, gf_20_5, gf_20_6, gf_20_7, gf_20_8, gf_20_9, kd_20, pf_20_1, pf_20_2, pf_20_3, pf_20_4, pf_20_5, pf_20_6, pf_20_7, pf_20_9, g4, g5, g6, e4, e5, e6, n0, n1, n2, h3]
        simp only [if_pos q4, if_pos q5, if_neg q6]
        all_goals rfl
    · rw [if_neg (not_not_intro q4), if_pos q5, if_neg (by omega)]
      simp (disch := first | assumption | omega | exact kd_sh _ _ _ (by assumption) | exact kd_sea _ _ _ (by assumption) | exact is_bts (by assumption) _ (by omega) | exact kd_bt _ _ _ (by first | assumption | exact is_bts (by assumption) _ (by omega)) | exact kd_109 _ _ _ | exact kd_17 _ _ _ | exact kd_20 _ _ _) only [iq_104_0, iq_104_1, iq_104_3, iq_104_6, iq_104_9, iq_104_10, iq_104_11, iq_104_14, iq_104_17, iq_104_18, iq_104_20, iq_104_23, iq_104_26, iq_104_27, iq_104_28, iq_104_31, iq_104_34, iq_104_35, iq_104_37, iq_104_40, iq_104_43, iq_104_44, iq_104_45, iq_104_48, iq_104_51, iq_104_52, iq_104_53, iq_104_56, iq_104_59, iq_104_60, iq_104_61, iq_104_64, Option.bind_some, Option.toList, List.cons_append, List.nil_append, ↓reduceIte, nI_1, Int32.reduceLT, Int32.reduceLE, dv_1, dv_2, dv_3, dv_4, dv_6, dv_8, dv_10, dv_20, dv_100, dv_200, dv_500, gf_20_0, gf_20_1, gf_20_2, gf_20_3, gf_20_4, gf_20_5, gf_20_6, gf_20_7, gf_20_8, gf_20_9, kd_20, pf_20_1, pf_20_2, pf_20_3, pf_20_4, pf_20_5, pf_20_6, pf_20_7, pf_20_9, g4, g5, g6, e4, e5, e6, n0, n1, n2, h3]
      simp only [if_pos q4, if_neg q5]
      all_goals rfl
  · rw [if_pos q4, if_neg (by omega)]
    simp (disch := first | assumption | omega | exact kd_sh _ _ _ (by assumption) | exact kd_sea _ _ _ (by assumption) | exact is_bts (by assumption) _ (by omega) | exact kd_bt _ _ _ (by first | assumption | exact is_bts (by assumption) _ (by omega)) | exact kd_109 _ _ _ | exact kd_17 _ _ _ | exact kd_20 _ _ _) only [iq_104_0, iq_104_1, iq_104_3, iq_104_6, iq_104_9, iq_104_10, iq_104_11, iq_104_14, iq_104_17, iq_104_18, iq_104_20, iq_104_23, iq_104_26, iq_104_27, iq_104_28, iq_104_31, iq_104_34, iq_104_35, iq_104_37, iq_104_40, iq_104_43, iq_104_44, iq_104_45, iq_104_48, iq_104_51, iq_104_52, iq_104_53, iq_104_56, iq_104_59, iq_104_60, iq_104_61, iq_104_64, Option.bind_some, Option.toList, List.cons_append, List.nil_append, ↓reduceIte, nI_1, Int32.reduceLT, Int32.reduceLE, dv_1, dv_2, dv_3, dv_4, dv_6, dv_8, dv_10, dv_20, dv_100, dv_200, dv_500, gf_20_0, gf_20_1, gf_20_2, gf_20_3, gf_20_4, gf_20_5, gf_20_6, gf_20_7, gf_20_8, gf_20_9, kd_20, pf_20_1, pf_20_2, pf_20_3, pf_20_4, pf_20_5, pf_20_6, pf_20_7, pf_20_9, g4, g5, g6, e4, e5, e6, n0, n1, n2, h3]
    simp only [if_neg q4]
    all_goals rfl
end KZ
/-- which of its key's names the letter b is; 3: none -/
def tk_nm (key b : Nat) : Nat := if key = 0 then (if b = 119 then 0 else if b = 104 then 1 else if b = 115 then 2 else 3) else if key = 1 then (if b = 119 then 0 else if b = 110 then 1 else 3) else (if b = 99 then 0 else if b = 112 then 1 else 3)
theorem rt_isName (d key b : Nat) (hk : key ≤ 2) (hb : b < 256) (h : mx_MH) : mx_run d 242 0 [some (.int (nI key)), some (.int (nI b))] [] h = some (some (.int (if tk_nm key b = 3 then 0 else 1)), h) := by
  have e1 : (nI b = 119) = (b = 119) := propext (nI_eq (b := 119) (by omega) (by omega))
  have e2 : (nI b = 104) = (b = 104) := propext (nI_eq (b := 104) (by omega) (by omega))
  have e3 : (nI b = 115) = (b = 115) := propext (nI_eq (b := 115) (by omega) (by omega))
  have e4 : (nI b = 110) = (b = 110) := propext (nI_eq (b := 110) (by omega) (by omega))
  have e5 : (nI b = 99) = (b = 99) := propext (nI_eq (b := 99) (by omega) (by omega))
  have e6 : (nI b = 112) = (b = 112) := propext (nI_eq (b := 112) (by omega) (by omega))
  have k0 : (nI key = 0) = (key = 0) := propext (nI_eq (b := 0) (by omega) (by omega))
  have k1 : (nI key = 1) = (key = 1) := propext (nI_eq (b := 1) (by omega) (by omega))
  unfold tk_nm
  simp only [iq_242_0, iq_242_1, iq_242_28, iq_242_29, iq_242_31, iq_242_34, iq_242_35, iq_242_37, iq_242_40, iq_242_41, iq_242_43, iq_242_46, iq_242_47, iq_242_50, iq_242_51, iq_242_51z, iq_242_52, iq_242_53, iq_242_55, iq_242_58, iq_242_59, iq_242_61, iq_242_64, iq_242_65, iq_242_68, iq_242_69, iq_242_69z, iq_242_70, iq_242_71, iq_242_73, iq_242_76, iq_242_77, iq_242_79, iq_242_82, iq_242_83, iq_242_86, iq_242_87, iq_242_87z, ib_242_51, ib_242_69, ib_242_87, Option.bind_some, Option.toList, List.cons_append, List.nil_append, ↓reduceIte, nI_1, Int32.reduceLT, Int32.reduceLE, dv_1, dv_2, dv_3, dv_4, dv_6, dv_8, dv_10, dv_20, dv_100, dv_200, dv_500, e1, e2, e3, e4, e5, e6, k0, k1]
  by_cases a0 : key = 0
  · by_cases q0 : b = 119
    · simp only [if_pos a0, if_pos q0]
      all_goals rfl
    · by_cases q1 : b = 104
      · simp only [if_pos a0, if_neg q0, if_pos q1]
        all_goals rfl
      · by_cases q2 : b = 115
        · simp only [if_pos a0, if_neg q0, if_neg q1, if_pos q2]
          all_goals rfl
        · simp only [if_pos a0, if_neg q0, if_neg q1, if_neg q2]
          all_goals rfl
  · by_cases a1 : key = 1
    · by_cases q0 : b = 119
      · simp only [if_neg a0, if_pos a1, if_pos q0]
        all_goals rfl
      · by_cases q1 : b = 110
        · simp only [if_neg a0, if_pos a1, if_neg q0, if_pos q1]
          all_goals rfl
        · simp only [if_neg a0, if_pos a1, if_neg q0, if_neg q1]
          all_goals rfl
    · by_cases q0 : b = 99
      · simp only [if_neg a0, if_neg a1, if_pos q0]
        all_goals rfl
      · by_cases q1 : b = 112
        · simp only [if_neg a0, if_neg a1, if_neg q0, if_pos q1]
          all_goals rfl
        · simp only [if_neg a0, if_neg a1, if_neg q0, if_neg q1]
          all_goals rfl
set_option maxRecDepth 20000 in
theorem k8c : ∀ n, n < 256 → ((nI n).toUInt32 % 65536).toInt32 = nI n := by decide
set_option maxRecDepth 20000 in
theorem k8b (g : Nat) (hg : g = 119 ∨ g = 104 ∨ g = 115 ∨ g = 110 ∨ g = 99 ∨ g = 112) : ∀ n, n < 256 → (nI g = (nI n).toInt8.toInt32 ↔ n = g) := by
  rcases hg with e | e | e | e | e | e <;> subst e <;> decide
