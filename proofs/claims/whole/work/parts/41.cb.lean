/-- the number of a name, as the class keeps it -/
def sp_li (key v : Int32) : Int32 := if key = 0 then (if v = 119 then -1 else if v = 104 then -2 else -3) else if key = 1 then (if v = 119 then -1 else -2) else (if v = 99 then -1 else -2)
def sp_cd (key what v : Int32) : Int32 := if what = 0 then v else if what = 1 then sp_li key v else -v
def tx_rel (c : Nat × Nat) (D : hz_D) (p : Nat) (s : Nat → Int32) (t : Nat) : Prop := is_tx c p ∧ D p 0 = s (75 + 200 * t) ∧ D p 1 = s (75 + 200 * t + 1) ∧ ∃ q o o' : Nat, s (75 + 200 * t + 2) = nI q ∧ q ≤ 96 ∧ s (75 + 200 * t + 1) = nI o ∧ D p 2 = nI q ∧ D p 3 = nI o' ∧ o ≤ o' ∧ 1 ≤ o' ∧ o' ≤ 96 ∧ (∀ k, k < q → D (p + 1) k = sp_cd (s (75 + 200 * t)) (sp_wt s t k) (sp_wv s t k)) ∧ (∀ k, k < q → sp_wt s t k ≠ 2 → sp_dp s t k < o)
variable (R : Nat → Option mx_MC) (c : Nat × Nat) (D : hz_D) {p : Nat}
theorem cg_e (d q o' : Nat) (h : is_tx c p) (hq : D p 2 = nI q) (hq9 : q ≤ 96) (ho : D p 3 = nI o') (h1 : 1 ≤ o') (h9 : o' ≤ 96) (l1 l2 l3 l4 l6 : Option Value) : mx_run d 23 6 [some (.ref p), l1, l2, l3, l4, some (.int (nI q)), l6] [] (hp R c D) = some (some (.int (D (p + 2) 0)), hp R c D) := by
  rw [iq_23_6]
  simp (disch := first | assumption | exact kd_109 _ _ _ | omega) only [iq_23_0, iq_23_1, iq_23_3, iq_23_4, iq_23_8, iq_23_9, iq_23_12, iq_23_13, iq_23_16, iq_23_17, iq_23_20, iq_23_22, iq_23_23, iq_23_25, iq_23_27, iq_23_29, iq_23_32, iq_23_34, iq_23_35, iq_23_38, iq_23_39, iq_23_42, iq_23_43, iq_23_46, iq_23_48, iq_23_50, iq_23_53, iq_23_55, iq_23_58, iq_23_60, iq_23_61, iq_23_64, iq_23_65, iq_23_68, iq_23_70, iq_23_72, iq_23_75, iq_23_76, iq_23_79, iq_23_80, iq_23_81, iq_23_84, iq_23_87, iq_23_89, iq_23_91, iq_23_94, iq_23_96, iq_23_97, iq_23_100, iq_23_101, iq_23_104, iq_23_106, iq_23_107, iq_23_108, iq_23_109, iq_23_112, iq_23_114, iq_23_115, iq_23_116, iq_23_117, iq_23_120, iq_23_121, iq_23_124, iq_23_125, iq_23_126, iq_23_129, iq_23_131, iq_23_132, iq_23_135, iq_23_138, iq_23_139, iq_23_142, iq_23_144, iq_23_145, iq_23_146, iq_23_148, iq_23_149, iq_23_150, iq_23_153, iq_23_155, iq_23_156, iq_23_157, iq_23_158, iq_23_159, iq_23_162, iq_23_164, iq_23_165, iq_23_168, iq_23_169, iq_23_172, iq_23_175, iq_23_176, iq_23_179, iq_23_180, iq_23_181, Option.bind_some, Option.toList, List.cons_append, List.nil_append, ↓reduceIte, nI_1, Int32.reduceLT, Int32.reduceLE, dv_1, dv_2, dv_3, dv_4, dv_6, dv_8, dv_10, dv_20, dv_100, dv_200, dv_500, gf_tx_2, gf_tx_3, ln_tx1 R c D h hq (by omega), nz_lt, nz_nlt, nz_eq, nz_ne, show mg_ld (hp R c D) (p + 2) .int 0 = some (.int (D (p + 2) 0)) from ld_tx2 R c D h ho (by omega) 0 (by omega)]
theorem cg_a (d q k : Nat) (h : is_tx c p) (hq : D p 2 = nI q) (hq9 : q ≤ 96) (hk : k < q) (l1 l2 l3 l4 l6 : Option Value) : mx_run d 23 6 [some (.ref p), l1, l2, l3, l4, some (.int (nI k)), l6] [] (hp R c D) = mx_run d 23 25 [some (.ref p), l1, l2, l3, l4, some (.int (nI k)), some (.int (D (p + 1) k))] [] (hp R c D) := by
  rw [iq_23_6]
  simp (disch := first | assumption | exact kd_109 _ _ _ | omega) only [iq_23_0, iq_23_1, iq_23_3, iq_23_4, iq_23_8, iq_23_9, iq_23_12, iq_23_13, iq_23_16, iq_23_17, iq_23_20, iq_23_22, iq_23_23, iq_23_27, iq_23_29, iq_23_32, iq_23_34, iq_23_35, iq_23_38, iq_23_39, iq_23_42, iq_23_43, iq_23_46, iq_23_48, iq_23_50, iq_23_53, iq_23_55, iq_23_58, iq_23_60, iq_23_61, iq_23_64, iq_23_65, iq_23_68, iq_23_70, iq_23_72, iq_23_75, iq_23_76, iq_23_79, iq_23_80, iq_23_81, iq_23_84, iq_23_87, iq_23_89, iq_23_91, iq_23_94, iq_23_96, iq_23_97, iq_23_100, iq_23_101, iq_23_104, iq_23_106, iq_23_107, iq_23_108, iq_23_109, iq_23_112, iq_23_114, iq_23_115, iq_23_116, iq_23_117, iq_23_120, iq_23_121, iq_23_124, iq_23_125, iq_23_126, iq_23_129, iq_23_131, iq_23_132, iq_23_135, iq_23_138, iq_23_139, iq_23_142, iq_23_144, iq_23_145, iq_23_146, iq_23_148, iq_23_149, iq_23_150, iq_23_153, iq_23_155, iq_23_156, iq_23_157, iq_23_158, iq_23_159, iq_23_162, iq_23_164, iq_23_165, iq_23_168, iq_23_169, iq_23_172, iq_23_175, iq_23_176, iq_23_179, iq_23_180, iq_23_181, Option.bind_some, Option.toList, List.cons_append, List.nil_append, ↓reduceIte, nI_1, Int32.reduceLT, Int32.reduceLE, dv_1, dv_2, dv_3, dv_4, dv_6, dv_8, dv_10, dv_20, dv_100, dv_200, dv_500, gf_tx_2, gf_tx_3, ln_tx1 R c D h hq (by omega), nz_lt, nz_nlt, nz_eq, nz_ne, ld_tx1 R c D h hq (by omega) k hk]
theorem cg_0 (d o' k n : Nat) (h : is_tx c p) (ho : D p 3 = nI o') (h9 : o' ≤ 96) (hn : n < o') (u : Nat) (hu : u < 10000) (l1 l2 l3 : Option Value) : mx_run d 23 25 [some (.ref p), l1, l2, l3, some (.int (nI n)), some (.int (nI k)), some (.int (nI u))] [] (hp R c D) = mx_run d 23 6 [some (.ref p), l1, l2, l3, some (.int (nI (n + 1))), some (.int (nI (k + 1))), some (.int (nI u))] [] (hp R c (mx_up D (p + 2) (mx_up (D (p + 2)) n (nI u)))) := by
  have e3 : (nI u < -3) = False := eq_false (fun z => by
    rw [Int32.lt_iff_toInt_lt, nI_toInt (by omega), show (-3 : Int32).toInt = -3 by decide] at z
    omega)
  simp (disch := first | assumption | exact kd_109 _ _ _ | omega) only [iq_23_0, iq_23_1, iq_23_3, iq_23_4, iq_23_8, iq_23_9, iq_23_12, iq_23_13, iq_23_16, iq_23_17, iq_23_20, iq_23_22, iq_23_23, iq_23_25, iq_23_27, iq_23_29, iq_23_32, iq_23_34, iq_23_35, iq_23_38, iq_23_39, iq_23_42, iq_23_43, iq_23_46, iq_23_48, iq_23_50, iq_23_53, iq_23_55, iq_23_58, iq_23_60, iq_23_61, iq_23_64, iq_23_65, iq_23_68, iq_23_70, iq_23_72, iq_23_75, iq_23_76, iq_23_79, iq_23_80, iq_23_81, iq_23_84, iq_23_87, iq_23_89, iq_23_91, iq_23_94, iq_23_96, iq_23_97, iq_23_100, iq_23_101, iq_23_104, iq_23_106, iq_23_107, iq_23_108, iq_23_109, iq_23_112, iq_23_114, iq_23_115, iq_23_116, iq_23_117, iq_23_120, iq_23_121, iq_23_124, iq_23_125, iq_23_126, iq_23_129, iq_23_131, iq_23_132, iq_23_135, iq_23_138, iq_23_139, iq_23_142, iq_23_144, iq_23_145, iq_23_146, iq_23_148, iq_23_149, iq_23_150, iq_23_153, iq_23_155, iq_23_156, iq_23_157, iq_23_158, iq_23_159, iq_23_162, iq_23_164, iq_23_165, iq_23_168, iq_23_169, iq_23_172, iq_23_175, iq_23_176, iq_23_179, iq_23_180, iq_23_181, Option.bind_some, Option.toList, List.cons_append, List.nil_append, ↓reduceIte, nI_1, Int32.reduceLT, Int32.reduceLE, dv_1, dv_2, dv_3, dv_4, dv_6, dv_8, dv_10, dv_20, dv_100, dv_200, dv_500, gf_tx_3, e3, nz_nlt_0, ln_tx2 R c D h ho (by omega), nz_lt, nz_nlt, nz_eq, nz_ne, st_tx2 R c D h ho (by omega) n _ hn]
theorem cg_1 (d o' k n : Nat) (h : is_tx c p) (ho : D p 3 = nI o') (h9 : o' ≤ 96) (hn : n < o') (x1 x2 x3 v : Int32) (hv : v = -1 ∨ v = -2 ∨ v = -3) : mx_run d 23 25 [some (.ref p), some (.int x1), some (.int x2), some (.int x3), some (.int (nI n)), some (.int (nI k)), some (.int v)] [] (hp R c D) = mx_run d 23 6 [some (.ref p), some (.int x1), some (.int x2), some (.int x3), some (.int (nI (n + 1))), some (.int (nI (k + 1))), some (.int v)] [] (hp R c (mx_up D (p + 2) (mx_up (D (p + 2)) n (if v = -1 then x1 else if v = -2 then x2 else x3)))) := by
  rcases hv with rfl | rfl | rfl
  · simp (disch := first | assumption | exact kd_109 _ _ _ | omega) only [iq_23_0, iq_23_1, iq_23_3, iq_23_4, iq_23_8, iq_23_9, iq_23_12, iq_23_13, iq_23_16, iq_23_17, iq_23_20, iq_23_22, iq_23_23, iq_23_25, iq_23_27, iq_23_29, iq_23_32, iq_23_34, iq_23_35, iq_23_38, iq_23_39, iq_23_42, iq_23_43, iq_23_46, iq_23_48, iq_23_50, iq_23_53, iq_23_55, iq_23_58, iq_23_60, iq_23_61, iq_23_64, iq_23_65, iq_23_68, iq_23_70, iq_23_72, iq_23_75, iq_23_76, iq_23_79, iq_23_80, iq_23_81, iq_23_84, iq_23_87, iq_23_89, iq_23_91, iq_23_94, iq_23_96, iq_23_97, iq_23_100, iq_23_101, iq_23_104, iq_23_106, iq_23_107, iq_23_108, iq_23_109, iq_23_112, iq_23_114, iq_23_115, iq_23_116, iq_23_117, iq_23_120, iq_23_121, iq_23_124, iq_23_125, iq_23_126, iq_23_129, iq_23_131, iq_23_132, iq_23_135, iq_23_138, iq_23_139, iq_23_142, iq_23_144, iq_23_145, iq_23_146, iq_23_148, iq_23_149, iq_23_150, iq_23_153, iq_23_155, iq_23_156, iq_23_157, iq_23_158, iq_23_159, iq_23_162, iq_23_164, iq_23_165, iq_23_168, iq_23_169, iq_23_172, iq_23_175, iq_23_176, iq_23_179, iq_23_180, iq_23_181, Option.bind_some, Option.toList, List.cons_append, List.nil_append, ↓reduceIte, nI_1, Int32.reduceLT, Int32.reduceLE, dv_1, dv_2, dv_3, dv_4, dv_6, dv_8, dv_10, dv_20, dv_100, dv_200, dv_500, gf_tx_3, ln_tx2 R c D h ho (by omega), nz_lt, nz_nlt, nz_eq, nz_ne, st_tx2 R c D h ho (by omega) n _ hn]
  · simp (disch := first | assumption | exact kd_109 _ _ _ | omega) only [iq_23_0, iq_23_1, iq_23_3, iq_23_4, iq_23_8, iq_23_9, iq_23_12, iq_23_13, iq_23_16, iq_23_17, iq_23_20, iq_23_22, iq_23_23, iq_23_25, iq_23_27, iq_23_29, iq_23_32, iq_23_34, iq_23_35, iq_23_38, iq_23_39, iq_23_42, iq_23_43, iq_23_46, iq_23_48, iq_23_50, iq_23_53, iq_23_55, iq_23_58, iq_23_60, iq_23_61, iq_23_64, iq_23_65, iq_23_68, iq_23_70, iq_23_72, iq_23_75, iq_23_76, iq_23_79, iq_23_80, iq_23_81, iq_23_84, iq_23_87, iq_23_89, iq_23_91, iq_23_94, iq_23_96, iq_23_97, iq_23_100, iq_23_101, iq_23_104, iq_23_106, iq_23_107, iq_23_108, iq_23_109, iq_23_112, iq_23_114, iq_23_115, iq_23_116, iq_23_117, iq_23_120, iq_23_121, iq_23_124, iq_23_125, iq_23_126, iq_23_129, iq_23_131, iq_23_132, iq_23_135, iq_23_138, iq_23_139, iq_23_142, iq_23_144, iq_23_145, iq_23_146, iq_23_148, iq_23_149, iq_23_150, iq_23_153, iq_23_155, iq_23_156, iq_23_157, iq_23_158, iq_23_159, iq_23_162, iq_23_164, iq_23_165, iq_23_168, iq_23_169, iq_23_172, iq_23_175, iq_23_176, iq_23_179, iq_23_180, iq_23_181, Option.bind_some, Option.toList, List.cons_append, List.nil_append, ↓reduceIte, nI_1, Int32.reduceLT, Int32.reduceLE, dv_1, dv_2, dv_3, dv_4, dv_6, dv_8, dv_10, dv_20, dv_100, dv_200, dv_500, gf_tx_3, show ((-2 : Int32) = -1) = False by decide, ln_tx2 R c D h ho (by omega), nz_lt, nz_nlt, nz_eq, nz_ne, st_tx2 R c D h ho (by omega) n _ hn]
  · simp (disch := first | assumption | exact kd_109 _ _ _ | omega) only [iq_23_0, iq_23_1, iq_23_3, iq_23_4, iq_23_8, iq_23_9, iq_23_12, iq_23_13, iq_23_16, iq_23_17, iq_23_20, iq_23_22, iq_23_23, iq_23_25, iq_23_27, iq_23_29, iq_23_32, iq_23_34, iq_23_35, iq_23_38, iq_23_39, iq_23_42, iq_23_43, iq_23_46, iq_23_48, iq_23_50, iq_23_53, iq_23_55, iq_23_58, iq_23_60, iq_23_61, iq_23_64, iq_23_65, iq_23_68, iq_23_70, iq_23_72, iq_23_75, iq_23_76, iq_23_79, iq_23_80, iq_23_81, iq_23_84, iq_23_87, iq_23_89, iq_23_91, iq_23_94, iq_23_96, iq_23_97, iq_23_100, iq_23_101, iq_23_104, iq_23_106, iq_23_107, iq_23_108, iq_23_109, iq_23_112, iq_23_114, iq_23_115, iq_23_116, iq_23_117, iq_23_120, iq_23_121, iq_23_124, iq_23_125, iq_23_126, iq_23_129, iq_23_131, iq_23_132, iq_23_135, iq_23_138, iq_23_139, iq_23_142, iq_23_144, iq_23_145, iq_23_146, iq_23_148, iq_23_149, iq_23_150, iq_23_153, iq_23_155, iq_23_156, iq_23_157, iq_23_158, iq_23_159, iq_23_162, iq_23_164, iq_23_165, iq_23_168, iq_23_169, iq_23_172, iq_23_175, iq_23_176, iq_23_179, iq_23_180, iq_23_181, Option.bind_some, Option.toList, List.cons_append, List.nil_append, ↓reduceIte, nI_1, Int32.reduceLT, Int32.reduceLE, dv_1, dv_2, dv_3, dv_4, dv_6, dv_8, dv_10, dv_20, dv_100, dv_200, dv_500, gf_tx_3, show ((-3 : Int32) = -1) = False by decide, show ((-3 : Int32) = -2) = False by decide, ln_tx2 R c D h ho (by omega), nz_lt, nz_nlt, nz_eq, nz_ne, st_tx2 R c D h ho (by omega) n _ hn]
theorem cg_2 (d o' k n : Nat) (h : is_tx c p) (ho : D p 3 = nI o') (h9 : o' ≤ 96) (h1 : 1 ≤ n) (hn : n ≤ o') (l1 l2 l3 : Option Value) : mx_run d 23 25 [some (.ref p), l1, l2, l3, some (.int (nI n)), some (.int (nI k)), some (.int (-33))] [] (hp R c D) = mx_run d 23 6 [some (.ref p), l1, l2, l3, some (.int (nI n)), some (.int (nI (k + 1))), some (.int (-33))] [] (hp R c (mx_up D (p + 2) (mx_up (D (p + 2)) (n - 1) (if D (p + 2) (n - 1) = 0 then 1 else 0)))) := by
  by_cases hc : D (p + 2) (n - 1) = 0
  · simp (disch := first | assumption | exact kd_109 _ _ _ | omega) only [iq_23_0, iq_23_1, iq_23_3, iq_23_4, iq_23_8, iq_23_9, iq_23_12, iq_23_13, iq_23_16, iq_23_17, iq_23_20, iq_23_22, iq_23_23, iq_23_25, iq_23_27, iq_23_29, iq_23_32, iq_23_34, iq_23_35, iq_23_38, iq_23_39, iq_23_42, iq_23_43, iq_23_46, iq_23_48, iq_23_50, iq_23_53, iq_23_55, iq_23_58, iq_23_60, iq_23_61, iq_23_64, iq_23_65, iq_23_68, iq_23_70, iq_23_72, iq_23_75, iq_23_76, iq_23_79, iq_23_80, iq_23_81, iq_23_84, iq_23_87, iq_23_89, iq_23_91, iq_23_94, iq_23_96, iq_23_97, iq_23_100, iq_23_101, iq_23_104, iq_23_106, iq_23_107, iq_23_108, iq_23_109, iq_23_112, iq_23_114, iq_23_115, iq_23_116, iq_23_117, iq_23_120, iq_23_121, iq_23_124, iq_23_125, iq_23_126, iq_23_129, iq_23_131, iq_23_132, iq_23_135, iq_23_138, iq_23_139, iq_23_142, iq_23_144, iq_23_145, iq_23_146, iq_23_148, iq_23_149, iq_23_150, iq_23_153, iq_23_155, iq_23_156, iq_23_157, iq_23_158, iq_23_159, iq_23_162, iq_23_164, iq_23_165, iq_23_168, iq_23_169, iq_23_172, iq_23_175, iq_23_176, iq_23_179, iq_23_180, iq_23_181, Option.bind_some, Option.toList, List.cons_append, List.nil_append, ↓reduceIte, nI_1, Int32.reduceLT, Int32.reduceLE, dv_1, dv_2, dv_3, dv_4, dv_6, dv_8, dv_10, dv_20, dv_100, dv_200, dv_500, gf_tx_3, nz_nlt_1, nI_m1, ln_tx2 R c D h ho (by omega), nz_lt, nz_nlt, nz_eq, nz_ne, ld_tx2 R c D h ho (by omega) (n - 1) (by omega), st_tx2 R c D h ho (by omega) (n - 1) _ (by omega), hc]
  · simp (disch := first | assumption | exact kd_109 _ _ _ | omega) only [iq_23_0, iq_23_1, iq_23_3, iq_23_4, iq_23_8, iq_23_9, iq_23_12, iq_23_13, iq_23_16, iq_23_17, iq_23_20, iq_23_22, iq_23_23, iq_23_25, iq_23_27, iq_23_29, iq_23_32, iq_23_34, iq_23_35, iq_23_38, iq_23_39, iq_23_42, iq_23_43, iq_23_46, iq_23_48, iq_23_50, iq_23_53, iq_23_55, iq_23_58, iq_23_60, iq_23_61, iq_23_64, iq_23_65, iq_23_68, iq_23_70, iq_23_72, iq_23_75, iq_23_76, iq_23_79, iq_23_80, iq_23_81, iq_23_84, iq_23_87, iq_23_89, iq_23_91, iq_23_94, iq_23_96, iq_23_97, iq_23_100, iq_23_101, iq_23_104, iq_23_106, iq_23_107, iq_23_108, iq_23_109, iq_23_112, iq_23_114, iq_23_115, iq_23_116, iq_23_117, iq_23_120, iq_23_121, iq_23_124, iq_23_125, iq_23_126, iq_23_129, iq_23_131, iq_23_132, iq_23_135, iq_23_138, iq_23_139, iq_23_142, iq_23_144, iq_23_145, iq_23_146, iq_23_148, iq_23_149, iq_23_150, iq_23_153, iq_23_155, iq_23_156, iq_23_157, iq_23_158, iq_23_159, iq_23_162, iq_23_164, iq_23_165, iq_23_168, iq_23_169, iq_23_172, iq_23_175, iq_23_176, iq_23_179, iq_23_180, iq_23_181, Option.bind_some, Option.toList, List.cons_append, List.nil_append, ↓reduceIte, nI_1, Int32.reduceLT, Int32.reduceLE, dv_1, dv_2, dv_3, dv_4, dv_6, dv_8, dv_10, dv_20, dv_100, dv_200, dv_500, gf_tx_3, nz_nlt_1, nI_m1, ln_tx2 R c D h ho (by omega), nz_lt, nz_nlt, nz_eq, nz_ne, ld_tx2 R c D h ho (by omega) (n - 1) (by omega), st_tx2 R c D h ho (by omega) (n - 1) _ (by omega), hc]
theorem nz_nlt_2 {k : Nat} (h : 2 ≤ k) (h2 : k < 2 ^ 31) : (nI k < 2) = False := eq_false (nI_nlt (b := 2) h h2)
theorem nz_lt_2 {k : Nat} (h : k < 2) : (nI k < 2) = True := eq_true (nI_lt (b := 2) h (by omega))
theorem cg_3 (d o' k n : Nat) (h : is_tx c p) (ho : D p 3 = nI o') (h9 : o' ≤ 96) (h1 : 2 ≤ n) (hn : n ≤ o') (v : Int32) (hv : sp_sgn v) (l1 l2 l3 : Option Value) : mx_run (d + 1) 23 25 [some (.ref p), l1, l2, l3, some (.int (nI n)), some (.int (nI k)), some (.int (-v))] [] (hp R c D) = mx_run (d + 1) 23 6 [some (.ref p), l1, l2, l3, some (.int (nI (n - 1))), some (.int (nI (k + 1))), some (.int (-v))] [] (hp R c (mx_up D (p + 2) (mx_up (D (p + 2)) (n - 2) (sp_jn v (D (p + 2) (n - 2)) (D (p + 2) (n - 1)))))) := by
  have e3 : (-v < -3) = True := by rcases hv with rfl | rfl | rfl | rfl | rfl | rfl | rfl | rfl | rfl <;> decide
  have e4 : (-v = -33) = False := by rcases hv with rfl | rfl | rfl | rfl | rfl | rfl | rfl | rfl | rfl <;> decide
  have e2 : n - 1 - 1 = n - 2 := by omega
  simp (disch := first | assumption | exact kd_109 _ _ _ | omega) only [iq_23_0, iq_23_1, iq_23_3, iq_23_4, iq_23_8, iq_23_9, iq_23_12, iq_23_13, iq_23_16, iq_23_17, iq_23_20, iq_23_22, iq_23_23, iq_23_25, iq_23_27, iq_23_29, iq_23_32, iq_23_34, iq_23_35, iq_23_38, iq_23_39, iq_23_42, iq_23_43, iq_23_46, iq_23_48, iq_23_50, iq_23_53, iq_23_55, iq_23_58, iq_23_60, iq_23_61, iq_23_64, iq_23_65, iq_23_68, iq_23_70, iq_23_72, iq_23_75, iq_23_76, iq_23_79, iq_23_80, iq_23_81, iq_23_84, iq_23_87, iq_23_89, iq_23_91, iq_23_94, iq_23_96, iq_23_97, iq_23_100, iq_23_101, iq_23_104, iq_23_106, iq_23_107, iq_23_108, iq_23_109, iq_23_112, iq_23_114, iq_23_115, iq_23_116, iq_23_117, iq_23_120, iq_23_121, iq_23_124, iq_23_125, iq_23_126, iq_23_129, iq_23_131, iq_23_132, iq_23_135, iq_23_138, iq_23_139, iq_23_142, iq_23_144, iq_23_145, iq_23_146, iq_23_148, iq_23_149, iq_23_150, iq_23_153, iq_23_155, iq_23_156, iq_23_157, iq_23_158, iq_23_159, iq_23_162, iq_23_164, iq_23_165, iq_23_168, iq_23_169, iq_23_172, iq_23_175, iq_23_176, iq_23_179, iq_23_180, iq_23_181, Option.bind_some, Option.toList, List.cons_append, List.nil_append, ↓reduceIte, nI_1, Int32.reduceLT, Int32.reduceLE, dv_1, dv_2, dv_3, dv_4, dv_6, dv_8, dv_10, dv_20, dv_100, dv_200, dv_500, gf_tx_3, e3, e4, nz_nlt_2, nI_m1, nI_pm1, e2, Int32.neg_neg, ln_tx2 R c D h ho (by omega), nz_lt, nz_nlt, nz_eq, nz_ne, ld_tx2 R c D h ho (by omega) (n - 1) (by omega), ld_tx2 R c D h ho (by omega) (n - 2) (by omega), st_tx2 R c D h ho (by omega) (n - 2) _ (by omega), ci_join]
theorem sp_li_nm {key v : Int32} (h : sp_let key v) (x1 x2 x3 : Int32) : (sp_li key v = -1 ∨ sp_li key v = -2 ∨ sp_li key v = -3) ∧ (if sp_li key v = -1 then x1 else if sp_li key v = -2 then x2 else x3) = sp_nm key x1 x2 x3 v := by
  unfold sp_let at h
  unfold sp_li sp_nm
  by_cases h1 : key = 0
  · rw [if_pos h1] at h
    rcases h with rfl | rfl | rfl <;> simp [h1]
  · rw [if_neg h1] at h
    by_cases h2 : key = 1
    · rw [if_pos h2] at h
      rcases h with rfl | rfl <;> simp [h2]
    · rw [if_neg h2] at h
      rcases h with rfl | rfl <;> simp [h1, h2]
theorem cg_lp (d t : Nat) (s : Nat → Int32) (hr : tx_rel c D p s t) (q : Nat) (hq0 : s (75 + 200 * t + 2) = nI q) (hs : tx_st s t q) (hd : sp_dp s t q = 1) (hq96 : q ≤ 96) (x1 x2 x3 : Int32) (nm : Int32 → Int32) (hnm : nm = sp_nm (s (75 + 200 * t)) x1 x2 x3) :
    ∀ m k : Nat, k + m = q → ∀ (P : Nat → Int32) (l6 : Option Value), sp_ag (sp_dp s t k) P (sp_wk s nm t k).2 → sp_dp s t k ≤ 96 → ∃ P', mx_run (d + 1) 23 6 [some (.ref p), some (.int x1), some (.int x2), some (.int x3), some (.int (nI (sp_dp s t k))), some (.int (nI k)), l6] [] (hp R c (mx_up D (p + 2) P)) = some (some (.int ((sp_wk s nm t q).2 0)), hp R c (mx_up D (p + 2) P')) := by
  obtain ⟨htx, hk0, hk1, q', o, o', a1, a2, a3, a4, a5, a6, a7, a8, a9, a10⟩ := hr
  obtain rfl : q = q' := (nI_eq (by omega) (by omega)).mp (hq0.symm.trans a1)
  have hp1 : ∀ P, (mx_up D (p + 2) P) p = D p := fun P => up_n _ _ _ _ (by omega)
  have hp2 : ∀ P, (mx_up D (p + 2) P) (p + 1) = D (p + 1) := fun P => up_n _ _ _ _ (by omega)
  have hdo : ∀ k, k ≤ q → sp_dp s t k ≤ o' := by
    intro k
    induction k with
    | zero => intro _; exact Nat.zero_le _
    | succ k ih =>
      intro hk
      have ih := ih (by omega)
      unfold sp_dp
      by_cases h1 : sp_wt s t k = 2
      · rw [if_pos h1]
        by_cases h2 : sp_wv s t k = 33
        · rw [if_pos h2]
          exact ih
        · rw [if_neg h2]
          omega
      · rw [if_neg h1]
        have := a10 k (by omega) h1
        omega
  intro m
  induction m with
  | zero =>
    intro k hk P l6 hP _
    obtain rfl : k = q := by omega
    refine ⟨P, ?_⟩
    rw [cg_e R c (mx_up D (p + 2) P) (d + 1) k o' htx (by rw [hp1]; exact a4) a2 (by rw [hp1]; exact a5) a7 a8, up_s, hP 0 (by omega)]
  | succ m ih =>
    intro k hk P l6 hP h96
    rw [cg_a R c (mx_up D (p + 2) P) (d + 1) q k htx (by rw [hp1]; exact a4) a2 (by omega), hp2, a9 k (by omega)]
    have e1 := sp_wk1 s nm t k
    have hstep : sp_wk s nm t (k + 1) = sp_w1 nm (sp_wt s t k) (sp_wv s t k) (sp_wk s nm t k) := rfl
    have hdp : sp_dp s t (k + 1) = if sp_wt s t k = 2 then (if sp_wv s t k = 33 then sp_dp s t k else sp_dp s t k - 1) else sp_dp s t k + 1 := rfl
    have IH := fun P => ih (k + 1) (by omega) P
    rw [hstep, hdp] at IH
    unfold sp_w1 at IH
    simp only [e1] at IH
    have ho : (mx_up D (p + 2) P) p 3 = nI o' := by rw [hp1]; exact a5
    have hok := hdo k (by omega)
    unfold sp_cd
    rcases hs k (by omega) with ⟨h1, ⟨u, hu, h2⟩, h3⟩ | ⟨h1, h2, h3⟩ | ⟨h1, h2, h3, h4⟩ | ⟨h1, h2, h3, h4⟩
    · have hpo := a10 k (by omega) (by rw [h1]; decide)
      simp only [h1, h2, show ((0 : Int32) = 2) = False by decide, if_false, if_true] at IH
      rw [if_pos h1, h2, cg_0 R c _ (d + 1) o' k _ htx ho a8 (by omega) u hu, up_s, up_up]
      exact IH _ _ (sp_ag_up1 hP _) (by omega)
    · have hpo := a10 k (by omega) (by rw [h1]; decide)
      have hln := sp_li_nm h2 x1 x2 x3
      simp only [h1, show ((1 : Int32) = 2) = False by decide, dv_1, if_false] at IH
      rw [h1, if_neg (by decide), if_pos rfl, cg_1 R c _ (d + 1) o' k _ htx ho a8 (by omega) x1 x2 x3 _ hln.1, up_s, up_up, hln.2, ← hnm]
      exact IH _ _ (sp_ag_up1 hP _) (by omega)
    · simp only [h1, h2, if_true] at IH
      rw [h1, h2, if_neg (by decide), if_neg (by decide), show (-(33 : Int32)) = -33 from rfl, cg_2 R c _ (d + 1) o' k _ htx ho a8 h3 (by omega), up_s, up_up]
      have hg := hP (sp_dp s t k - 1) (by omega)
      rw [← hg] at IH
      exact IH _ _ (sp_ag_up hP _ _) h96
    · simp only [h1, eq_false (sp_sgn33 h2), if_true, if_false] at IH
      rw [h1, if_neg (by decide), if_neg (by decide), cg_3 R c _ d o' k _ htx ho a8 h3 (by omega) _ h2, up_s, up_up]
      have hg := hP (sp_dp s t k - 1) (by omega)
      have hg2 := hP (sp_dp s t k - 2) (by omega)
      rw [← hg, ← hg2] at IH
      exact IH _ _ (sp_ag_le (sp_ag_up hP _ _) (by omega)) (by omega)
theorem cc_gives (d t : Nat) (s : Nat → Int32) (hr : tx_rel c D p s t) (hok : tx_ok s t) (x1 x2 x3 : Int32) : ∃ P, mx_run (d + 1) 23 0 [some (.ref p), some (.int x1), some (.int x2), some (.int x3), none, none, none] [] (hp R c D) = some (some (.int (sp_tx s t x1 x2 x3)), hp R c (mx_up D (p + 2) P)) := by
  obtain ⟨q, h1, h2, h3, h4, h5⟩ := hok
  simp only [iq_23_0, iq_23_1, iq_23_3, iq_23_4]
  obtain ⟨P', e⟩ := cg_lp R c D d t s hr q h1 h3 h4 h2 x1 x2 x3 _ rfl q 0 (by omega) (D (p + 2)) none (fun i hi => absurd hi (by show ¬ i < 0; omega)) (Nat.zero_le _)
  rw [up_id] at e
  rw [sp_tx_eq h1 h2]
  exact ⟨P', e⟩
