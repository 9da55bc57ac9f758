def tk_so (b : Nat) : Nat := if 97 ≤ b ∧ b ≤ 122 then 1 else if 48 ≤ b ∧ b ≤ 57 then 2 else 3
def tk_sk (B : Nat → Nat) (len : Nat) : Nat → Nat → Nat
  | 0, p => p
  | i + 1, p => if p < len ∧ B p = 32 then tk_sk B len i (p + 1) else p
def tk_ru (B : Nat → Nat) (len so : Nat) : Nat → Nat → Nat
  | 0, e => e
  | i + 1, e => if e < len ∧ tk_so (B e) = so then tk_ru B len so i (e + 1) else e
theorem tk_sk_le (B : Nat → Nat) (len : Nat) : ∀ i p, p ≤ tk_sk B len i p ∧ tk_sk B len i p ≤ p + i
  | 0, p => ⟨Nat.le_refl _, Nat.le_refl _⟩
  | i + 1, p => by
    unfold tk_sk
    by_cases h : p < len ∧ B p = 32
    · rw [if_pos h]
      have := tk_sk_le B len i (p + 1)
      omega
    · rw [if_neg h]
      omega
theorem tk_ru_le (B : Nat → Nat) (len so : Nat) : ∀ i p, p ≤ tk_ru B len so i p ∧ tk_ru B len so i p ≤ p + i
  | 0, p => ⟨Nat.le_refl _, Nat.le_refl _⟩
  | i + 1, p => by
    unfold tk_ru
    by_cases h : p < len ∧ tk_so (B p) = so
    · rw [if_pos h]
      have := tk_ru_le B len so i (p + 1)
      omega
    · rw [if_neg h]
      omega
/-- where the next word or sign begins, behind p -/
def tk_st (B : Nat → Nat) (len p : Nat) : Nat := tk_sk B len (len - p) p
/-- its end -/
def tk_en (B : Nat → Nat) (len p : Nat) : Nat := if len ≤ tk_st B len p then tk_st B len p else if tk_so (B (tk_st B len p)) = 3 then tk_st B len p + 1 else tk_ru B len (tk_so (B (tk_st B len p))) (len - (tk_st B len p + 1)) (tk_st B len p + 1)
/-- its sort, ps being the one before -/
def tk_ty (B : Nat → Nat) (len p ps : Nat) : Nat := if len ≤ tk_st B len p then 0 else if tk_so (B (tk_st B len p)) = 3 then 3 else if (tk_so (B (tk_st B len p)) = 2 ∧ 4 < tk_en B len p - tk_st B len p) ∨ ((ps = 1 ∨ ps = 2) ∧ tk_st B len p = p) then 4 else tk_so (B (tk_st B len p))
/-- the class's tape holds B -/
def tp_c (D : hz_D) (B : Nat → Nat) (len : Nat) : Prop := len ≤ 96 ∧ D 20 1 = nI len ∧ ∀ i, i < len → B i < 256 ∧ D 21 i = (nI (B i)).toInt8.toInt32
def tp_r (D : hz_D) (B : Nat → Nat) (len : Nat) : Prop := len ≤ 96 ∧ D 109 14 = nI len ∧ ∀ i, i < len → B i < 256 ∧ D 122 i = nI (B i)
set_option maxRecDepth 20000 in
theorem k8 : ∀ n, n < 256 → (nI n).toInt8.toInt32 &&& 255 = nI n := by decide
section TC
variable (R : Nat → Option mx_MC) (c : Nat × Nat)
theorem ct_byteAt (D : hz_D) (d i : Nat) (B : Nat → Nat) (len : Nat) (ht : tp_c D B len) (hi : i < len) : mx_run d 102 0 [some (.ref 20), some (.int (nI i))] [] (hp R c D) = some (some (.int (nI (B i))), hp R c D) := by
  obtain ⟨h1, h2, h3⟩ := ht
  obtain ⟨b1, b2⟩ := h3 i hi
  simp (disch := first | assumption | omega | exact kd_sh _ _ _ (by assumption) | exact kd_sea _ _ _ (by assumption) | exact is_bts (by assumption) _ (by omega) | exact kd_bt _ _ _ (by first | assumption | exact is_bts (by assumption) _ (by omega)) | exact kd_109 _ _ _ | exact kd_17 _ _ _ | exact kd_20 _ _ _) only [iq_102_0, iq_102_1, iq_102_4, iq_102_5, iq_102_7, iq_102_10, iq_102_11, iq_102_14, iq_102_15, iq_102_16, iq_102_19, iq_102_20, iq_102_23, iq_102_24, Option.bind_some, Option.toList, List.cons_append, List.nil_append, ↓reduceIte, nI_1, Int32.reduceLT, Int32.reduceLE, dv_1, dv_2, dv_3, dv_4, dv_6, dv_8, dv_10, dv_20, dv_100, dv_200, dv_500, gf_20_0, gf_20_1, gf_20_2, gf_20_3, gf_20_4, gf_20_5, gf_20_6, gf_20_7, gf_20_8, gf_20_9, kd_20, pf_20_1, pf_20_2, pf_20_3, pf_20_4, pf_20_5, pf_20_6, pf_20_7, pf_20_9, nz_nlt_0, nz_lt_96, ld_21, b2, k8]
theorem ct_sortOf (d b : Nat) (hb : b < 256) (h : mx_MH) : mx_run d 103 0 [some (.int (nI b))] [] h = some (some (.int (nI (tk_so b))), h) := by
  have e1 : (nI b < 97) = (b < 97) := propext (nI_ltI (b := 97) (by omega) (by omega))
  have e2 : (122 < nI b) = (122 < b) := propext (nI_ltI (a := 122) (by omega) (by omega))
  have e3 : (nI b < 48) = (b < 48) := propext (nI_ltI (b := 48) (by omega) (by omega))
  have e4 : (57 < nI b) = (57 < b) := propext (nI_ltI (a := 57) (by omega) (by omega))
  unfold tk_so
  by_cases h1 : b < 97
  · by_cases h3 : b < 48
    · rw [if_neg (by omega), if_neg (by omega)]
      simp (disch := first | assumption | omega | exact kd_sh _ _ _ (by assumption) | exact kd_sea _ _ _ (by assumption) | exact is_bts (by assumption) _ (by omega) | exact kd_bt _ _ _ (by first | assumption | exact is_bts (by assumption) _ (by omega)) | exact kd_109 _ _ _ | exact kd_17 _ _ _ | exact kd_20 _ _ _) only [iq_103_0, iq_103_1, iq_103_3, iq_103_6, iq_103_7, iq_103_9, iq_103_12, iq_103_13, iq_103_14, iq_103_15, iq_103_17, iq_103_20, iq_103_21, iq_103_23, iq_103_26, iq_103_27, iq_103_30, iq_103_31, Option.bind_some, Option.toList, List.cons_append, List.nil_append, ↓reduceIte, nI_1, Int32.reduceLT, Int32.reduceLE, dv_1, dv_2, dv_3, dv_4, dv_6, dv_8, dv_10, dv_20, dv_100, dv_200, dv_500, e1, e2, e3, e4, h1, h3]
      rfl
    · by_cases h4 : 57 < b
      · rw [if_neg (by omega), if_neg (by omega)]
        simp (disch := first | assumption | omega | exact kd_sh _ _ _ (by assumption) | exact kd_sea _ _ _ (by assumption) | exact is_bts (by assumption) _ (by omega) | exact kd_bt _ _ _ (by first | assumption | exact is_bts (by assumption) _ (by omega)) | exact kd_109 _ _ _ | exact kd_17 _ _ _ | exact kd_20 _ _ _) only [iq_103_0, iq_103_1, iq_103_3, iq_103_6, iq_103_7, iq_103_9, iq_103_12, iq_103_13, iq_103_14, iq_103_15, iq_103_17, iq_103_20, iq_103_21, iq_103_23, iq_103_26, iq_103_27, iq_103_30, iq_103_31, Option.bind_some, Option.toList, List.cons_append, List.nil_append, ↓reduceIte, nI_1, Int32.reduceLT, Int32.reduceLE, dv_1, dv_2, dv_3, dv_4, dv_6, dv_8, dv_10, dv_20, dv_100, dv_200, dv_500, e1, e2, e3, e4, h1, h3, h4]
        rfl
      · rw [if_neg (by omega), if_pos (by omega)]
        simp (disch := first | assumption | omega | exact kd_sh _ _ _ (by assumption) | exact kd_sea _ _ _ (by assumption) | exact is_bts (by assumption) _ (by omega) | exact kd_bt _ _ _ (by first | assumption | exact is_bts (by assumption) _ (by omega)) | exact kd_109 _ _ _ | exact kd_17 _ _ _ | exact kd_20 _ _ _) only [iq_103_0, iq_103_1, iq_103_3, iq_103_6, iq_103_7, iq_103_9, iq_103_12, iq_103_13, iq_103_14, iq_103_15, iq_103_17, iq_103_20, iq_103_21, iq_103_23, iq_103_26, iq_103_27, iq_103_30, iq_103_31, Option.bind_some, Option.toList, List.cons_append, List.nil_append, ↓reduceIte, nI_1, Int32.reduceLT, Int32.reduceLE, dv_1, dv_2, dv_3, dv_4, dv_6, dv_8, dv_10, dv_20, dv_100, dv_200, dv_500, e1, e2, e3, e4, h1, h3, h4]
        rfl
  · by_cases h2 : 122 < b
    · have h3 : ¬ b < 48 := by omega
      have h4 : 57 < b := by omega
      rw [if_neg (by omega), if_neg (by omega)]
      simp (disch := first | assumption | omega | exact kd_sh _ _ _ (by assumption) | exact kd_sea _ _ _ (by assumption) | exact is_bts (by assumption) _ (by omega) | exact kd_bt _ _ _ (by first | assumption | exact is_bts (by assumption) _ (by omega)) | exact kd_109 _ _ _ | exact kd_17 _ _ _ | exact kd_20 _ _ _) only [iq_103_0, iq_103_1, iq_103_3, iq_103_6, iq_103_7, iq_103_9, iq_103_12, iq_103_13, iq_103_14, iq_103_15, iq_103_17, iq_103_20, iq_103_21, iq_103_23, iq_103_26, iq_103_27, iq_103_30, iq_103_31, Option.bind_some, Option.toList, List.cons_append, List.nil_append, ↓reduceIte, nI_1, Int32.reduceLT, Int32.reduceLE, dv_1, dv_2, dv_3, dv_4, dv_6, dv_8, dv_10, dv_20, dv_100, dv_200, dv_500, e1, e2, e3, e4, h1, h2, h3, h4]
      rfl
    · rw [if_pos (by omega)]
      simp (disch := first | assumption | omega | exact kd_sh _ _ _ (by assumption) | exact kd_sea _ _ _ (by assumption) | exact is_bts (by assumption) _ (by omega) | exact kd_bt _ _ _ (by first | assumption | exact is_bts (by assumption) _ (by omega)) | exact kd_109 _ _ _ | exact kd_17 _ _ _ | exact kd_20 _ _ _) only [iq_103_0, iq_103_1, iq_103_3, iq_103_6, iq_103_7, iq_103_9, iq_103_12, iq_103_13, iq_103_14, iq_103_15, iq_103_17, iq_103_20, iq_103_21, iq_103_23, iq_103_26, iq_103_27, iq_103_30, iq_103_31, Option.bind_some, Option.toList, List.cons_append, List.nil_append, ↓reduceIte, nI_1, Int32.reduceLT, Int32.reduceLE, dv_1, dv_2, dv_3, dv_4, dv_6, dv_8, dv_10, dv_20, dv_100, dv_200, dv_500, e1, e2, h1, h2]
      rfl
theorem tp_c_up {D : hz_D} {B : Nat → Nat} {len : Nat} (ht : tp_c D B len) (k : Nat) (x : Int32) (hk : k ≠ 1) : tp_c (mx_up D 20 (mx_up (D 20) k x)) B len := by
  obtain ⟨h1, h2, h3⟩ := ht
  refine ⟨h1, by rw [up_s, up_n _ _ _ _ (Ne.symm hk)]; exact h2, fun i hi => ?_⟩
  rw [up_n _ _ _ _ (by omega)]
  exact h3 i hi
theorem ct_skip (d : Nat) (B : Nat → Nat) (len : Nat) (l1 l2 l3 : Option Value) : ∀ i p : Nat, p + i = len ∨ (len ≤ p ∧ i = 0) → ∀ D : hz_D, tp_c D B len → D 20 3 = nI p → p ≤ 96 → mx_run (d + 1) 101 32 [some (.ref 20), l1, l2, l3] [] (hp R c D) = mx_run (d + 1) 101 69 [some (.ref 20), l1, l2, l3] [] (hp R c (mx_up D 20 (mx_up (D 20) 3 (nI (tk_sk B len i p))))) := by
  intro i
  induction i with
  | zero =>
    intro p hq0 D ht h3 h96
    have h2 := ht.2.1
    have hl := ht.1
    rw [iq_101_32]
    show _ = mx_run _ _ _ _ _ (hp R c (mx_up D 20 (mx_up (D 20) 3 (nI p))))
    rw [← h3, up_id, up_id]
    simp (disch := first | assumption | omega | exact kd_sh _ _ _ (by assumption) | exact kd_sea _ _ _ (by assumption) | exact is_bts (by assumption) _ (by omega) | exact kd_bt _ _ _ (by first | assumption | exact is_bts (by assumption) _ (by omega)) | exact kd_109 _ _ _ | exact kd_17 _ _ _ | exact kd_20 _ _ _) only [iq_101_0, iq_101_1, iq_101_4, iq_101_5, iq_101_6, iq_101_9, iq_101_10, iq_101_13, iq_101_14, iq_101_17, iq_101_18, iq_101_21, iq_101_22, iq_101_25, iq_101_26, iq_101_27, iq_101_28, iq_101_29, iq_101_33, iq_101_36, iq_101_37, iq_101_40, iq_101_43, iq_101_44, iq_101_45, iq_101_48, iq_101_51, iq_101_53, iq_101_56, iq_101_57, iq_101_58, iq_101_61, iq_101_62, iq_101_63, iq_101_66, iq_101_70, iq_101_71, iq_101_74, iq_101_77, iq_101_78, iq_101_81, iq_101_82, iq_101_85, iq_101_88, iq_101_89, iq_101_90, iq_101_93, iq_101_94, iq_101_95, iq_101_96, iq_101_97, iq_101_100, iq_101_103, iq_101_106, iq_101_109, iq_101_110, iq_101_111, iq_101_114, iq_101_115, iq_101_116, iq_101_119, iq_101_120, iq_101_123, iq_101_124, iq_101_127, iq_101_128, iq_101_129, iq_101_132, iq_101_133, iq_101_136, iq_101_139, iq_101_140, iq_101_141, iq_101_144, iq_101_147, iq_101_150, iq_101_151, iq_101_154, iq_101_157, iq_101_158, iq_101_159, iq_101_162, iq_101_163, iq_101_164, iq_101_167, iq_101_170, iq_101_171, iq_101_174, iq_101_175, iq_101_178, iq_101_179, iq_101_182, iq_101_183, iq_101_186, iq_101_187, iq_101_188, iq_101_191, iq_101_192, iq_101_195, iq_101_196, iq_101_197, iq_101_198, iq_101_201, iq_101_202, iq_101_205, iq_101_206, iq_101_209, iq_101_210, iq_101_213, iq_101_214, iq_101_215, iq_101_218, Option.bind_some, Option.toList, List.cons_append, List.nil_append, ↓reduceIte, nI_1, Int32.reduceLT, Int32.reduceLE, dv_1, dv_2, dv_3, dv_4, dv_6, dv_8, dv_10, dv_20, dv_100, dv_200, dv_500, gf_20_0, gf_20_1, gf_20_2, gf_20_3, gf_20_4, gf_20_5, gf_20_6, gf_20_7, gf_20_8, gf_20_9, kd_20, pf_20_1, pf_20_2, pf_20_3, pf_20_4, pf_20_5, pf_20_6, pf_20_7, pf_20_9, h3, h2, nz_lt, nz_nlt, nz_eq, nz_ne]
  | succ i ih =>
    intro p hq0 D ht h3 h96
    have h2 := ht.2.1
    have hl := ht.1
    have hpl : p < len := by omega
    have ba := ct_byteAt R c D d p B len ht hpl
    have hs : tk_sk B len (i + 1) p = if p < len ∧ B p = 32 then tk_sk B len i (p + 1) else p := rfl
    rw [hs, iq_101_32]
    by_cases hb : B p = 32
    · rw [if_pos ⟨hpl, hb⟩]
      have IH := ih (p + 1) (by omega) (mx_up D 20 (mx_up (D 20) 3 (nI (p + 1)))) (tp_c_up ht 3 _ (by omega)) (by rw [up_s, up_s]) (by omega)
      rw [up_s, up_up, up_up] at IH
      rw [← IH]
      rw [hb] at ba
      simp (disch := first | assumption | omega | exact kd_sh _ _ _ (by assumption) | exact kd_sea _ _ _ (by assumption) | exact is_bts (by assumption) _ (by omega) | exact kd_bt _ _ _ (by first | assumption | exact is_bts (by assumption) _ (by omega)) | exact kd_109 _ _ _ | exact kd_17 _ _ _ | exact kd_20 _ _ _) only [iq_101_0, iq_101_1, iq_101_4, iq_101_5, iq_101_6, iq_101_9, iq_101_10, iq_101_13, iq_101_14, iq_101_17, iq_101_18, iq_101_21, iq_101_22, iq_101_25, iq_101_26, iq_101_27, iq_101_28, iq_101_29, iq_101_33, iq_101_36, iq_101_37, iq_101_40, iq_101_43, iq_101_44, iq_101_45, iq_101_48, iq_101_51, iq_101_53, iq_101_56, iq_101_57, iq_101_58, iq_101_61, iq_101_62, iq_101_63, iq_101_66, iq_101_70, iq_101_71, iq_101_74, iq_101_77, iq_101_78, iq_101_81, iq_101_82, iq_101_85, iq_101_88, iq_101_89, iq_101_90, iq_101_93, iq_101_94, iq_101_95, iq_101_96, iq_101_97, iq_101_100, iq_101_103, iq_101_106, iq_101_109, iq_101_110, iq_101_111, iq_101_114, iq_101_115, iq_101_116, iq_101_119, iq_101_120, iq_101_123, iq_101_124, iq_101_127, iq_101_128, iq_101_129, iq_101_132, iq_101_133, iq_101_136, iq_101_139, iq_101_140, iq_101_141, iq_101_144, iq_101_147, iq_101_150, iq_101_151, iq_101_154, iq_101_157, iq_101_158, iq_101_159, iq_101_162, iq_101_163, iq_101_164, iq_101_167, iq_101_170, iq_101_171, iq_101_174, iq_101_175, iq_101_178, iq_101_179, iq_101_182, iq_101_183, iq_101_186, iq_101_187, iq_101_188, iq_101_191, iq_101_192, iq_101_195, iq_101_196, iq_101_197, iq_101_198, iq_101_201, iq_101_202, iq_101_205, iq_101_206, iq_101_209, iq_101_210, iq_101_213, iq_101_214, iq_101_215, iq_101_218, Option.bind_some, Option.toList, List.cons_append, List.nil_append, ↓reduceIte, nI_1, Int32.reduceLT, Int32.reduceLE, dv_1, dv_2, dv_3, dv_4, dv_6, dv_8, dv_10, dv_20, dv_100, dv_200, dv_500, gf_20_0, gf_20_1, gf_20_2, gf_20_3, gf_20_4, gf_20_5, gf_20_6, gf_20_7, gf_20_8, gf_20_9, kd_20, pf_20_1, pf_20_2, pf_20_3, pf_20_4, pf_20_5, pf_20_6, pf_20_7, pf_20_9, h3, h2, nz_lt, nz_nlt, nz_eq, nz_ne, ba, show (nI 32 = 32) = True from eq_self _]
    · rw [if_neg (fun z => hb z.2), ← h3, up_id, up_id]
      have hb' : (nI (B p) = 32) = False := eq_false (fun z => hb ((nI_eq (b := 32) (by have := (ht.2.2 p hpl).1; omega) (by omega)).mp z))
      simp (disch := first | assumption | omega | exact kd_sh _ _ _ (by assumption) | exact kd_sea _ _ _ (by assumption) | exact is_bts (by assumption) _ (by omega) | exact kd_bt _ _ _ (by first | assumption | exact is_bts (by assumption) _ (by omega)) | exact kd_109 _ _ _ | exact kd_17 _ _ _ | exact kd_20 _ _ _) only [iq_101_0, iq_101_1, iq_101_4, iq_101_5, iq_101_6, iq_101_9, iq_101_10, iq_101_13, iq_101_14, iq_101_17, iq_101_18, iq_101_21, iq_101_22, iq_101_25, iq_101_26, iq_101_27, iq_101_28, iq_101_29, iq_101_33, iq_101_36, iq_101_37, iq_101_40, iq_101_43, iq_101_44, iq_101_45, iq_101_48, iq_101_51, iq_101_53, iq_101_56, iq_101_57, iq_101_58, iq_101_61, iq_101_62, iq_101_63, iq_101_66, iq_101_70, iq_101_71, iq_101_74, iq_101_77, iq_101_78, iq_101_81, iq_101_82, iq_101_85, iq_101_88, iq_101_89, iq_101_90, iq_101_93, iq_101_94, iq_101_95, iq_101_96, iq_101_97, iq_101_100, iq_101_103, iq_101_106, iq_101_109, iq_101_110, iq_101_111, iq_101_114, iq_101_115, iq_101_116, iq_101_119, iq_101_120, iq_101_123, iq_101_124, iq_101_127, iq_101_128, iq_101_129, iq_101_132, iq_101_133, iq_101_136, iq_101_139, iq_101_140, iq_101_141, iq_101_144, iq_101_147, iq_101_150, iq_101_151, iq_101_154, iq_101_157, iq_101_158, iq_101_159, iq_101_162, iq_101_163, iq_101_164, iq_101_167, iq_101_170, iq_101_171, iq_101_174, iq_101_175, iq_101_178, iq_101_179, iq_101_182, iq_101_183, iq_101_186, iq_101_187, iq_101_188, iq_101_191, iq_101_192, iq_101_195, iq_101_196, iq_101_197, iq_101_198, iq_101_201, iq_101_202, iq_101_205, iq_101_206, iq_101_209, iq_101_210, iq_101_213, iq_101_214, iq_101_215, iq_101_218, Option.bind_some, Option.toList, List.cons_append, List.nil_append, ↓reduceIte, nI_1, Int32.reduceLT, Int32.reduceLE, dv_1, dv_2, dv_3, dv_4, dv_6, dv_8, dv_10, dv_20, dv_100, dv_200, dv_500, gf_20_0, gf_20_1, gf_20_2, gf_20_3, gf_20_4, gf_20_5, gf_20_6, gf_20_7, gf_20_8, gf_20_9, kd_20, pf_20_1, pf_20_2, pf_20_3, pf_20_4, pf_20_5, pf_20_6, pf_20_7, pf_20_9, h3, h2, nz_lt, nz_nlt, nz_eq, nz_ne, ba, hb']
theorem ct_run (d : Nat) (B : Nat → Nat) (len so : Nat) (hso : so ≤ 3) (l1 l2 l3 : Option Value) : ∀ i p : Nat, p + i = len ∨ (len ≤ p ∧ i = 0) → ∀ D : hz_D, tp_c D B len → D 20 4 = nI p → D 20 2 = nI so → p ≤ 96 → mx_run (d + 1) 101 128 [some (.ref 20), l1, l2, l3] [] (hp R c D) = mx_run (d + 1) 101 170 [some (.ref 20), l1, l2, l3] [] (hp R c (mx_up D 20 (mx_up (D 20) 4 (nI (tk_ru B len so i p))))) := by
  intro i
  induction i with
  | zero =>
    intro p hq0 D ht h3 h5 h96
    have h2 := ht.2.1
    have hl := ht.1
    rw [iq_101_128]
    show _ = mx_run _ _ _ _ _ (hp R c (mx_up D 20 (mx_up (D 20) 4 (nI p))))
    rw [← h3, up_id, up_id]
    simp (disch := first | assumption | omega | exact kd_sh _ _ _ (by assumption) | exact kd_sea _ _ _ (by assumption) | exact is_bts (by assumption) _ (by omega) | exact kd_bt _ _ _ (by first | assumption | exact is_bts (by assumption) _ (by omega)) | exact kd_109 _ _ _ | exact kd_17 _ _ _ | exact kd_20 _ _ _) only [iq_101_0, iq_101_1, iq_101_4, iq_101_5, iq_101_6, iq_101_9, iq_101_10, iq_101_13, iq_101_14, iq_101_17, iq_101_18, iq_101_21, iq_101_22, iq_101_25, iq_101_26, iq_101_27, iq_101_28, iq_101_29, iq_101_32, iq_101_33, iq_101_36, iq_101_37, iq_101_40, iq_101_43, iq_101_44, iq_101_45, iq_101_48, iq_101_51, iq_101_53, iq_101_56, iq_101_57, iq_101_58, iq_101_61, iq_101_62, iq_101_63, iq_101_66, iq_101_69, iq_101_70, iq_101_71, iq_101_74, iq_101_77, iq_101_78, iq_101_81, iq_101_82, iq_101_85, iq_101_88, iq_101_89, iq_101_90, iq_101_93, iq_101_94, iq_101_95, iq_101_96, iq_101_97, iq_101_100, iq_101_103, iq_101_106, iq_101_109, iq_101_110, iq_101_111, iq_101_114, iq_101_115, iq_101_116, iq_101_119, iq_101_120, iq_101_123, iq_101_124, iq_101_127, iq_101_129, iq_101_132, iq_101_133, iq_101_136, iq_101_139, iq_101_140, iq_101_141, iq_101_144, iq_101_147, iq_101_150, iq_101_151, iq_101_154, iq_101_157, iq_101_158, iq_101_159, iq_101_162, iq_101_163, iq_101_164, iq_101_167, iq_101_171, iq_101_174, iq_101_175, iq_101_178, iq_101_179, iq_101_182, iq_101_183, iq_101_186, iq_101_187, iq_101_188, iq_101_191, iq_101_192, iq_101_195, iq_101_196, iq_101_197, iq_101_198, iq_101_201, iq_101_202, iq_101_205, iq_101_206, iq_101_209, iq_101_210, iq_101_213, iq_101_214, iq_101_215, iq_101_218, Option.bind_some, Option.toList, List.cons_append, List.nil_append, ↓reduceIte, nI_1, Int32.reduceLT, Int32.reduceLE, dv_1, dv_2, dv_3, dv_4, dv_6, dv_8, dv_10, dv_20, dv_100, dv_200, dv_500, gf_20_0, gf_20_1, gf_20_2, gf_20_3, gf_20_4, gf_20_5, gf_20_6, gf_20_7, gf_20_8, gf_20_9, kd_20, pf_20_1, pf_20_2, pf_20_3, pf_20_4, pf_20_5, pf_20_6, pf_20_7, pf_20_9, h3, h2, nz_lt, nz_nlt, nz_eq, nz_ne]
  | succ i ih =>
    intro p hq0 D ht h3 h5 h96
    have h2 := ht.2.1
    have hl := ht.1
    have hpl : p < len := by omega
    have hb256 := (ht.2.2 p hpl).1
    have ba := ct_byteAt R c D d p B len ht hpl
    have sf := ct_sortOf d (B p) hb256 (hp R c D)
    have ts3 : tk_so (B p) ≤ 3 := by
      unfold tk_so
      split
      · omega
      · split <;> omega
    have hs : tk_ru B len so (i + 1) p = if p < len ∧ tk_so (B p) = so then tk_ru B len so i (p + 1) else p := rfl
    rw [hs, iq_101_128]
    by_cases hb : tk_so (B p) = so
    · rw [if_pos ⟨hpl, hb⟩]
      have IH := ih (p + 1) (by omega) (mx_up D 20 (mx_up (D 20) 4 (nI (p + 1)))) (tp_c_up ht 4 _ (by omega)) (by rw [up_s, up_s]) (by rw [up_s, up_n _ _ _ _ (by omega)]; exact h5) (by omega)
      rw [up_s, up_up, up_up] at IH
      rw [← IH]
      rw [hb] at sf
      simp (disch := first | assumption | omega | exact kd_sh _ _ _ (by assumption) | exact kd_sea _ _ _ (by assumption) | exact is_bts (by assumption) _ (by omega) | exact kd_bt _ _ _ (by first | assumption | exact is_bts (by assumption) _ (by omega)) | exact kd_109 _ _ _ | exact kd_17 _ _ _ | exact kd_20 _ _ _) only [iq_101_0, iq_101_1, iq_101_4, iq_101_5, iq_101_6, iq_101_9, iq_101_10, iq_101_13, iq_101_14, iq_101_17, iq_101_18, iq_101_21, iq_101_22, iq_101_25, iq_101_26, iq_101_27, iq_101_28, iq_101_29, iq_101_32, iq_101_33, iq_101_36, iq_101_37, iq_101_40, iq_101_43, iq_101_44, iq_101_45, iq_101_48, iq_101_51, iq_101_53, iq_101_56, iq_101_57, iq_101_58, iq_101_61, iq_101_62, iq_101_63, iq_101_66, iq_101_69, iq_101_70, iq_101_71, iq_101_74, iq_101_77, iq_101_78, iq_101_81, iq_101_82, iq_101_85, iq_101_88, iq_101_89, iq_101_90, iq_101_93, iq_101_94, iq_101_95, iq_101_96, iq_101_97, iq_101_100, iq_101_103, iq_101_106, iq_101_109, iq_101_110, iq_101_111, iq_101_114, iq_101_115, iq_101_116, iq_101_119, iq_101_120, iq_101_123, iq_101_124, iq_101_127, iq_101_129, iq_101_132, iq_101_133, iq_101_136, iq_101_139, iq_101_140, iq_101_141, iq_101_144, iq_101_147, iq_101_150, iq_101_151, iq_101_154, iq_101_157, iq_101_158, iq_101_159, iq_101_162, iq_101_163, iq_101_164, iq_101_167, iq_101_171, iq_101_174, iq_101_175, iq_101_178, iq_101_179, iq_101_182, iq_101_183, iq_101_186, iq_101_187, iq_101_188, iq_101_191, iq_101_192, iq_101_195, iq_101_196, iq_101_197, iq_101_198, iq_101_201, iq_101_202, iq_101_205, iq_101_206, iq_101_209, iq_101_210, iq_101_213, iq_101_214, iq_101_215, iq_101_218, Option.bind_some, Option.toList, List.cons_append, List.nil_append, ↓reduceIte, nI_1, Int32.reduceLT, Int32.reduceLE, dv_1, dv_2, dv_3, dv_4, dv_6, dv_8, dv_10, dv_20, dv_100, dv_200, dv_500, gf_20_0, gf_20_1, gf_20_2, gf_20_3, gf_20_4, gf_20_5, gf_20_6, gf_20_7, gf_20_8, gf_20_9, kd_20, pf_20_1, pf_20_2, pf_20_3, pf_20_4, pf_20_5, pf_20_6, pf_20_7, pf_20_9, h3, h2, h5, nz_lt, nz_nlt, nz_eq, nz_ne, ba, sf]
    · rw [if_neg (fun z => hb z.2), ← h3, up_id, up_id]
      simp (disch := first | assumption | omega | exact kd_sh _ _ _ (by assumption) | exact kd_sea _ _ _ (by assumption) | exact is_bts (by assumption) _ (by omega) | exact kd_bt _ _ _ (by first | assumption | exact is_bts (by assumption) _ (by omega)) | exact kd_109 _ _ _ | exact kd_17 _ _ _ | exact kd_20 _ _ _) only [iq_101_0, iq_101_1, iq_101_4, iq_101_5, iq_101_6, iq_101_9, iq_101_10, iq_101_13, iq_101_14, iq_101_17, iq_101_18, iq_101_21, iq_101_22, iq_101_25, iq_101_26, iq_101_27, iq_101_28, iq_101_29, iq_101_32, iq_101_33, iq_101_36, iq_101_37, iq_101_40, iq_101_43, iq_101_44, iq_101_45, iq_101_48, iq_101_51, iq_101_53, iq_101_56, iq_101_57, iq_101_58, iq_101_61, iq_101_62, iq_101_63, iq_101_66, iq_101_69, iq_101_70, iq_101_71, iq_101_74, iq_101_77, iq_101_78, iq_101_81, iq_101_82, iq_101_85, iq_101_88, iq_101_89, iq_101_90, iq_101_93, iq_101_94, iq_101_95, iq_101_96, iq_101_97, iq_101_100, iq_101_103, iq_101_106, iq_101_109, iq_101_110, iq_101_111, iq_101_114, iq_101_115, iq_101_116, iq_101_119, iq_101_120, iq_101_123, iq_101_124, iq_101_127, iq_101_129, iq_101_132, iq_101_133, iq_101_136, iq_101_139, iq_101_140, iq_101_141, iq_101_144, iq_101_147, iq_101_150, iq_101_151, iq_101_154, iq_101_157, iq_101_158, iq_101_159, iq_101_162, iq_101_163, iq_101_164, iq_101_167, iq_101_171, iq_101_174, iq_101_175, iq_101_178, iq_101_179, iq_101_182, iq_101_183, iq_101_186, iq_101_187, iq_101_188, iq_101_191, iq_101_192, iq_101_195, iq_101_196, iq_101_197, iq_101_198, iq_101_201, iq_101_202, iq_101_205, iq_101_206, iq_101_209, iq_101_210, iq_101_213, iq_101_214, iq_101_215, iq_101_218, Option.bind_some, Option.toList, List.cons_append, List.nil_append, ↓reduceIte, nI_1, Int32.reduceLT, Int32.reduceLE, dv_1, dv_2, dv_3, dv_4, dv_6, dv_8, dv_10, dv_20, dv_100, dv_200, dv_500, gf_20_0, gf_20_1, gf_20_2, gf_20_3, gf_20_4, gf_20_5, gf_20_6, gf_20_7, gf_20_8, gf_20_9, kd_20, pf_20_1, pf_20_2, pf_20_3, pf_20_4, pf_20_5, pf_20_6, pf_20_7, pf_20_9, h3, h2, h5, nz_lt, nz_nlt, nz_eq, nz_ne, ba, sf]
end TC
