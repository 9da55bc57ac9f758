theorem tk_ty_03 (B : Nat → Nat) (len p : Nat) : tk_ty B len p 3 = tk_ty B len p 0 := by
  unfold tk_ty
  simp only [show ((3 : Nat) = 1) = False from by decide, show ((3 : Nat) = 2) = False from by decide, show ((0 : Nat) = 1) = False from by decide, show ((0 : Nat) = 2) = False from by decide]
theorem jw_W_ty {B : Nat → Nat} {s e ty w : Nat} (h : jw_W B s e ty w ≠ 0) : ty = 1 ∧ e - s = sx_len.getD (w - 4) 0 := by
  unfold jw_W at h
  by_cases q : ty = 1 ∧ e - s = sx_len.getD (w - 4) 0
  · exact q
  · rw [if_neg q] at h
    exact absurd rfl h
theorem tk_key_3 {B : Nat → Nat} {s e ty : Nat} (h : tk_key B s e ty ≠ 3) : tk_key B s e ty ≤ 2 ∧ ty = 1 ∧ 3 ≤ e - s := by
  unfold tk_key at h ⊢
  by_cases q4 : jw_W B s e ty 4 ≠ 0
  · rw [if_pos q4] at h ⊢
    have k1 := (jw_W_ty q4).1
    have k2 : e - s = 4 := (jw_W_ty q4).2
    omega
  · rw [if_neg q4] at h ⊢
    by_cases q5 : jw_W B s e ty 5 ≠ 0
    · rw [if_pos q5] at h ⊢
      have k1 := (jw_W_ty q5).1
      have k2 : e - s = 3 := (jw_W_ty q5).2
      omega
    · rw [if_neg q5] at h ⊢
      by_cases q6 : jw_W B s e ty 6 ≠ 0
      · rw [if_pos q6] at h ⊢
        have k1 := (jw_W_ty q6).1
        have k2 : e - s = 4 := (jw_W_ty q6).2
        omega
      · rw [if_neg q6] at h
        exact absurd rfl h
section PA
variable (L : Nat) (xs : Nat → Int32) (c : Nat × Nat) (B : Nat → Nat) (len : Nat)
/-- the class's tape as a text begins -/
def ps_D (D : hz_D) : hz_D := mx_up D 20 (mx_up (mx_up (mx_up (mx_up (mx_up (D 20) 5 (-1)) 7 0) 9 0) 2 0) 4 0)
theorem ps_tp {D : hz_D} (h : tp_c D B len) : tp_c (ps_D D) B len := by
  obtain ⟨a1, a2, a3⟩ := h
  refine ⟨a1, ?_, fun i hi => ?_⟩
  · unfold ps_D
    rw [up_s, up_n _ _ _ _ (by omega), up_n _ _ _ _ (by omega), up_n _ _ _ _ (by omega), up_n _ _ _ _ (by omega), up_n _ _ _ _ (by omega)]
    exact a2
  · unfold ps_D
    rw [up_n _ _ _ _ (by omega)]
    exact a3 i hi
theorem ps_T0 (h96 : len ≤ 96) : pz_T B len (tk_st B len 0) (tk_en B len 0) (tk_ty B len 0 0) := (pz_T_next B len 0 0 (by omega)).1
/-- the class's state at the first word -/
theorem ps_C0 (d : Nat) {D : hz_D} (h : tp_c D B len) : ∃ D0, mx_run (d + 1) 101 0 [some (.ref 20), none, none, none] [] (hp (sx_rom L xs) c (ps_D D)) = some (none, hp (sx_rom L xs) c D0) ∧ tp_c D0 B len ∧ D0 20 2 = nI (tk_ty B len 0 0) ∧ D0 20 3 = nI (tk_st B len 0) ∧ D0 20 4 = nI (tk_en B len 0) ∧ D0 20 5 = -1 ∧ D0 20 7 = 0 ∧ D0 20 9 = 0 ∧ pz_FC D D0 := by
  have h4 : ps_D D 20 4 = nI 0 := by
    unfold ps_D
    rw [up_s, up_s]
    rfl
  have h2 : ps_D D 20 2 = nI 0 := by
    unfold ps_D
    rw [up_s, up_n _ _ _ _ (by omega), up_s]
    rfl
  refine ⟨tk_D (ps_D D) B len 0 0, ct_next (sx_rom L xs) c d (ps_D D) B len 0 0 none none none (ps_tp B len h) h4 h2 (by omega) (by omega), ?_, ?_, ?_, ?_, ?_, ?_, ?_, fun a ha hb => ?_⟩
  · obtain ⟨a1, a2, a3⟩ := ps_tp B len h
    refine ⟨a1, ?_, fun i hi => ?_⟩
    · unfold tk_D
      rw [up_s, up_n _ _ _ _ (by omega), up_n _ _ _ _ (by omega), up_n _ _ _ _ (by omega)]
      exact a2
    · unfold tk_D
      rw [up_n _ _ _ _ (by omega)]
      exact a3 i hi
  · unfold tk_D
    rw [up_s, up_n _ _ _ _ (by omega), up_s]
  · unfold tk_D
    rw [up_s, up_n _ _ _ _ (by omega), up_n _ _ _ _ (by omega), up_s]
  · unfold tk_D
    rw [up_s, up_s]
  · unfold tk_D ps_D
    rw [up_s, up_n _ _ _ _ (by omega), up_n _ _ _ _ (by omega), up_n _ _ _ _ (by omega), up_s, up_n _ _ _ _ (by omega), up_n _ _ _ _ (by omega), up_n _ _ _ _ (by omega), up_n _ _ _ _ (by omega), up_s]
  · unfold tk_D ps_D
    rw [up_s, up_n _ _ _ _ (by omega), up_n _ _ _ _ (by omega), up_n _ _ _ _ (by omega), up_s, up_n _ _ _ _ (by omega), up_n _ _ _ _ (by omega), up_n _ _ _ _ (by omega), up_s]
  · unfold tk_D ps_D
    rw [up_s, up_n _ _ _ _ (by omega), up_n _ _ _ _ (by omega), up_n _ _ _ _ (by omega), up_s, up_n _ _ _ _ (by omega), up_n _ _ _ _ (by omega), up_s]
  · unfold tk_D ps_D
    rw [up_n _ _ _ _ ha, up_n _ _ _ _ ha]
/-- where no key stands -/
theorem ps_Ckey0 (d : Nat) {D : hz_D} (h : tp_c D B len) (hk : tk_key B (tk_st B len 0) (tk_en B len 0) (tk_ty B len 0 0) = 3) : ∃ D', mx_run (d + 6) 100 0 [some (.ref 20)] [] (hp (sx_rom L xs) c D) = some (none, hp (sx_rom L xs) c D') ∧ D' 20 5 = nI (tk_st B len 0) ∧ pz_FC D D' := by
  have h96 := h.1
  have hT := ps_T0 B len h96
  obtain ⟨D0, n1, n2, n3, n4, n5, n6, n7, n9, n10⟩ := ps_C0 L xs c B len (d + 4) h
  have ck := ct_key L xs c D0 d B len _ _ _ n2 n3 n4 n5 hT.2.2.1 hT.1 hT.2.1
  rw [if_pos hk] at ck
  have g5 : (mx_up D0 20 (mx_up (D0 20) 5 (nI (tk_st B len 0)))) 20 5 = nI (tk_st B len 0) := by rw [up_s, up_s]
  have hs := hT.1
  have he := hT.2.1
  have e0 : (nI (tk_st B len 0) < 0) = False := eq_false (nI_nlt (b := 0) (by omega) (by omega))
  refine ⟨_, ?_, g5, fun a ha hb => ?_⟩
  · unfold ps_D at n1
    simp (disch := first | assumption | omega | exact kd_sh _ _ _ (by assumption) | exact kd_sea _ _ _ (by assumption) | exact is_bts (by assumption) _ (by omega) | exact kd_bt _ _ _ (by first | assumption | exact is_bts (by assumption) _ (by omega)) | exact kd_109 _ _ _ | exact kd_17 _ _ _ | exact kd_20 _ _ _) only [iq_100_0, iq_100_1, iq_100_2, iq_100_5, iq_100_6, iq_100_7, iq_100_10, iq_100_11, iq_100_12, iq_100_15, iq_100_16, iq_100_17, iq_100_20, iq_100_21, iq_100_22, iq_100_25, iq_100_26, iq_100_29, iq_100_30, iq_100_33, iq_100_34, iq_100_37, iq_100_40, iq_100_41, iq_100_42, iq_100_43, iq_100_46, iq_100_47, iq_100_50, iq_100_53, iq_100_54, iq_100_57, iq_100_60, iq_100_61, iq_100_62, iq_100_65, iq_100_68, Option.bind_some, Option.toList, List.cons_append, List.nil_append, ↓reduceIte, nI_1, Int32.reduceLT, Int32.reduceLE, dv_1, dv_2, dv_3, dv_4, dv_6, dv_8, dv_10, dv_20, dv_100, dv_200, dv_500, gf_20_0, gf_20_1, gf_20_2, gf_20_3, gf_20_4, gf_20_5, gf_20_6, gf_20_7, gf_20_8, gf_20_9, kd_20, pf_20_1, pf_20_2, pf_20_3, pf_20_4, pf_20_5, pf_20_6, pf_20_7, pf_20_9, up_s, up_up, up_n, ne_eq, Nat.reduceEqDiff, not_false_eq_true, n1, ck, g5, e0]
  · rw [up_n _ _ _ _ ha, n10 a ha hb]
/-- where one stands -/
theorem ps_Ckey1 (d : Nat) {D : hz_D} (h : tp_c D B len) (hk : tk_key B (tk_st B len 0) (tk_en B len 0) (tk_ty B len 0 0) ≠ 3) : ∃ D0, pz_C D0 B len (tk_key B (tk_st B len 0) (tk_en B len 0) (tk_ty B len 0 0)) (tk_st B len (tk_en B len 0)) (tk_en B len (tk_en B len 0)) (tk_ty B len (tk_en B len 0) 1) 0 0 ∧ pz_FC D D0 ∧ (∀ D1, mx_run (d + 5) 117 0 [some (.ref 20), some (.int 0), some (.int 0), none] [] (hp (sx_rom L xs) c D0) = some (none, hp (sx_rom L xs) c D1) → mx_run (d + 6) 100 0 [some (.ref 20)] [] (hp (sx_rom L xs) c D) = mx_run (d + 6) 100 46 [some (.ref 20)] [] (hp (sx_rom L xs) c D1)) := by
  have h96 := h.1
  have hT := ps_T0 B len h96
  obtain ⟨D0, n1, n2, n3, n4, n5, n6, n7, n9, n10⟩ := ps_C0 L xs c B len (d + 4) h
  have ck := ct_key L xs c D0 d B len _ _ _ n2 n3 n4 n5 hT.2.2.1 hT.1 hT.2.1
  rw [if_neg hk] at ck
  have ht1 := (tk_key_3 hk).2.1
  generalize hkk : tk_key B (tk_st B len 0) (tk_en B len 0) (tk_ty B len 0 0) = key at *
  rw [ht1] at ck
  generalize hE : tk_en B len 0 = E at *
  refine ⟨tk_D (mx_up D0 20 (mx_up (D0 20) 6 (nI key))) B len E 1, ⟨?_, ?_, ?_, ?_, ?_, ?_, ?_, ?_⟩, fun a ha hb => ?_, fun D1 r1 => ?_⟩
  · obtain ⟨a1, a2, a3⟩ := tp_c_up n2 6 (nI key) (by omega)
    refine ⟨a1, ?_, fun i hi => ?_⟩
    · unfold tk_D
      rw [up_s, up_n _ _ _ _ (by omega), up_n _ _ _ _ (by omega), up_n _ _ _ _ (by omega)]
      exact a2
    · unfold tk_D
      rw [up_n _ _ _ _ (by omega)]
      exact a3 i hi
  · unfold tk_D
    rw [up_s, up_n _ _ _ _ (by omega), up_s]
  · unfold tk_D
    rw [up_s, up_n _ _ _ _ (by omega), up_n _ _ _ _ (by omega), up_s]
  · unfold tk_D
    rw [up_s, up_s]
  · unfold tk_D
    rw [up_s, up_n _ _ _ _ (by omega), up_n _ _ _ _ (by omega), up_n _ _ _ _ (by omega), up_s, up_n _ _ _ _ (by omega)]
    exact n6
  · unfold tk_D
    rw [up_s, up_n _ _ _ _ (by omega), up_n _ _ _ _ (by omega), up_n _ _ _ _ (by omega), up_s, up_s]
  · unfold tk_D
    rw [up_s, up_n _ _ _ _ (by omega), up_n _ _ _ _ (by omega), up_n _ _ _ _ (by omega), up_s, up_n _ _ _ _ (by omega)]
    exact n7
  · unfold tk_D
    rw [up_s, up_n _ _ _ _ (by omega), up_n _ _ _ _ (by omega), up_n _ _ _ _ (by omega), up_s, up_n _ _ _ _ (by omega)]
    exact n9
  · unfold tk_D
    rw [up_n _ _ _ _ ha, up_n _ _ _ _ ha, n10 a ha hb]
  · have g5 : (tk_D (mx_up D0 20 (mx_up (D0 20) 6 (nI key))) B len E 1) 20 5 = -1 := by
      unfold tk_D
      rw [up_s, up_n _ _ _ _ (by omega), up_n _ _ _ _ (by omega), up_n _ _ _ _ (by omega), up_s, up_n _ _ _ _ (by omega)]
      exact n6
    unfold ps_D at n1
    simp (disch := first | assumption | omega | exact kd_sh _ _ _ (by assumption) | exact kd_sea _ _ _ (by assumption) | exact is_bts (by assumption) _ (by omega) | exact kd_bt _ _ _ (by first | assumption | exact is_bts (by assumption) _ (by omega)) | exact kd_109 _ _ _ | exact kd_17 _ _ _ | exact kd_20 _ _ _) only [iq_100_0, iq_100_1, iq_100_2, iq_100_5, iq_100_6, iq_100_7, iq_100_10, iq_100_11, iq_100_12, iq_100_15, iq_100_16, iq_100_17, iq_100_20, iq_100_21, iq_100_22, iq_100_25, iq_100_26, iq_100_29, iq_100_30, iq_100_33, iq_100_34, iq_100_37, iq_100_40, iq_100_41, iq_100_42, iq_100_43, iq_100_47, iq_100_50, iq_100_53, iq_100_54, iq_100_57, iq_100_60, iq_100_61, iq_100_62, iq_100_65, iq_100_68, Option.bind_some, Option.toList, List.cons_append, List.nil_append, ↓reduceIte, nI_1, Int32.reduceLT, Int32.reduceLE, dv_1, dv_2, dv_3, dv_4, dv_6, dv_8, dv_10, dv_20, dv_100, dv_200, dv_500, gf_20_0, gf_20_1, gf_20_2, gf_20_3, gf_20_4, gf_20_5, gf_20_6, gf_20_7, gf_20_8, gf_20_9, kd_20, pf_20_1, pf_20_2, pf_20_3, pf_20_4, pf_20_5, pf_20_6, pf_20_7, pf_20_9, up_s, up_up, up_n, ne_eq, Nat.reduceEqDiff, not_false_eq_true, n1, ck, g5, r1, show ((-1 : Int32) < 0) = True from by decide]
/-- the end of the class's parse -/
theorem ps_Cend (d : Nat) {D : hz_D} {key s e ty n o : Nat} (h : pz_C D B len key s e ty n o) (hT : pz_T B len s e ty) : mx_run d 100 46 [some (.ref 20)] [] (hp (sx_rom L xs) c D) = some (none, hp (sx_rom L xs) c (if ty = 0 then D else mx_up D 20 (mx_up (D 20) 5 (nI s)))) := by
  have g5 := h.2.2.2.2.1
  have g2 := h.2.1
  have g3 := h.2.2.1
  have ht4 := hT.2.2.1
  by_cases q : ty = 0
  · have e1 : (nI ty = 0) = True := eq_true ((nI_eq (b := 0) (by omega) (by omega)).mpr q)
    rw [if_pos q]
    simp (disch := first | assumption | omega | exact kd_sh _ _ _ (by assumption) | exact kd_sea _ _ _ (by assumption) | exact is_bts (by assumption) _ (by omega) | exact kd_bt _ _ _ (by first | assumption | exact is_bts (by assumption) _ (by omega)) | exact kd_109 _ _ _ | exact kd_17 _ _ _ | exact kd_20 _ _ _) only [iq_100_0, iq_100_1, iq_100_2, iq_100_5, iq_100_6, iq_100_7, iq_100_10, iq_100_11, iq_100_12, iq_100_15, iq_100_16, iq_100_17, iq_100_20, iq_100_21, iq_100_22, iq_100_25, iq_100_26, iq_100_29, iq_100_30, iq_100_33, iq_100_34, iq_100_37, iq_100_40, iq_100_41, iq_100_42, iq_100_43, iq_100_46, iq_100_47, iq_100_50, iq_100_53, iq_100_54, iq_100_57, iq_100_60, iq_100_61, iq_100_62, iq_100_65, iq_100_68, Option.bind_some, Option.toList, List.cons_append, List.nil_append, ↓reduceIte, nI_1, Int32.reduceLT, Int32.reduceLE, dv_1, dv_2, dv_3, dv_4, dv_6, dv_8, dv_10, dv_20, dv_100, dv_200, dv_500, gf_20_0, gf_20_1, gf_20_2, gf_20_3, gf_20_4, gf_20_5, gf_20_6, gf_20_7, gf_20_8, gf_20_9, kd_20, pf_20_1, pf_20_2, pf_20_3, pf_20_4, pf_20_5, pf_20_6, pf_20_7, pf_20_9, g5, g2, e1, show ((-1 : Int32) < 0) = True from by decide]
  · have e1 : (nI ty = 0) = False := eq_false (fun z => q ((nI_eq (b := 0) (by omega) (by omega)).mp z))
    rw [if_neg q]
    simp (disch := first | assumption | omega | exact kd_sh _ _ _ (by assumption) | exact kd_sea _ _ _ (by assumption) | exact is_bts (by assumption) _ (by omega) | exact kd_bt _ _ _ (by first | assumption | exact is_bts (by assumption) _ (by omega)) | exact kd_109 _ _ _ | exact kd_17 _ _ _ | exact kd_20 _ _ _) only [iq_100_0, iq_100_1, iq_100_2, iq_100_5, iq_100_6, iq_100_7, iq_100_10, iq_100_11, iq_100_12, iq_100_15, iq_100_16, iq_100_17, iq_100_20, iq_100_21, iq_100_22, iq_100_25, iq_100_26, iq_100_29, iq_100_30, iq_100_33, iq_100_34, iq_100_37, iq_100_40, iq_100_41, iq_100_42, iq_100_43, iq_100_46, iq_100_47, iq_100_50, iq_100_53, iq_100_54, iq_100_57, iq_100_60, iq_100_61, iq_100_62, iq_100_65, iq_100_68, Option.bind_some, Option.toList, List.cons_append, List.nil_append, ↓reduceIte, nI_1, Int32.reduceLT, Int32.reduceLE, dv_1, dv_2, dv_3, dv_4, dv_6, dv_8, dv_10, dv_20, dv_100, dv_200, dv_500, gf_20_0, gf_20_1, gf_20_2, gf_20_3, gf_20_4, gf_20_5, gf_20_6, gf_20_7, gf_20_8, gf_20_9, kd_20, pf_20_1, pf_20_2, pf_20_3, pf_20_4, pf_20_5, pf_20_6, pf_20_7, pf_20_9, g5, g2, g3, e1, show ((-1 : Int32) < 0) = True from by decide]
theorem ps_Cend9 (d : Nat) {D : hz_D} {s' : Nat} (h5 : D 20 5 = nI s') (hs : s' ≤ 96) : mx_run d 100 46 [some (.ref 20)] [] (hp (sx_rom L xs) c D) = some (none, hp (sx_rom L xs) c D) := by
  have e0 : (nI s' < 0) = False := eq_false (nI_nlt (b := 0) (by omega) (by omega))
  simp (disch := first | assumption | omega | exact kd_sh _ _ _ (by assumption) | exact kd_sea _ _ _ (by assumption) | exact is_bts (by assumption) _ (by omega) | exact kd_bt _ _ _ (by first | assumption | exact is_bts (by assumption) _ (by omega)) | exact kd_109 _ _ _ | exact kd_17 _ _ _ | exact kd_20 _ _ _) only [iq_100_0, iq_100_1, iq_100_2, iq_100_5, iq_100_6, iq_100_7, iq_100_10, iq_100_11, iq_100_12, iq_100_15, iq_100_16, iq_100_17, iq_100_20, iq_100_21, iq_100_22, iq_100_25, iq_100_26, iq_100_29, iq_100_30, iq_100_33, iq_100_34, iq_100_37, iq_100_40, iq_100_41, iq_100_42, iq_100_43, iq_100_46, iq_100_47, iq_100_50, iq_100_53, iq_100_54, iq_100_57, iq_100_60, iq_100_61, iq_100_62, iq_100_65, iq_100_68, Option.bind_some, Option.toList, List.cons_append, List.nil_append, ↓reduceIte, nI_1, Int32.reduceLT, Int32.reduceLE, dv_1, dv_2, dv_3, dv_4, dv_6, dv_8, dv_10, dv_20, dv_100, dv_200, dv_500, gf_20_0, gf_20_1, gf_20_2, gf_20_3, gf_20_4, gf_20_5, gf_20_6, gf_20_7, gf_20_8, gf_20_9, kd_20, pf_20_1, pf_20_2, pf_20_3, pf_20_4, pf_20_5, pf_20_6, pf_20_7, pf_20_9, h5, e0]
end PA
