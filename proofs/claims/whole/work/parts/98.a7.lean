theorem tk_nu_lt (B : Nat → Nat) (s : Nat) : ∀ k, (∀ j, s ≤ j → j < s + k → tk_so (B j) = 2) → tk_nu B s k < 10 ^ k
  | 0, _ => by
    show 0 < 1
    omega
  | k + 1, h => by
    have ih := tk_nu_lt B s k (fun j h1 h2 => h j h1 (by omega))
    have hb := h (s + k) (by omega) (by omega)
    rw [tk_so2] at hb
    show 10 * tk_nu B s k + (B (s + k) - 48) < 10 ^ (k + 1)
    rw [Nat.pow_succ]
    omega
theorem tk_nu_4 (B : Nat → Nat) (s e : Nat) (h4 : e - s ≤ 4) (hse : s ≤ e) (h : ∀ j, s ≤ j → j < e → tk_so (B j) = 2) : tk_nu B s (e - s) < 10000 := by
  have h1 := tk_nu_lt B s (e - s) (fun j h1 h2 => h j h1 (by omega))
  have h2 : 10 ^ (e - s) ≤ 10 ^ 4 := Nat.pow_le_pow_right (by omega) h4
  omega
theorem pz_cd0 (k v : Int32) : sp_cd k (nI 0) v = v := by
  unfold sp_cd
  rw [if_pos (show nI 0 = 0 from rfl)]
theorem pz_cd1 (k v : Int32) : sp_cd k (nI 1) v = sp_li k v := by
  unfold sp_cd
  rw [if_neg (by decide), if_pos (show nI 1 = 1 from rfl)]
section PE
variable (R : Nat → Option mx_MC) (c : Nat × Nat) (B : Nat → Nat) (len : Nat)
/-- a good state with other counts -/
theorem pz_C7 {D : hz_D} {key s e ty n o : Nat} (h : pz_C D B len key s e ty n o) (o' : Nat) : pz_C (mx_up D 20 (mx_up (D 20) 7 (nI o'))) B len key s e ty n o' := by
  obtain ⟨h1, h2, h3, h4, h5, h6, h7, h9⟩ := h
  refine ⟨tp_c_up h1 7 _ (by omega), ?_, ?_, ?_, ?_, ?_, ?_, ?_⟩
  · rw [up_s, up_n _ _ _ _ (by omega)]; exact h2
  · rw [up_s, up_n _ _ _ _ (by omega)]; exact h3
  · rw [up_s, up_n _ _ _ _ (by omega)]; exact h4
  · rw [up_s, up_n _ _ _ _ (by omega)]; exact h5
  · rw [up_s, up_n _ _ _ _ (by omega)]; exact h6
  · rw [up_s, up_s]
  · rw [up_s, up_n _ _ _ _ (by omega)]; exact h9
/-- putOperand -/
theorem pz_Cop (d : Nat) (x : Int32) {D : hz_D} {key s e ty n o : Nat} (h : pz_C D B len key s e ty n o) (hT : pz_T B len s e ty) (hn : n < 96) : ∃ D', mx_run (d + 2) 124 0 [some (.ref 20), some (.int x)] [] (hp R c D) = some (none, hp R c D') ∧ pz_C D' B len key (tk_st B len e) (tk_en B len e) (tk_ty B len e ty) (n + 1) (o + 1) ∧ pz_FC D D' ∧ (∀ j, j < n → D' 22 j = D 22 j) ∧ D' 22 n = x := by
  obtain ⟨D2, p1, p2, p3, p4, p5⟩ := pz_Cput R c B len (d + 1) x h hn
  have h7 := p2.2.2.2.2.2.2.1
  obtain ⟨D3, n1, n2, n3, n4⟩ := pz_Cnext R c B len d (pz_C7 B len p2 (o + 1)) hT
  refine ⟨D3, ?_, n2, fun a ha hb => ?_, fun j hj => ?_, ?_⟩
  · simp (disch := first | assumption | omega | exact kd_sh _ _ _ (by assumption) | exact kd_sea _ _ _ (by assumption) | exact is_bts (by assumption) _ (by omega) | exact kd_bt _ _ _ (by first | assumption | exact is_bts (by assumption) _ (by omega)) | exact kd_109 _ _ _ | exact kd_17 _ _ _ | exact kd_20 _ _ _) only [iq_124_0, iq_124_1, iq_124_2, iq_124_5, iq_124_6, iq_124_7, iq_124_10, iq_124_11, iq_124_12, iq_124_15, iq_124_16, iq_124_19, Option.bind_some, Option.toList, List.cons_append, List.nil_append, ↓reduceIte, nI_1, Int32.reduceLT, Int32.reduceLE, dv_1, dv_2, dv_3, dv_4, dv_6, dv_8, dv_10, dv_20, dv_100, dv_200, dv_500, gf_20_0, gf_20_1, gf_20_2, gf_20_3, gf_20_4, gf_20_5, gf_20_6, gf_20_7, gf_20_8, gf_20_9, kd_20, pf_20_1, pf_20_2, pf_20_3, pf_20_4, pf_20_5, pf_20_6, pf_20_7, pf_20_9, p1, h7, n1]
  · rw [n3 a ha hb, up_n _ _ _ _ ha, p3 a ha hb]
  · rw [n4, up_n _ _ _ _ (by omega), p4 j hj]
  · rw [n4, up_n _ _ _ _ (by omega), p5]
/-- parseClose: where a bracket closes -/
theorem pz_Cclose (d : Nat) {D : hz_D} {key s e n o : Nat} (h : pz_C D B len key s e 3 n o) (hT : pz_T B len s e 3) (hb : B s = 41) : ∃ D', mx_run (d + 2) 143 0 [some (.ref 20)] [] (hp R c D) = some (none, hp R c D') ∧ pz_C D' B len key (tk_st B len e) (tk_en B len e) (tk_ty B len e 3) n o ∧ pz_FC D D' ∧ D' 22 = D 22 := by
  obtain ⟨D3, n1, n2, n3, n4⟩ := pz_Cnext R c B len d h hT
  have i0 : mx_run (d + 1) 142 0 [some (.ref 20), some (.int 41)] [] (hp R c D) = some (some (.int 1), hp R c D) := pz_Cs1 R c B len d 41 h hT (by omega) ⟨rfl, hb⟩
  have h5 := h.2.2.2.2.1
  refine ⟨D3, ?_, n2, n3, n4⟩
  simp (disch := first | assumption | omega | exact kd_sh _ _ _ (by assumption) | exact kd_sea _ _ _ (by assumption) | exact is_bts (by assumption) _ (by omega) | exact kd_bt _ _ _ (by first | assumption | exact is_bts (by assumption) _ (by omega)) | exact kd_109 _ _ _ | exact kd_17 _ _ _ | exact kd_20 _ _ _) only [iq_143_0, iq_143_1, iq_143_4, iq_143_7, iq_143_8, iq_143_9, iq_143_11, iq_143_14, iq_143_17, iq_143_18, iq_143_21, iq_143_24, iq_143_25, iq_143_26, iq_143_29, iq_143_32, Option.bind_some, Option.toList, List.cons_append, List.nil_append, ↓reduceIte, nI_1, Int32.reduceLT, Int32.reduceLE, dv_1, dv_2, dv_3, dv_4, dv_6, dv_8, dv_10, dv_20, dv_100, dv_200, dv_500, gf_20_0, gf_20_1, gf_20_2, gf_20_3, gf_20_4, gf_20_5, gf_20_6, gf_20_7, gf_20_8, gf_20_9, kd_20, pf_20_1, pf_20_2, pf_20_3, pf_20_4, pf_20_5, pf_20_6, pf_20_7, pf_20_9, h5, i0, n1, show ((-1 : Int32) < 0) = True from by decide, ie_0_1, ie_0_2, ie_0_3, ie_0_4, ie_0_5, ie_0_6, ie_0_7, ie_0_8, ie_0_9, ie_0_10, ie_1_0, ie_1_2, ie_1_3, ie_1_4, ie_1_5, ie_1_6, ie_1_7, ie_1_8, ie_1_9, ie_1_10, ie_2_0, ie_2_1, ie_2_3, ie_2_4, ie_2_5, ie_2_6, ie_2_7, ie_2_8, ie_2_9, ie_2_10, ie_3_0, ie_3_1, ie_3_2, ie_3_4, ie_3_5, ie_3_6, ie_3_7, ie_3_8, ie_3_9, ie_3_10, ie_4_0, ie_4_1, ie_4_2, ie_4_3, ie_4_5, ie_4_6, ie_4_7, ie_4_8, ie_4_9, ie_4_10, ie_5_0, ie_5_1, ie_5_2, ie_5_3, ie_5_4, ie_5_6, ie_5_7, ie_5_8, ie_5_9, ie_5_10, ie_6_0, ie_6_1, ie_6_2, ie_6_3, ie_6_4, ie_6_5, ie_6_7, ie_6_8, ie_6_9, ie_6_10, ie_7_0, ie_7_1, ie_7_2, ie_7_3, ie_7_4, ie_7_5, ie_7_6, ie_7_8, ie_7_9, ie_7_10, ie_8_0, ie_8_1, ie_8_2, ie_8_3, ie_8_4, ie_8_5, ie_8_6, ie_8_7, ie_8_9, ie_8_10, ie_9_0, ie_9_1, ie_9_2, ie_9_3, ie_9_4, ie_9_5, ie_9_6, ie_9_7, ie_9_8, ie_9_10, ie_10_0, ie_10_1, ie_10_2, ie_10_3, ie_10_4, ie_10_5, ie_10_6, ie_10_7, ie_10_8, ie_10_9]
theorem pz_Cclose0 (d : Nat) {D : hz_D} {key s e ty n o : Nat} (h : pz_C D B len key s e ty n o) (hT : pz_T B len s e ty) (hb : ¬ (ty = 3 ∧ B s = 41)) : mx_run (d + 2) 143 0 [some (.ref 20)] [] (hp R c D) = some (none, hp R c (mx_up D 20 (mx_up (D 20) 5 (nI s)))) := by
  have i0 : mx_run (d + 1) 142 0 [some (.ref 20), some (.int 41)] [] (hp R c D) = some (some (.int 0), hp R c D) := pz_Cs0 R c B len d 41 h hT (by omega) hb
  have h5 := h.2.2.2.2.1
  have h3 := h.2.2.1
  simp (disch := first | assumption | omega | exact kd_sh _ _ _ (by assumption) | exact kd_sea _ _ _ (by assumption) | exact is_bts (by assumption) _ (by omega) | exact kd_bt _ _ _ (by first | assumption | exact is_bts (by assumption) _ (by omega)) | exact kd_109 _ _ _ | exact kd_17 _ _ _ | exact kd_20 _ _ _) only [iq_143_0, iq_143_1, iq_143_4, iq_143_7, iq_143_8, iq_143_9, iq_143_11, iq_143_14, iq_143_17, iq_143_18, iq_143_21, iq_143_24, iq_143_25, iq_143_26, iq_143_29, iq_143_32, Option.bind_some, Option.toList, List.cons_append, List.nil_append, ↓reduceIte, nI_1, Int32.reduceLT, Int32.reduceLE, dv_1, dv_2, dv_3, dv_4, dv_6, dv_8, dv_10, dv_20, dv_100, dv_200, dv_500, gf_20_0, gf_20_1, gf_20_2, gf_20_3, gf_20_4, gf_20_5, gf_20_6, gf_20_7, gf_20_8, gf_20_9, kd_20, pf_20_1, pf_20_2, pf_20_3, pf_20_4, pf_20_5, pf_20_6, pf_20_7, pf_20_9, h5, h3, i0, show ((-1 : Int32) < 0) = True from by decide]
theorem pz_Cclose9 (d : Nat) {D : hz_D} {s' : Nat} (h5 : D 20 5 = nI s') (hs : s' ≤ 96) : mx_run (d + 2) 143 0 [some (.ref 20)] [] (hp R c D) = some (none, hp R c D) := by
  have e5 : (nI s' < 0) = False := eq_false (nI_nlt (b := 0) (by omega) (by omega))
  simp (disch := first | assumption | omega | exact kd_sh _ _ _ (by assumption) | exact kd_sea _ _ _ (by assumption) | exact is_bts (by assumption) _ (by omega) | exact kd_bt _ _ _ (by first | assumption | exact is_bts (by assumption) _ (by omega)) | exact kd_109 _ _ _ | exact kd_17 _ _ _ | exact kd_20 _ _ _) only [iq_143_0, iq_143_1, iq_143_4, iq_143_7, iq_143_8, iq_143_9, iq_143_11, iq_143_14, iq_143_17, iq_143_18, iq_143_21, iq_143_24, iq_143_25, iq_143_26, iq_143_29, iq_143_32, Option.bind_some, Option.toList, List.cons_append, List.nil_append, ↓reduceIte, nI_1, Int32.reduceLT, Int32.reduceLE, dv_1, dv_2, dv_3, dv_4, dv_6, dv_8, dv_10, dv_20, dv_100, dv_200, dv_500, gf_20_0, gf_20_1, gf_20_2, gf_20_3, gf_20_4, gf_20_5, gf_20_6, gf_20_7, gf_20_8, gf_20_9, kd_20, pf_20_1, pf_20_2, pf_20_3, pf_20_4, pf_20_5, pf_20_6, pf_20_7, pf_20_9, h5, e5]
/-- the reference's counts -/
theorem pz_R24 {D : hz_D} {s e ty br nt n A o : Nat} (h : pz_R D B len s e ty br nt n A o) (o' : Nat) : pz_R (mx_up D 109 (mx_up (D 109) 24 (nI o'))) B len s e ty br nt n A o' := by
  obtain ⟨h1, h15, h16, h17, h19, h19b, h18, h20, h21, h22, h23, h24⟩ := h
  refine ⟨tp_r_up h1 24 _ (by omega), ?_, ?_, ?_, ?_, ?_, ?_, ?_, ?_, ?_, ?_, ?_⟩
  · rw [up_s, up_n _ _ _ _ (by omega)]; exact h15
  · rw [up_s, up_n _ _ _ _ (by omega)]; exact h16
  · rw [up_s, up_n _ _ _ _ (by omega)]; exact h17
  · rw [up_s, up_n _ _ _ _ (by omega)]; exact h19
  · rw [up_s, up_n _ _ _ _ (by omega)]; exact h19b
  · rw [up_s, up_n _ _ _ _ (by omega)]; exact h18
  · rw [up_s, up_n _ _ _ _ (by omega)]; exact h20
  · rw [up_s, up_n _ _ _ _ (by omega)]; exact h21
  · rw [up_s, up_n _ _ _ _ (by omega)]; exact h22
  · rw [up_s, up_n _ _ _ _ (by omega)]; exact h23
  · rw [up_s, up_s]
theorem pz_R21 {D : hz_D} {s e ty br nt n A o : Nat} (h : pz_R D B len s e ty br nt n A o) (o' : Nat) : pz_R (mx_up D 109 (mx_up (D 109) 21 (nI o'))) B len s e ty br o' n A o := by
  obtain ⟨h1, h15, h16, h17, h19, h19b, h18, h20, h21, h22, h23, h24⟩ := h
  refine ⟨tp_r_up h1 21 _ (by omega), ?_, ?_, ?_, ?_, ?_, ?_, ?_, ?_, ?_, ?_, ?_⟩
  · rw [up_s, up_n _ _ _ _ (by omega)]; exact h15
  · rw [up_s, up_n _ _ _ _ (by omega)]; exact h16
  · rw [up_s, up_n _ _ _ _ (by omega)]; exact h17
  · rw [up_s, up_n _ _ _ _ (by omega)]; exact h19
  · rw [up_s, up_n _ _ _ _ (by omega)]; exact h19b
  · rw [up_s, up_n _ _ _ _ (by omega)]; exact h18
  · rw [up_s, up_n _ _ _ _ (by omega)]; exact h20
  · rw [up_s, up_s]
  · rw [up_s, up_n _ _ _ _ (by omega)]; exact h22
  · rw [up_s, up_n _ _ _ _ (by omega)]; exact h23
  · rw [up_s, up_n _ _ _ _ (by omega)]; exact h24
theorem pz_R20 {D : hz_D} {s e ty br nt n A o : Nat} (h : pz_R D B len s e ty br nt n A o) (o' : Nat) : pz_R (mx_up D 109 (mx_up (D 109) 20 (nI o'))) B len s e ty o' nt n A o := by
  obtain ⟨h1, h15, h16, h17, h19, h19b, h18, h20, h21, h22, h23, h24⟩ := h
  refine ⟨tp_r_up h1 20 _ (by omega), ?_, ?_, ?_, ?_, ?_, ?_, ?_, ?_, ?_, ?_, ?_⟩
  · rw [up_s, up_n _ _ _ _ (by omega)]; exact h15
  · rw [up_s, up_n _ _ _ _ (by omega)]; exact h16
  · rw [up_s, up_n _ _ _ _ (by omega)]; exact h17
  · rw [up_s, up_n _ _ _ _ (by omega)]; exact h19
  · rw [up_s, up_n _ _ _ _ (by omega)]; exact h19b
  · rw [up_s, up_n _ _ _ _ (by omega)]; exact h18
  · rw [up_s, up_s]
  · rw [up_s, up_n _ _ _ _ (by omega)]; exact h21
  · rw [up_s, up_n _ _ _ _ (by omega)]; exact h22
  · rw [up_s, up_n _ _ _ _ (by omega)]; exact h23
  · rw [up_s, up_n _ _ _ _ (by omega)]; exact h24
theorem pz_FE_f (D : hz_D) (A n k : Nat) (x : Int32) (hk : 15 ≤ k ∧ k ≤ 24) : pz_FE D (mx_up D 109 (mx_up (D 109) k x)) A n := ⟨fun a ha _ => up_n _ _ _ _ ha, fun j hj => by rw [up_s, up_n _ _ _ _ (by omega)], fun j _ => by rw [up_n _ _ _ _ (by omega)]⟩
end PE
