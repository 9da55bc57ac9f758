/-- do the i bytes from s + k on say the letters of the string at w from k on -/
def jw_eq (B : Nat → Nat) (s w : Nat) : Nat → Nat → Nat
  | 0, _ => 1
  | i + 1, k => if nI (B (s + k)) = jw_b w k then jw_eq B s w i (k + 1) else 0
section SZ
variable (L : Nat) (xs : Nat → Int32) (c : Nat × Nat) (D : hz_D)
/-- the loop of isWord, from letter k on, i left -/
theorem ct_wl (d w : Nat) (h : 4 ≤ w ∧ w < 10) (B : Nat → Nat) (len s : Nat) (ht : tp_c D B len) (h3 : D 20 3 = nI s) (hs : s + sx_len.getD (w - 4) 0 ≤ len) : ∀ i k : Nat, k + i = sx_len.getD (w - 4) 0 → mx_run (d + 4) 105 28 [some (.ref 20), some (.ref w), some (.int (nI k))] [] (hp (sx_rom L xs) c D) = some (some (.int (nI (jw_eq B s w i k))), hp (sx_rom L xs) c D) := by
  have hl := ht.1
  have h4 := jw_n4 w h
  have g1 := gw_k L xs c D w h
  have gl := jw_len L xs c D (d + 2) w h
  intro i
  induction i with
  | zero =>
    intro k hk
    rw [iq_105_28]
    have e1 : (nI k < nI (sx_len.getD (w - 4) 0)) = False := eq_false (nI_nlt (by omega) (by omega))
    simp (disch := first | assumption | omega | exact kd_sh _ _ _ (by assumption) | exact kd_sea _ _ _ (by assumption) | exact is_bts (by assumption) _ (by omega) | exact kd_bt _ _ _ (by first | assumption | exact is_bts (by assumption) _ (by omega)) | exact kd_109 _ _ _ | exact kd_17 _ _ _ | exact kd_20 _ _ _) only [iq_105_0, iq_105_1, iq_105_4, iq_105_5, iq_105_8, iq_105_9, iq_105_12, iq_105_13, iq_105_16, iq_105_17, iq_105_17n, iq_105_18, iq_105_21, iq_105_24, iq_105_25, iq_105_25z, iq_105_26, iq_105_27, iq_105_29, iq_105_29n, iq_105_30, iq_105_33, iq_105_36, iq_105_37, iq_105_38, iq_105_41, iq_105_42, iq_105_43, iq_105_46, iq_105_46n, iq_105_47, iq_105_48, iq_105_51, iq_105_54, iq_105_55, iq_105_55z, iq_105_56, iq_105_59, iq_105_62, iq_105_63, iq_105_63z, ib_105_25, ib_105_55, ib_105_63, Option.bind_some, Option.toList, List.cons_append, List.nil_append, ↓reduceIte, nI_1, Int32.reduceLT, Int32.reduceLE, dv_1, dv_2, dv_3, dv_4, dv_6, dv_8, dv_10, dv_20, dv_100, dv_200, dv_500, gf_20_0, gf_20_1, gf_20_2, gf_20_3, gf_20_4, gf_20_5, gf_20_6, gf_20_7, gf_20_8, gf_20_9, kd_20, pf_20_1, pf_20_2, pf_20_3, pf_20_4, pf_20_5, pf_20_6, pf_20_7, pf_20_9, gl, e1]
    rfl
  | succ i ih =>
    intro k hk
    have IH := ih (k + 1) (by omega)
    have ba := ct_byteAt (sx_rom L xs) c D (d + 3) (s + k) B len ht (by omega)
    have gc := jw_charAt L xs c D d w k h (by omega)
    have e1 : (nI k < nI (sx_len.getD (w - 4) 0)) = True := eq_true (nI_lt (by omega) (by omega))
    have ea : nI s + nI k = nI (s + k) := nI_add s k
    have eq1 : jw_eq B s w (i + 1) k = if nI (B (s + k)) = jw_b w k then jw_eq B s w i (k + 1) else 0 := rfl
    rw [iq_105_28, eq1]
    by_cases q : nI (B (s + k)) = jw_b w k
    · rw [if_pos q, ← IH]
      simp (disch := first | assumption | omega | exact kd_sh _ _ _ (by assumption) | exact kd_sea _ _ _ (by assumption) | exact is_bts (by assumption) _ (by omega) | exact kd_bt _ _ _ (by first | assumption | exact is_bts (by assumption) _ (by omega)) | exact kd_109 _ _ _ | exact kd_17 _ _ _ | exact kd_20 _ _ _) only [iq_105_0, iq_105_1, iq_105_4, iq_105_5, iq_105_8, iq_105_9, iq_105_12, iq_105_13, iq_105_16, iq_105_17, iq_105_17n, iq_105_18, iq_105_21, iq_105_24, iq_105_25, iq_105_25z, iq_105_26, iq_105_27, iq_105_29, iq_105_29n, iq_105_30, iq_105_33, iq_105_36, iq_105_37, iq_105_38, iq_105_41, iq_105_42, iq_105_43, iq_105_46, iq_105_46n, iq_105_47, iq_105_48, iq_105_51, iq_105_54, iq_105_55, iq_105_55z, iq_105_56, iq_105_59, iq_105_62, iq_105_63, iq_105_63z, ib_105_25, ib_105_55, ib_105_63, Option.bind_some, Option.toList, List.cons_append, List.nil_append, ↓reduceIte, nI_1, Int32.reduceLT, Int32.reduceLE, dv_1, dv_2, dv_3, dv_4, dv_6, dv_8, dv_10, dv_20, dv_100, dv_200, dv_500, gf_20_0, gf_20_1, gf_20_2, gf_20_3, gf_20_4, gf_20_5, gf_20_6, gf_20_7, gf_20_8, gf_20_9, kd_20, pf_20_1, pf_20_2, pf_20_3, pf_20_4, pf_20_5, pf_20_6, pf_20_7, pf_20_9, gl, e1, h3, ea, ba, gc]
      rw [if_pos q]
    · rw [if_neg q]
      simp (disch := first | assumption | omega | exact kd_sh _ _ _ (by assumption) | exact kd_sea _ _ _ (by assumption) | exact is_bts (by assumption) _ (by omega) | exact kd_bt _ _ _ (by first | assumption | exact is_bts (by assumption) _ (by omega)) | exact kd_109 _ _ _ | exact kd_17 _ _ _ | exact kd_20 _ _ _) only [iq_105_0, iq_105_1, iq_105_4, iq_105_5, iq_105_8, iq_105_9, iq_105_12, iq_105_13, iq_105_16, iq_105_17, iq_105_17n, iq_105_18, iq_105_21, iq_105_24, iq_105_25, iq_105_25z, iq_105_26, iq_105_27, iq_105_29, iq_105_29n, iq_105_30, iq_105_33, iq_105_36, iq_105_37, iq_105_38, iq_105_41, iq_105_42, iq_105_43, iq_105_46, iq_105_46n, iq_105_47, iq_105_48, iq_105_51, iq_105_54, iq_105_55, iq_105_55z, iq_105_56, iq_105_59, iq_105_62, iq_105_63, iq_105_63z, ib_105_25, ib_105_55, ib_105_63, Option.bind_some, Option.toList, List.cons_append, List.nil_append, ↓reduceIte, nI_1, Int32.reduceLT, Int32.reduceLE, dv_1, dv_2, dv_3, dv_4, dv_6, dv_8, dv_10, dv_20, dv_100, dv_200, dv_500, gf_20_0, gf_20_1, gf_20_2, gf_20_3, gf_20_4, gf_20_5, gf_20_6, gf_20_7, gf_20_8, gf_20_9, kd_20, pf_20_1, pf_20_2, pf_20_3, pf_20_4, pf_20_5, pf_20_6, pf_20_7, pf_20_9, gl, e1, h3, ea, ba, gc]
      rw [if_neg q]
      rfl
end SZ
