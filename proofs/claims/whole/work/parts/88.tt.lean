section TV
variable (R : Nat → Option mx_MC) (c : Nat × Nat)
theorem ct_num (d : Nat) (B : Nat → Nat) (len s e : Nat) (D : hz_D) (ht : tp_c D B len) (h4 : D 20 4 = nI e) (hse : s ≤ e) (he : e ≤ len) (hd : ∀ j, s ≤ j → j < e → 48 ≤ B j) : ∀ i k : Nat, k + i = e - s → mx_run (d + 1) 123 7 [some (.ref 20), some (.int (nI (tk_nu B s k))), some (.int (nI (s + k)))] [] (hp R c D) = some (some (.int (nI (tk_nu B s (e - s)))), hp R c D) := by
  have hl := ht.1
  intro i
  induction i with
  | zero =>
    intro k hk
    have ek : k = e - s := by omega
    rw [ek, iq_123_7]
    simp (disch := first | assumption | omega | exact kd_sh _ _ _ (by assumption) | exact kd_sea _ _ _ (by assumption) | exact is_bts (by assumption) _ (by omega) | exact kd_bt _ _ _ (by first | assumption | exact is_bts (by assumption) _ (by omega)) | exact kd_109 _ _ _ | exact kd_17 _ _ _ | exact kd_20 _ _ _) only [iq_123_0, iq_123_1, iq_123_2, iq_123_3, iq_123_6, iq_123_8, iq_123_9, iq_123_12, iq_123_15, iq_123_16, iq_123_18, iq_123_19, iq_123_20, iq_123_21, iq_123_24, iq_123_25, iq_123_27, iq_123_28, iq_123_29, iq_123_32, iq_123_35, iq_123_36, Option.bind_some, Option.toList, List.cons_append, List.nil_append, ↓reduceIte, nI_1, Int32.reduceLT, Int32.reduceLE, dv_1, dv_2, dv_3, dv_4, dv_6, dv_8, dv_10, dv_20, dv_100, dv_200, dv_500, gf_20_0, gf_20_1, gf_20_2, gf_20_3, gf_20_4, gf_20_5, gf_20_6, gf_20_7, gf_20_8, gf_20_9, kd_20, pf_20_1, pf_20_2, pf_20_3, pf_20_4, pf_20_5, pf_20_6, pf_20_7, pf_20_9, nz_lt, nz_nlt, nz_eq, nz_ne, h4]
  | succ i ih =>
    intro k hk
    have IH := ih (k + 1) (by omega)
    have ba := ct_byteAt R c D d (s + k) B len ht (by omega)
    have hb := hd (s + k) (by omega) (by omega)
    have em : nI (tk_nu B s k) * 10 + nI (B (s + k)) - 48 = nI (tk_nu B s (k + 1)) := by
      show _ = nI (10 * tk_nu B s k + (B (s + k) - 48))
      rw [show (10 : Int32) = nI 10 from rfl, show (48 : Int32) = nI 48 from rfl, rc_mul, nI_add, nI_sub (by omega)]
      congr 1
      omega
    rw [← IH, iq_123_7]
    simp (disch := first | assumption | omega | exact kd_sh _ _ _ (by assumption) | exact kd_sea _ _ _ (by assumption) | exact is_bts (by assumption) _ (by omega) | exact kd_bt _ _ _ (by first | assumption | exact is_bts (by assumption) _ (by omega)) | exact kd_109 _ _ _ | exact kd_17 _ _ _ | exact kd_20 _ _ _) only [iq_123_0, iq_123_1, iq_123_2, iq_123_3, iq_123_6, iq_123_8, iq_123_9, iq_123_12, iq_123_15, iq_123_16, iq_123_18, iq_123_19, iq_123_20, iq_123_21, iq_123_24, iq_123_25, iq_123_27, iq_123_28, iq_123_29, iq_123_32, iq_123_35, iq_123_36, Option.bind_some, Option.toList, List.cons_append, List.nil_append, ↓reduceIte, nI_1, Int32.reduceLT, Int32.reduceLE, dv_1, dv_2, dv_3, dv_4, dv_6, dv_8, dv_10, dv_20, dv_100, dv_200, dv_500, gf_20_0, gf_20_1, gf_20_2, gf_20_3, gf_20_4, gf_20_5, gf_20_6, gf_20_7, gf_20_8, gf_20_9, kd_20, pf_20_1, pf_20_2, pf_20_3, pf_20_4, pf_20_5, pf_20_6, pf_20_7, pf_20_9, nz_lt, nz_nlt, nz_eq, nz_ne, h4, ba, em, show s + (k + 1) = s + k + 1 from rfl]
end TV
