theorem rc_mul (a b : Nat) : nI a * nI b = nI (a * b) := (Int32.ofNat_mul a b).symm
theorem rc_ix (k w : Nat) : (12 : Int32) + 7 * nI k + nI w = nI (12 + 7 * k + w) := by
  rw [show (12 : Int32) = nI 12 from rfl, show (7 : Int32) = nI 7 from rfl, rc_mul, nI_add, nI_add]
theorem rc_ofN (d : Nat) (k w : Nat) (h : mx_MH) (hk : rz_ok h) (h1 : k < 100) (h2 : w < 7) : mx_run d 179 0 [some (.ref 109), some (.int (nI k)), some (.int (nI w))] [] h = some (some (.int (rz_A h 110 (12 + 7 * k + w))), h) := by
  have e := rc_of d (nI k) (nI w) h hk (by rw [rc_ix]; exact rz_in (by omega) (by omega))
  rw [rc_ix, nI_clamp (by omega)] at e
  exact e
theorem rc_setsN (d : Nat) (k w : Nat) (v : Int32) (h : mx_MH) (hk : rz_ok h) (h1 : k < 100) (h2 : w < 7) : mx_run d 176 0 [some (.ref 109), some (.int (nI k)), some (.int (nI w)), some (.int v)] [] h = some (none, rz_sA h 110 (mx_up (rz_A h 110) (12 + 7 * k + w) v)) := by
  have e := rc_sets d (nI k) (nI w) v h hk (by rw [rc_ix]; exact rz_in (by omega) (by omega))
  rw [rc_ix, nI_clamp (by omega)] at e
  exact e
def sp_sum (s : Nat → Int32) (w : Nat) : Nat → Int32
  | 0 => 0
  | n + 1 => sp_sum s w n + s (12 + 7 * n + w)
theorem rc_allOf_lp (d : Nat) (h : mx_MH) (hk : rz_ok h) (w : Nat) (hw : w < 7) (n : Nat) (hn : rz_A h 110 0 = nI n) (hn9 : n ≤ 9) : ∀ m j : Nat, j + m = n → mx_run (d + 1) 205 4 [some (.ref 109), some (.int (nI w)), some (.int (sp_sum (rz_A h 110) w j)), some (.int (nI j))] [] h = some (some (.int (sp_sum (rz_A h 110) w n)), h) := by
  intro m
  induction m with
  | zero =>
    intro j hj
    obtain rfl : j = n := by omega
    rw [iq_205_4]
    simp only [iq_205_0, iq_205_1, iq_205_2, iq_205_3, iq_205_5, iq_205_6, iq_205_9, iq_205_10, iq_205_11, iq_205_14, iq_205_15, iq_205_16, iq_205_17, iq_205_18, iq_205_21, iq_205_22, iq_205_23, iq_205_26, iq_205_29, iq_205_30, rz_g0 hk, Option.bind_some, rc_ld110 hk, rz_i0, rz_n0, hn, Int32.lt_irrefl, if_false]
  | succ m ih =>
    intro j hj
    rw [iq_205_4]
    simp only [iq_205_0, iq_205_1, iq_205_2, iq_205_3, iq_205_5, iq_205_6, iq_205_9, iq_205_10, iq_205_11, iq_205_14, iq_205_15, iq_205_16, iq_205_17, iq_205_18, iq_205_21, iq_205_22, iq_205_23, iq_205_26, iq_205_29, iq_205_30, rz_g0 hk, Option.bind_some, rc_ld110 hk, rz_i0, rz_n0, hn, if_pos (nI_lt (show j < n by omega) (by omega)), rz_kd hk, rc_ofN _ j w h hk (by omega) hw, Option.toList, List.cons_append, List.nil_append, nI_1]
    exact ih (j + 1) (by omega)
theorem rc_allOf (d : Nat) (h : mx_MH) (hk : rz_ok h) (w : Nat) (hw : w < 7) (n : Nat) (hn : rz_A h 110 0 = nI n) (hn9 : n ≤ 9) (l2 l3 : Option Value) : mx_run (d + 1) 205 0 [some (.ref 109), some (.int (nI w)), l2, l3] [] h = some (some (.int (sp_sum (rz_A h 110) w n)), h) := by
  simp only [iq_205_0, iq_205_1, iq_205_2, iq_205_3, iq_205_5, iq_205_6, iq_205_9, iq_205_10, iq_205_11, iq_205_14, iq_205_15, iq_205_16, iq_205_17, iq_205_18, iq_205_21, iq_205_22, iq_205_23, iq_205_26, iq_205_29, iq_205_30]
  exact rc_allOf_lp d h hk w hw n hn hn9 n 0 (by omega)
