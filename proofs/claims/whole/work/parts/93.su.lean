theorem iq_111_5v (d : Nat) (ls : mx_Lo) (x0 : Int32) (x1 : Int32) (h : mx_MH) : mx_run (d + 1) 111 5 ls [.retAddr 0, .int x1, .int x0] h = (mx_run d 112 0 [some (.int x0), some (.int x1), some (.retAddr 0)] [] h).bind (fun y => mx_run (d + 1) 111 8 ls (y.1.toList ++ []) y.2) := mr_cS mq_111 (show decode prog_18_method_155_code 5 = .ok (.invokestatic 1059, 3) by decide +kernel) rfl rfl rfl (q := (54307, 782, 112, 3, false, 783, 67, 784)) iqI_54307 ⟨Nat.le_of_ble_eq_true rfl, rfl, rfl⟩ mq_112 ⟨by decide, Nat.le_of_ble_eq_true rfl, rfl, Nat.le_of_ble_eq_true rfl⟩
theorem jw_chk (d k n : Nat) (h : mx_MH) (hk : k < n) (hn : n < 100) : mx_run (d + 1) 111 0 [some (.int (nI k)), some (.int (nI n))] [] h = some (none, h) := by
  have e1 : (nI k < 0) = False := eq_false (nI_nlt (b := 0) (by omega) (by omega))
  have e2 : (nI k < nI n) = True := eq_true (nI_lt hk (by omega))
  simp only [iq_111_0, iq_111_1, iq_111_2, iq_111_5, iq_111_8, iq_111_9, iq_111_5v, iq_112_0, iq_112_1, iq_112_4, iq_112_5, iq_112_6, iq_112_9, iq_112_9n, iq_112_10, iq_112_11, iq_112_16, iq_112_17, Option.bind_some, Option.toList, List.cons_append, List.nil_append, ↓reduceIte, nI_1, Int32.reduceLT, Int32.reduceLE, dv_1, dv_2, dv_3, dv_4, dv_6, dv_8, dv_10, dv_20, dv_100, dv_200, dv_500, e1, e2]
/-- byte k of the string at w -/
def jw_b (w k : Nat) : Int32 := (sx_byt.getD (w - 4) []).getD k 0
section SX
variable (L : Nat) (xs : Nat → Int32) (c : Nat × Nat) (D : hz_D)
theorem jw_n4 (w : Nat) (h : 4 ≤ w ∧ w < 10) : sx_len.getD (w - 4) 0 ≤ 4 := by
  rcases w_cases h with e | e | e | e | e | e <;> subst e <;> decide
theorem gw_ld (w k : Nat) (h : 4 ≤ w ∧ w < 10) (hk : k < sx_len.getD (w - 4) 0) : mg_ld (hp (sx_rom L xs) c D) (w + 6) .byte (nI k) = some (.int (jw_b w k)) := by
  have h4 := jw_n4 w h
  have k4 : k = 0 ∨ k = 1 ∨ k = 2 ∨ k = 3 := by omega
  rcases w_cases h with e | e | e | e | e | e <;> subst e <;> rcases k4 with f | f | f | f <;> subst f <;> first | rfl | exact absurd hk (by decide)
theorem jw_ch (d w k : Nat) (h : 4 ≤ w ∧ w < 10) (hk : k < sx_len.getD (w - 4) 0) : mx_run (d + 2) 110 0 [some (.ref (w + 6)), some (.int (nI k))] [] (hp (sx_rom L xs) c D) = some (some (.int (jw_b w k)), hp (sx_rom L xs) c D) := by
  have h4 := jw_n4 w h
  have g1 := gw_l L xs c D w h
  have g2 := gw_ld L xs c D w k h hk
  have g3 := jw_chk d k _ (hp (sx_rom L xs) c D) hk (by omega)
  simp only [iq_110_0, iq_110_1, iq_110_2, iq_110_3, iq_110_6, iq_110_7, iq_110_8, iq_110_9, iq_110_12, iq_110_13, Option.bind_some, Option.toList, List.cons_append, List.nil_append, ↓reduceIte, nI_1, Int32.reduceLT, Int32.reduceLE, dv_1, dv_2, dv_3, dv_4, dv_6, dv_8, dv_10, dv_20, dv_100, dv_200, dv_500, g1, g2, g3]
  have k4 : k = 0 ∨ k = 1 ∨ k = 2 ∨ k = 3 := by omega
  rcases w_cases h with e | e | e | e | e | e <;> subst e <;> rcases k4 with f | f | f | f <;> subst f <;> first | (rw [iq_110_14 _ _ _ _ (by decide)]; rfl) | exact absurd hk (by decide)
end SX
