theorem h2_hr (s : Nat → Int32) (n m : Nat) : sp_hr s n m 2 = s 2 + 1 := by
  by_cases e : n = 0
  · unfold sp_hr
    rw [if_pos e, sp_h1_0, up_s]
  · rw [sp_hr_0 s n m e, up_s]
theorem h2_it (s : Nat → Int32) (n m h : Nat) (hh : s 2 = nI h) : ∀ k, sp_it s n m k 2 = nI (h + k)
  | 0 => hh
  | k + 1 => by
    show sp_hr (sp_it s n m k) n m 2 = _
    rw [h2_hr, h2_it s n m h hh k, nI_1]
    rfl
section RM
variable (R : Nat → Option mx_MC) (c : Nat × Nat) (D : hz_D)
theorem rc_many_lp (d N n m : Nat) (s : Nat → Int32) (hN : N < 2 ^ 31) (hv : sv s n m) : ∀ i j : Nat, j + i = N → ∀ D : hz_D, D 110 = sp_it s n m j → ∃ D', mx_run (d + 5) 216 2 [some (.ref 109), some (.int (nI N)), some (.int (nI j))] [] (hp R c D) = some (none, hp R c D') ∧ D' 110 = sp_it s n m N ∧ fr Xr D D' := by
  intro i
  induction i with
  | zero =>
    intro j hj D hD
    obtain rfl : j = N := by omega
    refine ⟨D, ?_, hD, fr_refl _ _⟩
    rw [iq_216_2]
    simp (disch := first | assumption | exact kd_109 _ _ _ | omega) only [iq_216_0, iq_216_1, iq_216_3, iq_216_4, iq_216_7, iq_216_8, iq_216_11, iq_216_14, iq_216_17, Option.bind_some, Option.toList, List.cons_append, List.nil_append, ↓reduceIte, nI_1, Int32.reduceLT, Int32.reduceLE, dv_1, dv_2, dv_3, dv_4, dv_6, dv_8, dv_10, dv_20, dv_100, dv_200, dv_500, nz_lt, nz_nlt, nz_eq, nz_ne]
  | succ i ih =>
    intro j hj D hD
    obtain ⟨D1, a1, a2, a3⟩ := rc_goesOn R c D d n m (by rw [hD]; exact sv_it hv j)
    rw [hD] at a2
    obtain ⟨D2, b1, b2, b3⟩ := ih (j + 1) (by omega) D1 a2
    refine ⟨D2, ?_, b2, fr_trans a3 b3⟩
    rw [← b1, iq_216_2]
    simp (disch := first | assumption | exact kd_109 _ _ _ | omega) only [iq_216_0, iq_216_1, iq_216_3, iq_216_4, iq_216_7, iq_216_8, iq_216_11, iq_216_14, iq_216_17, Option.bind_some, Option.toList, List.cons_append, List.nil_append, ↓reduceIte, nI_1, Int32.reduceLT, Int32.reduceLE, dv_1, dv_2, dv_3, dv_4, dv_6, dv_8, dv_10, dv_20, dv_100, dv_200, dv_500, nz_lt, nz_nlt, nz_eq, nz_ne, a1]
theorem rc_many (d N n m : Nat) (hN : N < 2 ^ 31) (hv : sv (D 110) n m) : ∃ D', mx_run (d + 5) 216 0 [some (.ref 109), some (.int (nI N)), none] [] (hp R c D) = some (none, hp R c D') ∧ D' 110 = sp_it (D 110) n m N ∧ fr Xr D D' := by
  obtain ⟨D', h⟩ := rc_many_lp R c d N n m (D 110) hN hv N 0 (by omega) D rfl
  refine ⟨D', ?_, h.2⟩
  simp only [iq_216_0, iq_216_1]
  exact h.1
/-- hours, as far as 9999 -/
theorem rc_hours_lp (d N n m h x : Nat) (s : Nat → Int32) (hN : N < 2 ^ 30) (hv : sv s n m) (hh : s 2 = nI h) (h9 : h ≤ 9999) (w : Int32) : ∀ i j : Nat, j + i = min N (9999 - h) → ∀ D : hz_D, D 110 = sp_it s n m j → ∃ D' l3, mx_run (d + 5) 204 23 [some (.ref 109), some (.int (nI N)), some (.int w), some (.int (nI j))] [] (hp R c D) = mx_run (d + 5) 204 50 [some (.ref 109), some (.int (nI N)), some (.int w), l3] [] (hp R c D') ∧ D' 110 = sp_it s n m (min N (9999 - h)) ∧ fr Xr D D' := by
  intro i
  induction i with
  | zero =>
    intro j hj D hD
    have e2 : D 110 2 = nI (h + j) := by rw [hD]; exact h2_it s n m h hh j
    refine ⟨D, some (.int (nI j)), ?_, by rw [hD, show j = min N (9999 - h) by omega], fr_refl _ _⟩
    rw [iq_204_23]
    by_cases hj2 : j < N
    · simp (disch := first | assumption | exact kd_109 _ _ _ | omega) only [iq_204_0, iq_204_1, iq_204_2, iq_204_3, iq_204_6, iq_204_9, iq_204_12, iq_204_14, iq_204_15, iq_204_16, iq_204_17, iq_204_20, iq_204_21, iq_204_22, iq_204_24, iq_204_25, iq_204_28, iq_204_29, iq_204_32, iq_204_33, iq_204_34, iq_204_37, iq_204_40, iq_204_41, iq_204_44, iq_204_47, iq_204_51, iq_204_52, iq_204_55, iq_204_56, iq_204_57, gf_109_0, gf_109_1, gf_109_2, gf_109_3, gf_109_4, gf_109_5, gf_109_6, gf_109_7, gf_109_8, gf_109_9, gf_109_10, gf_109_11, gf_109_12, gf_109_13, gf_109_14, gf_109_15, gf_109_16, gf_109_17, gf_109_18, gf_109_19, gf_109_20, gf_109_21, gf_109_22, gf_109_23, gf_109_24, gf_109_25, gf_109_26, gf_109_27, gf_109_28, gf_109_29, gf_109_30, kd_109, ld_110_0, st_110_0, ld_110_1, st_110_1, ld_110_2, st_110_2, ld_110_3, st_110_3, ld_110_4, st_110_4, ld_110_5, st_110_5, ld_110_6, st_110_6, ld_110_7, st_110_7, ld_110_8, st_110_8, ld_110_9, st_110_9, ld_110_10, st_110_10, ld_110_11, st_110_11, ld_110_12, st_110_12, ld_110_75, st_110_75, Option.bind_some, Option.toList, List.cons_append, List.nil_append, ↓reduceIte, nI_1, Int32.reduceLT, Int32.reduceLE, dv_1, dv_2, dv_3, dv_4, dv_6, dv_8, dv_10, dv_20, dv_100, dv_200, dv_500, nz_lt, nz_nlt, nz_eq, nz_ne, e2, nz_nlt_9999]
    · simp (disch := first | assumption | exact kd_109 _ _ _ | omega) only [iq_204_0, iq_204_1, iq_204_2, iq_204_3, iq_204_6, iq_204_9, iq_204_12, iq_204_14, iq_204_15, iq_204_16, iq_204_17, iq_204_20, iq_204_21, iq_204_22, iq_204_24, iq_204_25, iq_204_28, iq_204_29, iq_204_32, iq_204_33, iq_204_34, iq_204_37, iq_204_40, iq_204_41, iq_204_44, iq_204_47, iq_204_51, iq_204_52, iq_204_55, iq_204_56, iq_204_57, gf_109_0, gf_109_1, gf_109_2, gf_109_3, gf_109_4, gf_109_5, gf_109_6, gf_109_7, gf_109_8, gf_109_9, gf_109_10, gf_109_11, gf_109_12, gf_109_13, gf_109_14, gf_109_15, gf_109_16, gf_109_17, gf_109_18, gf_109_19, gf_109_20, gf_109_21, gf_109_22, gf_109_23, gf_109_24, gf_109_25, gf_109_26, gf_109_27, gf_109_28, gf_109_29, gf_109_30, kd_109, ld_110_0, st_110_0, ld_110_1, st_110_1, ld_110_2, st_110_2, ld_110_3, st_110_3, ld_110_4, st_110_4, ld_110_5, st_110_5, ld_110_6, st_110_6, ld_110_7, st_110_7, ld_110_8, st_110_8, ld_110_9, st_110_9, ld_110_10, st_110_10, ld_110_11, st_110_11, ld_110_12, st_110_12, ld_110_75, st_110_75, Option.bind_some, Option.toList, List.cons_append, List.nil_append, ↓reduceIte, nI_1, Int32.reduceLT, Int32.reduceLE, dv_1, dv_2, dv_3, dv_4, dv_6, dv_8, dv_10, dv_20, dv_100, dv_200, dv_500, nz_lt, nz_nlt, nz_eq, nz_ne]
  | succ i ih =>
    intro j hj D hD
    have e2 : D 110 2 = nI (h + j) := by rw [hD]; exact h2_it s n m h hh j
    obtain ⟨D1, a1, a2, a3⟩ := rc_goesOn R c D d n m (by rw [hD]; exact sv_it hv j)
    rw [hD] at a2
    obtain ⟨D2, l3, b1, b2, b3⟩ := ih (j + 1) (by omega) D1 a2
    refine ⟨D2, l3, ?_, b2, fr_trans a3 b3⟩
    rw [← b1, iq_204_23]
    simp (disch := first | assumption | exact kd_109 _ _ _ | omega) only [iq_204_0, iq_204_1, iq_204_2, iq_204_3, iq_204_6, iq_204_9, iq_204_12, iq_204_14, iq_204_15, iq_204_16, iq_204_17, iq_204_20, iq_204_21, iq_204_22, iq_204_24, iq_204_25, iq_204_28, iq_204_29, iq_204_32, iq_204_33, iq_204_34, iq_204_37, iq_204_40, iq_204_41, iq_204_44, iq_204_47, iq_204_51, iq_204_52, iq_204_55, iq_204_56, iq_204_57, gf_109_0, gf_109_1, gf_109_2, gf_109_3, gf_109_4, gf_109_5, gf_109_6, gf_109_7, gf_109_8, gf_109_9, gf_109_10, gf_109_11, gf_109_12, gf_109_13, gf_109_14, gf_109_15, gf_109_16, gf_109_17, gf_109_18, gf_109_19, gf_109_20, gf_109_21, gf_109_22, gf_109_23, gf_109_24, gf_109_25, gf_109_26, gf_109_27, gf_109_28, gf_109_29, gf_109_30, kd_109, ld_110_0, st_110_0, ld_110_1, st_110_1, ld_110_2, st_110_2, ld_110_3, st_110_3, ld_110_4, st_110_4, ld_110_5, st_110_5, ld_110_6, st_110_6, ld_110_7, st_110_7, ld_110_8, st_110_8, ld_110_9, st_110_9, ld_110_10, st_110_10, ld_110_11, st_110_11, ld_110_12, st_110_12, ld_110_75, st_110_75, Option.bind_some, Option.toList, List.cons_append, List.nil_append, ↓reduceIte, nI_1, Int32.reduceLT, Int32.reduceLE, dv_1, dv_2, dv_3, dv_4, dv_6, dv_8, dv_10, dv_20, dv_100, dv_200, dv_500, nz_lt, nz_nlt, nz_eq, nz_ne, e2, nz_lt_9999, a1]
end RM
