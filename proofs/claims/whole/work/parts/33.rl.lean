def sp_sum (s : Nat → Int32) (w : Nat) : Nat → Int32
  | 0 => 0
  | n + 1 => sp_sum s w n + s (12 + 7 * n + w)
def sp_tie (s : Nat → Int32) : Nat → Int32
  | 0 => 0
  | n + 1 => sp_tie s n ||| (s (12 + 7 * n + 5) <<< (nI n &&& 31))
def sp_tg (s : Nat → Int32) (k : Nat) : Int32 := s (12 + 7 * k + 3) - s (12 + 7 * k + 2)
def sp_hom (s : Nat → Int32) : Nat → Int32
  | 0 => 0
  | n + 1 => sp_hom s n ||| (if 0 < sp_tg s n then 0 else (1 : Int32) <<< (nI n &&& 31))
/-- the first of the greatest -/
def sp_mx (f : Nat → Int32) : Nat → Nat
  | 0 => 0
  | n + 1 => if f (sp_mx f n) < f n then n else sp_mx f n
def sp_mn (f : Nat → Int32) : Nat → Nat
  | 0 => 0
  | n + 1 => if f n < f (sp_mn f n) then n else sp_mn f n
theorem sp_mx1 (f : Nat → Int32) : sp_mx f 1 = 0 := by
  show (if f 0 < f 0 then 0 else 0) = 0
  split <;> rfl
theorem sp_mn1 (f : Nat → Int32) : sp_mn f 1 = 0 := by
  show (if f 0 < f 0 then 0 else 0) = 0
  split <;> rfl
theorem sp_mx_lt (f : Nat → Int32) : ∀ n, 0 < n → sp_mx f n < n
  | 0, h => by omega
  | n + 1, _ => by
    show (if _ then n else sp_mx f n) < n + 1
    split
    · omega
    · by_cases e : n = 0
      · subst e
        exact Nat.zero_lt_one
      · have := sp_mx_lt f n (by omega)
        omega
theorem sp_mn_lt (f : Nat → Int32) : ∀ n, 0 < n → sp_mn f n < n
  | 0, h => by omega
  | n + 1, _ => by
    show (if _ then n else sp_mn f n) < n + 1
    split
    · omega
    · by_cases e : n = 0
      · subst e
        exact Nat.zero_lt_one
      · have := sp_mn_lt f n (by omega)
        omega
/-- the last text of a key -/
def sp_cnt (s : Nat → Int32) (key : Int32) : Nat → Int32
  | 0 => -1
  | t + 1 => if s (75 + 200 * t) = key then nI t else sp_cnt s key t
def sp_hv (s : Nat → Int32) (n : Nat) : Nat := sp_mx (fun k => s (12 + 7 * k + 1)) n
def sp_lp (s : Nat → Int32) (n : Nat) : Nat := sp_mn (fun k => s (12 + 7 * k + 2)) n
def sp_mg (s : Nat → Int32) (n : Nat) : Nat := sp_mx (sp_tg s) n
theorem sp_hv_s (s : Nat → Int32) (j : Nat) : sp_hv s (j + 1) = if s (12 + 7 * sp_hv s j + 1) < s (12 + 7 * j + 1) then j else sp_hv s j := rfl
theorem sp_lp_s (s : Nat → Int32) (j : Nat) : sp_lp s (j + 1) = if s (12 + 7 * j + 2) < s (12 + 7 * sp_lp s j + 2) then j else sp_lp s j := rfl
theorem sp_mg_s (s : Nat → Int32) (j : Nat) : sp_mg s (j + 1) = if sp_tg s (sp_mg s j) < sp_tg s j then j else sp_mg s j := rfl
theorem sp_hom_s (s : Nat → Int32) (j : Nat) : sp_hom s (j + 1) = sp_hom s j ||| (if 0 < sp_tg s j then 0 else (1 : Int32) <<< (nI j &&& 31)) := rfl
theorem sp_cnt_s (s : Nat → Int32) (key : Int32) (j : Nat) : sp_cnt s key (j + 1) = if s (75 + 200 * j) = key then nI j else sp_cnt s key j := rfl
variable (R : Nat → Option mx_MC) (c : Nat × Nat) (D : hz_D)
theorem rc_allOf_lp (d : Nat) (w : Nat) (hw : w < 7) (n : Nat) (hn : D 110 0 = nI n) (hn9 : n ≤ 9) : ∀ m j : Nat, j + m = n → mx_run (d + 1) 205 4 [some (.ref 109), some (.int (nI w)), some (.int (sp_sum (D 110) w j)), some (.int (nI j))] [] (hp R c D) = some (some (.int (sp_sum (D 110) w n)), hp R c D) := by
  intro m
  induction m with
  | zero =>
    intro j hj
    obtain rfl : j = n := by omega
    rw [iq_205_4]
    simp (disch := first | assumption | exact kd_109 _ _ _ | omega) only [iq_205_0, iq_205_1, iq_205_2, iq_205_3, iq_205_5, iq_205_6, iq_205_9, iq_205_10, iq_205_11, iq_205_14, iq_205_15, iq_205_16, iq_205_17, iq_205_18, iq_205_21, iq_205_22, iq_205_23, iq_205_26, iq_205_29, iq_205_30, gf_109_0, gf_109_1, gf_109_2, gf_109_3, gf_109_4, gf_109_5, gf_109_6, gf_109_7, gf_109_8, gf_109_9, gf_109_10, gf_109_11, gf_109_12, gf_109_13, gf_109_14, gf_109_15, gf_109_16, gf_109_17, gf_109_18, gf_109_19, gf_109_20, gf_109_21, gf_109_22, gf_109_23, gf_109_24, gf_109_25, gf_109_26, gf_109_27, gf_109_28, gf_109_29, gf_109_30, kd_109, Option.bind_some, Option.toList, List.cons_append, List.nil_append, ↓reduceIte, nI_1, Int32.reduceLT, Int32.reduceLE, dv_1, dv_2, dv_3, dv_4, dv_6, dv_8, dv_10, dv_20, dv_100, dv_200, dv_500, ld_110_0, st_110_0, ld_110_1, st_110_1, ld_110_2, st_110_2, ld_110_3, st_110_3, ld_110_4, st_110_4, ld_110_5, st_110_5, ld_110_6, st_110_6, ld_110_7, st_110_7, ld_110_8, st_110_8, ld_110_9, st_110_9, ld_110_10, st_110_10, ld_110_11, st_110_11, ld_110_12, st_110_12, ld_110_75, st_110_75, hn, nz_lt, nz_nlt, nz_eq, nz_ne]
  | succ m ih =>
    intro j hj
    rw [iq_205_4]
    simp (disch := first | assumption | exact kd_109 _ _ _ | omega) only [iq_205_0, iq_205_1, iq_205_2, iq_205_3, iq_205_5, iq_205_6, iq_205_9, iq_205_10, iq_205_11, iq_205_14, iq_205_15, iq_205_16, iq_205_17, iq_205_18, iq_205_21, iq_205_22, iq_205_23, iq_205_26, iq_205_29, iq_205_30, gf_109_0, gf_109_1, gf_109_2, gf_109_3, gf_109_4, gf_109_5, gf_109_6, gf_109_7, gf_109_8, gf_109_9, gf_109_10, gf_109_11, gf_109_12, gf_109_13, gf_109_14, gf_109_15, gf_109_16, gf_109_17, gf_109_18, gf_109_19, gf_109_20, gf_109_21, gf_109_22, gf_109_23, gf_109_24, gf_109_25, gf_109_26, gf_109_27, gf_109_28, gf_109_29, gf_109_30, kd_109, Option.bind_some, Option.toList, List.cons_append, List.nil_append, ↓reduceIte, nI_1, Int32.reduceLT, Int32.reduceLE, dv_1, dv_2, dv_3, dv_4, dv_6, dv_8, dv_10, dv_20, dv_100, dv_200, dv_500, ld_110_0, st_110_0, ld_110_1, st_110_1, ld_110_2, st_110_2, ld_110_3, st_110_3, ld_110_4, st_110_4, ld_110_5, st_110_5, ld_110_6, st_110_6, ld_110_7, st_110_7, ld_110_8, st_110_8, ld_110_9, st_110_9, ld_110_10, st_110_10, ld_110_11, st_110_11, ld_110_12, st_110_12, ld_110_75, st_110_75, hn, nz_lt, nz_nlt, nz_eq, nz_ne, rc_ofN]
    exact ih (j + 1) (by omega)
theorem rc_allOf (d : Nat) (w : Nat) (hw : w < 7) (n : Nat) (hn : D 110 0 = nI n) (hn9 : n ≤ 9) : mx_run (d + 1) 205 0 [some (.ref 109), some (.int (nI w)), none, none] [] (hp R c D) = some (some (.int (sp_sum (D 110) w n)), hp R c D) := by
  simp only [iq_205_0, iq_205_1, iq_205_2, iq_205_3]
  exact rc_allOf_lp R c D d w hw n hn hn9 n 0 (by omega)
theorem rc_allOf4 (d : Nat) (n : Nat) (hn : D 110 0 = nI n) (hn9 : n ≤ 9) : mx_run (d + 1) 205 0 [some (.ref 109), some (.int 4), none, none] [] (hp R c D) = some (some (.int (sp_sum (D 110) 4 n)), hp R c D) := rc_allOf R c D d 4 (by omega) n hn hn9
theorem rc_allOf2 (d : Nat) (n : Nat) (hn : D 110 0 = nI n) (hn9 : n ≤ 9) : mx_run (d + 1) 205 0 [some (.ref 109), some (.int 2), none, none] [] (hp R c D) = some (some (.int (sp_sum (D 110) 2 n)), hp R c D) := rc_allOf R c D d 2 (by omega) n hn hn9
theorem rc_toGo (d : Nat) (k : Nat) (hk : k < 400) : mx_run (d + 1) 210 0 [some (.ref 109), some (.int (nI k))] [] (hp R c D) = some (some (.int (sp_tg (D 110) k)), hp R c D) := by
  unfold sp_tg
  simp (disch := first | assumption | exact kd_109 _ _ _ | omega) only [iq_210_0, iq_210_1, iq_210_2, iq_210_3, iq_210_6, iq_210_7, iq_210_8, iq_210_9, iq_210_12, iq_210_13, Option.bind_some, Option.toList, List.cons_append, List.nil_append, ↓reduceIte, nI_1, Int32.reduceLT, Int32.reduceLE, dv_1, dv_2, dv_3, dv_4, dv_6, dv_8, dv_10, dv_20, dv_100, dv_200, dv_500, rc_of3, rc_of2]
theorem rc_heaviest_lp (d : Nat) (n : Nat) (hn : D 110 0 = nI n) (hn9 : n ≤ 9) : ∀ m j : Nat, j + m = n → 0 < j → mx_run (d + 1) 207 4 [some (.ref 109), some (.int (nI (sp_hv (D 110) j))), some (.int (nI j))] [] (hp R c D) = some (some (.int (nI (sp_hv (D 110) n))), hp R c D) := by
  intro m
  induction m with
  | zero =>
    intro j hj h0
    obtain rfl : j = n := by omega
    rw [iq_207_4]
    simp (disch := first | assumption | exact kd_109 _ _ _ | omega) only [iq_207_0, iq_207_1, iq_207_2, iq_207_3, iq_207_5, iq_207_6, iq_207_9, iq_207_10, iq_207_11, iq_207_14, iq_207_15, iq_207_16, iq_207_17, iq_207_20, iq_207_21, iq_207_22, iq_207_23, iq_207_26, iq_207_29, iq_207_30, iq_207_33, iq_207_34, iq_207_35, iq_207_38, iq_207_41, iq_207_42, gf_109_0, gf_109_1, gf_109_2, gf_109_3, gf_109_4, gf_109_5, gf_109_6, gf_109_7, gf_109_8, gf_109_9, gf_109_10, gf_109_11, gf_109_12, gf_109_13, gf_109_14, gf_109_15, gf_109_16, gf_109_17, gf_109_18, gf_109_19, gf_109_20, gf_109_21, gf_109_22, gf_109_23, gf_109_24, gf_109_25, gf_109_26, gf_109_27, gf_109_28, gf_109_29, gf_109_30, kd_109, Option.bind_some, Option.toList, List.cons_append, List.nil_append, ↓reduceIte, nI_1, Int32.reduceLT, Int32.reduceLE, dv_1, dv_2, dv_3, dv_4, dv_6, dv_8, dv_10, dv_20, dv_100, dv_200, dv_500, ld_110_0, st_110_0, ld_110_1, st_110_1, ld_110_2, st_110_2, ld_110_3, st_110_3, ld_110_4, st_110_4, ld_110_5, st_110_5, ld_110_6, st_110_6, ld_110_7, st_110_7, ld_110_8, st_110_8, ld_110_9, st_110_9, ld_110_10, st_110_10, ld_110_11, st_110_11, ld_110_12, st_110_12, ld_110_75, st_110_75, hn, nz_lt, nz_nlt, nz_eq, nz_ne]
  | succ m ih =>
    intro j hj h0
    have hb : sp_hv (D 110) j < j := sp_mx_lt _ j h0
    rw [iq_207_4]
    simp (disch := first | assumption | exact kd_109 _ _ _ | omega) only [iq_207_0, iq_207_1, iq_207_2, iq_207_3, iq_207_5, iq_207_6, iq_207_9, iq_207_10, iq_207_11, iq_207_14, iq_207_15, iq_207_16, iq_207_17, iq_207_20, iq_207_21, iq_207_22, iq_207_23, iq_207_26, iq_207_29, iq_207_30, iq_207_33, iq_207_34, iq_207_35, iq_207_38, iq_207_41, iq_207_42, gf_109_0, gf_109_1, gf_109_2, gf_109_3, gf_109_4, gf_109_5, gf_109_6, gf_109_7, gf_109_8, gf_109_9, gf_109_10, gf_109_11, gf_109_12, gf_109_13, gf_109_14, gf_109_15, gf_109_16, gf_109_17, gf_109_18, gf_109_19, gf_109_20, gf_109_21, gf_109_22, gf_109_23, gf_109_24, gf_109_25, gf_109_26, gf_109_27, gf_109_28, gf_109_29, gf_109_30, kd_109, Option.bind_some, Option.toList, List.cons_append, List.nil_append, ↓reduceIte, nI_1, Int32.reduceLT, Int32.reduceLE, dv_1, dv_2, dv_3, dv_4, dv_6, dv_8, dv_10, dv_20, dv_100, dv_200, dv_500, ld_110_0, st_110_0, ld_110_1, st_110_1, ld_110_2, st_110_2, ld_110_3, st_110_3, ld_110_4, st_110_4, ld_110_5, st_110_5, ld_110_6, st_110_6, ld_110_7, st_110_7, ld_110_8, st_110_8, ld_110_9, st_110_9, ld_110_10, st_110_10, ld_110_11, st_110_11, ld_110_12, st_110_12, ld_110_75, st_110_75, hn, nz_lt, nz_nlt, nz_eq, nz_ne, rc_of1]
    rw [← ih (j + 1) (by omega) (by omega)]
    rw [sp_hv_s]
    by_cases hc : D 110 (12 + 7 * sp_hv (D 110) j + 1) < D 110 (12 + 7 * j + 1) <;> simp only [hc, if_true, if_false]
theorem rc_heaviest (d : Nat) (n : Nat) (hn : D 110 0 = nI n) (hn9 : n ≤ 9) (h0 : 0 < n) : mx_run (d + 1) 207 0 [some (.ref 109), none, none] [] (hp R c D) = some (some (.int (nI (sp_hv (D 110) n))), hp R c D) := by
  simp only [iq_207_0, iq_207_1, iq_207_2, iq_207_3]
  rw [← rc_heaviest_lp R c D d n hn hn9 (n - 1) 1 (by omega) (by omega)]
  unfold sp_hv
  rw [sp_mx1]
  rfl
theorem rc_leastPlace_lp (d : Nat) (n : Nat) (hn : D 110 0 = nI n) (hn9 : n ≤ 9) : ∀ m j : Nat, j + m = n → 0 < j → mx_run (d + 1) 208 4 [some (.ref 109), some (.int (nI (sp_lp (D 110) j))), some (.int (nI j))] [] (hp R c D) = some (some (.int (nI (sp_lp (D 110) n))), hp R c D) := by
  intro m
  induction m with
  | zero =>
    intro j hj h0
    obtain rfl : j = n := by omega
    rw [iq_208_4]
    simp (disch := first | assumption | exact kd_109 _ _ _ | omega) only [iq_208_0, iq_208_1, iq_208_2, iq_208_3, iq_208_5, iq_208_6, iq_208_9, iq_208_10, iq_208_11, iq_208_14, iq_208_15, iq_208_16, iq_208_17, iq_208_20, iq_208_21, iq_208_22, iq_208_23, iq_208_26, iq_208_29, iq_208_30, iq_208_33, iq_208_34, iq_208_35, iq_208_38, iq_208_41, iq_208_42, gf_109_0, gf_109_1, gf_109_2, gf_109_3, gf_109_4, gf_109_5, gf_109_6, gf_109_7, gf_109_8, gf_109_9, gf_109_10, gf_109_11, gf_109_12, gf_109_13, gf_109_14, gf_109_15, gf_109_16, gf_109_17, gf_109_18, gf_109_19, gf_109_20, gf_109_21, gf_109_22, gf_109_23, gf_109_24, gf_109_25, gf_109_26, gf_109_27, gf_109_28, gf_109_29, gf_109_30, kd_109, Option.bind_some, Option.toList, List.cons_append, List.nil_append, ↓reduceIte, nI_1, Int32.reduceLT, Int32.reduceLE, dv_1, dv_2, dv_3, dv_4, dv_6, dv_8, dv_10, dv_20, dv_100, dv_200, dv_500, ld_110_0, st_110_0, ld_110_1, st_110_1, ld_110_2, st_110_2, ld_110_3, st_110_3, ld_110_4, st_110_4, ld_110_5, st_110_5, ld_110_6, st_110_6, ld_110_7, st_110_7, ld_110_8, st_110_8, ld_110_9, st_110_9, ld_110_10, st_110_10, ld_110_11, st_110_11, ld_110_12, st_110_12, ld_110_75, st_110_75, hn, nz_lt, nz_nlt, nz_eq, nz_ne]
  | succ m ih =>
    intro j hj h0
    have hb : sp_lp (D 110) j < j := sp_mn_lt _ j h0
    rw [iq_208_4]
    simp (disch := first | assumption | exact kd_109 _ _ _ | omega) only [iq_208_0, iq_208_1, iq_208_2, iq_208_3, iq_208_5, iq_208_6, iq_208_9, iq_208_10, iq_208_11, iq_208_14, iq_208_15, iq_208_16, iq_208_17, iq_208_20, iq_208_21, iq_208_22, iq_208_23, iq_208_26, iq_208_29, iq_208_30, iq_208_33, iq_208_34, iq_208_35, iq_208_38, iq_208_41, iq_208_42, gf_109_0, gf_109_1, gf_109_2, gf_109_3, gf_109_4, gf_109_5, gf_109_6, gf_109_7, gf_109_8, gf_109_9, gf_109_10, gf_109_11, gf_109_12, gf_109_13, gf_109_14, gf_109_15, gf_109_16, gf_109_17, gf_109_18, gf_109_19, gf_109_20, gf_109_21, gf_109_22, gf_109_23, gf_109_24, gf_109_25, gf_109_26, gf_109_27, gf_109_28, gf_109_29, gf_109_30, kd_109, Option.bind_some, Option.toList, List.cons_append, List.nil_append, ↓reduceIte, nI_1, Int32.reduceLT, Int32.reduceLE, dv_1, dv_2, dv_3, dv_4, dv_6, dv_8, dv_10, dv_20, dv_100, dv_200, dv_500, ld_110_0, st_110_0, ld_110_1, st_110_1, ld_110_2, st_110_2, ld_110_3, st_110_3, ld_110_4, st_110_4, ld_110_5, st_110_5, ld_110_6, st_110_6, ld_110_7, st_110_7, ld_110_8, st_110_8, ld_110_9, st_110_9, ld_110_10, st_110_10, ld_110_11, st_110_11, ld_110_12, st_110_12, ld_110_75, st_110_75, hn, nz_lt, nz_nlt, nz_eq, nz_ne, rc_of2]
    rw [← ih (j + 1) (by omega) (by omega)]
    rw [sp_lp_s]
    by_cases hc : D 110 (12 + 7 * j + 2) < D 110 (12 + 7 * sp_lp (D 110) j + 2) <;> simp only [hc, if_true, if_false]
theorem rc_leastPlace (d : Nat) (n : Nat) (hn : D 110 0 = nI n) (hn9 : n ≤ 9) (h0 : 0 < n) : mx_run (d + 1) 208 0 [some (.ref 109), none, none] [] (hp R c D) = some (some (.int (nI (sp_lp (D 110) n))), hp R c D) := by
  simp only [iq_208_0, iq_208_1, iq_208_2, iq_208_3]
  rw [← rc_leastPlace_lp R c D d n hn hn9 (n - 1) 1 (by omega) (by omega)]
  unfold sp_lp
  rw [sp_mn1]
  rfl
theorem rc_mostToGo_lp (d : Nat) (n : Nat) (hn : D 110 0 = nI n) (hn9 : n ≤ 9) : ∀ m j : Nat, j + m = n → 0 < j → mx_run (d + 2) 209 4 [some (.ref 109), some (.int (nI (sp_mg (D 110) j))), some (.int (nI j))] [] (hp R c D) = some (some (.int (nI (sp_mg (D 110) n))), hp R c D) := by
  intro m
  induction m with
  | zero =>
    intro j hj h0
    obtain rfl : j = n := by omega
    rw [iq_209_4]
    simp (disch := first | assumption | exact kd_109 _ _ _ | omega) only [iq_209_0, iq_209_1, iq_209_2, iq_209_3, iq_209_5, iq_209_6, iq_209_9, iq_209_10, iq_209_11, iq_209_14, iq_209_15, iq_209_16, iq_209_19, iq_209_20, iq_209_21, iq_209_24, iq_209_27, iq_209_28, iq_209_31, iq_209_32, iq_209_33, iq_209_36, iq_209_39, iq_209_40, gf_109_0, gf_109_1, gf_109_2, gf_109_3, gf_109_4, gf_109_5, gf_109_6, gf_109_7, gf_109_8, gf_109_9, gf_109_10, gf_109_11, gf_109_12, gf_109_13, gf_109_14, gf_109_15, gf_109_16, gf_109_17, gf_109_18, gf_109_19, gf_109_20, gf_109_21, gf_109_22, gf_109_23, gf_109_24, gf_109_25, gf_109_26, gf_109_27, gf_109_28, gf_109_29, gf_109_30, kd_109, Option.bind_some, Option.toList, List.cons_append, List.nil_append, ↓reduceIte, nI_1, Int32.reduceLT, Int32.reduceLE, dv_1, dv_2, dv_3, dv_4, dv_6, dv_8, dv_10, dv_20, dv_100, dv_200, dv_500, ld_110_0, st_110_0, ld_110_1, st_110_1, ld_110_2, st_110_2, ld_110_3, st_110_3, ld_110_4, st_110_4, ld_110_5, st_110_5, ld_110_6, st_110_6, ld_110_7, st_110_7, ld_110_8, st_110_8, ld_110_9, st_110_9, ld_110_10, st_110_10, ld_110_11, st_110_11, ld_110_12, st_110_12, ld_110_75, st_110_75, hn, nz_lt, nz_nlt, nz_eq, nz_ne]
  | succ m ih =>
    intro j hj h0
    have hb : sp_mg (D 110) j < j := sp_mx_lt _ j h0
    rw [iq_209_4]
    simp (disch := first | assumption | exact kd_109 _ _ _ | omega) only [iq_209_0, iq_209_1, iq_209_2, iq_209_3, iq_209_5, iq_209_6, iq_209_9, iq_209_10, iq_209_11, iq_209_14, iq_209_15, iq_209_16, iq_209_19, iq_209_20, iq_209_21, iq_209_24, iq_209_27, iq_209_28, iq_209_31, iq_209_32, iq_209_33, iq_209_36, iq_209_39, iq_209_40, gf_109_0, gf_109_1, gf_109_2, gf_109_3, gf_109_4, gf_109_5, gf_109_6, gf_109_7, gf_109_8, gf_109_9, gf_109_10, gf_109_11, gf_109_12, gf_109_13, gf_109_14, gf_109_15, gf_109_16, gf_109_17, gf_109_18, gf_109_19, gf_109_20, gf_109_21, gf_109_22, gf_109_23, gf_109_24, gf_109_25, gf_109_26, gf_109_27, gf_109_28, gf_109_29, gf_109_30, kd_109, Option.bind_some, Option.toList, List.cons_append, List.nil_append, ↓reduceIte, nI_1, Int32.reduceLT, Int32.reduceLE, dv_1, dv_2, dv_3, dv_4, dv_6, dv_8, dv_10, dv_20, dv_100, dv_200, dv_500, ld_110_0, st_110_0, ld_110_1, st_110_1, ld_110_2, st_110_2, ld_110_3, st_110_3, ld_110_4, st_110_4, ld_110_5, st_110_5, ld_110_6, st_110_6, ld_110_7, st_110_7, ld_110_8, st_110_8, ld_110_9, st_110_9, ld_110_10, st_110_10, ld_110_11, st_110_11, ld_110_12, st_110_12, ld_110_75, st_110_75, hn, nz_lt, nz_nlt, nz_eq, nz_ne, rc_toGo]
    rw [← ih (j + 1) (by omega) (by omega)]
    rw [sp_mg_s]
    by_cases hc : sp_tg (D 110) (sp_mg (D 110) j) < sp_tg (D 110) j <;> simp only [hc, if_true, if_false]
theorem rc_mostToGo (d : Nat) (n : Nat) (hn : D 110 0 = nI n) (hn9 : n ≤ 9) (h0 : 0 < n) : mx_run (d + 2) 209 0 [some (.ref 109), none, none] [] (hp R c D) = some (some (.int (nI (sp_mg (D 110) n))), hp R c D) := by
  simp only [iq_209_0, iq_209_1, iq_209_2, iq_209_3]
  rw [← rc_mostToGo_lp R c D d n hn hn9 (n - 1) 1 (by omega) (by omega)]
  unfold sp_mg
  rw [sp_mx1]
  rfl
theorem rc_tied_lp (d : Nat) (n : Nat) (hn : D 110 0 = nI n) (hn9 : n ≤ 9) : ∀ m j : Nat, j + m = n → mx_run (d + 1) 212 4 [some (.ref 109), some (.int (sp_tie (D 110) j)), some (.int (nI j))] [] (hp R c D) = some (some (.int (sp_tie (D 110) n)), hp R c D) := by
  intro m
  induction m with
  | zero =>
    intro j hj
    obtain rfl : j = n := by omega
    rw [iq_212_4]
    simp (disch := first | assumption | exact kd_109 _ _ _ | omega) only [iq_212_0, iq_212_1, iq_212_2, iq_212_3, iq_212_5, iq_212_6, iq_212_9, iq_212_10, iq_212_11, iq_212_14, iq_212_15, iq_212_16, iq_212_17, iq_212_18, iq_212_21, iq_212_22, iq_212_23, iq_212_24, iq_212_25, iq_212_28, iq_212_31, iq_212_32, gf_109_0, gf_109_1, gf_109_2, gf_109_3, gf_109_4, gf_109_5, gf_109_6, gf_109_7, gf_109_8, gf_109_9, gf_109_10, gf_109_11, gf_109_12, gf_109_13, gf_109_14, gf_109_15, gf_109_16, gf_109_17, gf_109_18, gf_109_19, gf_109_20, gf_109_21, gf_109_22, gf_109_23, gf_109_24, gf_109_25, gf_109_26, gf_109_27, gf_109_28, gf_109_29, gf_109_30, kd_109, Option.bind_some, Option.toList, List.cons_append, List.nil_append, ↓reduceIte, nI_1, Int32.reduceLT, Int32.reduceLE, dv_1, dv_2, dv_3, dv_4, dv_6, dv_8, dv_10, dv_20, dv_100, dv_200, dv_500, ld_110_0, st_110_0, ld_110_1, st_110_1, ld_110_2, st_110_2, ld_110_3, st_110_3, ld_110_4, st_110_4, ld_110_5, st_110_5, ld_110_6, st_110_6, ld_110_7, st_110_7, ld_110_8, st_110_8, ld_110_9, st_110_9, ld_110_10, st_110_10, ld_110_11, st_110_11, ld_110_12, st_110_12, ld_110_75, st_110_75, hn, nz_lt, nz_nlt, nz_eq, nz_ne]
  | succ m ih =>
    intro j hj
    rw [iq_212_4]
    simp (disch := first | assumption | exact kd_109 _ _ _ | omega) only [iq_212_0, iq_212_1, iq_212_2, iq_212_3, iq_212_5, iq_212_6, iq_212_9, iq_212_10, iq_212_11, iq_212_14, iq_212_15, iq_212_16, iq_212_17, iq_212_18, iq_212_21, iq_212_22, iq_212_23, iq_212_24, iq_212_25, iq_212_28, iq_212_31, iq_212_32, gf_109_0, gf_109_1, gf_109_2, gf_109_3, gf_109_4, gf_109_5, gf_109_6, gf_109_7, gf_109_8, gf_109_9, gf_109_10, gf_109_11, gf_109_12, gf_109_13, gf_109_14, gf_109_15, gf_109_16, gf_109_17, gf_109_18, gf_109_19, gf_109_20, gf_109_21, gf_109_22, gf_109_23, gf_109_24, gf_109_25, gf_109_26, gf_109_27, gf_109_28, gf_109_29, gf_109_30, kd_109, Option.bind_some, Option.toList, List.cons_append, List.nil_append, ↓reduceIte, nI_1, Int32.reduceLT, Int32.reduceLE, dv_1, dv_2, dv_3, dv_4, dv_6, dv_8, dv_10, dv_20, dv_100, dv_200, dv_500, ld_110_0, st_110_0, ld_110_1, st_110_1, ld_110_2, st_110_2, ld_110_3, st_110_3, ld_110_4, st_110_4, ld_110_5, st_110_5, ld_110_6, st_110_6, ld_110_7, st_110_7, ld_110_8, st_110_8, ld_110_9, st_110_9, ld_110_10, st_110_10, ld_110_11, st_110_11, ld_110_12, st_110_12, ld_110_75, st_110_75, hn, nz_lt, nz_nlt, nz_eq, nz_ne, rc_of5]
    exact ih (j + 1) (by omega)
theorem rc_tied (d : Nat) (n : Nat) (hn : D 110 0 = nI n) (hn9 : n ≤ 9) : mx_run (d + 1) 212 0 [some (.ref 109), none, none] [] (hp R c D) = some (some (.int (sp_tie (D 110) n)), hp R c D) := by
  simp only [iq_212_0, iq_212_1, iq_212_2, iq_212_3]
  exact rc_tied_lp R c D d n hn hn9 n 0 (by omega)
theorem rc_home_lp (d : Nat) (n : Nat) (hn : D 110 0 = nI n) (hn9 : n ≤ 9) : ∀ m j : Nat, j + m = n → mx_run (d + 2) 213 4 [some (.ref 109), some (.int (sp_hom (D 110) j)), some (.int (nI j))] [] (hp R c D) = some (some (.int (sp_hom (D 110) n)), hp R c D) := by
  intro m
  induction m with
  | zero =>
    intro j hj
    obtain rfl : j = n := by omega
    rw [iq_213_4]
    simp (disch := first | assumption | exact kd_109 _ _ _ | omega) only [iq_213_0, iq_213_1, iq_213_2, iq_213_3, iq_213_5, iq_213_6, iq_213_9, iq_213_10, iq_213_11, iq_213_14, iq_213_15, iq_213_16, iq_213_17, iq_213_20, iq_213_23, iq_213_24, iq_213_27, iq_213_28, iq_213_29, iq_213_30, iq_213_31, iq_213_32, iq_213_35, iq_213_38, iq_213_39, gf_109_0, gf_109_1, gf_109_2, gf_109_3, gf_109_4, gf_109_5, gf_109_6, gf_109_7, gf_109_8, gf_109_9, gf_109_10, gf_109_11, gf_109_12, gf_109_13, gf_109_14, gf_109_15, gf_109_16, gf_109_17, gf_109_18, gf_109_19, gf_109_20, gf_109_21, gf_109_22, gf_109_23, gf_109_24, gf_109_25, gf_109_26, gf_109_27, gf_109_28, gf_109_29, gf_109_30, kd_109, Option.bind_some, Option.toList, List.cons_append, List.nil_append, ↓reduceIte, nI_1, Int32.reduceLT, Int32.reduceLE, dv_1, dv_2, dv_3, dv_4, dv_6, dv_8, dv_10, dv_20, dv_100, dv_200, dv_500, ld_110_0, st_110_0, ld_110_1, st_110_1, ld_110_2, st_110_2, ld_110_3, st_110_3, ld_110_4, st_110_4, ld_110_5, st_110_5, ld_110_6, st_110_6, ld_110_7, st_110_7, ld_110_8, st_110_8, ld_110_9, st_110_9, ld_110_10, st_110_10, ld_110_11, st_110_11, ld_110_12, st_110_12, ld_110_75, st_110_75, hn, nz_lt, nz_nlt, nz_eq, nz_ne]
  | succ m ih =>
    intro j hj
    rw [iq_213_4]
    simp (disch := first | assumption | exact kd_109 _ _ _ | omega) only [iq_213_0, iq_213_1, iq_213_2, iq_213_3, iq_213_5, iq_213_6, iq_213_9, iq_213_10, iq_213_11, iq_213_14, iq_213_15, iq_213_16, iq_213_17, iq_213_20, iq_213_23, iq_213_24, iq_213_27, iq_213_28, iq_213_29, iq_213_30, iq_213_31, iq_213_32, iq_213_35, iq_213_38, iq_213_39, gf_109_0, gf_109_1, gf_109_2, gf_109_3, gf_109_4, gf_109_5, gf_109_6, gf_109_7, gf_109_8, gf_109_9, gf_109_10, gf_109_11, gf_109_12, gf_109_13, gf_109_14, gf_109_15, gf_109_16, gf_109_17, gf_109_18, gf_109_19, gf_109_20, gf_109_21, gf_109_22, gf_109_23, gf_109_24, gf_109_25, gf_109_26, gf_109_27, gf_109_28, gf_109_29, gf_109_30, kd_109, Option.bind_some, Option.toList, List.cons_append, List.nil_append, ↓reduceIte, nI_1, Int32.reduceLT, Int32.reduceLE, dv_1, dv_2, dv_3, dv_4, dv_6, dv_8, dv_10, dv_20, dv_100, dv_200, dv_500, ld_110_0, st_110_0, ld_110_1, st_110_1, ld_110_2, st_110_2, ld_110_3, st_110_3, ld_110_4, st_110_4, ld_110_5, st_110_5, ld_110_6, st_110_6, ld_110_7, st_110_7, ld_110_8, st_110_8, ld_110_9, st_110_9, ld_110_10, st_110_10, ld_110_11, st_110_11, ld_110_12, st_110_12, ld_110_75, st_110_75, hn, nz_lt, nz_nlt, nz_eq, nz_ne, rc_toGo]
    rw [← ih (j + 1) (by omega)]
    rw [sp_hom_s]
    by_cases hc : 0 < sp_tg (D 110) j <;> simp only [hc, if_true, if_false]
theorem rc_homeOnes (d : Nat) (n : Nat) (hn : D 110 0 = nI n) (hn9 : n ≤ 9) : mx_run (d + 2) 213 0 [some (.ref 109), none, none] [] (hp R c D) = some (some (.int (sp_hom (D 110) n)), hp R c D) := by
  simp only [iq_213_0, iq_213_1, iq_213_2, iq_213_3]
  exact rc_home_lp R c D d n hn hn9 n 0 (by omega)
def sp_mix (n : Nat) (f g : Nat → Int32) : Nat → Int32 := fun j => if j < n then f j else g j
theorem sp_mix0 (f g : Nat → Int32) : sp_mix 0 f g = g := by
  funext j
  unfold sp_mix
  rw [if_neg (by omega)]
theorem sp_mix_up (n : Nat) (f g : Nat → Int32) : mx_up (sp_mix n f g) n (f n) = sp_mix (n + 1) f g := by
  funext j
  unfold sp_mix mx_up
  by_cases e : j = n
  · subst e
    rw [if_pos rfl, if_pos (by omega)]
  · rw [if_neg e]
    dsimp only
    by_cases e2 : j < n
    · rw [if_pos e2, if_pos (by omega)]
    · rw [if_neg e2, if_neg (by omega)]
theorem rc_laysBy_lp (d : Nat) : ∀ m j : Nat, j + m = 75 → mx_run d 215 2 [some (.ref 109), some (.int (nI j))] [] (hp R c (mx_up D 121 (sp_mix j (D 110) (D 121)))) = some (none, hp R c (mx_up D 121 (sp_mix 75 (D 110) (D 121)))) := by
  intro m
  induction m with
  | zero =>
    intro j hj
    obtain rfl : j = 75 := by omega
    rw [iq_215_2]
    simp (disch := first | assumption | exact kd_109 _ _ _ | omega) only [iq_215_0, iq_215_1, iq_215_3, iq_215_5, iq_215_8, iq_215_9, iq_215_12, iq_215_13, iq_215_14, iq_215_17, iq_215_18, iq_215_19, iq_215_20, iq_215_23, iq_215_26, Option.bind_some, Option.toList, List.cons_append, List.nil_append, ↓reduceIte, nI_1, Int32.reduceLT, Int32.reduceLE, dv_1, dv_2, dv_3, dv_4, dv_6, dv_8, dv_10, dv_20, dv_100, dv_200, dv_500, nz_nlt_75]
  | succ m ih =>
    intro j hj
    rw [iq_215_2]
    simp (disch := first | assumption | exact kd_109 _ _ _ | omega) only [iq_215_0, iq_215_1, iq_215_3, iq_215_5, iq_215_8, iq_215_9, iq_215_12, iq_215_13, iq_215_14, iq_215_17, iq_215_18, iq_215_19, iq_215_20, iq_215_23, iq_215_26, gf_109_0, gf_109_1, gf_109_2, gf_109_3, gf_109_4, gf_109_5, gf_109_6, gf_109_7, gf_109_8, gf_109_9, gf_109_10, gf_109_11, gf_109_12, gf_109_13, gf_109_14, gf_109_15, gf_109_16, gf_109_17, gf_109_18, gf_109_19, gf_109_20, gf_109_21, gf_109_22, gf_109_23, gf_109_24, gf_109_25, gf_109_26, gf_109_27, gf_109_28, gf_109_29, gf_109_30, kd_109, Option.bind_some, Option.toList, List.cons_append, List.nil_append, ↓reduceIte, nI_1, Int32.reduceLT, Int32.reduceLE, dv_1, dv_2, dv_3, dv_4, dv_6, dv_8, dv_10, dv_20, dv_100, dv_200, dv_500, up_s, up_up, up_n, ne_eq, Nat.reduceEqDiff, not_false_eq_true, nz_lt_75, ld_110, st_121]
    rw [sp_mix_up]
    exact ih (j + 1) (by omega)
theorem rc_laysBy (d : Nat) : mx_run d 215 0 [some (.ref 109), none] [] (hp R c D) = some (none, hp R c (mx_up D 121 (sp_mix 75 (D 110) (D 121)))) := by
  have e := rc_laysBy_lp R c D d 75 0 (by omega)
  rw [sp_mix0, up_id] at e
  simp only [iq_215_0, iq_215_1]
  exact e
theorem rc_laysBack_lp (d : Nat) : ∀ m j : Nat, j + m = 75 → mx_run d 217 2 [some (.ref 109), some (.int (nI j))] [] (hp R c (mx_up D 110 (sp_mix j (D 121) (D 110)))) = some (none, hp R c (mx_up D 110 (sp_mix 75 (D 121) (D 110)))) := by
  intro m
  induction m with
  | zero =>
    intro j hj
    obtain rfl : j = 75 := by omega
    rw [iq_217_2]
    simp (disch := first | assumption | exact kd_109 _ _ _ | omega) only [iq_217_0, iq_217_1, iq_217_3, iq_217_5, iq_217_8, iq_217_9, iq_217_12, iq_217_13, iq_217_14, iq_217_17, iq_217_18, iq_217_19, iq_217_20, iq_217_23, iq_217_26, Option.bind_some, Option.toList, List.cons_append, List.nil_append, ↓reduceIte, nI_1, Int32.reduceLT, Int32.reduceLE, dv_1, dv_2, dv_3, dv_4, dv_6, dv_8, dv_10, dv_20, dv_100, dv_200, dv_500, nz_nlt_75]
  | succ m ih =>
    intro j hj
    rw [iq_217_2]
    simp (disch := first | assumption | exact kd_109 _ _ _ | omega) only [iq_217_0, iq_217_1, iq_217_3, iq_217_5, iq_217_8, iq_217_9, iq_217_12, iq_217_13, iq_217_14, iq_217_17, iq_217_18, iq_217_19, iq_217_20, iq_217_23, iq_217_26, gf_109_0, gf_109_1, gf_109_2, gf_109_3, gf_109_4, gf_109_5, gf_109_6, gf_109_7, gf_109_8, gf_109_9, gf_109_10, gf_109_11, gf_109_12, gf_109_13, gf_109_14, gf_109_15, gf_109_16, gf_109_17, gf_109_18, gf_109_19, gf_109_20, gf_109_21, gf_109_22, gf_109_23, gf_109_24, gf_109_25, gf_109_26, gf_109_27, gf_109_28, gf_109_29, gf_109_30, kd_109, Option.bind_some, Option.toList, List.cons_append, List.nil_append, ↓reduceIte, nI_1, Int32.reduceLT, Int32.reduceLE, dv_1, dv_2, dv_3, dv_4, dv_6, dv_8, dv_10, dv_20, dv_100, dv_200, dv_500, up_s, up_up, up_n, ne_eq, Nat.reduceEqDiff, not_false_eq_true, nz_lt_75, ld_121, st_110]
    rw [sp_mix_up]
    exact ih (j + 1) (by omega)
theorem rc_laysBack (d : Nat) : mx_run d 217 0 [some (.ref 109), none] [] (hp R c D) = some (none, hp R c (mx_up D 110 (sp_mix 75 (D 121) (D 110)))) := by
  have e := rc_laysBack_lp R c D d 75 0 (by omega)
  rw [sp_mix0, up_id] at e
  simp only [iq_217_0, iq_217_1]
  exact e
theorem rc_aside_lp (d : Nat) (a b : Nat) (ha : 17 ≤ a ∧ a < 128 ∧ ∀ f, hz_shp a f = hz_ia 3075 f) (hb : 17 ≤ b ∧ b < 128 ∧ ∀ f, hz_shp b f = hz_ia 3075 f) (hab : a ≠ b) : ∀ m j : Nat, j + m = 2875 → mx_run d 262 2 [some (.ref 109), some (.ref a), some (.ref b), some (.int (nI j))] [] (hp R c (mx_up D b (sp_mix j (D a) (D b)))) = some (none, hp R c (mx_up D b (sp_mix 2875 (D a) (D b)))) := by
  intro m
  induction m with
  | zero =>
    intro j hj
    obtain rfl : j = 2875 := by omega
    rw [iq_262_2]
    simp (disch := first | assumption | exact kd_109 _ _ _ | omega) only [iq_262_0, iq_262_1, iq_262_3, iq_262_6, iq_262_9, iq_262_9n, iq_262_10, iq_262_11, iq_262_11n, iq_262_12, iq_262_13, iq_262_14, iq_262_15, iq_262_18, iq_262_21, Option.bind_some, Option.toList, List.cons_append, List.nil_append, ↓reduceIte, nI_1, Int32.reduceLT, Int32.reduceLE, dv_1, dv_2, dv_3, dv_4, dv_6, dv_8, dv_10, dv_20, dv_100, dv_200, dv_500, nz_nlt_2875]
  | succ m ih =>
    intro j hj
    rw [iq_262_2]
    simp (disch := first | assumption | exact kd_109 _ _ _ | omega) only [iq_262_0, iq_262_1, iq_262_3, iq_262_6, iq_262_9, iq_262_9n, iq_262_10, iq_262_11, iq_262_11n, iq_262_12, iq_262_13, iq_262_14, iq_262_15, iq_262_18, iq_262_21, Option.bind_some, Option.toList, List.cons_append, List.nil_append, ↓reduceIte, nI_1, Int32.reduceLT, Int32.reduceLE, dv_1, dv_2, dv_3, dv_4, dv_6, dv_8, dv_10, dv_20, dv_100, dv_200, dv_500, up_s, up_up, up_n, ne_eq, Nat.reduceEqDiff, not_false_eq_true, nz_lt_2875, hp_ldN R c _ ha.1 ha.2.1 ha.2.2 j (by omega) (by omega), hp_stN R c _ hb.1 hb.2.1 hb.2.2 j _ (by omega) (by omega)]
    rw [sp_mix_up]
    exact ih (j + 1) (by omega)
theorem rc_aside (d : Nat) (a b : Nat) (ha : 17 ≤ a ∧ a < 128 ∧ ∀ f, hz_shp a f = hz_ia 3075 f) (hb : 17 ≤ b ∧ b < 128 ∧ ∀ f, hz_shp b f = hz_ia 3075 f) (hab : a ≠ b) : mx_run d 262 0 [some (.ref 109), some (.ref a), some (.ref b), none] [] (hp R c D) = some (none, hp R c (mx_up D b (sp_mix 2875 (D a) (D b)))) := by
  have e := rc_aside_lp R c D d a b ha hb hab 2875 0 (by omega)
  rw [sp_mix0, up_id] at e
  simp only [iq_262_0, iq_262_1]
  exact e
theorem rc_aside_0_2 (d : Nat) : mx_run d 262 0 [some (.ref 109), some (.ref 110), some (.ref 112), none] [] (hp R c D) = some (none, hp R c (mx_up D 112 (sp_mix 2875 (D 110) (D 112)))) := rc_aside R c D d 110 112 ⟨by omega, by omega, hA_110⟩ ⟨by omega, by omega, hA_112⟩ (by omega)
theorem rc_aside_1_0 (d : Nat) : mx_run d 262 0 [some (.ref 109), some (.ref 111), some (.ref 110), none] [] (hp R c D) = some (none, hp R c (mx_up D 110 (sp_mix 2875 (D 111) (D 110)))) := rc_aside R c D d 111 110 ⟨by omega, by omega, hA_111⟩ ⟨by omega, by omega, hA_110⟩ (by omega)
theorem rc_aside_2_0 (d : Nat) : mx_run d 262 0 [some (.ref 109), some (.ref 112), some (.ref 110), none] [] (hp R c D) = some (none, hp R c (mx_up D 110 (sp_mix 2875 (D 112) (D 110)))) := rc_aside R c D d 112 110 ⟨by omega, by omega, hA_112⟩ ⟨by omega, by omega, hA_110⟩ (by omega)
theorem rc_aside_0_1 (d : Nat) : mx_run d 262 0 [some (.ref 109), some (.ref 110), some (.ref 111), none] [] (hp R c D) = some (none, hp R c (mx_up D 111 (sp_mix 2875 (D 110) (D 111)))) := rc_aside R c D d 110 111 ⟨by omega, by omega, hA_110⟩ ⟨by omega, by omega, hA_111⟩ (by omega)
theorem rc_ixt (t : Nat) : (75 : Int32) + 200 * nI t = nI (75 + 200 * t) := by
  rw [show (75 : Int32) = nI 75 from rfl, show (200 : Int32) = nI 200 from rfl, rc_mul, nI_add]
theorem rc_counts_lp (d : Nat) (key : Int32) (n : Nat) (hn : D 110 1 = nI n) (hn9 : n ≤ 14) : ∀ m j : Nat, j + m = n → mx_run (d + 1) 182 4 [some (.ref 109), some (.int key), some (.int (sp_cnt (D 110) key j)), some (.int (nI j))] [] (hp R c D) = some (some (.int (sp_cnt (D 110) key n)), hp R c D) := by
  intro m
  induction m with
  | zero =>
    intro j hj
    obtain rfl : j = n := by omega
    rw [iq_182_4]
    simp (disch := first | assumption | exact kd_109 _ _ _ | omega) only [iq_182_0, iq_182_1, iq_182_2, iq_182_3, iq_182_5, iq_182_6, iq_182_9, iq_182_10, iq_182_11, iq_182_14, iq_182_15, iq_182_18, iq_182_19, iq_182_20, iq_182_23, iq_182_24, iq_182_25, iq_182_28, iq_182_29, iq_182_32, iq_182_33, iq_182_34, iq_182_37, iq_182_40, iq_182_41, gf_109_0, gf_109_1, gf_109_2, gf_109_3, gf_109_4, gf_109_5, gf_109_6, gf_109_7, gf_109_8, gf_109_9, gf_109_10, gf_109_11, gf_109_12, gf_109_13, gf_109_14, gf_109_15, gf_109_16, gf_109_17, gf_109_18, gf_109_19, gf_109_20, gf_109_21, gf_109_22, gf_109_23, gf_109_24, gf_109_25, gf_109_26, gf_109_27, gf_109_28, gf_109_29, gf_109_30, kd_109, Option.bind_some, Option.toList, List.cons_append, List.nil_append, ↓reduceIte, nI_1, Int32.reduceLT, Int32.reduceLE, dv_1, dv_2, dv_3, dv_4, dv_6, dv_8, dv_10, dv_20, dv_100, dv_200, dv_500, ld_110_0, st_110_0, ld_110_1, st_110_1, ld_110_2, st_110_2, ld_110_3, st_110_3, ld_110_4, st_110_4, ld_110_5, st_110_5, ld_110_6, st_110_6, ld_110_7, st_110_7, ld_110_8, st_110_8, ld_110_9, st_110_9, ld_110_10, st_110_10, ld_110_11, st_110_11, ld_110_12, st_110_12, ld_110_75, st_110_75, hn, nz_lt, nz_nlt, nz_eq, nz_ne]
  | succ m ih =>
    intro j hj
    rw [iq_182_4]
    simp (disch := first | assumption | exact kd_109 _ _ _ | omega) only [iq_182_0, iq_182_1, iq_182_2, iq_182_3, iq_182_5, iq_182_6, iq_182_9, iq_182_10, iq_182_11, iq_182_14, iq_182_15, iq_182_18, iq_182_19, iq_182_20, iq_182_23, iq_182_24, iq_182_25, iq_182_28, iq_182_29, iq_182_32, iq_182_33, iq_182_34, iq_182_37, iq_182_40, iq_182_41, gf_109_0, gf_109_1, gf_109_2, gf_109_3, gf_109_4, gf_109_5, gf_109_6, gf_109_7, gf_109_8, gf_109_9, gf_109_10, gf_109_11, gf_109_12, gf_109_13, gf_109_14, gf_109_15, gf_109_16, gf_109_17, gf_109_18, gf_109_19, gf_109_20, gf_109_21, gf_109_22, gf_109_23, gf_109_24, gf_109_25, gf_109_26, gf_109_27, gf_109_28, gf_109_29, gf_109_30, kd_109, Option.bind_some, Option.toList, List.cons_append, List.nil_append, ↓reduceIte, nI_1, Int32.reduceLT, Int32.reduceLE, dv_1, dv_2, dv_3, dv_4, dv_6, dv_8, dv_10, dv_20, dv_100, dv_200, dv_500, ld_110_0, st_110_0, ld_110_1, st_110_1, ld_110_2, st_110_2, ld_110_3, st_110_3, ld_110_4, st_110_4, ld_110_5, st_110_5, ld_110_6, st_110_6, ld_110_7, st_110_7, ld_110_8, st_110_8, ld_110_9, st_110_9, ld_110_10, st_110_10, ld_110_11, st_110_11, ld_110_12, st_110_12, ld_110_75, st_110_75, hn, nz_lt, nz_nlt, nz_eq, nz_ne, rc_textAt, rc_ixt, ld_110]
    rw [← ih (j + 1) (by omega)]
    rw [sp_cnt_s]
    by_cases hc : D 110 (75 + 200 * j) = key <;> simp only [hc, if_true, if_false]
theorem rc_counts (d : Nat) (key : Int32) (n : Nat) (hn : D 110 1 = nI n) (hn9 : n ≤ 14) : mx_run (d + 1) 182 0 [some (.ref 109), some (.int key), none, none] [] (hp R c D) = some (some (.int (sp_cnt (D 110) key n)), hp R c D) := by
  simp only [iq_182_0, iq_182_1, iq_182_2, iq_182_3]
  exact rc_counts_lp R c D d key n hn hn9 n 0 (by omega)
