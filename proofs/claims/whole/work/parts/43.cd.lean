theorem kd_29 (R : Nat → Option mx_MC) (c : Nat × Nat) (D : hz_D) : mg_kd (hp R c D) 29 = some 1 := rfl
theorem kd_30 (R : Nat → Option mx_MC) (c : Nat × Nat) (D : hz_D) : mg_kd (hp R c D) 30 = some 4 := rfl
theorem kd_31 (R : Nat → Option mx_MC) (c : Nat × Nat) (D : hz_D) : mg_kd (hp R c D) 31 = some 7 := rfl
theorem kd_32 (R : Nat → Option mx_MC) (c : Nat × Nat) (D : hz_D) : mg_kd (hp R c D) 32 = some 2 := rfl
theorem kd_33 (R : Nat → Option mx_MC) (c : Nat × Nat) (D : hz_D) : mg_kd (hp R c D) 33 = some 3 := rfl
theorem kd_34 (R : Nat → Option mx_MC) (c : Nat × Nat) (D : hz_D) : mg_kd (hp R c D) 34 = some 9 := rfl
variable (R : Nat → Option mx_MC) (c : Nat × Nat) (D : hz_D)
theorem ck_31 (d a : Nat) (x : Int32) (h : mx_MH) : mx_run d 31 0 [some (.ref a), some (.int x)] [] h = some (some (.int x), h) := by
  simp only [iq_31_0, iq_31_1]
theorem ck_27 (d a : Nat) (x : Int32) (h : mx_MH) : mx_run d 27 0 [some (.ref a), some (.int x)] [] h = some (some (.int (x + 5)), h) := by
  simp only [iq_27_0, iq_27_1, iq_27_2, iq_27_3]
theorem ck_29 (d a : Nat) (x : Int32) (h : mx_MH) : mx_run d 29 0 [some (.ref a), some (.int x)] [] h = some (some (.int (x / 2)), h) := by
  simp only [iq_29_0, iq_29_1, iq_29_2, iq_29_3, Option.bind_some, Option.toList, List.cons_append, List.nil_append, ↓reduceIte, nI_1, Int32.reduceLT, Int32.reduceLE, dv_1, dv_2, dv_3, dv_4, dv_6, dv_8, dv_10, dv_20, dv_100, dv_200, dv_500]
theorem ck_30 (d a : Nat) (x : Int32) (h : mx_MH) : mx_run d 30 0 [some (.ref a), some (.int x)] [] h = some (some (.int 0), h) := by
  simp only [iq_30_0, iq_30_1]
theorem ck_26 (d : Nat) (x : Int32) : mx_run (d + 1) 26 0 [some (.ref 32), some (.int x)] [] (hp R c D) = some (some (.int (2 * (x + 5))), hp R c D) := by
  simp only [iq_26_0, iq_26_1, iq_26_2, iq_26_6, iq_26_7]
  rw [iq_26_3 d _ 32 2 _ _ _ (kd_32 R c D) (by omega) (by omega)]
  simp only [iq_26_0, iq_26_1, iq_26_2, iq_26_6, iq_26_7, ck_27, Option.bind_some, Option.toList, List.cons_append, List.nil_append, ↓reduceIte, nI_1, Int32.reduceLT, Int32.reduceLE, dv_1, dv_2, dv_3, dv_4, dv_6, dv_8, dv_10, dv_20, dv_100, dv_200, dv_500]
theorem ck_28 (d : Nat) (x : Int32) : mx_run (d + 1) 28 0 [some (.ref 33), some (.int x)] [] (hp R c D) = some (some (.int (x / 2 + 9)), hp R c D) := by
  simp only [iq_28_0, iq_28_1, iq_28_5, iq_28_7, iq_28_8]
  rw [iq_28_2 d _ 33 3 _ _ (kd_33 R c D) (by omega) (by omega)]
  simp only [iq_28_0, iq_28_1, iq_28_5, iq_28_7, iq_28_8, ck_29, Option.bind_some, Option.toList, List.cons_append, List.nil_append, ↓reduceIte, nI_1, Int32.reduceLT, Int32.reduceLE, dv_1, dv_2, dv_3, dv_4, dv_6, dv_8, dv_10, dv_20, dv_100, dv_200, dv_500]
theorem ck_35 (d a : Nat) (x : Int32) (h : mx_MH) : mx_run d 35 0 [some (.ref a), some (.int x)] [] h = some (some (.int x), h) := by
  simp only [iq_35_0, iq_35_1]
theorem ck_32 (d a : Nat) (x : Int32) (h : mx_MH) : mx_run d 32 0 [some (.ref a), some (.int x)] [] h = some (some (.int (if 0 < x - 3 then x - 3 else 0)), h) := by
  simp only [iq_32_0, iq_32_1, iq_32_2, iq_32_3, iq_32_4, iq_32_7]
theorem ck_34 (d a : Nat) (x : Int32) (h : mx_MH) : mx_run d 34 0 [some (.ref a), some (.int x)] [] h = some (some (.int (2 * x)), h) := by
  simp only [iq_34_0, iq_34_1, iq_34_2, iq_34_3]
theorem ck_33 (d : Nat) (x : Int32) : mx_run (d + 1) 33 0 [some (.ref 33), some (.int x)] [] (hp R c D) = some (some (.int (2 * x - 1)), hp R c D) := by
  simp only [iq_33_0, iq_33_1, iq_33_5, iq_33_6, iq_33_7]
  rw [iq_33_2 d _ 33 3 _ _ (kd_33 R c D) (by omega) (by omega)]
  simp only [iq_33_0, iq_33_1, iq_33_5, iq_33_6, iq_33_7, ck_34, Option.bind_some, Option.toList, List.cons_append, List.nil_append, ↓reduceIte, nI_1, Int32.reduceLT, Int32.reduceLE, dv_1, dv_2, dv_3, dv_4, dv_6, dv_8, dv_10, dv_20, dv_100, dv_200, dv_500]
theorem ck_39 (d a : Nat) (h : mx_MH) : mx_run d 39 0 [some (.ref a)] [] h = some (some (.int 0), h) := by
  simp only [iq_39_0, iq_39_1]
theorem ck_37 (d a : Nat) (h : mx_MH) : mx_run d 37 0 [some (.ref a)] [] h = some (some (.int 4), h) := by
  simp only [iq_37_0, iq_37_1]
theorem ck_38 (d a : Nat) (h : mx_MH) : mx_run d 38 0 [some (.ref a)] [] h = some (some (.int 1), h) := by
  simp only [iq_38_0, iq_38_1]
theorem ck_36 (d : Nat) : mx_run (d + 1) 36 0 [some (.ref 32)] [] (hp R c D) = some (some (.int 6), hp R c D) := by
  simp only [iq_36_0, iq_36_4, iq_36_5, iq_36_6]
  rw [iq_36_1 d _ 32 2 _ (kd_32 R c D) (by omega) (by omega)]
  simp only [iq_36_0, iq_36_4, iq_36_5, iq_36_6, ck_37, Option.bind_some, Option.toList, List.cons_append, List.nil_append, ↓reduceIte, nI_1, Int32.reduceLT, Int32.reduceLE, dv_1, dv_2, dv_3, dv_4, dv_6, dv_8, dv_10, dv_20, dv_100, dv_200, dv_500]
  rfl
theorem ck_45 (d a : Nat) (x : Int32) (h : mx_MH) : mx_run d 45 0 [some (.ref a), some (.int x)] [] h = some (some (.int x), h) := by
  simp only [iq_45_0, iq_45_1]
theorem ck_41 (d a : Nat) (x : Int32) (h : mx_MH) : mx_run d 41 0 [some (.ref a), some (.int x)] [] h = some (some (.int (x + 8)), h) := by
  simp only [iq_41_0, iq_41_1, iq_41_3, iq_41_4]
theorem ck_43 (d a : Nat) (x : Int32) (h : mx_MH) : mx_run d 43 0 [some (.ref a), some (.int x)] [] h = some (some (.int (99 - x)), h) := by
  simp only [iq_43_0, iq_43_2, iq_43_3, iq_43_4]
theorem ck_44 (d a : Nat) (x : Int32) (h : mx_MH) : mx_run d 44 0 [some (.ref a), some (.int x)] [] h = some (some (.int 4), h) := by
  simp only [iq_44_0, iq_44_1]
theorem ck_40 (d : Nat) (x : Int32) : mx_run (d + 1) 40 0 [some (.ref 32), some (.int x)] [] (hp R c D) = some (some (.int (2 * (x + 8))), hp R c D) := by
  simp only [iq_40_0, iq_40_1, iq_40_2, iq_40_6, iq_40_7]
  rw [iq_40_3 d _ 32 2 _ _ _ (kd_32 R c D) (by omega) (by omega)]
  simp only [iq_40_0, iq_40_1, iq_40_2, iq_40_6, iq_40_7, ck_41, Option.bind_some, Option.toList, List.cons_append, List.nil_append, ↓reduceIte, nI_1, Int32.reduceLT, Int32.reduceLE, dv_1, dv_2, dv_3, dv_4, dv_6, dv_8, dv_10, dv_20, dv_100, dv_200, dv_500]
theorem ck_42 (d : Nat) (x : Int32) : mx_run (d + 1) 42 0 [some (.ref 33), some (.int x)] [] (hp R c D) = some (some (.int (99 - x - 7)), hp R c D) := by
  simp only [iq_42_0, iq_42_1, iq_42_5, iq_42_7, iq_42_8]
  rw [iq_42_2 d _ 33 3 _ _ (kd_33 R c D) (by omega) (by omega)]
  simp only [iq_42_0, iq_42_1, iq_42_5, iq_42_7, iq_42_8, ck_43, Option.bind_some, Option.toList, List.cons_append, List.nil_append, ↓reduceIte, nI_1, Int32.reduceLT, Int32.reduceLE, dv_1, dv_2, dv_3, dv_4, dv_6, dv_8, dv_10, dv_20, dv_100, dv_200, dv_500]
theorem sp_dr1 : ∀ w : Nat, w ≤ 50 → (if (0 : Int32) < nI w - 3 then nI w - 3 else 0) = if (3 : Int32) < nI w then nI w - 3 else 0 := by decide
theorem sp_wo1 : ∀ w : Nat, w ≤ 50 → (99 : Int32) - nI w - 7 = 92 - nI w := by decide
theorem a6 {a : Nat} (h : a ≤ 5) : a = 0 ∨ a = 1 ∨ a = 2 ∨ a = 3 ∨ a = 4 ∨ a = 5 := by omega
theorem vc_21_56 (d a : Nat) (ha : a ≤ 5) (ls : mx_Lo) (x : Int32) : mx_run (d + 2) 21 56 ls [.int x, .ref (29 + a)] (hp R c D) = mx_run (d + 2) 21 59 ls [.int (sp_pk (nI a) x)] (hp R c D) := by
  rcases a6 ha with rfl | rfl | rfl | rfl | rfl | rfl
  · have e := iq_21_56_1 (d + 1) ls 29 x (hp R c D) (kd_29 R c D)
    refine e.trans ?_
    simp only [ck_31, Option.bind_some, Option.toList, List.cons_append, List.nil_append, ↓reduceIte, nI_1, Int32.reduceLT, Int32.reduceLE, dv_1, dv_2, dv_3, dv_4, dv_6, dv_8, dv_10, dv_20, dv_100, dv_200, dv_500]
    rfl
  · have e := iq_21_56_4 (d + 1) ls 30 x (hp R c D) (kd_30 R c D)
    refine e.trans ?_
    simp only [ck_27, Option.bind_some, Option.toList, List.cons_append, List.nil_append, ↓reduceIte, nI_1, Int32.reduceLT, Int32.reduceLE, dv_1, dv_2, dv_3, dv_4, dv_6, dv_8, dv_10, dv_20, dv_100, dv_200, dv_500]
    rfl
  · have e := iq_21_56_7 (d + 1) ls 31 x (hp R c D) (kd_31 R c D)
    refine e.trans ?_
    simp only [ck_29, Option.bind_some, Option.toList, List.cons_append, List.nil_append, ↓reduceIte, nI_1, Int32.reduceLT, Int32.reduceLE, dv_1, dv_2, dv_3, dv_4, dv_6, dv_8, dv_10, dv_20, dv_100, dv_200, dv_500]
    rfl
  · have e := iq_21_56_2 (d + 1) ls 32 x (hp R c D) (kd_32 R c D)
    refine e.trans ?_
    simp only [ck_26, Option.bind_some, Option.toList, List.cons_append, List.nil_append, ↓reduceIte, nI_1, Int32.reduceLT, Int32.reduceLE, dv_1, dv_2, dv_3, dv_4, dv_6, dv_8, dv_10, dv_20, dv_100, dv_200, dv_500]
    rfl
  · have e := iq_21_56_3 (d + 1) ls 33 x (hp R c D) (kd_33 R c D)
    refine e.trans ?_
    simp only [ck_28, Option.bind_some, Option.toList, List.cons_append, List.nil_append, ↓reduceIte, nI_1, Int32.reduceLT, Int32.reduceLE, dv_1, dv_2, dv_3, dv_4, dv_6, dv_8, dv_10, dv_20, dv_100, dv_200, dv_500]
    rfl
  · have e := iq_21_56_9 (d + 1) ls 34 x (hp R c D) (kd_34 R c D)
    refine e.trans ?_
    simp only [ck_30, Option.bind_some, Option.toList, List.cons_append, List.nil_append, ↓reduceIte, nI_1, Int32.reduceLT, Int32.reduceLE, dv_1, dv_2, dv_3, dv_4, dv_6, dv_8, dv_10, dv_20, dv_100, dv_200, dv_500]
    rfl
theorem vc_58_64 (d a : Nat) (ha : a ≤ 5) (ls : mx_Lo) (w : Nat) (hw : w ≤ 50) (r0 : Value) : mx_run (d + 2) 58 64 ls [.int (nI w), .ref (29 + a), r0] (hp R c D) = mx_run (d + 2) 58 67 ls [.int (sp_drg (nI a) (nI w)), r0] (hp R c D) := by
  rcases a6 ha with rfl | rfl | rfl | rfl | rfl | rfl
  · have e := iq_58_64_1 (d + 1) ls 29 (nI w) r0 (hp R c D) (kd_29 R c D)
    refine e.trans ?_
    simp only [ck_35, Option.bind_some, Option.toList, List.cons_append, List.nil_append, ↓reduceIte, nI_1, Int32.reduceLT, Int32.reduceLE, dv_1, dv_2, dv_3, dv_4, dv_6, dv_8, dv_10, dv_20, dv_100, dv_200, dv_500]
    rfl
  · have e := iq_58_64_4 (d + 1) ls 30 (nI w) r0 (hp R c D) (kd_30 R c D)
    refine e.trans ?_
    simp only [ck_32, Option.bind_some, Option.toList, List.cons_append, List.nil_append, ↓reduceIte, nI_1, Int32.reduceLT, Int32.reduceLE, dv_1, dv_2, dv_3, dv_4, dv_6, dv_8, dv_10, dv_20, dv_100, dv_200, dv_500, sp_dr1 w hw]
    rfl
  · have e := iq_58_64_7 (d + 1) ls 31 (nI w) r0 (hp R c D) (kd_31 R c D)
    refine e.trans ?_
    simp only [ck_34, Option.bind_some, Option.toList, List.cons_append, List.nil_append, ↓reduceIte, nI_1, Int32.reduceLT, Int32.reduceLE, dv_1, dv_2, dv_3, dv_4, dv_6, dv_8, dv_10, dv_20, dv_100, dv_200, dv_500]
    rfl
  · have e := iq_58_64_2 (d + 1) ls 32 (nI w) r0 (hp R c D) (kd_32 R c D)
    refine e.trans ?_
    simp only [ck_32, Option.bind_some, Option.toList, List.cons_append, List.nil_append, ↓reduceIte, nI_1, Int32.reduceLT, Int32.reduceLE, dv_1, dv_2, dv_3, dv_4, dv_6, dv_8, dv_10, dv_20, dv_100, dv_200, dv_500, sp_dr1 w hw]
    rfl
  · have e := iq_58_64_3 (d + 1) ls 33 (nI w) r0 (hp R c D) (kd_33 R c D)
    refine e.trans ?_
    simp only [ck_33, Option.bind_some, Option.toList, List.cons_append, List.nil_append, ↓reduceIte, nI_1, Int32.reduceLT, Int32.reduceLE, dv_1, dv_2, dv_3, dv_4, dv_6, dv_8, dv_10, dv_20, dv_100, dv_200, dv_500]
    rfl
  · have e := iq_58_64_9 (d + 1) ls 34 (nI w) r0 (hp R c D) (kd_34 R c D)
    refine e.trans ?_
    simp only [ck_35, Option.bind_some, Option.toList, List.cons_append, List.nil_append, ↓reduceIte, nI_1, Int32.reduceLT, Int32.reduceLE, dv_1, dv_2, dv_3, dv_4, dv_6, dv_8, dv_10, dv_20, dv_100, dv_200, dv_500]
    rfl
theorem vc_65_59 (d a : Nat) (ha : a ≤ 5) (ls : mx_Lo) (r0 : Value) : mx_run (d + 2) 65 59 ls [.ref (29 + a), r0] (hp R c D) = mx_run (d + 2) 65 62 ls [.int (sp_row (nI a)), r0] (hp R c D) := by
  rcases a6 ha with rfl | rfl | rfl | rfl | rfl | rfl
  · have e := iq_65_59_1 (d + 1) ls 29  r0 (hp R c D) (kd_29 R c D)
    refine e.trans ?_
    simp only [ck_39, Option.bind_some, Option.toList, List.cons_append, List.nil_append, ↓reduceIte, nI_1, Int32.reduceLT, Int32.reduceLE, dv_1, dv_2, dv_3, dv_4, dv_6, dv_8, dv_10, dv_20, dv_100, dv_200, dv_500]
    rfl
  · have e := iq_65_59_4 (d + 1) ls 30  r0 (hp R c D) (kd_30 R c D)
    refine e.trans ?_
    simp only [ck_37, Option.bind_some, Option.toList, List.cons_append, List.nil_append, ↓reduceIte, nI_1, Int32.reduceLT, Int32.reduceLE, dv_1, dv_2, dv_3, dv_4, dv_6, dv_8, dv_10, dv_20, dv_100, dv_200, dv_500]
    rfl
  · have e := iq_65_59_7 (d + 1) ls 31  r0 (hp R c D) (kd_31 R c D)
    refine e.trans ?_
    simp only [ck_39, Option.bind_some, Option.toList, List.cons_append, List.nil_append, ↓reduceIte, nI_1, Int32.reduceLT, Int32.reduceLE, dv_1, dv_2, dv_3, dv_4, dv_6, dv_8, dv_10, dv_20, dv_100, dv_200, dv_500]
    rfl
  · have e := iq_65_59_2 (d + 1) ls 32  r0 (hp R c D) (kd_32 R c D)
    refine e.trans ?_
    simp only [ck_36, Option.bind_some, Option.toList, List.cons_append, List.nil_append, ↓reduceIte, nI_1, Int32.reduceLT, Int32.reduceLE, dv_1, dv_2, dv_3, dv_4, dv_6, dv_8, dv_10, dv_20, dv_100, dv_200, dv_500]
    rfl
  · have e := iq_65_59_3 (d + 1) ls 33  r0 (hp R c D) (kd_33 R c D)
    refine e.trans ?_
    simp only [ck_38, Option.bind_some, Option.toList, List.cons_append, List.nil_append, ↓reduceIte, nI_1, Int32.reduceLT, Int32.reduceLE, dv_1, dv_2, dv_3, dv_4, dv_6, dv_8, dv_10, dv_20, dv_100, dv_200, dv_500]
    rfl
  · have e := iq_65_59_9 (d + 1) ls 34  r0 (hp R c D) (kd_34 R c D)
    refine e.trans ?_
    simp only [ck_39, Option.bind_some, Option.toList, List.cons_append, List.nil_append, ↓reduceIte, nI_1, Int32.reduceLT, Int32.reduceLE, dv_1, dv_2, dv_3, dv_4, dv_6, dv_8, dv_10, dv_20, dv_100, dv_200, dv_500]
    rfl
theorem vc_19_147 (d a : Nat) (ha : a ≤ 5) (ls : mx_Lo) (w : Nat) (hw : w ≤ 50) : mx_run (d + 2) 19 147 ls [.int (nI w), .ref (29 + a)] (hp R c D) = mx_run (d + 2) 19 150 ls [.int (sp_drg (nI a) (nI w))] (hp R c D) := by
  rcases a6 ha with rfl | rfl | rfl | rfl | rfl | rfl
  · have e := iq_19_147_1 (d + 1) ls 29 (nI w) (hp R c D) (kd_29 R c D)
    refine e.trans ?_
    simp only [ck_35, Option.bind_some, Option.toList, List.cons_append, List.nil_append, ↓reduceIte, nI_1, Int32.reduceLT, Int32.reduceLE, dv_1, dv_2, dv_3, dv_4, dv_6, dv_8, dv_10, dv_20, dv_100, dv_200, dv_500]
    rfl
  · have e := iq_19_147_4 (d + 1) ls 30 (nI w) (hp R c D) (kd_30 R c D)
    refine e.trans ?_
    simp only [ck_32, Option.bind_some, Option.toList, List.cons_append, List.nil_append, ↓reduceIte, nI_1, Int32.reduceLT, Int32.reduceLE, dv_1, dv_2, dv_3, dv_4, dv_6, dv_8, dv_10, dv_20, dv_100, dv_200, dv_500, sp_dr1 w hw]
    rfl
  · have e := iq_19_147_7 (d + 1) ls 31 (nI w) (hp R c D) (kd_31 R c D)
    refine e.trans ?_
    simp only [ck_34, Option.bind_some, Option.toList, List.cons_append, List.nil_append, ↓reduceIte, nI_1, Int32.reduceLT, Int32.reduceLE, dv_1, dv_2, dv_3, dv_4, dv_6, dv_8, dv_10, dv_20, dv_100, dv_200, dv_500]
    rfl
  · have e := iq_19_147_2 (d + 1) ls 32 (nI w) (hp R c D) (kd_32 R c D)
    refine e.trans ?_
    simp only [ck_32, Option.bind_some, Option.toList, List.cons_append, List.nil_append, ↓reduceIte, nI_1, Int32.reduceLT, Int32.reduceLE, dv_1, dv_2, dv_3, dv_4, dv_6, dv_8, dv_10, dv_20, dv_100, dv_200, dv_500, sp_dr1 w hw]
    rfl
  · have e := iq_19_147_3 (d + 1) ls 33 (nI w) (hp R c D) (kd_33 R c D)
    refine e.trans ?_
    simp only [ck_33, Option.bind_some, Option.toList, List.cons_append, List.nil_append, ↓reduceIte, nI_1, Int32.reduceLT, Int32.reduceLE, dv_1, dv_2, dv_3, dv_4, dv_6, dv_8, dv_10, dv_20, dv_100, dv_200, dv_500]
    rfl
  · have e := iq_19_147_9 (d + 1) ls 34 (nI w) (hp R c D) (kd_34 R c D)
    refine e.trans ?_
    simp only [ck_35, Option.bind_some, Option.toList, List.cons_append, List.nil_append, ↓reduceIte, nI_1, Int32.reduceLT, Int32.reduceLE, dv_1, dv_2, dv_3, dv_4, dv_6, dv_8, dv_10, dv_20, dv_100, dv_200, dv_500]
    rfl
theorem vc_19_155 (d a : Nat) (ha : a ≤ 5) (ls : mx_Lo) : mx_run (d + 2) 19 155 ls [.ref (29 + a)] (hp R c D) = mx_run (d + 2) 19 158 ls [.int (sp_row (nI a))] (hp R c D) := by
  rcases a6 ha with rfl | rfl | rfl | rfl | rfl | rfl
  · have e := iq_19_155_1 (d + 1) ls 29  (hp R c D) (kd_29 R c D)
    refine e.trans ?_
    simp only [ck_39, Option.bind_some, Option.toList, List.cons_append, List.nil_append, ↓reduceIte, nI_1, Int32.reduceLT, Int32.reduceLE, dv_1, dv_2, dv_3, dv_4, dv_6, dv_8, dv_10, dv_20, dv_100, dv_200, dv_500]
    rfl
  · have e := iq_19_155_4 (d + 1) ls 30  (hp R c D) (kd_30 R c D)
    refine e.trans ?_
    simp only [ck_37, Option.bind_some, Option.toList, List.cons_append, List.nil_append, ↓reduceIte, nI_1, Int32.reduceLT, Int32.reduceLE, dv_1, dv_2, dv_3, dv_4, dv_6, dv_8, dv_10, dv_20, dv_100, dv_200, dv_500]
    rfl
  · have e := iq_19_155_7 (d + 1) ls 31  (hp R c D) (kd_31 R c D)
    refine e.trans ?_
    simp only [ck_39, Option.bind_some, Option.toList, List.cons_append, List.nil_append, ↓reduceIte, nI_1, Int32.reduceLT, Int32.reduceLE, dv_1, dv_2, dv_3, dv_4, dv_6, dv_8, dv_10, dv_20, dv_100, dv_200, dv_500]
    rfl
  · have e := iq_19_155_2 (d + 1) ls 32  (hp R c D) (kd_32 R c D)
    refine e.trans ?_
    simp only [ck_36, Option.bind_some, Option.toList, List.cons_append, List.nil_append, ↓reduceIte, nI_1, Int32.reduceLT, Int32.reduceLE, dv_1, dv_2, dv_3, dv_4, dv_6, dv_8, dv_10, dv_20, dv_100, dv_200, dv_500]
    rfl
  · have e := iq_19_155_3 (d + 1) ls 33  (hp R c D) (kd_33 R c D)
    refine e.trans ?_
    simp only [ck_38, Option.bind_some, Option.toList, List.cons_append, List.nil_append, ↓reduceIte, nI_1, Int32.reduceLT, Int32.reduceLE, dv_1, dv_2, dv_3, dv_4, dv_6, dv_8, dv_10, dv_20, dv_100, dv_200, dv_500]
    rfl
  · have e := iq_19_155_9 (d + 1) ls 34  (hp R c D) (kd_34 R c D)
    refine e.trans ?_
    simp only [ck_39, Option.bind_some, Option.toList, List.cons_append, List.nil_append, ↓reduceIte, nI_1, Int32.reduceLT, Int32.reduceLE, dv_1, dv_2, dv_3, dv_4, dv_6, dv_8, dv_10, dv_20, dv_100, dv_200, dv_500]
    rfl
theorem vc_19_167 (d a : Nat) (ha : a ≤ 5) (ls : mx_Lo) (w : Nat) (hw : w ≤ 50) : mx_run (d + 2) 19 167 ls [.int (nI w), .ref (29 + a)] (hp R c D) = mx_run (d + 2) 19 170 ls [.int (sp_wor (nI a) (nI w))] (hp R c D) := by
  rcases a6 ha with rfl | rfl | rfl | rfl | rfl | rfl
  · have e := iq_19_167_1 (d + 1) ls 29 (nI w) (hp R c D) (kd_29 R c D)
    refine e.trans ?_
    simp only [ck_45, Option.bind_some, Option.toList, List.cons_append, List.nil_append, ↓reduceIte, nI_1, Int32.reduceLT, Int32.reduceLE, dv_1, dv_2, dv_3, dv_4, dv_6, dv_8, dv_10, dv_20, dv_100, dv_200, dv_500]
    rfl
  · have e := iq_19_167_4 (d + 1) ls 30 (nI w) (hp R c D) (kd_30 R c D)
    refine e.trans ?_
    simp only [ck_41, Option.bind_some, Option.toList, List.cons_append, List.nil_append, ↓reduceIte, nI_1, Int32.reduceLT, Int32.reduceLE, dv_1, dv_2, dv_3, dv_4, dv_6, dv_8, dv_10, dv_20, dv_100, dv_200, dv_500]
    rfl
  · have e := iq_19_167_7 (d + 1) ls 31 (nI w) (hp R c D) (kd_31 R c D)
    refine e.trans ?_
    simp only [ck_43, Option.bind_some, Option.toList, List.cons_append, List.nil_append, ↓reduceIte, nI_1, Int32.reduceLT, Int32.reduceLE, dv_1, dv_2, dv_3, dv_4, dv_6, dv_8, dv_10, dv_20, dv_100, dv_200, dv_500]
    rfl
  · have e := iq_19_167_2 (d + 1) ls 32 (nI w) (hp R c D) (kd_32 R c D)
    refine e.trans ?_
    simp only [ck_40, Option.bind_some, Option.toList, List.cons_append, List.nil_append, ↓reduceIte, nI_1, Int32.reduceLT, Int32.reduceLE, dv_1, dv_2, dv_3, dv_4, dv_6, dv_8, dv_10, dv_20, dv_100, dv_200, dv_500]
    rfl
  · have e := iq_19_167_3 (d + 1) ls 33 (nI w) (hp R c D) (kd_33 R c D)
    refine e.trans ?_
    simp only [ck_42, Option.bind_some, Option.toList, List.cons_append, List.nil_append, ↓reduceIte, nI_1, Int32.reduceLT, Int32.reduceLE, dv_1, dv_2, dv_3, dv_4, dv_6, dv_8, dv_10, dv_20, dv_100, dv_200, dv_500, sp_wo1 w hw]
    rfl
  · have e := iq_19_167_9 (d + 1) ls 34 (nI w) (hp R c D) (kd_34 R c D)
    refine e.trans ?_
    simp only [ck_44, Option.bind_some, Option.toList, List.cons_append, List.nil_append, ↓reduceIte, nI_1, Int32.reduceLT, Int32.reduceLE, dv_1, dv_2, dv_3, dv_4, dv_6, dv_8, dv_10, dv_20, dv_100, dv_200, dv_500]
    rfl
theorem vc_163_60 (d a : Nat) (ha : a ≤ 5) (ls : mx_Lo) (w : Nat) (hw : w ≤ 50) : mx_run (d + 2) 163 60 ls [.int (nI w), .ref (29 + a)] (hp R c D) = mx_run (d + 2) 163 63 ls [.int (sp_wor (nI a) (nI w))] (hp R c D) := by
  rcases a6 ha with rfl | rfl | rfl | rfl | rfl | rfl
  · have e := iq_163_60_1 (d + 1) ls 29 (nI w) (hp R c D) (kd_29 R c D)
    refine e.trans ?_
    simp only [ck_45, Option.bind_some, Option.toList, List.cons_append, List.nil_append, ↓reduceIte, nI_1, Int32.reduceLT, Int32.reduceLE, dv_1, dv_2, dv_3, dv_4, dv_6, dv_8, dv_10, dv_20, dv_100, dv_200, dv_500]
    rfl
  · have e := iq_163_60_4 (d + 1) ls 30 (nI w) (hp R c D) (kd_30 R c D)
    refine e.trans ?_
    simp only [ck_41, Option.bind_some, Option.toList, List.cons_append, List.nil_append, ↓reduceIte, nI_1, Int32.reduceLT, Int32.reduceLE, dv_1, dv_2, dv_3, dv_4, dv_6, dv_8, dv_10, dv_20, dv_100, dv_200, dv_500]
    rfl
  · have e := iq_163_60_7 (d + 1) ls 31 (nI w) (hp R c D) (kd_31 R c D)
    refine e.trans ?_
    simp only [ck_43, Option.bind_some, Option.toList, List.cons_append, List.nil_append, ↓reduceIte, nI_1, Int32.reduceLT, Int32.reduceLE, dv_1, dv_2, dv_3, dv_4, dv_6, dv_8, dv_10, dv_20, dv_100, dv_200, dv_500]
    rfl
  · have e := iq_163_60_2 (d + 1) ls 32 (nI w) (hp R c D) (kd_32 R c D)
    refine e.trans ?_
    simp only [ck_40, Option.bind_some, Option.toList, List.cons_append, List.nil_append, ↓reduceIte, nI_1, Int32.reduceLT, Int32.reduceLE, dv_1, dv_2, dv_3, dv_4, dv_6, dv_8, dv_10, dv_20, dv_100, dv_200, dv_500]
    rfl
  · have e := iq_163_60_3 (d + 1) ls 33 (nI w) (hp R c D) (kd_33 R c D)
    refine e.trans ?_
    simp only [ck_42, Option.bind_some, Option.toList, List.cons_append, List.nil_append, ↓reduceIte, nI_1, Int32.reduceLT, Int32.reduceLE, dv_1, dv_2, dv_3, dv_4, dv_6, dv_8, dv_10, dv_20, dv_100, dv_200, dv_500, sp_wo1 w hw]
    rfl
  · have e := iq_163_60_9 (d + 1) ls 34 (nI w) (hp R c D) (kd_34 R c D)
    refine e.trans ?_
    simp only [ck_44, Option.bind_some, Option.toList, List.cons_append, List.nil_append, ↓reduceIte, nI_1, Int32.reduceLT, Int32.reduceLE, dv_1, dv_2, dv_3, dv_4, dv_6, dv_8, dv_10, dv_20, dv_100, dv_200, dv_500]
    rfl
