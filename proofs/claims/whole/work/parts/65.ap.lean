theorem i3_sh16 (v : Int32) : v <<< ((16 : Int32) &&& 31) >>> ((16 : Int32) &&& 31) = v.toInt16.toInt32 := by
  have t1 : ∀ x : Int32, x.toInt = if 2 * x.toBitVec.toNat < 2 ^ 32 then (x.toBitVec.toNat : Int) else (x.toBitVec.toNat : Int) - ((2 ^ 32 : Nat) : Int) := fun x => BitVec.toInt_eq_toNat_cond x.toBitVec
  have h1 := pk_shl v ((16 : Int32) &&& 31) 16 (by decide)
  have hb := v.toBitVec.isLt
  apply Int32.toInt_inj.mp
  rw [pk_shr _ _ 16 (by decide), Int16.toInt_toInt32, Int32.toInt_toInt16, t1 (v <<< ((16 : Int32) &&& 31)), t1 v, h1, Int.shiftRight_eq_div_pow]
  obtain ⟨u, hu⟩ : ∃ u, u = v.toBitVec.toNat := ⟨_, rfl⟩
  rw [← hu] at hb ⊢
  rw [Int.bmod_def]
  split <;> split <;> split <;> omega
variable (R : Nat → Option mx_MC) (c : Nat × Nat) (D : hz_D) {a : Nat}
theorem ar_so (h : is_sh a) : mx_arr (hp R c D) (a + 1) = some (.short, 24, fun j => .int (D (a + 1) j)) := by
  unfold mx_arr
  rw [hp_lo R c D (by have := (sh_ok h).1; omega) (by have := (sh_ok h).2.1; omega), (sh_ok h).2.2.2.1]
  rfl
theorem ar_fl (h : is_sh a) : mx_arr (hp R c D) (a + 2) = some (.float, 24, fun j => .float (D (a + 2) j).toUInt32) := by
  unfold mx_arr
  rw [hp_lo R c D (by have := (sh_ok h).1; omega) (by have := (sh_ok h).2.1; omega), (sh_ok h).2.2.2.2]
  rfl
theorem ld_so (h : is_sh a) (i : Nat) (hi : i < 24) : mg_ld (hp R c D) (a + 1) .short (nI i) = some (.int (D (a + 1) i)) := by
  unfold mg_ld
  rw [ar_so R c D h]
  dsimp only
  rw [if_pos ⟨rfl, in_nI hi (by omega)⟩, nI_clamp (by omega)]
theorem ld_fl (h : is_sh a) (i : Nat) (hi : i < 24) : mg_ld (hp R c D) (a + 2) .float (nI i) = some (.float (D (a + 2) i).toUInt32) := by
  unfold mg_ld
  rw [ar_fl R c D h]
  dsimp only
  rw [if_pos ⟨rfl, in_nI hi (by omega)⟩, nI_clamp (by omega)]
theorem st_so (h : is_sh a) (i : Nat) (hi : i < 24) (x : Int32) : mg_st (hp R c D) (a + 1) .short (nI i) (.int x) = some (hp R c (mx_up D (a + 1) (mx_up (D (a + 1)) i x))) := by
  have b1 := (sh_ok h).1
  have b2 := (sh_ok h).2.1
  unfold mg_st
  rw [ar_so R c D h]
  dsimp only
  rw [if_pos ⟨rfl, in_nI hi (by omega), by omega⟩, nI_clamp (by omega)]
  refine congrArg some (hp_set R c D (by omega) (by omega) _ _ ?_)
  rw [(sh_ok h).2.2.2.1]
  unfold hz_so
  rw [show (mx_up (fun j => Value.int (D (a + 1) j)) i (.int x)) = fun k => Value.int (mx_up (D (a + 1)) i x k) from ?_]
  funext k
  unfold mx_up
  by_cases e : k = i
  · rw [if_pos e, if_pos e]
  · rw [if_neg e, if_neg e]
theorem st_fl (h : is_sh a) (i : Nat) (hi : i < 24) (y : UInt32) : mg_st (hp R c D) (a + 2) .float (nI i) (.float y) = some (hp R c (mx_up D (a + 2) (mx_up (D (a + 2)) i y.toInt32))) := by
  have b1 := (sh_ok h).1
  have b2 := (sh_ok h).2.1
  unfold mg_st
  rw [ar_fl R c D h]
  dsimp only
  rw [if_pos ⟨rfl, in_nI hi (by omega), by omega⟩, nI_clamp (by omega)]
  refine congrArg some (hp_set R c D (by omega) (by omega) _ _ ?_)
  rw [(sh_ok h).2.2.2.2]
  unfold hz_fl
  rw [show (mx_up (fun j => Value.float (D (a + 2) j).toUInt32) i (.float y)) = fun k => Value.float (mx_up (D (a + 2)) i y.toInt32 k).toUInt32 from ?_]
  funext k
  unfold mx_up
  by_cases e : k = i
  · rw [if_pos e, if_pos e, UInt32.toUInt32_toInt32]
  · rw [if_neg e, if_neg e]
theorem nar_short (x : Int32) : mx_nar .short x = x.toInt16.toInt32 := rfl
/-- places of a sheet -/
theorem cs_has (d q : Nat) (h : is_sh a) (hq : D a 1 = nI q) (h24 : q ≤ 24) (x : Int32) : mx_run d 92 0 [some (.ref a), some (.int x)] [] (hp R c D) = some (some (.int (if ¬ x < 0 ∧ ¬ nI q - 1 < x then 1 else 0)), hp R c D) := by
  simp only [nz_bt (show q < 1000 by omega) x]
  by_cases h1 : x < 0
  · have h2 : ¬ ∃ j, j < q ∧ x = nI j := fun ⟨j, hj, e⟩ => nI_pos (show j < 2 ^ 31 by omega) (e ▸ h1)
    simp (disch := first | assumption | omega | exact kd_sea _ _ _ (by assumption) | exact is_bts (by assumption) _ (by omega) | exact kd_bt _ _ _ (is_bts (by assumption) _ (by omega)) | exact kd_109 _ _ _ | exact kd_17 _ _ _ | exact kd_20 _ _ _) only [iq_92_0, iq_92_1, iq_92_4, iq_92_5, iq_92_6, iq_92_9, iq_92_12, iq_92_13, iq_92_15, iq_92_18, iq_92_19, iq_92_22, iq_92_23, iq_92_23z, ib_92_23, Option.bind_some, Option.toList, List.cons_append, List.nil_append, ↓reduceIte, nI_1, Int32.reduceLT, Int32.reduceLE, dv_1, dv_2, dv_3, dv_4, dv_6, dv_8, dv_10, dv_20, dv_100, dv_200, dv_500, h1, h2]
  · obtain ⟨j, hj, rfl⟩ := nI_of h1
    by_cases h2 : j < q
    · have h3 : ∃ i, i < q ∧ nI j = nI i := ⟨j, h2, rfl⟩
      simp (disch := first | assumption | omega | exact kd_sea _ _ _ (by assumption) | exact is_bts (by assumption) _ (by omega) | exact kd_bt _ _ _ (is_bts (by assumption) _ (by omega)) | exact kd_109 _ _ _ | exact kd_17 _ _ _ | exact kd_20 _ _ _) only [iq_92_0, iq_92_1, iq_92_4, iq_92_5, iq_92_6, iq_92_9, iq_92_12, iq_92_13, iq_92_15, iq_92_18, iq_92_19, iq_92_22, iq_92_23, iq_92_23z, ib_92_23, Option.bind_some, Option.toList, List.cons_append, List.nil_append, ↓reduceIte, nI_1, Int32.reduceLT, Int32.reduceLE, dv_1, dv_2, dv_3, dv_4, dv_6, dv_8, dv_10, dv_20, dv_100, dv_200, dv_500, gf_sh_0, gf_sh_1, gf_sh_2, gf_sh_3, kd_sh, pf_sh_0, pf_sh_1, hq, nz_lt, nz_nlt, nz_eq, nz_ne, nz_nlt_0, nz_lt_24, h3]
    · have h3 : ¬ ∃ i, i < q ∧ nI j = nI i := fun ⟨i, hi, e⟩ => h2 (by rw [(nI_eq hj (by omega)).mp e]; exact hi)
      simp (disch := first | assumption | omega | exact kd_sea _ _ _ (by assumption) | exact is_bts (by assumption) _ (by omega) | exact kd_bt _ _ _ (is_bts (by assumption) _ (by omega)) | exact kd_109 _ _ _ | exact kd_17 _ _ _ | exact kd_20 _ _ _) only [iq_92_0, iq_92_1, iq_92_4, iq_92_5, iq_92_6, iq_92_9, iq_92_12, iq_92_13, iq_92_15, iq_92_18, iq_92_19, iq_92_22, iq_92_23, iq_92_23z, ib_92_23, Option.bind_some, Option.toList, List.cons_append, List.nil_append, ↓reduceIte, nI_1, Int32.reduceLT, Int32.reduceLE, dv_1, dv_2, dv_3, dv_4, dv_6, dv_8, dv_10, dv_20, dv_100, dv_200, dv_500, gf_sh_0, gf_sh_1, gf_sh_2, gf_sh_3, kd_sh, pf_sh_0, pf_sh_1, hq, nz_lt, nz_nlt, nz_eq, nz_ne, nz_nlt_0, h3]
theorem cs_miss (d : Nat) (h : is_sh a) : mx_run d 89 0 [some (.ref a)] [] (hp R c D) = some (some (.int (if D a 0 = -1 then 1 else 0)), hp R c D) := by
  by_cases hc : D a 0 = -1
  · simp (disch := first | assumption | omega | exact kd_sea _ _ _ (by assumption) | exact is_bts (by assumption) _ (by omega) | exact kd_bt _ _ _ (is_bts (by assumption) _ (by omega)) | exact kd_109 _ _ _ | exact kd_17 _ _ _ | exact kd_20 _ _ _) only [iq_89_0, iq_89_1, iq_89_4, iq_89_5, iq_89_8, iq_89_9, iq_89_12, iq_89_13, iq_89_13z, ib_89_13, Option.bind_some, Option.toList, List.cons_append, List.nil_append, ↓reduceIte, nI_1, Int32.reduceLT, Int32.reduceLE, dv_1, dv_2, dv_3, dv_4, dv_6, dv_8, dv_10, dv_20, dv_100, dv_200, dv_500, gf_sh_0, gf_sh_1, gf_sh_2, gf_sh_3, kd_sh, pf_sh_0, pf_sh_1, hc]
  · simp (disch := first | assumption | omega | exact kd_sea _ _ _ (by assumption) | exact is_bts (by assumption) _ (by omega) | exact kd_bt _ _ _ (is_bts (by assumption) _ (by omega)) | exact kd_109 _ _ _ | exact kd_17 _ _ _ | exact kd_20 _ _ _) only [iq_89_0, iq_89_1, iq_89_4, iq_89_5, iq_89_8, iq_89_9, iq_89_12, iq_89_13, iq_89_13z, ib_89_13, Option.bind_some, Option.toList, List.cons_append, List.nil_append, ↓reduceIte, nI_1, Int32.reduceLT, Int32.reduceLE, dv_1, dv_2, dv_3, dv_4, dv_6, dv_8, dv_10, dv_20, dv_100, dv_200, dv_500, gf_sh_0, gf_sh_1, gf_sh_2, gf_sh_3, kd_sh, pf_sh_0, pf_sh_1, hc]
theorem cs_lose (d : Nat) (h : is_sh a) : mx_run d 151 0 [some (.ref a)] [] (hp R c D) = some (none, hp R c (mx_up D a (mx_up (mx_up (D a) 0 (-1)) 1 0))) := by
  simp (disch := first | assumption | omega | exact kd_sea _ _ _ (by assumption) | exact is_bts (by assumption) _ (by omega) | exact kd_bt _ _ _ (is_bts (by assumption) _ (by omega)) | exact kd_109 _ _ _ | exact kd_17 _ _ _ | exact kd_20 _ _ _) only [iq_151_0, iq_151_1, iq_151_2, iq_151_5, iq_151_6, iq_151_7, iq_151_10, Option.bind_some, Option.toList, List.cons_append, List.nil_append, ↓reduceIte, nI_1, Int32.reduceLT, Int32.reduceLE, dv_1, dv_2, dv_3, dv_4, dv_6, dv_8, dv_10, dv_20, dv_100, dv_200, dv_500, gf_sh_0, gf_sh_1, gf_sh_2, gf_sh_3, kd_sh, pf_sh_0, pf_sh_1, up_s, up_up, up_n, ne_eq, Nat.reduceEqDiff, not_false_eq_true]
theorem cs_num_s (d q i : Nat) (h : is_sh a) (hq : D a 1 = nI q) (h24 : q ≤ 24) (hi : i < q) (hs : D a 0 = 0) : mx_run (d + 1) 91 0 [some (.ref a), some (.int (nI i))] [] (hp R c D) = some (some (.int 1), hp R c D) := by
  have ph : (¬ nI i < 0 ∧ ¬ nI q - 1 < nI i) = True := eq_true ((nz_bt (by omega) _).mpr ⟨i, hi, rfl⟩)
  have kd := kd_sh R c D h
  simp (disch := first | assumption | omega | exact kd_sea _ _ _ (by assumption) | exact is_bts (by assumption) _ (by omega) | exact kd_bt _ _ _ (is_bts (by assumption) _ (by omega)) | exact kd_109 _ _ _ | exact kd_17 _ _ _ | exact kd_20 _ _ _) only [iq_91_0, iq_91_1, iq_91_2, iq_91_5, iq_91_8, iq_91_9, iq_91_12, iq_91_15, iq_91_16, iq_91_19, iq_91_20, iq_91_21, iq_91_22, iq_91_24, iq_91_27, iq_91_28, iq_91_31, iq_91_32, iq_91_32z, ib_91_32, Option.bind_some, Option.toList, List.cons_append, List.nil_append, ↓reduceIte, nI_1, Int32.reduceLT, Int32.reduceLE, dv_1, dv_2, dv_3, dv_4, dv_6, dv_8, dv_10, dv_20, dv_100, dv_200, dv_500, gf_sh_0, gf_sh_1, gf_sh_2, gf_sh_3, kd_sh, pf_sh_0, pf_sh_1, cs_has R c D d q h hq h24, ph, hs]
theorem cs_num_f (d q i : Nat) (v : Int32) (h : is_sh a) (hq : D a 1 = nI q) (h24 : q ≤ 24) (hi : i < q) (hs : D a 0 = 1) (hv : D (a + 2) i = (FP.i2f v).toInt32) (hr : ¬ v < -99999 ∧ ¬ 99999 < v ∨ v = 1000000) : mx_run (d + 1) 91 0 [some (.ref a), some (.int (nI i))] [] (hp R c D) = some (some (.int (if v = 1000000 then 0 else 1)), hp R c D) := by
  have ph : (¬ nI i < 0 ∧ ¬ nI q - 1 < nI i) = True := eq_true ((nz_bt (by omega) _).mpr ⟨i, hi, rfl⟩)
  have kd := kd_sh R c D h
  have f2 : FP.f2i (D (a + 2) i).toUInt32 = v := by rw [hv, UInt32.toUInt32_toInt32]; exact fz_i2f v hr
  by_cases hc : v = 1000000
  · simp (disch := first | assumption | omega | exact kd_sea _ _ _ (by assumption) | exact is_bts (by assumption) _ (by omega) | exact kd_bt _ _ _ (is_bts (by assumption) _ (by omega)) | exact kd_109 _ _ _ | exact kd_17 _ _ _ | exact kd_20 _ _ _) only [iq_91_0, iq_91_1, iq_91_2, iq_91_5, iq_91_8, iq_91_9, iq_91_12, iq_91_15, iq_91_16, iq_91_19, iq_91_20, iq_91_21, iq_91_22, iq_91_24, iq_91_27, iq_91_28, iq_91_31, iq_91_32, iq_91_32z, ib_91_32, Option.bind_some, Option.toList, List.cons_append, List.nil_append, ↓reduceIte, nI_1, Int32.reduceLT, Int32.reduceLE, dv_1, dv_2, dv_3, dv_4, dv_6, dv_8, dv_10, dv_20, dv_100, dv_200, dv_500, gf_sh_0, gf_sh_1, gf_sh_2, gf_sh_3, kd_sh, pf_sh_0, pf_sh_1, cs_has R c D d q h hq h24, ph, hs, ld_fl R c D h i (by omega), f2, hc]
  · simp (disch := first | assumption | omega | exact kd_sea _ _ _ (by assumption) | exact is_bts (by assumption) _ (by omega) | exact kd_bt _ _ _ (is_bts (by assumption) _ (by omega)) | exact kd_109 _ _ _ | exact kd_17 _ _ _ | exact kd_20 _ _ _) only [iq_91_0, iq_91_1, iq_91_2, iq_91_5, iq_91_8, iq_91_9, iq_91_12, iq_91_15, iq_91_16, iq_91_19, iq_91_20, iq_91_21, iq_91_22, iq_91_24, iq_91_27, iq_91_28, iq_91_31, iq_91_32, iq_91_32z, ib_91_32, Option.bind_some, Option.toList, List.cons_append, List.nil_append, ↓reduceIte, nI_1, Int32.reduceLT, Int32.reduceLE, dv_1, dv_2, dv_3, dv_4, dv_6, dv_8, dv_10, dv_20, dv_100, dv_200, dv_500, gf_sh_0, gf_sh_1, gf_sh_2, gf_sh_3, kd_sh, pf_sh_0, pf_sh_1, cs_has R c D d q h hq h24, ph, hs, ld_fl R c D h i (by omega), f2, hc]
theorem cs_val_s (d q i : Nat) (h : is_sh a) (hq : D a 1 = nI q) (h24 : q ≤ 24) (hi : i < q) (hs : D a 0 = 0) : mx_run (d + 1) 93 0 [some (.ref a), some (.int (nI i))] [] (hp R c D) = some (some (.int (D (a + 1) i)), hp R c D) := by
  have ph : (¬ nI i < 0 ∧ ¬ nI q - 1 < nI i) = True := eq_true ((nz_bt (by omega) _).mpr ⟨i, hi, rfl⟩)
  have kd := kd_sh R c D h
  simp (disch := first | assumption | omega | exact kd_sea _ _ _ (by assumption) | exact is_bts (by assumption) _ (by omega) | exact kd_bt _ _ _ (is_bts (by assumption) _ (by omega)) | exact kd_109 _ _ _ | exact kd_17 _ _ _ | exact kd_20 _ _ _) only [iq_93_0, iq_93_1, iq_93_2, iq_93_5, iq_93_8, iq_93_9, iq_93_10, iq_93_11, iq_93_14, iq_93_17, iq_93_18, iq_93_21, iq_93_22, iq_93_23, iq_93_26, iq_93_27, iq_93_30, iq_93_31, iq_93_32, iq_93_33, Option.bind_some, Option.toList, List.cons_append, List.nil_append, ↓reduceIte, nI_1, Int32.reduceLT, Int32.reduceLE, dv_1, dv_2, dv_3, dv_4, dv_6, dv_8, dv_10, dv_20, dv_100, dv_200, dv_500, gf_sh_0, gf_sh_1, gf_sh_2, gf_sh_3, kd_sh, pf_sh_0, pf_sh_1, cs_has R c D d q h hq h24, ph, hs, ld_so R c D h i (by omega)]
theorem cs_val_f (d q i : Nat) (v : Int32) (h : is_sh a) (hq : D a 1 = nI q) (h24 : q ≤ 24) (hi : i < q) (hs : D a 0 = 1) (hv : D (a + 2) i = (FP.i2f v).toInt32) (hr : ¬ v < -99999 ∧ ¬ 99999 < v ∨ v = 1000000) : mx_run (d + 1) 93 0 [some (.ref a), some (.int (nI i))] [] (hp R c D) = some (some (.int v), hp R c D) := by
  have ph : (¬ nI i < 0 ∧ ¬ nI q - 1 < nI i) = True := eq_true ((nz_bt (by omega) _).mpr ⟨i, hi, rfl⟩)
  have kd := kd_sh R c D h
  have f2 : FP.f2i (D (a + 2) i).toUInt32 = v := by rw [hv, UInt32.toUInt32_toInt32]; exact fz_i2f v hr
  simp (disch := first | assumption | omega | exact kd_sea _ _ _ (by assumption) | exact is_bts (by assumption) _ (by omega) | exact kd_bt _ _ _ (is_bts (by assumption) _ (by omega)) | exact kd_109 _ _ _ | exact kd_17 _ _ _ | exact kd_20 _ _ _) only [iq_93_0, iq_93_1, iq_93_2, iq_93_5, iq_93_8, iq_93_9, iq_93_10, iq_93_11, iq_93_14, iq_93_17, iq_93_18, iq_93_21, iq_93_22, iq_93_23, iq_93_26, iq_93_27, iq_93_30, iq_93_31, iq_93_32, iq_93_33, Option.bind_some, Option.toList, List.cons_append, List.nil_append, ↓reduceIte, nI_1, Int32.reduceLT, Int32.reduceLE, dv_1, dv_2, dv_3, dv_4, dv_6, dv_8, dv_10, dv_20, dv_100, dv_200, dv_500, gf_sh_0, gf_sh_1, gf_sh_2, gf_sh_3, kd_sh, pf_sh_0, pf_sh_1, cs_has R c D d q h hq h24, ph, hs, ld_fl R c D h i (by omega), f2]
/-- is a place a number, and which -/
theorem cs_at (d q i : Nat) {z : Int32} {f : Nat → Int32} (h : is_sh a) (hr : sh_rel D a z f) (hq : z = nI q) (h24 : q ≤ 24) (hi : i < q) (hs : D a 0 ≠ -1) : mx_run (d + 1) 91 0 [some (.ref a), some (.int (nI i))] [] (hp R c D) = some (some (.int (if f i = -1000000005 then 0 else 1)), hp R c D) ∧ (f i ≠ -1000000005 → mx_run (d + 1) 93 0 [some (.ref a), some (.int (nI i))] [] (hp R c D) = some (some (.int (f i)), hp R c D)) := by
  obtain ⟨r1, r2, -, r4⟩ := hr
  have hq' : D a 1 = nI q := r2.trans hq
  obtain ⟨-, c0, c1⟩ := r4 i (by omega)
  rcases r1 with r1 | r1 | r1
  · exact absurd r1 hs
  · obtain ⟨e1, e2⟩ := c0 r1
    rw [if_neg e2]
    exact ⟨cs_num_s R c D d q i h hq' h24 hi r1, fun _ => by rw [cs_val_s R c D d q i h hq' h24 hi r1, e1]⟩
  · rcases c1 r1 with ⟨e1, e2⟩ | ⟨e1, e2, e3, e4⟩
    · rw [if_pos e1]
      have := cs_num_f R c D d q i 1000000 h hq' h24 hi r1 e2 (Or.inr rfl)
      rw [if_pos rfl] at this
      exact ⟨this, fun z => absurd e1 z⟩
    · rw [if_neg e1]
      have := cs_num_f R c D d q i (f i) h hq' h24 hi r1 e4 (Or.inl ⟨e2, e3⟩)
      rw [if_neg (fun z => by rw [z] at e3; exact e3 (by decide))] at this
      exact ⟨this, fun _ => cs_val_f R c D d q i (f i) h hq' h24 hi r1 e4 (Or.inl ⟨e2, e3⟩)⟩
