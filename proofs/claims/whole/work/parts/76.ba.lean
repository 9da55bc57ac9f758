def ap_n (f : Nat → Int32) (len : Nat) (g : Nat → Int32) : Nat → Nat → Int32
  | 0 => f
  | n + 1 => mx_up (ap_n f len g n) (len + n) (g n)
theorem ap_n_at (f : Nat → Int32) (len : Nat) (g : Nat → Int32) : ∀ n i, ap_n f len g n i = if len ≤ i ∧ i < len + n then g (i - len) else f i
  | 0, i => by
    rw [if_neg (by omega)]
    rfl
  | n + 1, i => by
    show mx_up (ap_n f len g n) (len + n) (g n) i = _
    by_cases e : i = len + n
    · subst e
      rw [up_s, if_pos (by omega), show len + n - len = n by omega]
    · rw [up_n _ _ _ _ e, ap_n_at f len g n i]
      by_cases h : len ≤ i ∧ i < len + n
      · rw [if_pos h, if_pos (by omega)]
      · rw [if_neg h, if_neg (by omega)]
/-- the byte of v that shift k brings down -/
def by_c (v k : Int32) : Int32 := ((v.toUInt32 >>> (k.toUInt32 &&& Int32.toUInt32 31)).toInt32).toInt8.toInt32
def by_r (v k : Int32) : Int32 := v >>> (k &&& 31) &&& 255
theorem by_8 {x : Int32} {b : Nat} (hb : b < 256) (h : x.toInt % 256 = (b : Int)) : x.toInt8.toInt32 = (nI b).toInt8.toInt32 := by
  apply Int32.toInt_inj.mp
  rw [Int8.toInt_toInt32, Int8.toInt_toInt32, Int32.toInt_toInt8, Int32.toInt_toInt8, nI_toInt (by omega), Int.bmod_def, Int.bmod_def]
  have e1 : x.toInt % ((2 ^ 8 : Nat) : Int) = (b : Int) := h
  have e2 : (b : Int) % ((2 ^ 8 : Nat) : Int) = (b : Int) := by omega
  rw [e1, e2]
theorem by_ok (v : Int32) (k : Nat) (hk : k = 0 ∨ k = 8 ∨ k = 16 ∨ k = 24) : ∃ b : Nat, b < 256 ∧ by_r v (nI k) = nI b ∧ by_c v (nI k) = (nI b).toInt8.toInt32 := by
  have t1 : ∀ x : Int32, x.toInt = if 2 * x.toBitVec.toNat < 2 ^ 32 then (x.toBitVec.toNat : Int) else (x.toBitVec.toNat : Int) - ((2 ^ 32 : Nat) : Int) := fun x => BitVec.toInt_eq_toNat_cond x.toBitVec
  have hv := v.toBitVec.isLt
  have key : ∀ (s1 : ((nI k &&& 31).toBitVec.smod 32).toNat = k) (s2 : (((nI k).toUInt32 &&& Int32.toUInt32 31).toBitVec % 32).toNat = k), ∃ b : Nat, b < 256 ∧ by_r v (nI k) = nI b ∧ by_c v (nI k) = (nI b).toInt8.toInt32 := by
    intro s1 s2
    have h1 := pk_shr v (nI k &&& 31) k s1
    have h2 := pk_ushr v (nI k) k s2
    obtain ⟨x, hx⟩ : ∃ x, x = v >>> (nI k &&& 31) := ⟨_, rfl⟩
    obtain ⟨y, hy⟩ : ∃ y, y = (v.toUInt32 >>> ((nI k).toUInt32 &&& Int32.toUInt32 31)).toInt32 := ⟨_, rfl⟩
    rw [← hx] at h1
    rw [← hy] at h2
    have hbx := x.toBitVec.isLt
    have hby := y.toBitVec.isLt
    have tx := t1 x
    have ty := t1 y
    have tv := t1 v
    rw [Int.shiftRight_eq_div_pow] at h1
    refine ⟨x.toBitVec.toNat % 2 ^ 8, by omega, ?_, ?_⟩
    · unfold by_r
      rw [← hx]
      exact pk_and x 8 (by decide)
    · unfold by_c
      rw [← hy]
      refine by_8 (by omega) ?_
      rcases hk with rfl | rfl | rfl | rfl
      · rw [tv] at h1
        split at h1 <;> split at tx <;> split at ty <;> omega
      · rw [tv] at h1
        split at h1 <;> split at tx <;> split at ty <;> omega
      · rw [tv] at h1
        split at h1 <;> split at tx <;> split at ty <;> omega
      · rw [tv] at h1
        split at h1 <;> split at tx <;> split at ty <;> omega
  rcases hk with rfl | rfl | rfl | rfl
  · exact key (by decide) (by decide)
  · exact key (by decide) (by decide)
  · exact key (by decide) (by decide)
  · exact key (by decide) (by decide)
def by_g (h : Int32 → Int32 → Int32) (a b c : Int32) (j : Nat) : Int32 := h (if j < 4 then a else if j < 8 then b else c) (nI (24 - 8 * (j % 4)))
section FD
variable (R : Nat → Option mx_MC) (c : Nat × Nat) (D : hz_D)
theorem ar_21 : mx_arr (hp R c D) 21 = some (.byte, 96, fun j => .int (D 21 j)) := rfl
theorem st_21 (j : Nat) (x : Int32) (hj : j < 96) : mg_st (hp R c D) 21 .byte (nI j) (.int x) = some (hp R c (mx_up D 21 (mx_up (D 21) j x))) := by
  unfold mg_st
  rw [ar_21 R c D]
  dsimp only
  rw [if_pos ⟨rfl, in_nI hj (by omega), by omega⟩, nI_clamp (by omega)]
  refine congrArg some (hp_set R c D (by omega) (by omega) _ _ ?_)
  show _ = (Sum.inr (FieldType.byte, 96, fun k => Value.int (mx_up (D 21) j x k)) : mx_MC)
  rw [show (mx_up (fun k => Value.int (D 21 k)) j (.int x)) = fun k => Value.int (mx_up (D 21) j x k) from ?_]
  funext k
  unfold mx_up
  by_cases e : k = j
  · rw [if_pos e, if_pos e]
  · rw [if_neg e, if_neg e]
theorem ld_21 (j : Nat) (hj : j < 96) : mg_ld (hp R c D) 21 .byte (nI j) = some (.int (D 21 j)) := by
  unfold mg_ld
  rw [ar_21 R c D]
  dsimp only
  rw [if_pos ⟨rfl, in_nI hj (by omega)⟩, nI_clamp (by omega)]
theorem nar8 (v : Int32) : mx_nar .byte v.toInt8.toInt32 = v.toInt8.toInt32 := by
  unfold mx_nar
  rw [pk_nb]
theorem u2021 (X : hz_D) (b e : Nat → Int32) : mx_up (mx_up X 20 b) 21 e = mx_up (mx_up X 21 e) 20 b := up_cm X 20 21 b e (by omega)
theorem u9122 (X : hz_D) (b e : Nat → Int32) : mx_up (mx_up X 109 b) 122 e = mx_up (mx_up X 122 e) 109 b := up_cm X 109 122 b e (by omega)
theorem cc_add (d len : Nat) (v : Int32) (hl : D 20 1 = nI len) (h4 : len + 4 ≤ 96) : mx_run d 97 0 [some (.ref 20), some (.int v), none] [] (hp R c D) = some (none, hp R c (mx_up (mx_up D 21 (mx_up (mx_up (mx_up (mx_up (D 21) len (by_c v 24)) (len + 1) (by_c v 16)) (len + 1 + 1) (by_c v 8)) (len + 1 + 1 + 1) (by_c v 0))) 20 (mx_up (D 20) 1 (nI (len + 1 + 1 + 1 + 1))))) := by
  unfold by_c
  simp (disch := first | assumption | omega | exact kd_sh _ _ _ (by assumption) | exact kd_sea _ _ _ (by assumption) | exact is_bts (by assumption) _ (by omega) | exact kd_bt _ _ _ (by first | assumption | exact is_bts (by assumption) _ (by omega)) | exact kd_109 _ _ _ | exact kd_17 _ _ _ | exact kd_20 _ _ _) only [iq_97_0, iq_97_2, iq_97_3, iq_97_4, iq_97_7, iq_97_8, iq_97_11, iq_97_13, iq_97_16, iq_97_17, iq_97_20, iq_97_21, iq_97_24, iq_97_25, iq_97_26, iq_97_27, iq_97_28, iq_97_29, iq_97_30, iq_97_31, iq_97_34, iq_97_35, iq_97_36, iq_97_39, iq_97_42, iq_97_45, Option.bind_some, Option.toList, List.cons_append, List.nil_append, ↓reduceIte, nI_1, Int32.reduceLT, Int32.reduceLE, dv_1, dv_2, dv_3, dv_4, dv_6, dv_8, dv_10, dv_20, dv_100, dv_200, dv_500, gf_20_0, gf_20_1, gf_20_2, gf_20_3, gf_20_4, gf_20_5, gf_20_6, gf_20_7, gf_20_8, gf_20_9, kd_20, pf_20_1, pf_20_2, pf_20_3, pf_20_4, pf_20_5, pf_20_6, pf_20_7, pf_20_9, up_s, up_up, up_n, ne_eq, Nat.reduceEqDiff, not_false_eq_true, Int32.reduceAdd, hl, nz_lt_96, nar8, st_21, u2021]
theorem rc_feed (d len : Nat) (x y z : Int32) (hl : D 109 14 = nI len) (h12 : len + 12 ≤ 96) : mx_run d 226 0 [some (.ref 109), some (.int x), some (.int y), some (.int z), none, none] [] (hp R c D) = some (some (.int (nI (len + 12))), hp R c (mx_up (mx_up D 122 (ap_n (D 122) len (by_g by_r x y z) 12)) 109 (mx_up (D 109) 14 (nI (len + 12))))) := by
  have e12 : nI len + 12 = nI (len + 12) := nI_add len 12
  have c0 : (96 < nI (len + 12)) = False := nz_ngt_96 h12
  have ea : ap_n (D 122) len (by_g by_r x y z) 12 = mx_up (mx_up (mx_up (mx_up (mx_up (mx_up (mx_up (mx_up (mx_up (mx_up (mx_up (mx_up (D 122) len (by_r x 24)) (len + 1) (by_r x 16)) (len + 1 + 1) (by_r x 8)) (len + 1 + 1 + 1) (by_r x 0)) (len + 1 + 1 + 1 + 1) (by_r y 24)) (len + 1 + 1 + 1 + 1 + 1) (by_r y 16)) (len + 1 + 1 + 1 + 1 + 1 + 1) (by_r y 8)) (len + 1 + 1 + 1 + 1 + 1 + 1 + 1) (by_r y 0)) (len + 1 + 1 + 1 + 1 + 1 + 1 + 1 + 1) (by_r z 24)) (len + 1 + 1 + 1 + 1 + 1 + 1 + 1 + 1 + 1) (by_r z 16)) (len + 1 + 1 + 1 + 1 + 1 + 1 + 1 + 1 + 1 + 1) (by_r z 8)) (len + 1 + 1 + 1 + 1 + 1 + 1 + 1 + 1 + 1 + 1 + 1) (by_r z 0) := rfl
  rw [ea]
  unfold by_r
  simp (disch := first | assumption | omega | exact kd_sh _ _ _ (by assumption) | exact kd_sea _ _ _ (by assumption) | exact is_bts (by assumption) _ (by omega) | exact kd_bt _ _ _ (by first | assumption | exact is_bts (by assumption) _ (by omega)) | exact kd_109 _ _ _ | exact kd_17 _ _ _ | exact kd_20 _ _ _) only [iq_226_0, iq_226_1, iq_226_4, iq_226_6, iq_226_7, iq_226_9, iq_226_12, iq_226_14, iq_226_15, iq_226_16, iq_226_18, iq_226_20, iq_226_22, iq_226_25, iq_226_27, iq_226_28, iq_226_31, iq_226_32, iq_226_35, iq_226_37, iq_226_39, iq_226_42, iq_226_43, iq_226_46, iq_226_47, iq_226_49, iq_226_50, iq_226_53, iq_226_54, iq_226_57, iq_226_59, iq_226_61, iq_226_63, iq_226_65, iq_226_66, iq_226_67, iq_226_68, iq_226_69, iq_226_70, iq_226_73, iq_226_74, iq_226_75, iq_226_76, iq_226_77, iq_226_80, iq_226_81, iq_226_82, iq_226_85, iq_226_88, iq_226_91, iq_226_92, iq_226_95, Option.bind_some, Option.toList, List.cons_append, List.nil_append, ↓reduceIte, nI_1, Int32.reduceLT, Int32.reduceLE, dv_1, dv_2, dv_3, dv_4, dv_6, dv_8, dv_10, dv_20, dv_100, dv_200, dv_500, gf_109_0, gf_109_1, gf_109_2, gf_109_3, gf_109_4, gf_109_5, gf_109_6, gf_109_7, gf_109_8, gf_109_9, gf_109_10, gf_109_11, gf_109_12, gf_109_13, gf_109_14, gf_109_15, gf_109_16, gf_109_17, gf_109_18, gf_109_19, gf_109_20, gf_109_21, gf_109_22, gf_109_23, gf_109_24, gf_109_25, gf_109_26, gf_109_27, gf_109_28, gf_109_29, gf_109_30, kd_109, pf_109_3, pf_109_14, pf_109_15, pf_109_16, pf_109_17, pf_109_18, pf_109_19, pf_109_20, pf_109_21, pf_109_22, pf_109_23, pf_109_24, pf_109_29, up_s, up_up, up_n, ne_eq, Nat.reduceEqDiff, not_false_eq_true, Int32.reduceAdd, Int32.reduceSub, Int32.reduceMul, Int32.reduceDiv, hl, e12, c0, st_122, u9122]
theorem cc_feed (d len : Nat) (x y z : Int32) (hl : D 20 1 = nI len) (h12 : len + 12 ≤ 96) : mx_run (d + 1) 96 0 [some (.ref 17), some (.int x), some (.int y), some (.int z)] [] (hp R c D) = some (some (.int (nI (len + 12))), hp R c (mx_up (mx_up D 21 (ap_n (D 21) len (by_g by_c x y z) 12)) 20 (mx_up (D 20) 1 (nI (len + 12))))) := by
  have e12 : nI len + 12 = nI (len + 12) := nI_add len 12
  have c0 : (96 < nI (len + 12)) = False := nz_ngt_96 h12
  have ea : ap_n (D 21) len (by_g by_c x y z) 12 = mx_up (mx_up (mx_up (mx_up (mx_up (mx_up (mx_up (mx_up (mx_up (mx_up (mx_up (mx_up (D 21) len (by_c x 24)) (len + 1) (by_c x 16)) (len + 1 + 1) (by_c x 8)) (len + 1 + 1 + 1) (by_c x 0)) (len + 1 + 1 + 1 + 1) (by_c y 24)) (len + 1 + 1 + 1 + 1 + 1) (by_c y 16)) (len + 1 + 1 + 1 + 1 + 1 + 1) (by_c y 8)) (len + 1 + 1 + 1 + 1 + 1 + 1 + 1) (by_c y 0)) (len + 1 + 1 + 1 + 1 + 1 + 1 + 1 + 1) (by_c z 24)) (len + 1 + 1 + 1 + 1 + 1 + 1 + 1 + 1 + 1) (by_c z 16)) (len + 1 + 1 + 1 + 1 + 1 + 1 + 1 + 1 + 1 + 1) (by_c z 8)) (len + 1 + 1 + 1 + 1 + 1 + 1 + 1 + 1 + 1 + 1 + 1) (by_c z 0) := rfl
  rw [ea]
  have a1 := cc_add R c D d len x hl (by omega)
  have a2 := cc_add R c _ d (len + 1 + 1 + 1 + 1) y (show (mx_up (mx_up D 21 (mx_up (mx_up (mx_up (mx_up (D 21) len (by_c x 24)) (len + 1) (by_c x 16)) (len + 1 + 1) (by_c x 8)) (len + 1 + 1 + 1) (by_c x 0))) 20 (mx_up (D 20) 1 (nI (len + 1 + 1 + 1 + 1)))) 20 1 = nI (len + 1 + 1 + 1 + 1) from rfl) (by omega)
  rw [up_s, up_n _ 20 _ 21 (by omega), up_s, u2021, up_up, up_up, up_up] at a2
  have a3 := cc_add R c _ d (len + 1 + 1 + 1 + 1 + 1 + 1 + 1 + 1) z (show (mx_up (mx_up D 21 (mx_up (mx_up (mx_up (mx_up (mx_up (mx_up (mx_up (mx_up (D 21) len (by_c x 24)) (len + 1) (by_c x 16)) (len + 1 + 1) (by_c x 8)) (len + 1 + 1 + 1) (by_c x 0)) (len + 1 + 1 + 1 + 1) (by_c y 24)) (len + 1 + 1 + 1 + 1 + 1) (by_c y 16)) (len + 1 + 1 + 1 + 1 + 1 + 1) (by_c y 8)) (len + 1 + 1 + 1 + 1 + 1 + 1 + 1) (by_c y 0))) 20 (mx_up (D 20) 1 (nI (len + 1 + 1 + 1 + 1 + 1 + 1 + 1 + 1)))) 20 1 = nI (len + 1 + 1 + 1 + 1 + 1 + 1 + 1 + 1) from rfl) (by omega)
  rw [up_s, up_n _ 20 _ 21 (by omega), up_s, u2021, up_up, up_up, up_up] at a3
  simp (disch := first | assumption | omega | exact kd_sh _ _ _ (by assumption) | exact kd_sea _ _ _ (by assumption) | exact is_bts (by assumption) _ (by omega) | exact kd_bt _ _ _ (by first | assumption | exact is_bts (by assumption) _ (by omega)) | exact kd_109 _ _ _ | exact kd_17 _ _ _ | exact kd_20 _ _ _) only [iq_96_0, iq_96_1, iq_96_4, iq_96_7, iq_96_9, iq_96_10, iq_96_12, iq_96_15, iq_96_17, iq_96_18, iq_96_19, iq_96_22, iq_96_23, iq_96_26, iq_96_27, iq_96_30, iq_96_31, iq_96_34, iq_96_35, iq_96_38, iq_96_39, iq_96_42, iq_96_43, iq_96_46, iq_96_49, Option.bind_some, Option.toList, List.cons_append, List.nil_append, ↓reduceIte, nI_1, Int32.reduceLT, Int32.reduceLE, dv_1, dv_2, dv_3, dv_4, dv_6, dv_8, dv_10, dv_20, dv_100, dv_200, dv_500, gf_17_0, gf_17_1, gf_17_2, gf_17_3, gf_17_4, gf_17_5, gf_17_6, gf_17_7, gf_17_8, gf_17_9, gf_17_10, gf_17_11, gf_17_12, gf_17_13, kd_17, pf_17_4, pf_17_13, gf_20_0, gf_20_1, gf_20_2, gf_20_3, gf_20_4, gf_20_5, gf_20_6, gf_20_7, gf_20_8, gf_20_9, kd_20, pf_20_1, pf_20_2, pf_20_3, pf_20_4, pf_20_5, pf_20_6, pf_20_7, pf_20_9, up_s, up_up, up_n, ne_eq, Nat.reduceEqDiff, not_false_eq_true, hl, e12, c0, a1, a2, a3]
end FD
variable {d L : Nat} {xs : Nat → Int32} {c : Nat × Nat} {D : hz_D}
/-- a call that leaves all but the tape -/
theorem Inv_tap {D' : hz_D} (h : Inv c D) (ht : I_tap D') (h109 : ∀ k, k = 3 ∨ k = 29 → D' 109 k = D 109 k) (hD : ∀ a, ¬ (a = 20 ∨ a = 21 ∨ a = 22 ∨ a = 109 ∨ a = 122) → D' a = D a) : Inv c D' := by
  obtain ⟨a0, ⟨n, m, a1⟩, ⟨n', m', a2⟩, -, a4, a5, a6⟩ := h
  exact ⟨a0, ⟨n, m, I_sea_fr a1 (hD 110 (by omega)) (fun a ha => hD a (by omega))⟩, ⟨n', m', I_img_fr a2 (hD 111 (by omega)) (by rw [hD 17 (by omega)]) (h109 3 (by omega)) (fun a ha => hD a (by omega))⟩, ht, I_shs_fr a4 (fun a ha => hD a (by omega)), I_slt_fr a5 (fun a ha => hD a (by omega)), I_wai_fr a6 (by rw [hD 17 (by omega)]) (h109 29 (by omega)) (hD 28 (by omega)) (hD 126 (by omega))⟩
theorem ap_feed (hI : Inv c D) (x y z : Int32) : ap d L xs c D 96 [some (.ref 17), some (.int x), some (.int y), some (.int z)] 226 [some (.ref 109), some (.int x), some (.int y), some (.int z), none, none] := by
  obtain ⟨h0, -, -, ⟨len, l96, t1, t2, t3⟩, -⟩ := id hI
  by_cases h12 : len + 12 ≤ 96
  · have a1 := cc_feed (sx_rom L xs) c D (d + 99) len x y z t1 h12
    have a2 := rc_feed (sx_rom L xs) c (mx_up (mx_up D 21 (ap_n (D 21) len (by_g by_c x y z) 12)) 20 (mx_up (D 20) 1 (nI (len + 12)))) (d + 100) len x y z t2 h12
    refine ap_c (nI (len + 12)) _ _ a1 a2 (Inv_tap hI ⟨len + 12, h12, rfl, rfl, ?_⟩ ?_ ?_)
    · intro i hi
      show ∃ b : Nat, b < 256 ∧ ap_n (D 122) len (by_g by_r x y z) 12 i = nI b ∧ ap_n (D 21) len (by_g by_c x y z) 12 i = (nI b).toInt8.toInt32
      rw [ap_n_at, ap_n_at]
      by_cases e : len ≤ i
      · rw [if_pos ⟨e, hi⟩, if_pos ⟨e, hi⟩]
        exact by_ok _ _ (by omega)
      · rw [if_neg (by omega), if_neg (by omega)]
        exact t3 i (by omega)
    · intro k hk
      show mx_up (D 109) 14 (nI (len + 12)) k = _
      exact up_n _ _ _ _ (by omega)
    · intro a ha
      rw [up_n _ _ _ _ (by omega), up_n _ _ _ _ (by omega), up_n _ _ _ _ (by omega), up_n _ _ _ _ (by omega)]
  · have e12 : nI len + 12 = nI (len + 12) := nI_add len 12
    have c0 : (96 < nI (len + 12)) = True := nz_gt_96 (by omega) (by omega)
    refine ap_c (-1000000003) D D ?_ ?_ hI
    · simp (disch := first | assumption | omega | exact kd_sh _ _ _ (by assumption) | exact kd_sea _ _ _ (by assumption) | exact is_bts (by assumption) _ (by omega) | exact kd_bt _ _ _ (by first | assumption | exact is_bts (by assumption) _ (by omega)) | exact kd_109 _ _ _ | exact kd_17 _ _ _ | exact kd_20 _ _ _) only [iq_96_0, iq_96_1, iq_96_4, iq_96_7, iq_96_9, iq_96_10, iq_96_12, iq_96_15, iq_96_17, iq_96_18, iq_96_19, iq_96_22, iq_96_23, iq_96_26, iq_96_27, iq_96_30, iq_96_31, iq_96_34, iq_96_35, iq_96_38, iq_96_39, iq_96_42, iq_96_43, iq_96_46, iq_96_49, Option.bind_some, Option.toList, List.cons_append, List.nil_append, ↓reduceIte, nI_1, Int32.reduceLT, Int32.reduceLE, dv_1, dv_2, dv_3, dv_4, dv_6, dv_8, dv_10, dv_20, dv_100, dv_200, dv_500, Bool.false_eq_true, gf_17_0, gf_17_1, gf_17_2, gf_17_3, gf_17_4, gf_17_5, gf_17_6, gf_17_7, gf_17_8, gf_17_9, gf_17_10, gf_17_11, gf_17_12, gf_17_13, kd_17, pf_17_4, pf_17_13, gf_20_0, gf_20_1, gf_20_2, gf_20_3, gf_20_4, gf_20_5, gf_20_6, gf_20_7, gf_20_8, gf_20_9, kd_20, pf_20_1, pf_20_2, pf_20_3, pf_20_4, pf_20_5, pf_20_6, pf_20_7, pf_20_9, t1, e12, c0]
    · simp (disch := first | assumption | omega | exact kd_sh _ _ _ (by assumption) | exact kd_sea _ _ _ (by assumption) | exact is_bts (by assumption) _ (by omega) | exact kd_bt _ _ _ (by first | assumption | exact is_bts (by assumption) _ (by omega)) | exact kd_109 _ _ _ | exact kd_17 _ _ _ | exact kd_20 _ _ _) only [iq_226_0, iq_226_1, iq_226_4, iq_226_6, iq_226_7, iq_226_9, iq_226_12, iq_226_14, iq_226_15, iq_226_16, iq_226_18, iq_226_20, iq_226_22, iq_226_25, iq_226_27, iq_226_28, iq_226_31, iq_226_32, iq_226_35, iq_226_37, iq_226_39, iq_226_42, iq_226_43, iq_226_46, iq_226_47, iq_226_49, iq_226_50, iq_226_53, iq_226_54, iq_226_57, iq_226_59, iq_226_61, iq_226_63, iq_226_65, iq_226_66, iq_226_67, iq_226_68, iq_226_69, iq_226_70, iq_226_73, iq_226_74, iq_226_75, iq_226_76, iq_226_77, iq_226_80, iq_226_81, iq_226_82, iq_226_85, iq_226_88, iq_226_91, iq_226_92, iq_226_95, Option.bind_some, Option.toList, List.cons_append, List.nil_append, ↓reduceIte, nI_1, Int32.reduceLT, Int32.reduceLE, dv_1, dv_2, dv_3, dv_4, dv_6, dv_8, dv_10, dv_20, dv_100, dv_200, dv_500, Bool.false_eq_true, gf_109_0, gf_109_1, gf_109_2, gf_109_3, gf_109_4, gf_109_5, gf_109_6, gf_109_7, gf_109_8, gf_109_9, gf_109_10, gf_109_11, gf_109_12, gf_109_13, gf_109_14, gf_109_15, gf_109_16, gf_109_17, gf_109_18, gf_109_19, gf_109_20, gf_109_21, gf_109_22, gf_109_23, gf_109_24, gf_109_25, gf_109_26, gf_109_27, gf_109_28, gf_109_29, gf_109_30, kd_109, t2, e12, c0]
theorem ap_trim (hI : Inv c D) (x : Int32) : ap d L xs c D 98 [some (.ref 17), some (.int x)] 227 [some (.ref 109), some (.int x)] := by
  obtain ⟨h0, -, -, ⟨len, l96, t1, t2, t3⟩, -⟩ := id hI
  by_cases hx : ¬ x < 0 ∧ ¬ nI len < x
  · obtain ⟨k, hk, rfl⟩ := i3_rg len (by omega) hx
    have px := eq_true hx
    have x1 := eq_false hx.1
    have x2 := eq_false hx.2
    refine ap_c (nI k) (mx_up D 20 (mx_up (D 20) 1 (nI k))) (mx_up (mx_up D 20 (mx_up (D 20) 1 (nI k))) 109 (mx_up (D 109) 14 (nI k))) ?_ ?_ (Inv_tap hI ⟨k, by omega, rfl, rfl, fun i hi => t3 i (by omega)⟩ ?_ ?_)
    · simp (disch := first | assumption | omega | exact kd_sh _ _ _ (by assumption) | exact kd_sea _ _ _ (by assumption) | exact is_bts (by assumption) _ (by omega) | exact kd_bt _ _ _ (by first | assumption | exact is_bts (by assumption) _ (by omega)) | exact kd_109 _ _ _ | exact kd_17 _ _ _ | exact kd_20 _ _ _) only [iq_98_0, iq_98_1, iq_98_4, iq_98_5, iq_98_6, iq_98_9, iq_98_12, iq_98_15, iq_98_17, iq_98_18, iq_98_19, iq_98_22, iq_98_23, iq_98_26, iq_98_27, Option.bind_some, Option.toList, List.cons_append, List.nil_append, ↓reduceIte, nI_1, Int32.reduceLT, Int32.reduceLE, dv_1, dv_2, dv_3, dv_4, dv_6, dv_8, dv_10, dv_20, dv_100, dv_200, dv_500, Bool.false_eq_true, gf_17_0, gf_17_1, gf_17_2, gf_17_3, gf_17_4, gf_17_5, gf_17_6, gf_17_7, gf_17_8, gf_17_9, gf_17_10, gf_17_11, gf_17_12, gf_17_13, kd_17, pf_17_4, pf_17_13, gf_20_0, gf_20_1, gf_20_2, gf_20_3, gf_20_4, gf_20_5, gf_20_6, gf_20_7, gf_20_8, gf_20_9, kd_20, pf_20_1, pf_20_2, pf_20_3, pf_20_4, pf_20_5, pf_20_6, pf_20_7, pf_20_9, t1, x1, x2]
    · simp (disch := first | assumption | omega | exact kd_sh _ _ _ (by assumption) | exact kd_sea _ _ _ (by assumption) | exact is_bts (by assumption) _ (by omega) | exact kd_bt _ _ _ (by first | assumption | exact is_bts (by assumption) _ (by omega)) | exact kd_109 _ _ _ | exact kd_17 _ _ _ | exact kd_20 _ _ _) only [iq_227_0, iq_227_1, iq_227_2, iq_227_3, iq_227_4, iq_227_7, iq_227_8, iq_227_11, iq_227_14, iq_227_16, iq_227_17, iq_227_18, iq_227_19, iq_227_22, iq_227_23, Option.bind_some, Option.toList, List.cons_append, List.nil_append, ↓reduceIte, nI_1, Int32.reduceLT, Int32.reduceLE, dv_1, dv_2, dv_3, dv_4, dv_6, dv_8, dv_10, dv_20, dv_100, dv_200, dv_500, Bool.false_eq_true, rc_ee, rc_ge_0, rc_le_0, rc_ge_1, rc_le_1, rc_ge_2, rc_le_2, rc_ge_3, rc_le_3, rc_ge_4, rc_le_4, rc_ge_5, rc_le_5, rc_ge_9, rc_le_9, rc_ge_30, rc_le_30, rc_ge_40, rc_le_40, rc_ge_48, rc_le_48, rc_ge_50, rc_le_50, rc_ge_57, rc_le_57, rc_ge_60, rc_le_60, rc_ge_97, rc_le_97, rc_ge_100, rc_le_100, rc_ge_122, rc_le_122, rc_ge_9999, rc_le_9999, rc_ge_99999, rc_le_99999, rc_ge_m99999, rc_le_m99999, rc_ge_m1, rc_le_m1, gf_109_0, gf_109_1, gf_109_2, gf_109_3, gf_109_4, gf_109_5, gf_109_6, gf_109_7, gf_109_8, gf_109_9, gf_109_10, gf_109_11, gf_109_12, gf_109_13, gf_109_14, gf_109_15, gf_109_16, gf_109_17, gf_109_18, gf_109_19, gf_109_20, gf_109_21, gf_109_22, gf_109_23, gf_109_24, gf_109_25, gf_109_26, gf_109_27, gf_109_28, gf_109_29, gf_109_30, kd_109, pf_109_3, pf_109_14, pf_109_15, pf_109_16, pf_109_17, pf_109_18, pf_109_19, pf_109_20, pf_109_21, pf_109_22, pf_109_23, pf_109_24, pf_109_29, up_s, up_up, up_n, ne_eq, Nat.reduceEqDiff, not_false_eq_true, t2, px]
    · intro j hj
      show mx_up (D 109) 14 (nI k) j = _
      exact up_n _ _ _ _ (by omega)
    · intro a ha
      rw [up_n _ _ _ _ (by omega), up_n _ _ _ _ (by omega)]
  · have px := eq_false hx
    refine ap_c (-1000000001) D D ?_ ?_ hI
    · by_cases x1 : x < 0
      · simp (disch := first | assumption | omega | exact kd_sh _ _ _ (by assumption) | exact kd_sea _ _ _ (by assumption) | exact is_bts (by assumption) _ (by omega) | exact kd_bt _ _ _ (by first | assumption | exact is_bts (by assumption) _ (by omega)) | exact kd_109 _ _ _ | exact kd_17 _ _ _ | exact kd_20 _ _ _) only [iq_98_0, iq_98_1, iq_98_4, iq_98_5, iq_98_6, iq_98_9, iq_98_12, iq_98_15, iq_98_17, iq_98_18, iq_98_19, iq_98_22, iq_98_23, iq_98_26, iq_98_27, Option.bind_some, Option.toList, List.cons_append, List.nil_append, ↓reduceIte, nI_1, Int32.reduceLT, Int32.reduceLE, dv_1, dv_2, dv_3, dv_4, dv_6, dv_8, dv_10, dv_20, dv_100, dv_200, dv_500, Bool.false_eq_true, x1]
      · have x2 : nI len < x := by
          by_cases y : nI len < x
          · exact y
          · exact absurd ⟨x1, y⟩ hx
        simp (disch := first | assumption | omega | exact kd_sh _ _ _ (by assumption) | exact kd_sea _ _ _ (by assumption) | exact is_bts (by assumption) _ (by omega) | exact kd_bt _ _ _ (by first | assumption | exact is_bts (by assumption) _ (by omega)) | exact kd_109 _ _ _ | exact kd_17 _ _ _ | exact kd_20 _ _ _) only [iq_98_0, iq_98_1, iq_98_4, iq_98_5, iq_98_6, iq_98_9, iq_98_12, iq_98_15, iq_98_17, iq_98_18, iq_98_19, iq_98_22, iq_98_23, iq_98_26, iq_98_27, Option.bind_some, Option.toList, List.cons_append, List.nil_append, ↓reduceIte, nI_1, Int32.reduceLT, Int32.reduceLE, dv_1, dv_2, dv_3, dv_4, dv_6, dv_8, dv_10, dv_20, dv_100, dv_200, dv_500, Bool.false_eq_true, gf_17_0, gf_17_1, gf_17_2, gf_17_3, gf_17_4, gf_17_5, gf_17_6, gf_17_7, gf_17_8, gf_17_9, gf_17_10, gf_17_11, gf_17_12, gf_17_13, kd_17, pf_17_4, pf_17_13, gf_20_0, gf_20_1, gf_20_2, gf_20_3, gf_20_4, gf_20_5, gf_20_6, gf_20_7, gf_20_8, gf_20_9, kd_20, pf_20_1, pf_20_2, pf_20_3, pf_20_4, pf_20_5, pf_20_6, pf_20_7, pf_20_9, t1, x1, x2]
    · simp (disch := first | assumption | omega | exact kd_sh _ _ _ (by assumption) | exact kd_sea _ _ _ (by assumption) | exact is_bts (by assumption) _ (by omega) | exact kd_bt _ _ _ (by first | assumption | exact is_bts (by assumption) _ (by omega)) | exact kd_109 _ _ _ | exact kd_17 _ _ _ | exact kd_20 _ _ _) only [iq_227_0, iq_227_1, iq_227_2, iq_227_3, iq_227_4, iq_227_7, iq_227_8, iq_227_11, iq_227_14, iq_227_16, iq_227_17, iq_227_18, iq_227_19, iq_227_22, iq_227_23, Option.bind_some, Option.toList, List.cons_append, List.nil_append, ↓reduceIte, nI_1, Int32.reduceLT, Int32.reduceLE, dv_1, dv_2, dv_3, dv_4, dv_6, dv_8, dv_10, dv_20, dv_100, dv_200, dv_500, Bool.false_eq_true, rc_ee, rc_ge_0, rc_le_0, rc_ge_1, rc_le_1, rc_ge_2, rc_le_2, rc_ge_3, rc_le_3, rc_ge_4, rc_le_4, rc_ge_5, rc_le_5, rc_ge_9, rc_le_9, rc_ge_30, rc_le_30, rc_ge_40, rc_le_40, rc_ge_48, rc_le_48, rc_ge_50, rc_le_50, rc_ge_57, rc_le_57, rc_ge_60, rc_le_60, rc_ge_97, rc_le_97, rc_ge_100, rc_le_100, rc_ge_122, rc_le_122, rc_ge_9999, rc_le_9999, rc_ge_99999, rc_le_99999, rc_ge_m99999, rc_le_m99999, rc_ge_m1, rc_le_m1, gf_109_0, gf_109_1, gf_109_2, gf_109_3, gf_109_4, gf_109_5, gf_109_6, gf_109_7, gf_109_8, gf_109_9, gf_109_10, gf_109_11, gf_109_12, gf_109_13, gf_109_14, gf_109_15, gf_109_16, gf_109_17, gf_109_18, gf_109_19, gf_109_20, gf_109_21, gf_109_22, gf_109_23, gf_109_24, gf_109_25, gf_109_26, gf_109_27, gf_109_28, gf_109_29, gf_109_30, kd_109, t2, px]
