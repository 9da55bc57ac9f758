section MX
variable {s s' : Nat → Int32}
theorem sp_dp_cgb (h : ∀ i, i < 2875 → s' i = s i) {t : Nat} (ht : t < 14) : ∀ k, k ≤ 97 → sp_dp s' t k = sp_dp s t k
  | 0, _ => rfl
  | k + 1, hk => by
    unfold sp_dp
    rw [sp_dp_cgb h ht k (by omega)]
    unfold sp_wt sp_wv
    rw [h _ (by omega), h _ (by omega)]
theorem sp_cnt_cgb (h : ∀ i, i < 2875 → s' i = s i) (key : Int32) : ∀ m, m ≤ 14 → sp_cnt s' key m = sp_cnt s key m
  | 0, _ => rfl
  | m + 1, hm => by rw [sp_cnt_s, sp_cnt_s, h _ (by omega), sp_cnt_cgb h key m (by omega)]
theorem tx_ok_cgb (h : ∀ i, i < 2875 → s' i = s i) {t : Nat} (ht : t < 14) (hx : tx_ok s t) : tx_ok s' t := by
  obtain ⟨q, h1, h2, h3, h4, h5⟩ := hx
  refine ⟨q, by rw [h _ (by omega)]; exact h1, h2, ?_, by rw [sp_dp_cgb h ht q (by omega)]; exact h4, by rw [h _ (by omega)]; exact h5⟩
  intro k hk
  have e1 : sp_wt s' t k = sp_wt s t k := h _ (by omega)
  have e2 : sp_wv s' t k = sp_wv s t k := h _ (by omega)
  rw [e1, e2, sp_dp_cgb h ht k (by omega), h _ (by omega)]
  exact h3 k hk
theorem tx_rel_cgb {c : Nat × Nat} {D : hz_D} {p t : Nat} (hx : tx_rel c D p s t) (h : ∀ i, i < 2875 → s' i = s i) (ht : t < 14) : tx_rel c D p s' t := by
  obtain ⟨h1, h2, h3, q, o, o', a1, a2, a3, a4, a5, a6, a7, a8, a9, a10⟩ := hx
  refine ⟨h1, by rw [h2, h _ (by omega)], by rw [h3, h _ (by omega)], q, o, o', by rw [h _ (by omega)]; exact a1, a2, by rw [h _ (by omega)]; exact a3, a4, a5, a6, a7, a8, ?_, ?_⟩
  · intro k hk
    have e1 : sp_wt s' t k = sp_wt s t k := h _ (by omega)
    have e2 : sp_wv s' t k = sp_wv s t k := h _ (by omega)
    rw [a9 k hk, h (75 + 200 * t) (by omega), e1, e2]
  · intro k hk
    have e1 : sp_wt s' t k = sp_wt s t k := h _ (by omega)
    rw [e1, sp_dp_cgb h ht k (by omega)]
    exact a10 k hk
theorem sv_mix {n m : Nat} (hv : sv s n m) (h : ∀ i, i < 2875 → s' i = s i) : sv s' n m := by
  obtain ⟨h1, h2, h3, h4, h5, h6, h7⟩ := hv
  refine ⟨by rw [h _ (by omega)]; exact h1, h2, by rw [h _ (by omega)]; exact h3, h4, by rw [h _ (by omega)]; exact h5, ?_, fun t ht => tx_ok_cgb h (by omega) (h7 t ht)⟩
  intro k hk
  unfold sv_b
  rw [h _ (by omega), h _ (by omega), h _ (by omega), h _ (by omega)]
  exact h6 k hk
theorem sea_mix {c : Nat × Nat} {D : hz_D} {B n m : Nat} (hr : sea_rel c D B s n m) (hn : n ≤ 9) (hm : m ≤ 14) (h : ∀ i, i < 2875 → s' i = s i) : sea_rel c D B s' n m := by
  obtain ⟨h1, h2, h3, h4, h5, h6⟩ := hr
  refine ⟨?_, ?_, ?_, h4, ?_, ?_⟩
  · unfold sf_rel
    rw [h _ (by omega), h _ (by omega), h _ (by omega), h _ (by omega), h _ (by omega), h _ (by omega), h _ (by omega)]
    exact h1
  · intro i hi
    rw [h _ (by omega)]
    exact h2 i hi
  · intro k hk
    unfold bt_rel
    rw [h _ (by omega), h _ (by omega), h _ (by omega), h _ (by omega), h _ (by omega), h _ (by omega), h _ (by omega)]
    exact h3 k hk
  · intro k hk
    rw [sp_cnt_cgb h _ m hm]
    exact h5 k hk
  · intro t ht
    obtain ⟨p, a1, a2, a3⟩ := h6 t ht
    exact ⟨p, a1, a2, tx_rel_cgb a3 h (by omega)⟩
end MX
theorem sp_mix_lt {n : Nat} {f g : Nat → Int32} {i : Nat} (h : i < n) : sp_mix n f g i = f i := if_pos h
variable {d L : Nat} {xs : Nat → Int32} {c : Nat × Nat} {D : hz_D}
theorem ap_keep (hI : Inv c D) : ap d L xs c D 169 [some (.ref 17)] 263 [some (.ref 109)] := by
  obtain ⟨h0, ⟨n, m, hr, hv, htn, hh⟩, -, a3, a4, a5, a6⟩ := id hI
  have h35 := is_s35
  have h63 := is_s63
  have hn9 := sv_n9 hv
  have hm14 := sv_m14 hv
  obtain ⟨D1, g1, g2, g3, g4⟩ := cc_become c D (d + 98) L xs h35 h63 (by omega) hr hv htn
  have hn1 : D1 35 1 = nI n := by rw [g4 35 (by omega)]; exact hr.1.1.trans (sv_n hv)
  have e110 : D1 110 = D 110 := g4 110 (by omega)
  have e111 : D1 111 = D 111 := g4 111 (by omega)
  have e109 : D1 109 = D 109 := g4 109 (by omega)
  have e17 : D1 17 = D 17 := g4 17 (by omega)
  obtain ⟨D2, hD2⟩ : ∃ D2, D2 = mx_up D1 17 (mx_up (D 17) 4 1) := ⟨_, rfl⟩
  obtain ⟨D3, hD3⟩ : ∃ D3, D3 = mx_up (mx_up D2 109 (mx_up (D 109) 3 1)) 111 (sp_mix 2875 (D 110) (D 111)) := ⟨_, rfl⟩
  have fD : ∀ a, a ≠ 17 → a ≠ 109 → a ≠ 111 → ¬ (63 ≤ a ∧ a ≤ 76) → D3 a = D a := fun a q1 q2 q3 q4 => by
    rw [hD3, up_n _ _ _ _ q3, up_n _ _ _ _ q2, hD2, up_n _ _ _ _ q1, g4 a (by omega)]
  have f17 : D3 17 = mx_up (D 17) 4 1 := by rw [hD3, up_n _ _ _ _ (by omega), up_n _ _ _ _ (by omega), hD2, up_s]
  have f109 : D3 109 = mx_up (D 109) 3 1 := by rw [hD3, up_n _ _ _ _ (by omega), up_s]
  have f111 : D3 111 = sp_mix 2875 (D 110) (D 111) := by rw [hD3, up_s]
  have fB : ∀ a, (63 ≤ a ∧ a ≤ 76) ∨ (128 ≤ a ∧ (a - 128) % 3 ≠ 2) → D3 a = D1 a := fun a ha => by
    rw [hD3, up_n _ _ _ _ (by omega), up_n _ _ _ _ (by omega), hD2, up_n _ _ _ _ (by omega)]
  refine ap_c (nI n) D2 D3 ?_ ?_ ?_
  · rw [hD2]
    have i17 : mx_tcOk 1 (.int 1) = true := rfl
    simp (disch := first | assumption | omega | exact kd_sea _ _ _ (by assumption) | exact is_bts (by assumption) _ (by omega) | exact kd_bt _ _ _ (is_bts (by assumption) _ (by omega)) | exact kd_109 _ _ _ | exact kd_17 _ _ _ | exact kd_20 _ _ _) only [iq_169_0, iq_169_1, iq_169_4, iq_169_5, iq_169_8, iq_169_11, iq_169_12, iq_169_13, iq_169_16, iq_169_17, iq_169_20, iq_169_23, gf_17_0, gf_17_1, gf_17_2, gf_17_3, gf_17_4, gf_17_5, gf_17_6, gf_17_7, gf_17_8, gf_17_9, gf_17_10, gf_17_11, gf_17_12, gf_17_13, kd_17, pf_17_4, pf_17_13, gf_sea_0, gf_sea_1, gf_sea_2, gf_sea_3, gf_sea_4, gf_sea_5, gf_sea_6, gf_sea_7, gf_sea_8, gf_sea_9, gf_sea_10, kd_sea, pf_sea_1, pf_sea_2, pf_sea_4, pf_sea_5, pf_sea_6, pf_sea_7, pf_sea_9, Option.bind_some, Option.toList, List.cons_append, List.nil_append, ↓reduceIte, nI_1, Int32.reduceLT, Int32.reduceLE, dv_1, dv_2, dv_3, dv_4, dv_6, dv_8, dv_10, dv_20, dv_100, dv_200, dv_500, Bool.false_eq_true, g1, hn1, e17, up_n, up_s]
  · have i17 : mx_tcOk 1 (.int 1) = true := rfl
    have q1 : D2 109 = D 109 := by rw [hD2, up_n _ _ _ _ (by omega)]; exact e109
    have q2 : D2 110 = D 110 := by rw [hD2, up_n _ _ _ _ (by omega)]; exact e110
    have q3 : D2 111 = D 111 := by rw [hD2, up_n _ _ _ _ (by omega)]; exact e111
    rw [hD3]
    simp (disch := first | assumption | omega | exact kd_sea _ _ _ (by assumption) | exact is_bts (by assumption) _ (by omega) | exact kd_bt _ _ _ (is_bts (by assumption) _ (by omega)) | exact kd_109 _ _ _ | exact kd_17 _ _ _ | exact kd_20 _ _ _) only [iq_263_0, iq_263_1, iq_263_2, iq_263_5, iq_263_6, iq_263_7, iq_263_10, iq_263_11, iq_263_14, iq_263_17, iq_263_18, iq_263_21, iq_263_22, iq_263_23, gf_109_0, gf_109_1, gf_109_2, gf_109_3, gf_109_4, gf_109_5, gf_109_6, gf_109_7, gf_109_8, gf_109_9, gf_109_10, gf_109_11, gf_109_12, gf_109_13, gf_109_14, gf_109_15, gf_109_16, gf_109_17, gf_109_18, gf_109_19, gf_109_20, gf_109_21, gf_109_22, gf_109_23, gf_109_24, gf_109_25, gf_109_26, gf_109_27, gf_109_28, gf_109_29, gf_109_30, kd_109, pf_109_3, ld_110_0, st_110_0, ld_110_1, st_110_1, ld_110_2, st_110_2, ld_110_3, st_110_3, ld_110_4, st_110_4, ld_110_5, st_110_5, ld_110_6, st_110_6, ld_110_7, st_110_7, ld_110_8, st_110_8, ld_110_9, st_110_9, ld_110_10, st_110_10, ld_110_11, st_110_11, ld_110_12, st_110_12, ld_110_75, st_110_75, Option.bind_some, Option.toList, List.cons_append, List.nil_append, ↓reduceIte, nI_1, Int32.reduceLT, Int32.reduceLE, dv_1, dv_2, dv_3, dv_4, dv_6, dv_8, dv_10, dv_20, dv_100, dv_200, dv_500, Bool.false_eq_true, up_s, up_up, up_n, ne_eq, Nat.reduceEqDiff, not_false_eq_true, rc_aside_0_1, q1, q2, q3, sv_n hv, i17]
  · refine ⟨h0, ⟨n, m, I_sea_fr ⟨hr, hv, htn, hh⟩ (fD 110 (by omega) (by omega) (by omega) (by omega)) (fun a ha => fD a (by omega) (by omega) (by omega) (by omega))⟩, ⟨n, m, Or.inr ⟨by rw [f17]; rfl, by rw [f109]; rfl, ?_, ?_, ?_, ?_⟩⟩, I_tap_fr a3 (by rw [fD 20 (by omega) (by omega) (by omega) (by omega)]) (by rw [f109]; rfl) (fD 21 (by omega) (by omega) (by omega) (by omega)) (fD 122 (by omega) (by omega) (by omega) (by omega)), I_shs_fr a4 (fun a ha => fD a (by omega) (by omega) (by omega) (by omega)), I_slt_fr a5 (fun a ha => fD a (by omega) (by omega) (by omega) (by omega)), I_wai_fr a6 (by rw [f17]; rfl) (by rw [f109]; rfl) (fD 28 (by omega) (by omega) (by omega) (by omega)) (fD 126 (by omega) (by omega) (by omega) (by omega))⟩
    · rw [f111]
      exact sea_mix (sea_fr g2 hn9 (fun a ha => fB a (by omega))) hn9 hm14 (fun i hi => sp_mix_lt hi)
    · rw [f111]
      exact sv_mix hv (fun i hi => sp_mix_lt hi)
    · intro t ht
      rw [fB (63 + 3) (by omega)]
      exact g3 t ht
    · rw [f111, sp_mix_lt (by omega)]
      exact hh
theorem ap_back (hI : Inv c D) : ap d L xs c D 170 [some (.ref 17)] 264 [some (.ref 109)] := by
  obtain ⟨h0, -, ⟨n, m, hi⟩, -⟩ := id hI
  have h35 := is_s35
  have h63 := is_s63
  rcases hi with ⟨e1, e2⟩ | ⟨e1, e2, hr, hv, htn, hh⟩
  · refine ap_c (-1000000002) D D ?_ ?_ hI
    · simp (disch := first | assumption | omega | exact kd_sea _ _ _ (by assumption) | exact is_bts (by assumption) _ (by omega) | exact kd_bt _ _ _ (is_bts (by assumption) _ (by omega)) | exact kd_109 _ _ _ | exact kd_17 _ _ _ | exact kd_20 _ _ _) only [iq_170_0, iq_170_1, iq_170_4, iq_170_7, iq_170_10, iq_170_11, iq_170_12, iq_170_15, iq_170_16, iq_170_19, iq_170_22, iq_170_23, iq_170_26, iq_170_29, gf_17_0, gf_17_1, gf_17_2, gf_17_3, gf_17_4, gf_17_5, gf_17_6, gf_17_7, gf_17_8, gf_17_9, gf_17_10, gf_17_11, gf_17_12, gf_17_13, kd_17, pf_17_4, pf_17_13, Option.bind_some, Option.toList, List.cons_append, List.nil_append, ↓reduceIte, nI_1, Int32.reduceLT, Int32.reduceLE, dv_1, dv_2, dv_3, dv_4, dv_6, dv_8, dv_10, dv_20, dv_100, dv_200, dv_500, Bool.false_eq_true, e1]
    · simp (disch := first | assumption | omega | exact kd_sea _ _ _ (by assumption) | exact is_bts (by assumption) _ (by omega) | exact kd_bt _ _ _ (is_bts (by assumption) _ (by omega)) | exact kd_109 _ _ _ | exact kd_17 _ _ _ | exact kd_20 _ _ _) only [iq_264_0, iq_264_1, iq_264_4, iq_264_7, iq_264_10, iq_264_11, iq_264_12, iq_264_13, iq_264_16, iq_264_17, iq_264_20, iq_264_23, iq_264_24, iq_264_27, iq_264_28, iq_264_29, gf_109_0, gf_109_1, gf_109_2, gf_109_3, gf_109_4, gf_109_5, gf_109_6, gf_109_7, gf_109_8, gf_109_9, gf_109_10, gf_109_11, gf_109_12, gf_109_13, gf_109_14, gf_109_15, gf_109_16, gf_109_17, gf_109_18, gf_109_19, gf_109_20, gf_109_21, gf_109_22, gf_109_23, gf_109_24, gf_109_25, gf_109_26, gf_109_27, gf_109_28, gf_109_29, gf_109_30, kd_109, Option.bind_some, Option.toList, List.cons_append, List.nil_append, ↓reduceIte, nI_1, Int32.reduceLT, Int32.reduceLE, dv_1, dv_2, dv_3, dv_4, dv_6, dv_8, dv_10, dv_20, dv_100, dv_200, dv_500, Bool.false_eq_true, e2]
  · have hn9 := sv_n9 hv
    have hm14 := sv_m14 hv
    obtain ⟨D1, g1, g2, g3, g4⟩ := cc_become c D (d + 98) L xs h63 h35 (by omega) hr hv htn
    have hn1 : D1 35 1 = nI n := g2.1.1.trans (sv_n hv)
    have e110 : D1 110 = D 110 := g4 110 (by omega)
    have e111 : D1 111 = D 111 := g4 111 (by omega)
    have e109 : D1 109 3 = 1 := by rw [g4 109 (by omega)]; exact e2
    have hr' := sea_mix (s' := sp_mix 2875 (D 111) (D 110)) g2 hn9 hm14 (fun i hi => sp_mix_lt hi)
    have hv' := sv_mix (s' := sp_mix 2875 (D 111) (D 110)) hv (fun i hi => sp_mix_lt hi)
    have n0 : sp_mix 2875 (D 111) (D 110) 0 = nI n := sv_n hv'
    refine ap_c (nI n) D1 (mx_up D1 110 (sp_mix 2875 (D 111) (D 110))) ?_ ?_ ?_
    · simp (disch := first | assumption | omega | exact kd_sea _ _ _ (by assumption) | exact is_bts (by assumption) _ (by omega) | exact kd_bt _ _ _ (is_bts (by assumption) _ (by omega)) | exact kd_109 _ _ _ | exact kd_17 _ _ _ | exact kd_20 _ _ _) only [iq_170_0, iq_170_1, iq_170_4, iq_170_7, iq_170_10, iq_170_11, iq_170_12, iq_170_15, iq_170_16, iq_170_19, iq_170_22, iq_170_23, iq_170_26, iq_170_29, gf_17_0, gf_17_1, gf_17_2, gf_17_3, gf_17_4, gf_17_5, gf_17_6, gf_17_7, gf_17_8, gf_17_9, gf_17_10, gf_17_11, gf_17_12, gf_17_13, kd_17, pf_17_4, pf_17_13, gf_sea_0, gf_sea_1, gf_sea_2, gf_sea_3, gf_sea_4, gf_sea_5, gf_sea_6, gf_sea_7, gf_sea_8, gf_sea_9, gf_sea_10, kd_sea, pf_sea_1, pf_sea_2, pf_sea_4, pf_sea_5, pf_sea_6, pf_sea_7, pf_sea_9, Option.bind_some, Option.toList, List.cons_append, List.nil_append, ↓reduceIte, nI_1, Int32.reduceLT, Int32.reduceLE, dv_1, dv_2, dv_3, dv_4, dv_6, dv_8, dv_10, dv_20, dv_100, dv_200, dv_500, Bool.false_eq_true, e1, g1, hn1]
    · simp (disch := first | assumption | omega | exact kd_sea _ _ _ (by assumption) | exact is_bts (by assumption) _ (by omega) | exact kd_bt _ _ _ (is_bts (by assumption) _ (by omega)) | exact kd_109 _ _ _ | exact kd_17 _ _ _ | exact kd_20 _ _ _) only [iq_264_0, iq_264_1, iq_264_4, iq_264_7, iq_264_10, iq_264_11, iq_264_12, iq_264_13, iq_264_16, iq_264_17, iq_264_20, iq_264_23, iq_264_24, iq_264_27, iq_264_28, iq_264_29, gf_109_0, gf_109_1, gf_109_2, gf_109_3, gf_109_4, gf_109_5, gf_109_6, gf_109_7, gf_109_8, gf_109_9, gf_109_10, gf_109_11, gf_109_12, gf_109_13, gf_109_14, gf_109_15, gf_109_16, gf_109_17, gf_109_18, gf_109_19, gf_109_20, gf_109_21, gf_109_22, gf_109_23, gf_109_24, gf_109_25, gf_109_26, gf_109_27, gf_109_28, gf_109_29, gf_109_30, kd_109, ld_110_0, st_110_0, ld_110_1, st_110_1, ld_110_2, st_110_2, ld_110_3, st_110_3, ld_110_4, st_110_4, ld_110_5, st_110_5, ld_110_6, st_110_6, ld_110_7, st_110_7, ld_110_8, st_110_8, ld_110_9, st_110_9, ld_110_10, st_110_10, ld_110_11, st_110_11, ld_110_12, st_110_12, ld_110_75, st_110_75, Option.bind_some, Option.toList, List.cons_append, List.nil_append, ↓reduceIte, nI_1, Int32.reduceLT, Int32.reduceLE, dv_1, dv_2, dv_3, dv_4, dv_6, dv_8, dv_10, dv_20, dv_100, dv_200, dv_500, Bool.false_eq_true, up_s, up_up, up_n, ne_eq, Nat.reduceEqDiff, not_false_eq_true, rc_aside_1_0, e109, e110, e111, n0]
    · refine Inv_sea1 hI (I_mk hr' hv' g3 ?_ (up_s _ _ _) (fun a ha => up_n _ _ _ _ (by omega))) (fun a ha => by rw [up_n _ _ _ _ (by omega), g4 a (by omega)])
      rw [sp_mix_lt (by omega)]
      exact hh
theorem ap_tell (hI : Inv c D) (v : Int32) : ap d L xs c D 167 [some (.ref 17), some (.int v)] 260 [some (.ref 109), some (.int v)] := by
  obtain ⟨h0, ⟨n, m, hs⟩, ⟨n', m', hi⟩, a3, a4, a5, ⟨w, w60, w1, w2, w3⟩⟩ := id hI
  by_cases e : w = 60
  · have hw : nI w = 60 := by rw [e]; rfl
    refine ap_c (-1000000003) D D ?_ ?_ hI
    · simp (disch := first | assumption | omega | exact kd_sea _ _ _ (by assumption) | exact is_bts (by assumption) _ (by omega) | exact kd_bt _ _ _ (is_bts (by assumption) _ (by omega)) | exact kd_109 _ _ _ | exact kd_17 _ _ _ | exact kd_20 _ _ _) only [iq_167_0, iq_167_1, iq_167_4, iq_167_6, iq_167_9, iq_167_11, iq_167_12, iq_167_13, iq_167_16, iq_167_17, iq_167_20, iq_167_21, iq_167_22, iq_167_23, iq_167_24, iq_167_27, iq_167_28, iq_167_29, iq_167_32, iq_167_33, iq_167_36, gf_17_0, gf_17_1, gf_17_2, gf_17_3, gf_17_4, gf_17_5, gf_17_6, gf_17_7, gf_17_8, gf_17_9, gf_17_10, gf_17_11, gf_17_12, gf_17_13, kd_17, pf_17_4, pf_17_13, Option.bind_some, Option.toList, List.cons_append, List.nil_append, ↓reduceIte, nI_1, Int32.reduceLT, Int32.reduceLE, dv_1, dv_2, dv_3, dv_4, dv_6, dv_8, dv_10, dv_20, dv_100, dv_200, dv_500, Bool.false_eq_true, w1, nz_nlt_60]
    · simp (disch := first | assumption | omega | exact kd_sea _ _ _ (by assumption) | exact is_bts (by assumption) _ (by omega) | exact kd_bt _ _ _ (is_bts (by assumption) _ (by omega)) | exact kd_109 _ _ _ | exact kd_17 _ _ _ | exact kd_20 _ _ _) only [iq_260_0, iq_260_1, iq_260_4, iq_260_6, iq_260_9, iq_260_11, iq_260_12, iq_260_13, iq_260_16, iq_260_17, iq_260_20, iq_260_21, iq_260_22, iq_260_23, iq_260_24, iq_260_27, iq_260_28, iq_260_29, iq_260_32, iq_260_33, iq_260_36, gf_109_0, gf_109_1, gf_109_2, gf_109_3, gf_109_4, gf_109_5, gf_109_6, gf_109_7, gf_109_8, gf_109_9, gf_109_10, gf_109_11, gf_109_12, gf_109_13, gf_109_14, gf_109_15, gf_109_16, gf_109_17, gf_109_18, gf_109_19, gf_109_20, gf_109_21, gf_109_22, gf_109_23, gf_109_24, gf_109_25, gf_109_26, gf_109_27, gf_109_28, gf_109_29, gf_109_30, kd_109, Option.bind_some, Option.toList, List.cons_append, List.nil_append, ↓reduceIte, nI_1, Int32.reduceLT, Int32.reduceLE, dv_1, dv_2, dv_3, dv_4, dv_6, dv_8, dv_10, dv_20, dv_100, dv_200, dv_500, Bool.false_eq_true, w2, hw]
  · have hw : (nI w = 60) = False := eq_false (fun z => e ((nI_eq (b := 60) (by omega) (by omega)).mp z))
    refine ap_c (nI (w + 1)) (mx_up (mx_up D 28 (mx_up (D 28) w v)) 17 (mx_up (D 17) 13 (nI (w + 1)))) (mx_up (mx_up (mx_up (mx_up D 28 (mx_up (D 28) w v)) 17 (mx_up (D 17) 13 (nI (w + 1)))) 126 (mx_up (D 126) w v)) 109 (mx_up (D 109) 29 (nI (w + 1)))) ?_ ?_ ?_
    · simp (disch := first | assumption | omega | exact kd_sea _ _ _ (by assumption) | exact is_bts (by assumption) _ (by omega) | exact kd_bt _ _ _ (is_bts (by assumption) _ (by omega)) | exact kd_109 _ _ _ | exact kd_17 _ _ _ | exact kd_20 _ _ _) only [iq_167_0, iq_167_1, iq_167_4, iq_167_6, iq_167_9, iq_167_11, iq_167_12, iq_167_13, iq_167_16, iq_167_17, iq_167_20, iq_167_21, iq_167_22, iq_167_23, iq_167_24, iq_167_27, iq_167_28, iq_167_29, iq_167_32, iq_167_33, iq_167_36, gf_17_0, gf_17_1, gf_17_2, gf_17_3, gf_17_4, gf_17_5, gf_17_6, gf_17_7, gf_17_8, gf_17_9, gf_17_10, gf_17_11, gf_17_12, gf_17_13, kd_17, pf_17_4, pf_17_13, Option.bind_some, Option.toList, List.cons_append, List.nil_append, ↓reduceIte, nI_1, Int32.reduceLT, Int32.reduceLE, dv_1, dv_2, dv_3, dv_4, dv_6, dv_8, dv_10, dv_20, dv_100, dv_200, dv_500, Bool.false_eq_true, up_s, up_up, up_n, ne_eq, Nat.reduceEqDiff, not_false_eq_true, w1, nz_lt_60, st_28]
    · simp (disch := first | assumption | omega | exact kd_sea _ _ _ (by assumption) | exact is_bts (by assumption) _ (by omega) | exact kd_bt _ _ _ (is_bts (by assumption) _ (by omega)) | exact kd_109 _ _ _ | exact kd_17 _ _ _ | exact kd_20 _ _ _) only [iq_260_0, iq_260_1, iq_260_4, iq_260_6, iq_260_9, iq_260_11, iq_260_12, iq_260_13, iq_260_16, iq_260_17, iq_260_20, iq_260_21, iq_260_22, iq_260_23, iq_260_24, iq_260_27, iq_260_28, iq_260_29, iq_260_32, iq_260_33, iq_260_36, gf_109_0, gf_109_1, gf_109_2, gf_109_3, gf_109_4, gf_109_5, gf_109_6, gf_109_7, gf_109_8, gf_109_9, gf_109_10, gf_109_11, gf_109_12, gf_109_13, gf_109_14, gf_109_15, gf_109_16, gf_109_17, gf_109_18, gf_109_19, gf_109_20, gf_109_21, gf_109_22, gf_109_23, gf_109_24, gf_109_25, gf_109_26, gf_109_27, gf_109_28, gf_109_29, gf_109_30, kd_109, pf_109_3, pf_109_14, pf_109_15, pf_109_16, pf_109_17, pf_109_18, pf_109_19, pf_109_20, pf_109_21, pf_109_22, pf_109_23, pf_109_24, pf_109_29, Option.bind_some, Option.toList, List.cons_append, List.nil_append, ↓reduceIte, nI_1, Int32.reduceLT, Int32.reduceLE, dv_1, dv_2, dv_3, dv_4, dv_6, dv_8, dv_10, dv_20, dv_100, dv_200, dv_500, Bool.false_eq_true, up_s, up_up, up_n, ne_eq, Nat.reduceEqDiff, not_false_eq_true, w2, hw, st_126]
    · have fD : ∀ a, a ≠ 28 → a ≠ 17 → a ≠ 126 → a ≠ 109 → (mx_up (mx_up (mx_up (mx_up D 28 (mx_up (D 28) w v)) 17 (mx_up (D 17) 13 (nI (w + 1)))) 126 (mx_up (D 126) w v)) 109 (mx_up (D 109) 29 (nI (w + 1)))) a = D a := fun a q1 q2 q3 q4 => by
        rw [up_n _ _ _ _ q4, up_n _ _ _ _ q3, up_n _ _ _ _ q2, up_n _ _ _ _ q1]
      refine ⟨h0, ⟨n, m, I_sea_fr hs (fD 110 (by omega) (by omega) (by omega) (by omega)) (fun a ha => fD a (by omega) (by omega) (by omega) (by omega))⟩, ⟨n', m', I_img_fr hi (fD 111 (by omega) (by omega) (by omega) (by omega)) rfl rfl (fun a ha => fD a (by omega) (by omega) (by omega) (by omega))⟩, I_tap_fr a3 rfl rfl rfl rfl, I_shs_fr a4 (fun a ha => fD a (by omega) (by omega) (by omega) (by omega)), I_slt_fr a5 (fun a ha => fD a (by omega) (by omega) (by omega) (by omega)), w + 1, by omega, rfl, rfl, ?_⟩
      intro i hi
      show mx_up (D 28) w v i = mx_up (D 126) w v i
      by_cases z : i = w
      · subst z
        rw [up_s, up_s]
      · rw [up_n _ _ _ _ z, up_n _ _ _ _ z]
        exact w3 i (by omega)
