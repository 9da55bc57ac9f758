theorem Inv_mk {c c' : Nat × Nat} {D D' : hz_D} (hI : Inv c D) (hc : 128 ≤ c'.1 ∧ (c'.1 - 128) % 3 = 0 ∧ c'.1 < 600000) (hcc : c.1 ≤ c'.1) (hsea : ∃ n m, I_sea c' D' n m) (hX : ∀ a, a ≠ 20 → a ≠ 22 → a ≠ 109 → a ≠ 110 → a ≠ 35 → a ≠ 38 → a ≠ 39 → a < c.1 → D' a = D a) (h20 : D' 20 1 = 0) (h14 : D' 109 14 = 0) (hk : ∀ k, k < 14 ∨ 24 < k → D' 109 k = D 109 k) : Inv c' D' := by
  obtain ⟨⟨hc1, hc2, hc3⟩, -, ⟨n', m', him⟩, -, a4, a5, a6⟩ := hI
  refine ⟨hc, hsea, ⟨n', m', ?_⟩, ⟨0, by omega, h20, h14, fun i hi => absurd hi (by omega)⟩, I_shs_fr a4 (fun a ha => hX a (by omega) (by omega) (by omega) (by omega) (by omega) (by omega) (by omega) (by omega)), I_slt_fr a5 (fun a ha => hX a (by omega) (by omega) (by omega) (by omega) (by omega) (by omega) (by omega) (by omega)), I_wai_fr a6 (by rw [hX 17 (by omega) (by omega) (by omega) (by omega) (by omega) (by omega) (by omega) (by omega)]) (hk 29 (by omega)) (hX 28 (by omega) (by omega) (by omega) (by omega) (by omega) (by omega) (by omega) (by omega)) (hX 126 (by omega) (by omega) (by omega) (by omega) (by omega) (by omega) (by omega) (by omega))⟩
  have e17 : D' 17 = D 17 := hX 17 (by omega) (by omega) (by omega) (by omega) (by omega) (by omega) (by omega) (by omega)
  rcases him with ⟨b1, b2⟩ | ⟨b1, b2, b3, b4, b5, b6⟩
  · exact Or.inl ⟨by rw [e17]; exact b1, by rw [hk 3 (by omega)]; exact b2⟩
  · have e111 : D' 111 = D 111 := hX 111 (by omega) (by omega) (by omega) (by omega) (by omega) (by omega) (by omega) (by omega)
    refine Or.inr ⟨by rw [e17]; exact b1, by rw [hk 3 (by omega)]; exact b2, ?_, by rw [e111]; exact b4, tn_mv b5 hcc (hX (63 + 3) (by omega) (by omega) (by omega) (by omega) (by omega) (by omega) (by omega) (by omega)), by rw [e111]; exact b6⟩
    rw [e111]
    exact sea_mv b3 (sv_n9 b4) hcc (fun a ha => hX a (by omega) (by omega) (by omega) (by omega) (by omega) (by omega) (by omega) (by omega)) (fun _ _ => rfl)
theorem ps_A_ge (m : Nat) (hm : m ≤ 14) : 75 + 200 * m ≤ ps_A m := by
  unfold ps_A
  by_cases q : m < 14
  · rw [if_pos q]
    omega
  · rw [if_neg q]
    omega
/-- a tape that is no text, or one text too many: nothing but the tape has changed -/
theorem Inv_tx {c : Nat × Nat} {D D' : hz_D} (hI : Inv c D) {n m : Nat} (hs : I_sea c D n m) (hX : ∀ a, a ≠ 20 → a ≠ 22 → a ≠ 109 → a ≠ 110 → D' a = D a) (h20 : D' 20 1 = 0) (h14 : D' 109 14 = 0) (hk : ∀ k, k < 14 ∨ 24 < k → D' 109 k = D 109 k) (hj : ∀ j, j < ps_A m → D' 110 j = D 110 j) : Inv c D' := by
  obtain ⟨hr, hv, htn, hh⟩ := hs
  have hA := ps_A_ge m (sv_m14 hv)
  refine Inv_mk hI hI.1 (Nat.le_refl _) ⟨n, m, sea_mv hr (sv_n9 hv) (Nat.le_refl _) (fun a ha => hX a (by omega) (by omega) (by omega) (by omega)) (fun i hi => hj i (by omega)), sv_mvt hv (fun i hi => hj i (by omega)), tn_mv htn (Nat.le_refl _) (hX (35 + 3) (by omega) (by omega) (by omega) (by omega)), ?_⟩ (fun a h1 h2 h3 h4 _ _ _ _ => hX a h1 h2 h3 h4) h20 h14 hk
  rw [hj 2 (by omega)]
  exact hh
section AT
variable {d L : Nat} {xs : Nat → Int32} {c : Nat × Nat} {D : hz_D}
theorem ap_text (hI : Inv c D) (hc6 : c.1 + 3 < 600000) : ap d L xs c D 99 [some (.ref 17)] 228 [some (.ref 109), none, none] := by
  obtain ⟨⟨hc1, hc2, hc3⟩, ⟨n, m, hS⟩, -, ⟨len, h96, t1, t2, t3⟩, -⟩ := id hI
  obtain ⟨hr, hv, htn, hh⟩ := id hS
  have hm14 := sv_m14 hv
  have hm1 := sv_m hv
  have h35 := is_s35
  have h359 : D 35 9 = nI m := hr.1.2.2.2.2.2.2.trans hm1
  obtain ⟨B, hBd⟩ : ∃ B : Nat → Nat, B = fun i => (D 122 i).toNatClampNeg := ⟨_, rfl⟩
  have hB : ∀ i, i < len → B i < 256 ∧ D 122 i = nI (B i) ∧ D 21 i = (nI (B i)).toInt8.toInt32 := by
    intro i hi
    obtain ⟨b, b1, b2, b3⟩ := t3 i hi
    have e : B i = b := by
      rw [hBd]
      show (D 122 i).toNatClampNeg = b
      rw [b2, nI_cl b (by omega)]
    rw [e]
    exact ⟨b1, b2, b3⟩
  have tc : tp_c D B len := ⟨h96, t1, fun i hi => ⟨(hB i hi).1, (hB i hi).2.2⟩⟩
  have tr : tp_r D B len := ⟨h96, t2, fun i hi => ⟨(hB i hi).1, (hB i hi).2.1⟩⟩
  have trm : ∀ D2 : hz_D, D2 109 = D 109 → D2 122 = D 122 → tp_r D2 B len := by
    intro D2 e1 e2
    unfold tp_r
    rw [e1, e2]
    exact tr
  rcases ps_parse L xs c B len (d + 19) h96 (fun i hi => (hB i hi).1) with ⟨key, w, hk2, hwl, hwk, hC, hR⟩ | ⟨s', hs', hC, hR⟩
  · obtain ⟨D1, r1, r5, r6, r7, r9, rF, rL⟩ := hC D tc
    obtain ⟨D2, hD2⟩ : ∃ D2, D2 = mx_up D1 20 (mx_up (D1 20) 1 0) := ⟨_, rfl⟩
    have x2 : ∀ a, a ≠ 20 → D2 a = D1 a := fun a ha => by rw [hD2, up_n _ _ _ _ ha]
    have f5 : D2 20 5 = -1 := by rw [hD2, up_s, up_n _ _ _ _ (by omega)]; exact r5
    have f6 : D2 20 6 = nI key := by rw [hD2, up_s, up_n _ _ _ _ (by omega)]; exact r6
    have f7 : D2 20 7 = nI (pz_o w) := by rw [hD2, up_s, up_n _ _ _ _ (by omega)]; exact r7
    have f9 : D2 20 9 = nI w.length := by rw [hD2, up_s, up_n _ _ _ _ (by omega)]; exact r9
    have f1 : D2 20 1 = 0 := by rw [hD2, up_s, up_s]
    have y2 : ∀ a, a ≠ 20 → a ≠ 22 → D2 a = D a := fun a ha hb => by rw [x2 a ha, rF a ha hb]
    have g9 : D2 35 9 = nI m := by rw [y2 35 (by omega) (by omega)]; exact h359
    by_cases qm : m < 14
    · have hwo : pz_o w ≤ w.length := hwk.2.1
      have md := in_made (sx_rom L xs) c D2 (d + 98) key (pz_o w) w.length ⟨hc1, hc2⟩ hwl (by omega) f6 f7 f9
      obtain ⟨c', hc'⟩ : ∃ c', c' = (c.1 + 3, c.2 + 4 + w.length + max 1 (pz_o w)) := ⟨_, rfl⟩
      obtain ⟨D3, hD3⟩ : ∃ D3, D3 = tx_D D2 c.1 key (pz_o w) w.length := ⟨_, rfl⟩
      rw [← hc', ← hD3] at md
      have c'1 : c'.1 = c.1 + 3 := by rw [hc']
      have c'2 : c'.2 = c.2 + 4 + w.length + max 1 (pz_o w) := by rw [hc']
      have it : is_tx c' c.1 := ⟨hc1, by omega, hc2⟩
      have x3 : ∀ a, a < c.1 → D3 a = D2 a := fun a ha => by
        rw [hD3]
        unfold tx_D
        rw [up_n _ _ _ _ (by omega), up_n _ _ _ _ (by omega), up_n _ _ _ _ (by omega)]
      have x3p : D3 c.1 = fun k => if k = 0 then nI key else if k = 1 then nI (pz_o w) else if k = 2 then nI w.length else nI (max 1 (pz_o w)) := by
        rw [hD3]
        unfold tx_D
        rw [up_n _ _ _ _ (by omega), up_n _ _ _ _ (by omega), up_s]
      have x3q : D3 (c.1 + 1) = fun k => if k < w.length then D2 22 k else 0 := by
        rw [hD3]
        unfold tx_D
        rw [up_n _ _ _ _ (by omega), up_s]
      have g93 : D3 35 9 = nI m := by rw [x3 35 (by omega)]; exact g9
      have g03 : D3 c.1 0 = nI key := by rw [x3p]; rfl
      have ad := in_add (sx_rom L xs) c' D3 (d + 99) c.1 key m 35 h35 it (by omega) qm hk2 g93 g03
      obtain ⟨D4, hD4⟩ : ∃ D4, D4 = mx_up (mx_up (mx_up D3 (35 + 3) (mx_up (D3 (35 + 3)) m (nI c.1))) (35 + 4) (mx_up (D3 (35 + 4)) key (nI m))) 35 (mx_up (D3 35) 9 (nI (m + 1))) := ⟨_, rfl⟩
      rw [← hD4] at ad
      have x4 : ∀ a, a ≠ 35 → a ≠ 38 → a ≠ 39 → D4 a = D3 a := fun a h1 h2 h3 => by rw [hD4, up_n _ _ _ _ h1, up_n _ _ _ _ h3, up_n _ _ _ _ h2]
      have x435 : D4 35 = mx_up (D3 35) 9 (nI (m + 1)) := by rw [hD4, up_s]
      have x438 : D4 38 = mx_up (D3 38) m (nI c.1) := by rw [hD4, up_n _ _ _ _ (by omega), up_n _ _ _ _ (by omega), up_s]
      have x439 : D4 39 = mx_up (D3 39) key (nI m) := by rw [hD4, up_n _ _ _ _ (by omega), up_s]
      have g94 : D4 35 9 = nI (m + 1) := by rw [x435, up_s]
      have y4 : ∀ a, a ≠ 20 → a ≠ 22 → a ≠ 35 → a ≠ 38 → a ≠ 39 → a < c.1 → D4 a = D a := fun a h1 h2 h3 h4 h5 h6 => by rw [x4 a h3 h4 h5, x3 a h6, y2 a h1 h2]
      obtain ⟨D5, q1, q2, q3, q4, q5, q6, q7, q8⟩ := hR c' D4 m (trm D4 (y4 109 (by omega) (by omega) (by omega) (by omega) (by omega) (by omega)) (y4 122 (by omega) (by omega) (by omega) (by omega) (by omega) (by omega))) hm14 (by rw [y4 110 (by omega) (by omega) (by omega) (by omega) (by omega) (by omega)]; exact hm1)
      have hA : ps_A m = 75 + 200 * m + 4 := by
        unfold ps_A
        rw [if_pos qm]
      rw [hA] at q7 q8
      have e1105 : ∀ j, j < 75 + 200 * m + 4 → D5 110 j = D 110 j := fun j hj => by rw [q7 j hj, y4 110 (by omega) (by omega) (by omega) (by omega) (by omega) (by omega)]
      have m5 : D5 110 1 = nI m := by rw [e1105 1 (by omega)]; exact hm1
      obtain ⟨D6, hD6⟩ : ∃ D6, D6 = mx_up D5 110 (mx_up (mx_up (mx_up (mx_up (D5 110) (75 + 200 * m) (nI key)) (75 + 200 * m + 1) (nI (pz_o w))) (75 + 200 * m + 2) (nI w.length)) 1 (nI (m + 1))) := ⟨_, rfl⟩
      have s6 : D6 110 = mx_up (mx_up (mx_up (mx_up (D5 110) (75 + 200 * m) (nI key)) (75 + 200 * m + 1) (nI (pz_o w))) (75 + 200 * m + 2) (nI w.length)) 1 (nI (m + 1)) := by rw [hD6, up_s]
      have x6 : ∀ a, a ≠ 110 → D6 a = D5 a := fun a ha => by rw [hD6, up_n _ _ _ _ ha]
      have y6 : ∀ a, a ≠ 109 → a ≠ 110 → D6 a = D4 a := fun a h1 h2 => by rw [x6 a h2, q5 a h1 h2]
      have z1 : D6 110 1 = nI (m + 1) := by rw [s6, up_s]
      have zk : D6 110 (75 + 200 * m) = nI key := by rw [s6, up_n _ _ _ _ (by omega), up_n _ _ _ _ (by omega), up_n _ _ _ _ (by omega), up_s]
      have zo : D6 110 (75 + 200 * m + 1) = nI (pz_o w) := by rw [s6, up_n _ _ _ _ (by omega), up_n _ _ _ _ (by omega), up_s]
      have zl : D6 110 (75 + 200 * m + 2) = nI w.length := by rw [s6, up_n _ _ _ _ (by omega), up_s]
      have zx : ∀ i, i ≠ 1 → i < 75 + 200 * m → D6 110 i = D 110 i := fun i h1 h2 => by
        rw [s6, up_n _ _ _ _ h1, up_n _ _ _ _ (by omega), up_n _ _ _ _ (by omega), up_n _ _ _ _ (by omega)]
        exact e1105 i (by omega)
      have zw : pz_la (pz_r (D6 110) (75 + 200 * m + 4)) 0 w := pz_la_imp 0 w q8 (fun j x _ _ h => by
        show D6 110 _ = _ ∧ D6 110 _ = _
        rw [s6, up_n _ _ _ _ (by omega), up_n _ _ _ _ (by omega), up_n _ _ _ _ (by omega), up_n _ _ _ _ (by omega), up_n _ _ _ _ (by omega), up_n _ _ _ _ (by omega), up_n _ _ _ _ (by omega), up_n _ _ _ _ (by omega)]
        exact h)
      have p6 : D6 c.1 = fun k => if k = 0 then nI key else if k = 1 then nI (pz_o w) else if k = 2 then nI w.length else nI (max 1 (pz_o w)) := by rw [y6 c.1 (by omega) (by omega), x4 c.1 (by omega) (by omega) (by omega), x3p]
      have p61 : D6 (c.1 + 1) = fun k => if k < w.length then D2 22 k else 0 := by rw [y6 _ (by omega) (by omega), x4 _ (by omega) (by omega) (by omega), x3q]
      obtain ⟨tx1, tx2⟩ := tx_new (c := c') (D := D6) (s := D6 110) (p := c.1) (key := key) (m := m) (w := w) (f := D1 22) it hk2 hwk (by omega) (by rw [p6]; rfl) (by rw [p6]; rfl) (by rw [p6]; rfl) (by rw [p6]; rfl) (fun k hk => by
        rw [p61]
        show (if k < w.length then D2 22 k else 0) = _
        rw [if_pos hk, x2 22 (by omega)]) rL zk zo zl zw
      have y64 : ∀ a, a ≠ 20 → a ≠ 22 → a ≠ 109 → a ≠ 110 → a ≠ 35 → a ≠ 38 → a ≠ 39 → a < c.1 → D6 a = D a := fun a h1 h2 h3 h4 h5 h6 h7 h8 => by rw [y6 a h3 h4, y4 a h1 h2 h5 h6 h7 h8]
      refine ⟨nI m, c', D4, D6, ?_, ?_, ?_, by omega, by omega⟩
      · have em : (nI m < 14) = True := eq_true (nI_lt (b := 14) qm (by omega))
        have es : nI (m + 1) - 1 = nI m := nI_sub (b := 1) (by omega)
        rw [hD2] at f5 g9 md
        simp (disch := first | assumption | omega | exact kd_sh _ _ _ (by assumption) | exact kd_sea _ _ _ (by assumption) | exact is_bts (by assumption) _ (by omega) | exact kd_bt _ _ _ (by first | assumption | exact is_bts (by assumption) _ (by omega)) | exact kd_109 _ _ _ | exact kd_17 _ _ _ | exact kd_20 _ _ _) only [iq_99_0, iq_99_1, iq_99_4, iq_99_7, iq_99_8, iq_99_11, iq_99_12, iq_99_15, iq_99_16, iq_99_19, iq_99_22, iq_99_25, iq_99_27, iq_99_28, iq_99_31, iq_99_34, iq_99_35, iq_99_36, iq_99_37, iq_99_40, iq_99_43, iq_99_45, iq_99_48, iq_99_50, iq_99_51, iq_99_52, iq_99_55, iq_99_56, iq_99_59, iq_99_62, iq_99_65, iq_99_66, iq_99_69, iq_99_72, iq_99_73, iq_99_74, Option.bind_some, Option.toList, List.cons_append, List.nil_append, ↓reduceIte, nI_1, Int32.reduceLT, Int32.reduceLE, dv_1, dv_2, dv_3, dv_4, dv_6, dv_8, dv_10, dv_20, dv_100, dv_200, dv_500, gf_17_0, gf_17_1, gf_17_2, gf_17_3, gf_17_4, gf_17_5, gf_17_6, gf_17_7, gf_17_8, gf_17_9, gf_17_10, gf_17_11, gf_17_12, gf_17_13, kd_17, pf_17_4, pf_17_13, gf_20_0, gf_20_1, gf_20_2, gf_20_3, gf_20_4, gf_20_5, gf_20_6, gf_20_7, gf_20_8, gf_20_9, kd_20, pf_20_1, pf_20_2, pf_20_3, pf_20_4, pf_20_5, pf_20_6, pf_20_7, pf_20_9, gf_sea_0, gf_sea_1, gf_sea_2, gf_sea_3, gf_sea_4, gf_sea_5, gf_sea_6, gf_sea_7, gf_sea_8, gf_sea_9, gf_sea_10, kd_sea, pf_sea_1, pf_sea_2, pf_sea_4, pf_sea_5, pf_sea_6, pf_sea_7, pf_sea_9, r1, f5, g9, em, md, ad, g94, es, show ((-1 : Int32) < 0) = True from by decide]
      · have e0 : (nI key < 0) = False := eq_false (nI_nlt (b := 0) (by omega) (by omega))
        have em : (nI m = 14) = False := eq_false (fun z => by have := (nI_eq (b := 14) (by omega) (by omega)).mp z; omega)
        have es : nI (m + 1) - 1 = nI m := nI_sub (b := 1) (by omega)
        have ta := rc_textAt (d + 99) 109 (nI m) (hp (sx_rom L xs) c' D5)
        have ea : 75 + 200 * nI m = nI (75 + 200 * m) := by rw [show (200 : Int32) = nI 200 from rfl, rc_mul, show (75 : Int32) = nI 75 from rfl, nI_add]
        rw [ea] at ta
        have ez : nI (75 + 200 * m) + 0 = nI (75 + 200 * m) := nI_add _ 0
        have e2 : nI (75 + 200 * m) + 2 = nI (75 + 200 * m + 2) := nI_add _ 2
        have m5' : (mx_up (mx_up (mx_up (D5 110) (75 + 200 * m) (nI key)) (75 + 200 * m + 1) (nI (pz_o w))) (75 + 200 * m + 2) (nI w.length)) 1 = nI m := by rw [up_n _ _ _ _ (by omega), up_n _ _ _ _ (by omega), up_n _ _ _ _ (by omega)]; exact m5
        rw [hD6]
        simp (disch := first | assumption | omega | exact kd_sh _ _ _ (by assumption) | exact kd_sea _ _ _ (by assumption) | exact is_bts (by assumption) _ (by omega) | exact kd_bt _ _ _ (by first | assumption | exact is_bts (by assumption) _ (by omega)) | exact kd_109 _ _ _ | exact kd_17 _ _ _ | exact kd_20 _ _ _) only [iq_228_0, iq_228_1, iq_228_4, iq_228_5, iq_228_6, iq_228_9, iq_228_11, iq_228_12, iq_228_15, iq_228_16, iq_228_17, iq_228_18, iq_228_21, iq_228_22, iq_228_23, iq_228_25, iq_228_28, iq_228_30, iq_228_31, iq_228_32, iq_228_33, iq_228_36, iq_228_37, iq_228_38, iq_228_41, iq_228_42, iq_228_43, iq_228_46, iq_228_47, iq_228_48, iq_228_49, iq_228_50, iq_228_51, iq_228_52, iq_228_55, iq_228_56, iq_228_57, iq_228_58, iq_228_59, iq_228_62, iq_228_63, iq_228_64, iq_228_67, iq_228_68, iq_228_69, iq_228_70, iq_228_71, iq_228_74, iq_228_75, iq_228_76, iq_228_79, iq_228_80, iq_228_81, iq_228_82, iq_228_83, iq_228_84, iq_228_85, iq_228_86, iq_228_89, iq_228_90, iq_228_91, iq_228_92, iq_228_93, Option.bind_some, Option.toList, List.cons_append, List.nil_append, ↓reduceIte, nI_1, Int32.reduceLT, Int32.reduceLE, dv_1, dv_2, dv_3, dv_4, dv_6, dv_8, dv_10, dv_20, dv_100, dv_200, dv_500, gf_109_0, gf_109_1, gf_109_2, gf_109_3, gf_109_4, gf_109_5, gf_109_6, gf_109_7, gf_109_8, gf_109_9, gf_109_10, gf_109_11, gf_109_12, gf_109_13, gf_109_14, gf_109_15, gf_109_16, gf_109_17, gf_109_18, gf_109_19, gf_109_20, gf_109_21, gf_109_22, gf_109_23, gf_109_24, gf_109_25, gf_109_26, gf_109_27, gf_109_28, gf_109_29, gf_109_30, kd_109, up_s, up_up, up_n, ne_eq, Nat.reduceEqDiff, not_false_eq_true, q1, e0, ld_110_1, st_110_1, st_110, m5, em, ta, ez, e2, q3, q4, m5', es]
      · refine Inv_mk hI ⟨by omega, by omega, by omega⟩ (by omega) ⟨n, m + 1, ?_, sv_add hv qm zx z1 tx2, ?_, ?_⟩ y64 ?_ ?_ ?_
        · exact sea_add (p := c.1) (key := key) hr (sv_n9 hv) qm (by omega) hk2 (fun a ha => y64 a (by omega) (by omega) (by omega) (by omega) (by omega) (by omega) (by omega) (by omega)) (fun k hk => by rw [y6 35 (by omega) (by omega), x435, up_n _ _ _ _ hk, x3 35 (by omega), y2 35 (by omega) (by omega)]) (by rw [y6 35 (by omega) (by omega)]; exact g94) (fun t ht => by rw [y6 38 (by omega) (by omega), x438, up_n _ _ _ _ ht, x3 38 (by omega), y2 38 (by omega) (by omega)]) (by rw [y6 38 (by omega) (by omega), x438, up_s]) (fun k hk => by rw [y6 39 (by omega) (by omega), x439, up_n _ _ _ _ hk, x3 39 (by omega), y2 39 (by omega) (by omega)]) (by rw [y6 39 (by omega) (by omega), x439, up_s]) zx z1 zk (by omega) tx1
        · intro t ht
          show D6 38 t = 0 ∨ ∃ p, D6 38 t = nI p ∧ _
          rw [y6 38 (by omega) (by omega), x438]
          by_cases e : t = m
          · rw [e, up_s]
            exact Or.inr ⟨c.1, rfl, by omega, it⟩
          · rw [up_n _ _ _ _ e, x3 38 (by omega), y2 38 (by omega) (by omega)]
            rcases htn t ht with z | ⟨p, k1, k2, ⟨k3, k4, k5⟩⟩
            · exact Or.inl z
            · exact Or.inr ⟨p, k1, k2, k3, by omega, k5⟩
        · rw [zx 2 (by omega) (by omega)]
          exact hh
        · rw [y6 20 (by omega) (by omega), x4 20 (by omega) (by omega) (by omega), x3 20 (by omega)]
          exact f1
        · rw [x6 109 (by omega)]
          exact q2
        · intro k hk
          rw [x6 109 (by omega), q6 k hk, y4 109 (by omega) (by omega) (by omega) (by omega) (by omega) (by omega)]
    · have em : (nI m < 14) = False := eq_false (nI_nlt (b := 14) (by omega) (by omega))
      obtain ⟨D5, q1, q2, q3, q4, q5, q6, q7, q8⟩ := hR c D2 m (trm D2 (y2 109 (by omega) (by omega)) (y2 122 (by omega) (by omega))) hm14 (by rw [y2 110 (by omega) (by omega)]; exact hm1)
      have hA := ps_A_ge m hm14
      have m5 : D5 110 1 = nI m := by rw [q7 1 (by omega), y2 110 (by omega) (by omega)]; exact hm1
      refine ap_c (-1000000003) D2 D5 ?_ ?_ ?_
      · rw [hD2] at f5 g9
        rw [hD2]
        simp (disch := first | assumption | omega | exact kd_sh _ _ _ (by assumption) | exact kd_sea _ _ _ (by assumption) | exact is_bts (by assumption) _ (by omega) | exact kd_bt _ _ _ (by first | assumption | exact is_bts (by assumption) _ (by omega)) | exact kd_109 _ _ _ | exact kd_17 _ _ _ | exact kd_20 _ _ _) only [iq_99_0, iq_99_1, iq_99_4, iq_99_7, iq_99_8, iq_99_11, iq_99_12, iq_99_15, iq_99_16, iq_99_19, iq_99_22, iq_99_25, iq_99_27, iq_99_28, iq_99_31, iq_99_34, iq_99_35, iq_99_36, iq_99_37, iq_99_40, iq_99_43, iq_99_45, iq_99_48, iq_99_50, iq_99_51, iq_99_52, iq_99_55, iq_99_56, iq_99_59, iq_99_62, iq_99_65, iq_99_66, iq_99_69, iq_99_72, iq_99_73, iq_99_74, Option.bind_some, Option.toList, List.cons_append, List.nil_append, ↓reduceIte, nI_1, Int32.reduceLT, Int32.reduceLE, dv_1, dv_2, dv_3, dv_4, dv_6, dv_8, dv_10, dv_20, dv_100, dv_200, dv_500, gf_17_0, gf_17_1, gf_17_2, gf_17_3, gf_17_4, gf_17_5, gf_17_6, gf_17_7, gf_17_8, gf_17_9, gf_17_10, gf_17_11, gf_17_12, gf_17_13, kd_17, pf_17_4, pf_17_13, gf_20_0, gf_20_1, gf_20_2, gf_20_3, gf_20_4, gf_20_5, gf_20_6, gf_20_7, gf_20_8, gf_20_9, kd_20, pf_20_1, pf_20_2, pf_20_3, pf_20_4, pf_20_5, pf_20_6, pf_20_7, pf_20_9, gf_sea_0, gf_sea_1, gf_sea_2, gf_sea_3, gf_sea_4, gf_sea_5, gf_sea_6, gf_sea_7, gf_sea_8, gf_sea_9, gf_sea_10, kd_sea, pf_sea_1, pf_sea_2, pf_sea_4, pf_sea_5, pf_sea_6, pf_sea_7, pf_sea_9, r1, f5, g9, em, show ((-1 : Int32) < 0) = True from by decide]
      · have e0 : (nI key < 0) = False := eq_false (nI_nlt (b := 0) (by omega) (by omega))
        have em2 : (nI m = 14) = True := eq_true ((nI_eq (b := 14) (by omega) (by omega)).mpr (by omega))
        simp (disch := first | assumption | omega | exact kd_sh _ _ _ (by assumption) | exact kd_sea _ _ _ (by assumption) | exact is_bts (by assumption) _ (by omega) | exact kd_bt _ _ _ (by first | assumption | exact is_bts (by assumption) _ (by omega)) | exact kd_109 _ _ _ | exact kd_17 _ _ _ | exact kd_20 _ _ _) only [iq_228_0, iq_228_1, iq_228_4, iq_228_5, iq_228_6, iq_228_9, iq_228_11, iq_228_12, iq_228_15, iq_228_16, iq_228_17, iq_228_18, iq_228_21, iq_228_22, iq_228_23, iq_228_25, iq_228_28, iq_228_30, iq_228_31, iq_228_32, iq_228_33, iq_228_36, iq_228_37, iq_228_38, iq_228_41, iq_228_42, iq_228_43, iq_228_46, iq_228_47, iq_228_48, iq_228_49, iq_228_50, iq_228_51, iq_228_52, iq_228_55, iq_228_56, iq_228_57, iq_228_58, iq_228_59, iq_228_62, iq_228_63, iq_228_64, iq_228_67, iq_228_68, iq_228_69, iq_228_70, iq_228_71, iq_228_74, iq_228_75, iq_228_76, iq_228_79, iq_228_80, iq_228_81, iq_228_82, iq_228_83, iq_228_84, iq_228_85, iq_228_86, iq_228_89, iq_228_90, iq_228_91, iq_228_92, iq_228_93, Option.bind_some, Option.toList, List.cons_append, List.nil_append, ↓reduceIte, nI_1, Int32.reduceLT, Int32.reduceLE, dv_1, dv_2, dv_3, dv_4, dv_6, dv_8, dv_10, dv_20, dv_100, dv_200, dv_500, gf_109_0, gf_109_1, gf_109_2, gf_109_3, gf_109_4, gf_109_5, gf_109_6, gf_109_7, gf_109_8, gf_109_9, gf_109_10, gf_109_11, gf_109_12, gf_109_13, gf_109_14, gf_109_15, gf_109_16, gf_109_17, gf_109_18, gf_109_19, gf_109_20, gf_109_21, gf_109_22, gf_109_23, gf_109_24, gf_109_25, gf_109_26, gf_109_27, gf_109_28, gf_109_29, gf_109_30, kd_109, q1, e0, ld_110_1, m5, em2]
      · exact Inv_tx hI hS (fun a h1 h2 h3 h4 => by rw [q5 a h3 h4, y2 a h1 h2]) (by rw [q5 20 (by omega) (by omega)]; exact f1) q2 (fun k hk => by rw [q6 k hk, y2 109 (by omega) (by omega)]) (fun j hj => by rw [q7 j hj, y2 110 (by omega) (by omega)])
  · obtain ⟨D1, r1, r5, rF⟩ := hC D tc
    obtain ⟨D2, hD2⟩ : ∃ D2, D2 = mx_up D1 20 (mx_up (D1 20) 1 0) := ⟨_, rfl⟩
    have f5 : D2 20 5 = nI s' := by rw [hD2, up_s, up_n _ _ _ _ (by omega)]; exact r5
    have f1 : D2 20 1 = 0 := by rw [hD2, up_s, up_s]
    have y2 : ∀ a, a ≠ 20 → a ≠ 22 → D2 a = D a := fun a ha hb => by rw [hD2, up_n _ _ _ _ ha, rF a ha hb]
    obtain ⟨D5, q1, q2, q3, q5, q6, q7⟩ := hR c D2 m (trm D2 (y2 109 (by omega) (by omega)) (y2 122 (by omega) (by omega))) hm14 (by rw [y2 110 (by omega) (by omega)]; exact hm1)
    have e0 : (nI s' < 0) = False := eq_false (nI_nlt (b := 0) (by omega) (by omega))
    refine ap_c (-100 - nI s') D2 D5 ?_ ?_ ?_
    · rw [hD2] at f5
      rw [hD2]
      simp (disch := first | assumption | omega | exact kd_sh _ _ _ (by assumption) | exact kd_sea _ _ _ (by assumption) | exact is_bts (by assumption) _ (by omega) | exact kd_bt _ _ _ (by first | assumption | exact is_bts (by assumption) _ (by omega)) | exact kd_109 _ _ _ | exact kd_17 _ _ _ | exact kd_20 _ _ _) only [iq_99_0, iq_99_1, iq_99_4, iq_99_7, iq_99_8, iq_99_11, iq_99_12, iq_99_15, iq_99_16, iq_99_19, iq_99_22, iq_99_25, iq_99_27, iq_99_28, iq_99_31, iq_99_34, iq_99_35, iq_99_36, iq_99_37, iq_99_40, iq_99_43, iq_99_45, iq_99_48, iq_99_50, iq_99_51, iq_99_52, iq_99_55, iq_99_56, iq_99_59, iq_99_62, iq_99_65, iq_99_66, iq_99_69, iq_99_72, iq_99_73, iq_99_74, Option.bind_some, Option.toList, List.cons_append, List.nil_append, ↓reduceIte, nI_1, Int32.reduceLT, Int32.reduceLE, dv_1, dv_2, dv_3, dv_4, dv_6, dv_8, dv_10, dv_20, dv_100, dv_200, dv_500, gf_17_0, gf_17_1, gf_17_2, gf_17_3, gf_17_4, gf_17_5, gf_17_6, gf_17_7, gf_17_8, gf_17_9, gf_17_10, gf_17_11, gf_17_12, gf_17_13, kd_17, pf_17_4, pf_17_13, gf_20_0, gf_20_1, gf_20_2, gf_20_3, gf_20_4, gf_20_5, gf_20_6, gf_20_7, gf_20_8, gf_20_9, kd_20, pf_20_1, pf_20_2, pf_20_3, pf_20_4, pf_20_5, pf_20_6, pf_20_7, pf_20_9, gf_sea_0, gf_sea_1, gf_sea_2, gf_sea_3, gf_sea_4, gf_sea_5, gf_sea_6, gf_sea_7, gf_sea_8, gf_sea_9, gf_sea_10, kd_sea, pf_sea_1, pf_sea_2, pf_sea_4, pf_sea_5, pf_sea_6, pf_sea_7, pf_sea_9, r1, f5, e0]
    · simp (disch := first | assumption | omega | exact kd_sh _ _ _ (by assumption) | exact kd_sea _ _ _ (by assumption) | exact is_bts (by assumption) _ (by omega) | exact kd_bt _ _ _ (by first | assumption | exact is_bts (by assumption) _ (by omega)) | exact kd_109 _ _ _ | exact kd_17 _ _ _ | exact kd_20 _ _ _) only [iq_228_0, iq_228_1, iq_228_4, iq_228_5, iq_228_6, iq_228_9, iq_228_11, iq_228_12, iq_228_15, iq_228_16, iq_228_17, iq_228_18, iq_228_21, iq_228_22, iq_228_23, iq_228_25, iq_228_28, iq_228_30, iq_228_31, iq_228_32, iq_228_33, iq_228_36, iq_228_37, iq_228_38, iq_228_41, iq_228_42, iq_228_43, iq_228_46, iq_228_47, iq_228_48, iq_228_49, iq_228_50, iq_228_51, iq_228_52, iq_228_55, iq_228_56, iq_228_57, iq_228_58, iq_228_59, iq_228_62, iq_228_63, iq_228_64, iq_228_67, iq_228_68, iq_228_69, iq_228_70, iq_228_71, iq_228_74, iq_228_75, iq_228_76, iq_228_79, iq_228_80, iq_228_81, iq_228_82, iq_228_83, iq_228_84, iq_228_85, iq_228_86, iq_228_89, iq_228_90, iq_228_91, iq_228_92, iq_228_93, Option.bind_some, Option.toList, List.cons_append, List.nil_append, ↓reduceIte, nI_1, Int32.reduceLT, Int32.reduceLE, dv_1, dv_2, dv_3, dv_4, dv_6, dv_8, dv_10, dv_20, dv_100, dv_200, dv_500, gf_109_0, gf_109_1, gf_109_2, gf_109_3, gf_109_4, gf_109_5, gf_109_6, gf_109_7, gf_109_8, gf_109_9, gf_109_10, gf_109_11, gf_109_12, gf_109_13, gf_109_14, gf_109_15, gf_109_16, gf_109_17, gf_109_18, gf_109_19, gf_109_20, gf_109_21, gf_109_22, gf_109_23, gf_109_24, gf_109_25, gf_109_26, gf_109_27, gf_109_28, gf_109_29, gf_109_30, kd_109, q1, q2, show ((-1 : Int32) < 0) = True from by decide]
    · exact Inv_tx hI hS (fun a h1 h2 h3 h4 => by rw [q5 a h3 h4, y2 a h1 h2]) (by rw [q5 20 (by omega) (by omega)]; exact f1) q3 (fun k hk => by rw [q6 k hk, y2 109 (by omega) (by omega)]) (fun j hj => by rw [q7 j hj, y2 110 (by omega) (by omega)])
end AT
