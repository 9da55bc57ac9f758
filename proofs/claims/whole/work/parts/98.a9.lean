section PQ
variable (L : Nat) (xs : Nat → Int32) (c : Nat × Nat) (B : Nat → Nat) (len key br nt dn : Nat)
theorem pz_piece (h96 : len ≤ 96) (hB : ∀ i, i < len → B i < 256) (hk : key ≤ 2) (hbr : br ≤ 8) (hnt : nt ≤ 8) (hN : nt < 8 → pz_J (sx_rom L xs) c B len key br (nt + 1) (fun D => mx_run (dn + 4) 122 0 [some (.ref 20), some (.int (nI br)), some (.int (nI (nt + 1)))] [] (hp (sx_rom L xs) c D)) (fun c D => mx_run (dn + 4) 240 0 [some (.ref 109), some (.int (nI key))] [] (hp (sx_rom L xs) c D))) (hP : br < 8 → pz_J (sx_rom L xs) c B len key (br + 1) nt (fun D => mx_run (dn + 4) 117 0 [some (.ref 20), some (.int (nI (br + 1))), some (.int (nI nt)), none] [] (hp (sx_rom L xs) c D)) (fun c D => mx_run (dn + 4) 235 0 [some (.ref 109), some (.int (nI key))] [] (hp (sx_rom L xs) c D))) : pz_J (sx_rom L xs) c B len key br nt (fun D => mx_run (dn + 5) 122 0 [some (.ref 20), some (.int (nI br)), some (.int (nI nt))] [] (hp (sx_rom L xs) c D)) (fun c D => mx_run (dn + 5) 240 0 [some (.ref 109), some (.int (nI key))] [] (hp (sx_rom L xs) c D)) := by
  intro s e ty hT
  have hse := hT.1
  have hel := hT.2.1
  have hN1 := pz_T_next B len e ty hT.2.1
  by_cases q2 : ty = 2
  · subst q2
    have hd := hT.2.2.2.2.2 rfl
    refine Or.inl ⟨[(0, tk_nu B s (e - s))], _, _, _, hN1.1, by show s + 1 ≤ _; omega, pz_k_num key _ (tk_nu_4 B s e hd.2.1 hse hd.2.2), fun D n o h1 h3 => ?_, fun c D n o A h1 h3 h4 => ?_⟩
    · obtain ⟨D', p1, p2, p3, p4, p5⟩ := pz_Cop (sx_rom L xs) c B len (dn + 2) (nI (tk_nu B s (e - s))) h1 hT (by omega)
      refine ⟨D', pz_122_num L xs c B len key br nt dn h1 hT p1, p2, p3, p4, ?_, trivial⟩
      show D' 22 n = _
      rw [p5, pz_cd0]
    · obtain ⟨D2, p1, p2, p3, p4, p5⟩ := pz_step (sx_rom L xs) c B len (dn + 4) 0 (nI (tk_nu B s (e - s))) h1 (by omega) h4
      obtain ⟨D3, n1, n2, n3, n4⟩ := pz_Rnext (sx_rom L xs) c B len (dn + 3) (pz_R24 B len p2 (o + 1)) hT
      refine ⟨D3, pz_240_num (sx_rom L xs) c B len key br nt dn h1 p1 p2.2.2.2.2.2.2.2.2.2.2.2 n1, n2, pz_FE_t p3 (pz_FE_t (pz_FE_f D2 A n 24 _ (by omega)) (n3 n) (by omega)) (by omega), ?_, trivial⟩
      show D3 110 _ = _ ∧ D3 110 _ = _
      rw [n4, up_n _ _ _ _ (by omega)]
      exact ⟨p4, p5⟩
  · by_cases q1 : ty = 1 ∧ e - s = 1 ∧ tk_nm key (B s) ≠ 3
    · obtain ⟨rfl, hes, hnm⟩ := q1
      have hsl : s < len := by omega
      have tl := tk_nm_let key (B s) hk (hB s hsl) hnm
      refine Or.inl ⟨[(1, B s)], _, _, _, hN1.1, by show s + 1 ≤ _; omega, pz_k_nam key _ tl.1, fun D n o h1 h3 => ?_, fun c D n o A h1 h3 h4 => ?_⟩
      · obtain ⟨D', p1, p2, p3, p4, p5⟩ := pz_Cop (sx_rom L xs) c B len (dn + 2) (sp_li (nI key) (nI (B s))) h1 hT (by omega)
        refine ⟨D', pz_122_nam L xs c B len key br nt dn h1 hT hk hes hnm (hB s hsl) p1, p2, p3, p4, ?_, trivial⟩
        show D' 22 n = _
        rw [p5, pz_cd1]
      · obtain ⟨D2, p1, p2, p3, p4, p5⟩ := pz_step (sx_rom L xs) c B len (dn + 4) 1 (nI (B s)) h1 (by omega) h4
        obtain ⟨D3, n1, n2, n3, n4⟩ := pz_Rnext (sx_rom L xs) c B len (dn + 3) (pz_R24 B len p2 (o + 1)) hT
        refine ⟨D3, pz_240_nam (sx_rom L xs) c B len key br nt dn h1 hT hk hes hnm p1 p2.2.2.2.2.2.2.2.2.2.2.2 n1, n2, pz_FE_t p3 (pz_FE_t (pz_FE_f D2 A n 24 _ (by omega)) (n3 n) (by omega)) (by omega), ?_, trivial⟩
        show D3 110 _ = _ ∧ D3 110 _ = _
        rw [n4, up_n _ _ _ _ (by omega)]
        exact ⟨p4, p5⟩
    · by_cases q3 : ty = 3 ∧ B s = 33 ∧ nt < 8
      · obtain ⟨rfl, hb, hnt8⟩ := q3
        have he := (hT.2.2.2.1 rfl).2
        rcases hN hnt8 _ _ _ hN1.1 with ⟨w, s2, e2, t2, hT2, h2, hw, hG, hH⟩ | ⟨s', hs', hG, hH⟩
        · have hs2 := hT2.1
          have hs3 := hT2.2.1
          have el : (w ++ [((2, 33) : pz_x)]).length = w.length + 1 := by rw [List.length_append, List.length_singleton]
          have eo : pz_o (w ++ [((2, 33) : pz_x)]) = pz_o w := by
            rw [pz_o_app]
            rfl
          refine Or.inl ⟨w ++ [(2, 33)], s2, e2, t2, hT2, by omega, pz_k_not key w hw, fun D n o h1 h3 => ?_, fun c D n o A h1 h3 h4 => ?_⟩
          · obtain ⟨D0, n1, n2, n3, n4⟩ := pz_Cnext (sx_rom L xs) c B len (dn + 3) h1 hT
            obtain ⟨D1, g1, g2, g3, g4, g5⟩ := hG D0 n o n2 (by omega)
            obtain ⟨D2, p1, p2, p3, p4, p5⟩ := pz_Cput (sx_rom L xs) c B len (dn + 4) (-33) g2 (by omega)
            refine ⟨D2, pz_122_not L xs c B len key br nt dn h1 hT hb hnt8 n1 g1 p1, ?_, pz_FC_t (pz_FC_t n3 g3) p3, fun j hj => ?_, ?_⟩
            · rw [el, eo]
              exact p2
            · rw [p4 j (by omega), g4 j hj, n4]
            · refine pz_la_app _ n w _ (pz_la_imp n w g5 (fun j x h5 h6 h7 => ?_)) ⟨?_, trivial⟩
              · show D2 22 j = _
                rw [p4 j (by omega)]
                exact h7
              · show D2 22 (n + w.length) = sp_cd (nI key) (nI 2) (nI 33)
                rw [pz_cd2, p5]
                rfl
          · obtain ⟨D0, n1, n2, n3, n4⟩ := pz_Rnext (sx_rom L xs) c B len (dn + 3) (pz_R21 B len h1 (nt + 1)) hT
            obtain ⟨D1, g1, g2, g3, g5⟩ := hH c D0 n o A n2 (by omega) h4
            obtain ⟨D2, p1, p2, p3, p4, p5⟩ := pz_step (sx_rom L xs) c B len (dn + 4) 2 33 (pz_R21 B len g2 nt) (by omega) h4
            refine ⟨D2, pz_240_not1 (sx_rom L xs) c B len key br nt dn h1 hT hb hnt8 n1 g1 g2.2.2.2.2.2.2.2.2.1 p1, ?_, ?_, ?_⟩
            · rw [el, eo]
              exact p2
            · exact pz_FE_t (pz_FE_f D A n 21 _ (by omega)) (pz_FE_t (n3 n) (pz_FE_t g3 (pz_FE_t (pz_FE_f D1 A n 21 _ (by omega)) p3 (by omega)) (by omega)) (by omega)) (by omega)
            · refine pz_la_app _ n w _ (pz_la_imp n w g5 (fun j x h5 h6 h7 => ?_)) ⟨⟨p4, p5⟩, trivial⟩
              show D2 110 _ = _ ∧ D2 110 _ = _
              rw [p3.2.2 _ (by omega), p3.2.2 _ (by omega), up_n _ _ _ _ (by omega)]
              exact h7
        · refine Or.inr ⟨s', hs', fun D n o h1 h3 => ?_, fun c D n o A h1 h3 h4 => ?_⟩
          · obtain ⟨D0, n1, n2, n3, n4⟩ := pz_Cnext (sx_rom L xs) c B len (dn + 3) h1 hT
            obtain ⟨D1, m, g1, g2, g3, g4, g5, g6⟩ := hG D0 n o n2 (by omega)
            obtain ⟨D2, m2, p1, p2, p3, p4, p5, p6⟩ := pz_Bput (sx_rom L xs) c (dn + 4) (-33) g4 g5
            exact ⟨D2, m2, pz_122_not L xs c B len key br nt dn h1 hT hb hnt8 n1 g1 p1, p2.trans g2, p3.trans g3, p4, p5, pz_FC_t (pz_FC_t n3 g6) p6⟩
          · obtain ⟨D0, n1, n2, n3, n4⟩ := pz_Rnext (sx_rom L xs) c B len (dn + 3) (pz_R21 B len h1 (nt + 1)) hT
            obtain ⟨D1, g1, g2, g3⟩ := hH c D0 n o A n2 (by omega) h4
            exact ⟨D1, pz_240_not0 (sx_rom L xs) c B len key br nt dn h1 hT hb hnt8 n1 g1, g2, pz_FE_t (pz_FE_f D A n 21 _ (by omega)) (pz_FE_t (n3 n) g3 (by omega)) (by omega)⟩
      · by_cases q4 : ty = 3 ∧ B s = 40 ∧ br < 8
        · obtain ⟨rfl, hb, hbr8⟩ := q4
          have he := (hT.2.2.2.1 rfl).2
          rcases hP hbr8 _ _ _ hN1.1 with ⟨w, s2, e2, t2, hT2, h2, hw, hG, hH⟩ | ⟨s', hs', hG, hH⟩
          · have hs2 := hT2.1
            have hs3 := hT2.2.1
            by_cases q5 : t2 = 3 ∧ B s2 = 41
            · obtain ⟨rfl, hb2⟩ := q5
              have hN2 := pz_T_next B len e2 3 hT2.2.1
              refine Or.inl ⟨w, _, _, _, hN2.1, by omega, hw, fun D n o h1 h3 => ?_, fun c D n o A h1 h3 h4 => ?_⟩
              · obtain ⟨D0, n1, n2, n3, n4⟩ := pz_Cnext (sx_rom L xs) c B len (dn + 3) h1 hT
                obtain ⟨D1, g1, g2, g3, g4, g5⟩ := hG D0 n o n2 (by omega)
                obtain ⟨D2, p1, p2, p3, p4⟩ := pz_Cclose (sx_rom L xs) c B len (dn + 2) g2 hT2 hb2
                refine ⟨D2, pz_122_brk L xs c B len key br nt dn h1 hT hb hbr8 n1 g1 p1, p2, pz_FC_t (pz_FC_t n3 g3) p3, fun j hj => ?_, ?_⟩
                · rw [p4, g4 j hj, n4]
                · rw [p4]
                  exact g5
              · obtain ⟨D0, n1, n2, n3, n4⟩ := pz_Rnext (sx_rom L xs) c B len (dn + 3) (pz_R20 B len h1 (br + 1)) hT
                obtain ⟨D1, g1, g2, g3, g5⟩ := hH c D0 n o A n2 (by omega) h4
                have i2 : mx_run (dn + 4) 243 0 [some (.ref 109), some (.int 41)] [] (hp (sx_rom L xs) c D1) = some (some (.int 1), hp (sx_rom L xs) c D1) := pz_Rs1 (sx_rom L xs) c B len (dn + 4) 41 g2 hT2 (by omega) ⟨rfl, hb2⟩
                obtain ⟨D2, m1, m2, m3, m4⟩ := pz_Rnext (sx_rom L xs) c B len (dn + 3) (pz_R20 B len g2 br) hT2
                refine ⟨D2, pz_240_brk1 (sx_rom L xs) c B len key br nt dn h1 hT hb hbr8 n1 g1 i2 g2.2.2.2.2.2.2.2.1 m1, m2, ?_, ?_⟩
                · exact pz_FE_t (pz_FE_f D A n 20 _ (by omega)) (pz_FE_t (n3 n) (pz_FE_t g3 (pz_FE_t (pz_FE_f D1 A n 20 _ (by omega)) (m3 n) (by omega)) (by omega)) (by omega)) (by omega)
                · rw [m4, up_n _ _ _ _ (by omega)]
                  exact g5
            · refine Or.inr ⟨s2, by omega, fun D n o h1 h3 => ?_, fun c D n o A h1 h3 h4 => ?_⟩
              · obtain ⟨D0, n1, n2, n3, n4⟩ := pz_Cnext (sx_rom L xs) c B len (dn + 3) h1 hT
                obtain ⟨D1, g1, g2, g3, g4, g5⟩ := hG D0 n o n2 (by omega)
                have cl := pz_Cclose0 (sx_rom L xs) c B len (dn + 2) g2 hT2 q5
                refine ⟨_, n + w.length, pz_122_brk L xs c B len key br nt dn h1 hT hb hbr8 n1 g1 cl, ?_, ?_, ?_, by omega, pz_FC_t (pz_FC_t n3 g3) (fun a ha _ => up_n _ _ _ _ ha)⟩
                · rw [up_s, up_s]
                · rw [up_s, up_n _ _ _ _ (by omega)]
                  exact g2.1.2.1
                · rw [up_s, up_n _ _ _ _ (by omega)]
                  exact g2.2.2.2.2.2.2.2
              · obtain ⟨D0, n1, n2, n3, n4⟩ := pz_Rnext (sx_rom L xs) c B len (dn + 3) (pz_R20 B len h1 (br + 1)) hT
                obtain ⟨D1, g1, g2, g3, g5⟩ := hH c D0 n o A n2 (by omega) h4
                have i2 : mx_run (dn + 4) 243 0 [some (.ref 109), some (.int 41)] [] (hp (sx_rom L xs) c D1) = some (some (.int 0), hp (sx_rom L xs) c D1) := pz_Rs0 (sx_rom L xs) c B len (dn + 4) 41 g2 hT2 (by omega) q5
                exact ⟨D1, pz_240_brkx (sx_rom L xs) c B len key br nt dn h1 hT hb hbr8 n1 g1 i2, g2.2.1, pz_FE_t (pz_FE_f D A n 20 _ (by omega)) (pz_FE_t (n3 n) g3 (by omega)) (by omega)⟩
          · refine Or.inr ⟨s', hs', fun D n o h1 h3 => ?_, fun c D n o A h1 h3 h4 => ?_⟩
            · obtain ⟨D0, n1, n2, n3, n4⟩ := pz_Cnext (sx_rom L xs) c B len (dn + 3) h1 hT
              obtain ⟨D1, m, g1, g2, g3, g4, g5, g6⟩ := hG D0 n o n2 (by omega)
              have cl := pz_Cclose9 (sx_rom L xs) c (dn + 2) g2 (by omega)
              exact ⟨D1, m, pz_122_brk L xs c B len key br nt dn h1 hT hb hbr8 n1 g1 cl, g2, g3, g4, g5, pz_FC_t n3 g6⟩
            · obtain ⟨D0, n1, n2, n3, n4⟩ := pz_Rnext (sx_rom L xs) c B len (dn + 3) (pz_R20 B len h1 (br + 1)) hT
              obtain ⟨D1, g1, g2, g3⟩ := hH c D0 n o A n2 (by omega) h4
              exact ⟨D1, pz_240_brk0 (sx_rom L xs) c B len key br nt dn h1 hT hb hbr8 n1 g1, g2, pz_FE_t (pz_FE_f D A n 20 _ (by omega)) (pz_FE_t (n3 n) g3 (by omega)) (by omega)⟩
        · have hq1 : ty = 1 → ¬ (e - s = 1 ∧ tk_nm key (B s) ≠ 3) := fun z y => q1 ⟨z, y⟩
          refine Or.inr ⟨s, by omega, fun D n o h1 h3 => ?_, fun c D n o A h1 h3 h4 => ?_⟩
          · refine ⟨_, n, pz_122_bad L xs c B len key br nt dn h1 hT hk hbr hnt q2 hq1 q3 q4, ?_, ?_, ?_, by omega, fun a ha _ => up_n _ _ _ _ ha⟩
            · rw [up_s, up_s]
            · rw [up_s, up_n _ _ _ _ (by omega)]
              exact h1.1.2.1
            · rw [up_s, up_n _ _ _ _ (by omega)]
              exact h1.2.2.2.2.2.2.2
          · exact ⟨D, pz_240_bad (sx_rom L xs) c B len key br nt dn h1 hT hk hbr hnt q2 hq1 q3 q4, h1.2.1, pz_FE_r D A n⟩
/-- from a piece to what stands in brackets: six levels -/
theorem pz_or (q : Nat) (h96 : len ≤ 96) (hJ : pz_J (sx_rom L xs) c B len key br nt (fun D => mx_run (q + 1) 122 0 [some (.ref 20), some (.int (nI br)), some (.int (nI nt))] [] (hp (sx_rom L xs) c D)) (fun c D => mx_run (q + 1) 240 0 [some (.ref 109), some (.int (nI key))] [] (hp (sx_rom L xs) c D))) : pz_J (sx_rom L xs) c B len key br nt (fun D => mx_run (q + 6) 117 0 [some (.ref 20), some (.int (nI br)), some (.int (nI nt)), none] [] (hp (sx_rom L xs) c D)) (fun c D => mx_run (q + 6) 235 0 [some (.ref 109), some (.int (nI key))] [] (hp (sx_rom L xs) c D)) := pz_117 (sx_rom L xs) c B len key br nt (q + 4) h96 (pz_118 (sx_rom L xs) c B len key br nt (q + 3) h96 (pz_119 (sx_rom L xs) c B len key br nt (q + 2) h96 (pz_120 (sx_rom L xs) c B len key br nt (q + 1) h96 (pz_121 (sx_rom L xs) c B len key br nt q h96 hJ))))
end PQ
/-- class and reference read a piece alike, with b brackets and t nots to come -/
theorem pz_all (L : Nat) (xs : Nat → Int32) (c : Nat × Nat) (B : Nat → Nat) (len key d : Nat) (h96 : len ≤ 96) (hB : ∀ i, i < len → B i < 256) (hk : key ≤ 2) : ∀ b t br nt q, br + b = 8 → nt + t = 8 → q = d + 4 + 6 * b + t → pz_J (sx_rom L xs) c B len key br nt (fun D => mx_run (q + 1) 122 0 [some (.ref 20), some (.int (nI br)), some (.int (nI nt))] [] (hp (sx_rom L xs) c D)) (fun c D => mx_run (q + 1) 240 0 [some (.ref 109), some (.int (nI key))] [] (hp (sx_rom L xs) c D)) := by
  intro b
  induction b with
  | zero =>
    intro t
    induction t with
    | zero =>
      intro br nt q h1 h2 hq
      obtain ⟨dn, rfl⟩ : ∃ dn, q = dn + 4 := ⟨q - 4, by omega⟩
      exact pz_piece L xs c B len key br nt dn h96 hB hk (by omega) (by omega) (fun z => absurd z (by omega)) (fun z => absurd z (by omega))
    | succ t iht =>
      intro br nt q h1 h2 hq
      obtain ⟨dn, rfl⟩ : ∃ dn, q = dn + 4 := ⟨q - 4, by omega⟩
      refine pz_piece L xs c B len key br nt dn h96 hB hk (by omega) (by omega) (fun z => ?_) (fun z => absurd z (by omega))
      exact iht br (nt + 1) (dn + 3) h1 (by omega) (by omega)
  | succ b ihb =>
    intro t
    induction t with
    | zero =>
      intro br nt q h1 h2 hq
      obtain ⟨dn, rfl⟩ : ∃ dn, q = dn + 2 + 4 := ⟨q - 6, by omega⟩
      refine pz_piece L xs c B len key br nt (dn + 2) h96 hB hk (by omega) (by omega) (fun z => absurd z (by omega)) (fun z => ?_)
      exact pz_or L xs c B len key (br + 1) nt dn h96 (ihb 0 (br + 1) nt dn (by omega) h2 (by omega))
    | succ t iht =>
      intro br nt q h1 h2 hq
      obtain ⟨dn, rfl⟩ : ∃ dn, q = dn + 2 + 4 := ⟨q - 6, by omega⟩
      refine pz_piece L xs c B len key br nt (dn + 2) h96 hB hk (by omega) (by omega) (fun z => ?_) (fun z => ?_)
      · exact iht br (nt + 1) (dn + 5) h1 (by omega) (by omega)
      · exact pz_or L xs c B len key (br + 1) nt dn h96 (ihb (t + 1) (br + 1) nt dn (by omega) h2 (by omega))
