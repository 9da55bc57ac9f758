theorem tk_ru1 (B : Nat → Nat) (len s so : Nat) (hs : s < len) (hb : tk_so (B s) = so) : tk_ru B len so (len - s) s = tk_ru B len so (len - (s + 1)) (s + 1) := by
  rw [show len - s = (len - (s + 1)) + 1 by omega]
  show (if s < len ∧ tk_so (B s) = so then tk_ru B len so (len - (s + 1)) (s + 1) else s) = _
  rw [if_pos ⟨hs, hb⟩]
/-- nextToken of the reference, against the same token -/
theorem rt_next (R : Nat → Option mx_MC) (c : Nat × Nat) (d : Nat) (D : hz_D) (B : Nat → Nat) (len p ps : Nat) (l1 l2 : Option Value) (ht : tp_r D B len) (h4 : D 109 16 = nI p) (h2 : D 109 17 = nI ps) (hpl : p ≤ len) (hs : ps ≤ 4) (hq : ps = 1 ∨ ps = 2 → 0 < p) : ∃ F : Nat → Int32, mx_run (d + 1) 230 0 [some (.ref 109), l1, l2] [] (hp R c D) = some (none, hp R c (mx_up D 109 F)) ∧ (∀ k, k < 15 ∨ 19 < k → F k = D 109 k) ∧ F 15 = nI (tk_st B len p) ∧ F 16 = nI (tk_en B len p) ∧ F 17 = nI (tk_ty B len p ps) ∧ (tk_st B len p < len → tk_so (B (tk_st B len p)) = 3 → F 19 = nI (B (tk_st B len p))) ∧ (tk_st B len p < len → tk_so (B (tk_st B len p)) = 1 → F 19 = if tk_en B len p - tk_st B len p = 1 then nI (B (tk_st B len p)) else 0) ∧ (tk_st B len p < len → tk_so (B (tk_st B len p)) = 2 → F 18 = nI (tk_nu B (tk_st B len p) (min 4 (tk_en B len p - tk_st B len p)))) := by
  have hl := ht.1
  have hst := tk_st_le B len p hpl
  rw [rt_n0 R c (d + 1) D p ps l1 l2 h4 h2 hs (by omega) hq]
  rw [rt_skip R c d B len _ _ (len - p) p (by omega) D ht h4 (by omega)]
  have hbw : tk_bw ps ≤ 1 := by unfold tk_bw; split <;> omega
  have eb : (tk_bw ps = 1) = (ps = 1 ∨ ps = 2) := by
    unfold tk_bw
    by_cases z : ps = 1 ∨ ps = 2
    · rw [if_pos z]
      exact propext ⟨fun _ => z, fun _ => rfl⟩
    · rw [if_neg z]
      exact propext ⟨fun y => absurd y (by omega), fun y => absurd y z⟩
  have ht1 : tp_r (mx_up D 109 (mx_up (D 109) 16 (nI (tk_st B len p)))) B len := tp_r_up ht 16 _ (by omega)
  change ∃ F : Nat → Int32, mx_run (d + 1) 230 72 _ [] (hp R c (mx_up D 109 (mx_up (D 109) 16 (nI (tk_st B len p))))) = _ ∧ _
  unfold tk_ty tk_en
  generalize hS : tk_st B len p = S at *
  have e6 : (mx_up D 109 (mx_up (D 109) 16 (nI S))) 109 16 = nI S := by rw [up_s, up_s]
  rw [rt_n1 R c (d + 1) _ S p (tk_bw ps) e6 hbw (by omega) (by omega)]
  simp only [eb]
  by_cases q : len ≤ S
  · have qe : S = len := by omega
    rw [if_pos q, if_pos q, rt_n2 R c (d + 1) _ B len S _ _ ht1 e6 qe, up_s, up_up]
    refine ⟨_, rfl, fun k hk => ?_, ?_, ?_, ?_, fun z => absurd z (by omega), fun z => absurd z (by omega), fun z => absurd z (by omega)⟩
    · rw [up_n _ _ _ _ (by omega), up_n _ _ _ _ (by omega), up_n _ _ _ _ (by omega)]
    · rw [up_n _ _ _ _ (by omega), up_s]
    · rw [up_n _ _ _ _ (by omega), up_n _ _ _ _ (by omega), up_s]
    · rw [up_s]
      rfl
  · rw [if_neg q, if_neg q, rt_n3 R c (d + 1) _ B len S _ _ ht1 e6 (by omega), up_s, up_up]
    have ht2 : tp_r (mx_up D 109 (mx_up (mx_up (D 109) 16 (nI S)) 15 (nI S))) B len := by
      have k1 := tp_r_up ht1 15 (nI S) (by omega)
      rw [up_s, up_up] at k1
      exact k1
    have f5 : (mx_up D 109 (mx_up (mx_up (D 109) 16 (nI S)) 15 (nI S))) 109 15 = nI S := by rw [up_s, up_s]
    have f6 : (mx_up D 109 (mx_up (mx_up (D 109) 16 (nI S)) 15 (nI S))) 109 16 = nI S := by rw [up_s, up_n _ _ _ _ (by omega), up_s]
    have hzl : (if (ps = 1 ∨ ps = 2) ∧ S = p then 1 else 0) ≤ 1 := by split <;> omega
    by_cases q3 : tk_so (B S) = 3
    · rw [if_pos q3, if_pos q3, rt_n6 R c d _ B len S _ _ ht2 f5 f6 (by omega) q3, up_s, up_up]
      refine ⟨_, rfl, fun k hk => ?_, ?_, ?_, ?_, fun _ _ => ?_, fun _ z => absurd (q3.symm.trans z) (by omega), fun _ z => absurd (q3.symm.trans z) (by omega)⟩
      · rw [up_n _ _ _ _ (by omega), up_n _ _ _ _ (by omega), up_n _ _ _ _ (by omega), up_n _ _ _ _ (by omega), up_n _ _ _ _ (by omega)]
      · rw [up_n _ _ _ _ (by omega), up_n _ _ _ _ (by omega), up_n _ _ _ _ (by omega), up_s]
      · rw [up_s]
      · rw [up_n _ _ _ _ (by omega), up_n _ _ _ _ (by omega), up_s]
        rfl
      · rw [up_n _ _ _ _ (by omega), up_s]
    · rw [if_neg q3, if_neg q3]
      have h3 := tk_so3 (B S)
      by_cases q1 : tk_so (B S) = 1
      · rw [q1, rt_n4 R c d _ B len S _ _ ht2 f5 (by omega) q1, rt_runL R c d B len _ _ (len - S) S (by omega) _ ht2 f6, up_s, up_up]
        rw [tk_ru1 B len S 1 (by omega) q1]
        have hru := tk_ru_le B len 1 (len - (S + 1)) (S + 1)
        generalize tk_ru B len 1 (len - (S + 1)) (S + 1) = E at *
        have ht3 : tp_r (mx_up D 109 (mx_up (mx_up (mx_up (D 109) 16 (nI S)) 15 (nI S)) 16 (nI E))) B len := by
          have k1 := tp_r_up ht2 16 (nI E) (by omega)
          rw [up_s, up_up] at k1
          exact k1
        rw [rt_n7 R c d _ B len S E _ _ ht3 (by rw [up_s, up_n _ _ _ _ (by omega), up_s]) (by rw [up_s, up_s]) (by omega) (by omega) (by omega) hzl, up_s, up_up]
        refine ⟨_, rfl, fun k hk => ?_, ?_, ?_, ?_, fun _ z => absurd z (by omega), fun _ _ => ?_, fun _ z => absurd z (by omega)⟩
        · rw [up_n _ _ _ _ (by omega), up_n _ _ _ _ (by omega), up_n _ _ _ _ (by omega), up_n _ _ _ _ (by omega), up_n _ _ _ _ (by omega)]
        · rw [up_n _ _ _ _ (by omega), up_n _ _ _ _ (by omega), up_n _ _ _ _ (by omega), up_s]
        · rw [up_n _ _ _ _ (by omega), up_n _ _ _ _ (by omega), up_s]
        · rw [up_n _ _ _ _ (by omega), up_s]
          congr 1
          by_cases z : (ps = 1 ∨ ps = 2) ∧ S = p
          · rw [if_pos z, if_pos rfl, if_pos (Or.inr z)]
          · rw [if_neg z, if_neg (by omega), if_neg (fun y => y.elim (fun x => absurd x.1 (by omega)) z)]
        · rw [up_s]
      · have q2 : tk_so (B S) = 2 := by omega
        rw [q2, rt_n5 R c d _ B len S _ _ ht2 f5 (by omega) q2, up_s, up_up]
        have ht3 : tp_r (mx_up D 109 (mx_up (mx_up (mx_up (D 109) 16 (nI S)) 15 (nI S)) 18 0)) B len := by
          have k1 := tp_r_up ht2 18 0 (by omega)
          rw [up_s, up_up] at k1
          exact k1
        rw [rt_runD R c d B len S _ _ (len - S) S (by omega) (by omega) _ ht3 (by rw [up_s, up_n _ _ _ _ (by omega), up_s]) (by rw [up_s, up_n _ _ _ _ (by omega), up_n _ _ _ _ (by omega), up_s]) (by rw [up_s, up_s, show min 4 (S - S) = 0 by omega]; rfl), up_s, up_up, up_up]
        rw [tk_ru1 B len S 2 (by omega) q2]
        have hru := tk_ru_le B len 2 (len - (S + 1)) (S + 1)
        generalize tk_ru B len 2 (len - (S + 1)) (S + 1) = E at *
        rw [rt_n8 R c d _ S E _ _ (by rw [up_s, up_n _ _ _ _ (by omega), up_n _ _ _ _ (by omega), up_s]) (by rw [up_s, up_s]) (by omega) (by omega) hzl, up_s, up_up]
        refine ⟨_, rfl, fun k hk => ?_, ?_, ?_, ?_, fun _ z => absurd z (by omega), fun _ z => absurd z (by omega), fun _ _ => ?_⟩
        · rw [up_n _ _ _ _ (by omega), up_n _ _ _ _ (by omega), up_n _ _ _ _ (by omega), up_n _ _ _ _ (by omega), up_n _ _ _ _ (by omega)]
        · rw [up_n _ _ _ _ (by omega), up_n _ _ _ _ (by omega), up_n _ _ _ _ (by omega), up_s]
        · rw [up_n _ _ _ _ (by omega), up_s]
        · rw [up_s]
          congr 1
          by_cases z : (ps = 1 ∨ ps = 2) ∧ S = p
          · rw [if_pos z, if_pos (Or.inr rfl), if_pos (Or.inr z)]
          · rw [if_neg z]
            by_cases y : 4 < E - S
            · rw [if_pos (Or.inl y), if_pos (Or.inl ⟨rfl, y⟩)]
            · rw [if_neg (by omega), if_neg (fun x => x.elim (fun w => y w.2) z)]
        · rw [up_n _ _ _ _ (by omega), up_n _ _ _ _ (by omega), up_s]
