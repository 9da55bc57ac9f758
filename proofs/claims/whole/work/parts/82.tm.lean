/-- the class's tape behind next -/
def tk_D (D : hz_D) (B : Nat → Nat) (len p ps : Nat) : hz_D := mx_up D 20 (mx_up (mx_up (mx_up (D 20) 3 (nI (tk_st B len p))) 2 (nI (tk_ty B len p ps))) 4 (nI (tk_en B len p)))
theorem tk_st_le (B : Nat → Nat) (len p : Nat) (h : p ≤ len) : p ≤ tk_st B len p ∧ tk_st B len p ≤ len := by
  have := tk_sk_le B len (len - p) p
  unfold tk_st
  omega
theorem tk_en_le (B : Nat → Nat) (len p : Nat) (h : p ≤ len) : tk_st B len p ≤ tk_en B len p ∧ tk_en B len p ≤ len ∧ (tk_st B len p < len → tk_st B len p < tk_en B len p) := by
  have h1 := tk_st_le B len p h
  unfold tk_en
  by_cases q : len ≤ tk_st B len p
  · rw [if_pos q]
    omega
  · rw [if_neg q]
    by_cases q2 : tk_so (B (tk_st B len p)) = 3
    · rw [if_pos q2]
      omega
    · rw [if_neg q2]
      have := tk_ru_le B len (tk_so (B (tk_st B len p))) (len - (tk_st B len p + 1)) (tk_st B len p + 1)
      omega
theorem tk_ty_le (B : Nat → Nat) (len p ps : Nat) : tk_ty B len p ps ≤ 4 := by
  unfold tk_ty
  have := tk_so3 (B (tk_st B len p))
  split
  · omega
  · split
    · omega
    · split <;> omega
theorem ct_next (R : Nat → Option mx_MC) (c : Nat × Nat) (d : Nat) (D : hz_D) (B : Nat → Nat) (len p ps : Nat) (l1 l2 l3 : Option Value) (ht : tp_c D B len) (h4 : D 20 4 = nI p) (h2 : D 20 2 = nI ps) (hpl : p ≤ len) (hs : ps ≤ 4) : mx_run (d + 1) 101 0 [some (.ref 20), l1, l2, l3] [] (hp R c D) = some (none, hp R c (tk_D D B len p ps)) := by
  have hl := ht.1
  rw [ct_n0 R c (d + 1) D p ps l1 l2 l3 h4 h2 hs]
  rw [ct_skip R c d B len _ _ _ (len - p) p (by omega) _ (tp_c_up ht 3 _ (by omega)) (by rw [up_s, up_s]) (by omega)]
  rw [up_s, up_up, up_up]
  have ht1 : tp_c (mx_up D 20 (mx_up (D 20) 3 (nI (tk_sk B len (len - p) p)))) B len := tp_c_up ht 3 _ (by omega)
  have hst := tk_st_le B len p hpl
  unfold tk_D
  show mx_run (d + 1) 101 69 _ [] (hp R c (mx_up D 20 (mx_up (D 20) 3 (nI (tk_st B len p))))) = _
  change tp_c (mx_up D 20 (mx_up (D 20) 3 (nI (tk_st B len p)))) B len at ht1
  unfold tk_ty tk_en
  generalize hS : tk_st B len p = S at *
  have e3 : (mx_up D 20 (mx_up (D 20) 3 (nI S))) 20 3 = nI S := by rw [up_s, up_s]
  by_cases q : len ≤ S
  · rw [if_pos q, if_pos q, ct_n1 R c d _ B len S _ _ _ ht1 e3 (by omega) q]
    rw [up_s, up_up, up_cm _ 4 2 _ _ (by omega)]
    rfl
  · rw [if_neg q, if_neg q]
    by_cases q2 : tk_so (B S) = 3
    · rw [if_pos q2, if_pos q2, ct_n2 R c d _ B len S _ _ _ ht1 e3 (by omega) q2]
      rw [up_s, up_up]
      rfl
    · rw [if_neg q2, if_neg q2, ct_n3 R c d _ B len S _ _ _ ht1 e3 (by omega) q2]
      rw [up_s, up_up]
      have ht2 : tp_c (mx_up D 20 (mx_up (mx_up (mx_up (D 20) 3 (nI S)) 2 (nI (tk_so (B S)))) 4 (nI (S + 1)))) B len := by
        have k1 := tp_c_up (tp_c_up ht1 2 (nI (tk_so (B S))) (by omega)) 4 (nI (S + 1)) (by omega)
        rw [up_s, up_s, up_up, up_up] at k1
        exact k1
      have hso := tk_so3 (B S)
      rw [ct_run R c d B len (tk_so (B S)) hso.2 _ _ _ (len - (S + 1)) (S + 1) (by omega) _ ht2 (by rw [up_s, up_s]) (by rw [up_s, up_n _ _ _ _ (by omega), up_s]) (by omega)]
      rw [up_s, up_up, up_up]
      have hru := tk_ru_le B len (tk_so (B S)) (len - (S + 1)) (S + 1)
      generalize tk_ru B len (tk_so (B S)) (len - (S + 1)) (S + 1) = E at *
      rw [ct_n4 R c d _ (tk_so (B S)) S E p (tk_bw ps) l3 (by rw [up_s, up_n _ _ _ _ (by omega), up_s]) (by rw [up_s, up_n _ _ _ _ (by omega), up_n _ _ _ _ (by omega), up_s]) (by rw [up_s, up_s]) (by omega) (by omega) (by omega) (by omega) (by unfold tk_bw; split <;> omega)]
      rw [up_s, up_up, up_cm _ 4 2 _ _ (by omega), up_up]
      have eb : (tk_bw ps = 1) = (ps = 1 ∨ ps = 2) := by
        unfold tk_bw
        by_cases z : ps = 1 ∨ ps = 2
        · rw [if_pos z]
          exact propext ⟨fun _ => z, fun _ => rfl⟩
        · rw [if_neg z]
          exact propext ⟨fun y => absurd y (by omega), fun y => absurd y z⟩
      simp only [eb]
