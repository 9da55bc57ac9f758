theorem nar_fit {x : Int32} (h : fits .short (.int x) = true) : mx_nar .short x = x := by
  have h' : (decide (-32768 ≤ x) && decide (x ≤ 32767)) = true := h
  simp only [Bool.and_eq_true, decide_eq_true_eq] at h'
  obtain ⟨h1, h2⟩ := h'
  rw [Int32.le_iff_toInt_le, show (-32768 : Int32).toInt = -32768 by decide] at h1
  rw [Int32.le_iff_toInt_le, show (32767 : Int32).toInt = 32767 by decide] at h2
  show x.toInt16.toInt32 = x
  apply Int32.toInt_inj.mp
  rw [Int16.toInt_toInt32, Int32.toInt_toInt16]
  exact Int.bmod_eq_of_le (by omega) (by omega)
section BE
variable (R : Nat → Option mx_MC) (c : Nat × Nat) {a b : Nat}
theorem cs_bec_lp (d : Nat) (h : is_sh a) (h2 : is_sh b) (hab : a + 3 ≤ b ∨ b + 3 ≤ a) : ∀ i j : Nat, j + i = 24 → ∀ D : hz_D, (∀ k, k < 24 → fits .short (.int (D (b + 1) k)) = true) → ∃ D', mx_run d 162 18 [some (.ref a), some (.ref b), some (.int (nI j))] [] (hp R c D) = some (none, hp R c D') ∧ (∀ k, j ≤ k → k < 24 → D' (a + 1) k = D (b + 1) k ∧ D' (a + 2) k = D (b + 2) k) ∧ (∀ k, k < j → D' (a + 1) k = D (a + 1) k ∧ D' (a + 2) k = D (a + 2) k) ∧ (∀ x, x ≠ a + 1 → x ≠ a + 2 → D' x = D x) := by
  intro i
  induction i with
  | zero =>
    intro j hj D _
    obtain rfl : j = 24 := by omega
    refine ⟨D, ?_, fun k h1 h2 => by omega, fun _ _ => ⟨rfl, rfl⟩, fun _ _ _ => rfl⟩
    rw [iq_162_18]
    simp (disch := first | assumption | omega | exact kd_sh _ _ _ (by assumption) | exact kd_sea _ _ _ (by assumption) | exact is_bts (by assumption) _ (by omega) | exact kd_bt _ _ _ (by first | assumption | exact is_bts (by assumption) _ (by omega)) | exact kd_109 _ _ _ | exact kd_17 _ _ _ | exact kd_20 _ _ _) only [iq_162_0, iq_162_1, iq_162_1n, iq_162_2, iq_162_5, iq_162_8, iq_162_9, iq_162_9n, iq_162_10, iq_162_13, iq_162_16, iq_162_17, iq_162_19, iq_162_21, iq_162_24, iq_162_25, iq_162_28, iq_162_29, iq_162_29n, iq_162_30, iq_162_33, iq_162_34, iq_162_35, iq_162_36, iq_162_37, iq_162_40, iq_162_41, iq_162_41n, iq_162_42, iq_162_45, iq_162_46, iq_162_47, iq_162_48, iq_162_51, iq_162_54, Option.bind_some, Option.toList, List.cons_append, List.nil_append, ↓reduceIte, nI_1, Int32.reduceLT, Int32.reduceLE, dv_1, dv_2, dv_3, dv_4, dv_6, dv_8, dv_10, dv_20, dv_100, dv_200, dv_500, nz_nlt_24]
  | succ i ih =>
    intro j hj D hf
    have fj := nar_fit (hf j (by omega))
    obtain ⟨D', k1, k2, k3, k4⟩ := ih (j + 1) (by omega) (mx_up (mx_up D (a + 1) (mx_up (D (a + 1)) j (D (b + 1) j))) (a + 2) (mx_up (D (a + 2)) j (D (b + 2) j))) (fun k hk => by rw [up_n _ _ _ _ (by omega), up_n _ _ _ _ (by omega)]; exact hf k hk)
    refine ⟨D', ?_, ?_, ?_, ?_⟩
    · rw [← k1, iq_162_18]
      simp (disch := first | assumption | omega | exact kd_sh _ _ _ (by assumption) | exact kd_sea _ _ _ (by assumption) | exact is_bts (by assumption) _ (by omega) | exact kd_bt _ _ _ (by first | assumption | exact is_bts (by assumption) _ (by omega)) | exact kd_109 _ _ _ | exact kd_17 _ _ _ | exact kd_20 _ _ _) only [iq_162_0, iq_162_1, iq_162_1n, iq_162_2, iq_162_5, iq_162_8, iq_162_9, iq_162_9n, iq_162_10, iq_162_13, iq_162_16, iq_162_17, iq_162_19, iq_162_21, iq_162_24, iq_162_25, iq_162_28, iq_162_29, iq_162_29n, iq_162_30, iq_162_33, iq_162_34, iq_162_35, iq_162_36, iq_162_37, iq_162_40, iq_162_41, iq_162_41n, iq_162_42, iq_162_45, iq_162_46, iq_162_47, iq_162_48, iq_162_51, iq_162_54, Option.bind_some, Option.toList, List.cons_append, List.nil_append, ↓reduceIte, nI_1, Int32.reduceLT, Int32.reduceLE, dv_1, dv_2, dv_3, dv_4, dv_6, dv_8, dv_10, dv_20, dv_100, dv_200, dv_500, gf_sh_0, gf_sh_1, gf_sh_2, gf_sh_3, kd_sh, pf_sh_0, pf_sh_1, up_s, up_up, up_n, ne_eq, Nat.reduceEqDiff, not_false_eq_true, nz_lt_24, ld_so, ld_fl, fj, st_so, st_fl, Int32.toInt32_toUInt32]
    · intro k g1 g2
      by_cases e : k = j
      · subst e
        rw [(k3 k (by omega)).1, (k3 k (by omega)).2, up_n _ _ _ _ (by omega), up_s, up_s, up_s, up_s]
        exact ⟨rfl, rfl⟩
      · rw [(k2 k (by omega) g2).1, (k2 k (by omega) g2).2, up_n _ _ _ _ (by omega), up_n _ _ _ _ (by omega), up_n _ _ _ _ (by omega), up_n _ _ _ _ (by omega)]
        exact ⟨rfl, rfl⟩
    · intro k g1
      rw [(k3 k (by omega)).1, (k3 k (by omega)).2, up_n _ _ _ _ (by omega), up_s, up_s, up_n _ _ _ _ (by omega), up_n _ _ _ _ (by omega)]
      exact ⟨rfl, rfl⟩
    · intro x g1 g2
      rw [k4 x g1 g2, up_n _ _ _ _ g2, up_n _ _ _ _ g1]
theorem cs_bec (d : Nat) (D : hz_D) (h : is_sh a) (h2 : is_sh b) (hab : a + 3 ≤ b ∨ b + 3 ≤ a) (hf : ∀ k, k < 24 → fits .short (.int (D (b + 1) k)) = true) : ∃ D', mx_run d 162 0 [some (.ref a), some (.ref b), none] [] (hp R c D) = some (none, hp R c D') ∧ D' a 0 = D b 0 ∧ D' a 1 = D b 1 ∧ (∀ k, k < 24 → D' (a + 1) k = D (b + 1) k ∧ D' (a + 2) k = D (b + 2) k) ∧ (∀ x, x ≠ a → x ≠ a + 1 → x ≠ a + 2 → D' x = D x) := by
  obtain ⟨D', k1, k2, k3, k4⟩ := cs_bec_lp R c d h h2 hab 24 0 (by omega) (mx_up D a (mx_up (mx_up (D a) 0 (D b 0)) 1 (D b 1))) (fun k hk => by rw [up_n _ _ _ _ (by omega)]; exact hf k hk)
  refine ⟨D', ?_, by rw [k4 a (by omega) (by omega), up_s]; rfl, by rw [k4 a (by omega) (by omega), up_s]; rfl, fun k hk => ?_, fun x g0 g1 g2 => by rw [k4 x g1 g2, up_n _ _ _ _ g0]⟩
  · simp (disch := first | assumption | omega | exact kd_sh _ _ _ (by assumption) | exact kd_sea _ _ _ (by assumption) | exact is_bts (by assumption) _ (by omega) | exact kd_bt _ _ _ (by first | assumption | exact is_bts (by assumption) _ (by omega)) | exact kd_109 _ _ _ | exact kd_17 _ _ _ | exact kd_20 _ _ _) only [iq_162_0, iq_162_1, iq_162_1n, iq_162_2, iq_162_5, iq_162_8, iq_162_9, iq_162_9n, iq_162_10, iq_162_13, iq_162_16, iq_162_17, iq_162_19, iq_162_21, iq_162_24, iq_162_25, iq_162_28, iq_162_29, iq_162_29n, iq_162_30, iq_162_33, iq_162_34, iq_162_35, iq_162_36, iq_162_37, iq_162_40, iq_162_41, iq_162_41n, iq_162_42, iq_162_45, iq_162_46, iq_162_47, iq_162_48, iq_162_51, iq_162_54, Option.bind_some, Option.toList, List.cons_append, List.nil_append, ↓reduceIte, nI_1, Int32.reduceLT, Int32.reduceLE, dv_1, dv_2, dv_3, dv_4, dv_6, dv_8, dv_10, dv_20, dv_100, dv_200, dv_500, gf_sh_0, gf_sh_1, gf_sh_2, gf_sh_3, kd_sh, pf_sh_0, pf_sh_1, up_s, up_up, up_n, ne_eq, Nat.reduceEqDiff, not_false_eq_true]
    exact k1
  · rw [(k2 k (by omega) hk).1, (k2 k (by omega) hk).2, up_n _ _ _ _ (by omega), up_n _ _ _ _ (by omega)]
    exact ⟨rfl, rfl⟩
end BE
def Xsl (a : Nat) : Prop := a = 24 ∨ a = 27 ∨ (89 ≤ a ∧ a ≤ 108) ∨ (116 ≤ a ∧ a ≤ 120)
theorem Inv_slt {c : Nat × Nat} {D D' : hz_D} (h : Inv c D) (hs : I_slt D') (hD : ∀ a, ¬ Xsl a → D' a = D a) : Inv c D' := by
  obtain ⟨a0, ⟨n, m, a1⟩, ⟨n', m', a2⟩, a3, a4, -, a6⟩ := h
  have e : ∀ a, ¬ (a = 24 ∨ a = 27 ∨ (89 ≤ a ∧ a ≤ 108) ∨ (116 ≤ a ∧ a ≤ 120)) → D' a = D a := fun a ha => hD a (by unfold Xsl; omega)
  exact ⟨a0, ⟨n, m, I_sea_fr a1 (e 110 (by omega)) (fun a ha => e a (by omega))⟩, ⟨n', m', I_img_fr a2 (e 111 (by omega)) (by rw [e 17 (by omega)]) (by rw [e 109 (by omega)]) (fun a ha => e a (by omega))⟩, I_tap_fr a3 (by rw [e 20 (by omega)]) (by rw [e 109 (by omega)]) (e 21 (by omega)) (e 122 (by omega)), I_shs_fr a4 (fun a ha => e a (by omega)), hs, I_wai_fr a6 (by rw [e 17 (by omega)]) (by rw [e 109 (by omega)]) (e 28 (by omega)) (e 126 (by omega))⟩
/-- the other slots stay -/
theorem I_slt_set {D D' : hz_D} (h : I_slt D) {k : Nat} (hk : k < 5) (hA : ∀ a j, (a = 24 ∨ a = 27 ∨ (116 ≤ a ∧ a ≤ 119)) → j ≠ k → D' a j = D a j) (h120 : ∀ i, ¬ (24 * k ≤ i ∧ i < 24 * k + 24) → D' 120 i = D 120 i) (ho : ∀ a, 89 ≤ a → a ≤ 108 → ¬ (89 + 4 * k ≤ a ∧ a ≤ 92 + 4 * k) → D' a = D a) (hr : sl_rel D' k) : I_slt D' := by
  intro j hj
  by_cases e : j = k
  · rw [e]
    exact hr
  · obtain ⟨a0, a1⟩ := h j hj
    unfold sl_rel
    rw [hA 24 j (by omega) e, hA 27 j (by omega) e, hA 116 j (by omega) e, hA 117 j (by omega) e, hA 118 j (by omega) e, hA 119 j (by omega) e, ho (89 + 4 * j) (by omega) (by omega) (by omega), ho (90 + 4 * j) (by omega) (by omega) (by omega)]
    refine ⟨a0, ?_⟩
    rcases a1 with z | z | ⟨b1, b2, b3⟩ | z
    · exact Or.inl z
    · exact Or.inr (Or.inl z)
    · refine Or.inr (Or.inr (Or.inl ⟨b1, b2, ?_⟩))
      obtain ⟨r1, r2, r3, r4⟩ := b3
      refine ⟨by rw [ho (90 + 4 * j) (by omega) (by omega) (by omega)]; exact r1, by rw [ho (90 + 4 * j) (by omega) (by omega) (by omega)]; exact r2, r3, ?_⟩
      intro i hi
      show _ ∧ sh_c _ _ _ (D' 120 (24 * j + i))
      rw [ho (90 + 4 * j) (by omega) (by omega) (by omega), ho (90 + 4 * j + 1) (by omega) (by omega) (by omega), ho (90 + 4 * j + 2) (by omega) (by omega) (by omega), h120 (24 * j + i) (by omega)]
      exact r4 i hi
    · exact Or.inr (Or.inr (Or.inr z))
