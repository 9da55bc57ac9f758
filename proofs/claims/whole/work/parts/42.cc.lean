def bt_rel (D : hz_D) (a : Nat) (s : Nat → Int32) (k : Nat) : Prop := D a 0 = 29 + s (12 + 7 * k + 0) ∧ D a 1 = s (12 + 7 * k + 1) ∧ D a 2 = s (12 + 7 * k + 2) ∧ D a 3 = s (12 + 7 * k + 3) ∧ D a 4 = s (12 + 7 * k + 4) ∧ D a 5 = s (12 + 7 * k + 6) ∧ D a 6 = s (12 + 7 * k + 5)
def sf_rel (D : hz_D) (B : Nat) (s : Nat → Int32) : Prop := D B 1 = s 0 ∧ D B 2 = s 3 ∧ D B 4 = s 4 ∧ D B 5 = s 5 ∧ D B 6 = s 2 ∧ D B 7 = s 6 ∧ D B 9 = s 1
/-- the sea at B is as the row s: n boats, m texts -/
def sea_rel (c : Nat × Nat) (D : hz_D) (B : Nat) (s : Nat → Int32) (n m : Nat) : Prop := sf_rel D B s ∧ (∀ i, i < 5 → D (B + 2) i = s (7 + i)) ∧ (∀ k, k < n → bt_rel D (B + 5 + k) s k) ∧ (∀ k, k < 9 → D (B + 5 + k) 6 = 0 ∨ D (B + 5 + k) 6 = 1) ∧ (∀ k, k < 3 → D (B + 4) k = sp_cnt s (nI k) m) ∧ (∀ t, t < m → ∃ p, D (B + 3) t = nI p ∧ p < 2 ^ 31 ∧ tx_rel c D p s t)
theorem tx_rel_cg {c : Nat × Nat} {D D' : hz_D} {p t : Nat} {s s' : Nat → Int32} (h : tx_rel c D p s t) (hD : ∀ a, 128 ≤ a → (a - 128) % 3 ≠ 2 → D' a = D a) (hs : ∀ i, 75 ≤ i → s' i = s i) : tx_rel c D' p s' t := by
  obtain ⟨h1, h2, h3, q, o, o', a1, a2, a3, a4, a5, a6, a7, a8, a9, a10⟩ := h
  obtain ⟨g1, g2, g3⟩ := id h1
  have e0 : D' p = D p := hD p g1 (by omega)
  have e1 : D' (p + 1) = D (p + 1) := hD (p + 1) (by omega) (by omega)
  refine ⟨h1, by rw [e0, h2, hs _ (by omega)], by rw [e0, h3, hs _ (by omega)], q, o, o', by rw [hs _ (by omega)]; exact a1, a2, by rw [hs _ (by omega)]; exact a3, by rw [e0]; exact a4, by rw [e0]; exact a5, a6, a7, a8, ?_, ?_⟩
  · intro k hk
    rw [e1, a9 k hk, hs (75 + 200 * t) (by omega), (sp_wt_cg hs t k).1, (sp_wt_cg hs t k).2]
  · intro k hk
    rw [(sp_wt_cg hs t k).1, sp_dp_cg hs t k]
    exact a10 k hk
theorem sea_cg {c : Nat × Nat} {D D' : hz_D} {B n m : Nat} {s s' : Nat → Int32} (h : sea_rel c D B s n m) (hF : sf_rel D' B s') (hR : ∀ i, i < 5 → D' (B + 2) i = s' (7 + i)) (hB : ∀ k, k < n → bt_rel D' (B + 5 + k) s' k) (hT : ∀ k, k < 9 → D' (B + 5 + k) 6 = 0 ∨ D' (B + 5 + k) 6 = 1) (h4 : D' (B + 4) = D (B + 4)) (h3 : D' (B + 3) = D (B + 3)) (hD : ∀ a, 128 ≤ a → (a - 128) % 3 ≠ 2 → D' a = D a) (hs : ∀ i, 75 ≤ i → s' i = s i) : sea_rel c D' B s' n m := by
  refine ⟨hF, hR, hB, hT, ?_, ?_⟩
  · intro k hk
    rw [h4, h.2.2.2.2.1 k hk, sp_cnt_cg hs]
  · intro t ht
    obtain ⟨p, a1, a2, a3⟩ := h.2.2.2.2.2 t ht
    exact ⟨p, by rw [h3]; exact a1, a2, tx_rel_cg a3 hD hs⟩
/-- cells of others -/
theorem sea_fr {c : Nat × Nat} {D D' : hz_D} {B n m : Nat} {s : Nat → Int32} (h : sea_rel c D B s n m) (hn : n ≤ 9) (hD : ∀ a, (B ≤ a ∧ a ≤ B + 13) ∨ (128 ≤ a ∧ (a - 128) % 3 ≠ 2) → D' a = D a) : sea_rel c D' B s n m := by
  refine sea_cg h ?_ ?_ ?_ ?_ (hD _ (by omega)) (hD _ (by omega)) (fun a h1 h2 => hD a (Or.inr ⟨h1, h2⟩)) (fun _ _ => rfl)
  · unfold sf_rel
    rw [hD B (by omega)]
    exact h.1
  · intro i hi
    rw [hD (B + 2) (by omega)]
    exact h.2.1 i hi
  · intro k hk
    unfold bt_rel
    rw [hD (B + 5 + k) (by omega)]
    exact h.2.2.1 k hk
  · intro k hk
    rw [hD (B + 5 + k) (by omega)]
    exact h.2.2.2.1 k hk
theorem su_2 {c : Nat × Nat} {D : hz_D} {B n m : Nat} {s : Nat → Int32} (hB : is_sea B) (hn : n ≤ 9) (h : sea_rel c D B s n m) (x : Int32) : sea_rel c (mx_up D B (mx_up (D B) 2 x)) B (mx_up s 3 x) n m := by
  have hb := (show 35 ≤ B ∧ B ≤ 63 by rcases hB with rfl | rfl | rfl <;> omega)
  refine sea_cg h ⟨by rw [up_s, up_n _ _ _ _ (by omega), up_n s _ _ _ (by omega)]; exact h.1.1, by rw [up_s, up_s, up_s], by rw [up_s, up_n _ _ _ _ (by omega), up_n s _ _ _ (by omega)]; exact h.1.2.2.1, by rw [up_s, up_n _ _ _ _ (by omega), up_n s _ _ _ (by omega)]; exact h.1.2.2.2.1, by rw [up_s, up_n _ _ _ _ (by omega), up_n s _ _ _ (by omega)]; exact h.1.2.2.2.2.1, by rw [up_s, up_n _ _ _ _ (by omega), up_n s _ _ _ (by omega)]; exact h.1.2.2.2.2.2.1, by rw [up_s, up_n _ _ _ _ (by omega), up_n s _ _ _ (by omega)]; exact h.1.2.2.2.2.2.2⟩ ?_ ?_ ?_ (up_n _ _ _ _ (by omega)) (up_n _ _ _ _ (by omega)) (fun a h1 h2 => up_n _ _ _ _ (by omega)) (fun j hj => up_n _ _ _ _ (by omega))
  · intro j hj
    rw [up_n _ _ _ _ (by omega), up_n s _ _ _ (by omega)]
    exact h.2.1 j hj
  · intro k hk
    unfold bt_rel
    rw [up_n D _ _ _ (by omega), up_n s _ _ _ (by omega), up_n s _ _ _ (by omega), up_n s _ _ _ (by omega), up_n s _ _ _ (by omega), up_n s _ _ _ (by omega), up_n s _ _ _ (by omega), up_n s _ _ _ (by omega)]
    exact h.2.2.1 k hk
  · intro k hk
    rw [up_n D _ _ _ (by omega)]
    exact h.2.2.2.1 k hk
theorem su_4 {c : Nat × Nat} {D : hz_D} {B n m : Nat} {s : Nat → Int32} (hB : is_sea B) (hn : n ≤ 9) (h : sea_rel c D B s n m) (x : Int32) : sea_rel c (mx_up D B (mx_up (D B) 4 x)) B (mx_up s 4 x) n m := by
  have hb := (show 35 ≤ B ∧ B ≤ 63 by rcases hB with rfl | rfl | rfl <;> omega)
  refine sea_cg h ⟨by rw [up_s, up_n _ _ _ _ (by omega), up_n s _ _ _ (by omega)]; exact h.1.1, by rw [up_s, up_n _ _ _ _ (by omega), up_n s _ _ _ (by omega)]; exact h.1.2.1, by rw [up_s, up_s, up_s], by rw [up_s, up_n _ _ _ _ (by omega), up_n s _ _ _ (by omega)]; exact h.1.2.2.2.1, by rw [up_s, up_n _ _ _ _ (by omega), up_n s _ _ _ (by omega)]; exact h.1.2.2.2.2.1, by rw [up_s, up_n _ _ _ _ (by omega), up_n s _ _ _ (by omega)]; exact h.1.2.2.2.2.2.1, by rw [up_s, up_n _ _ _ _ (by omega), up_n s _ _ _ (by omega)]; exact h.1.2.2.2.2.2.2⟩ ?_ ?_ ?_ (up_n _ _ _ _ (by omega)) (up_n _ _ _ _ (by omega)) (fun a h1 h2 => up_n _ _ _ _ (by omega)) (fun j hj => up_n _ _ _ _ (by omega))
  · intro j hj
    rw [up_n _ _ _ _ (by omega), up_n s _ _ _ (by omega)]
    exact h.2.1 j hj
  · intro k hk
    unfold bt_rel
    rw [up_n D _ _ _ (by omega), up_n s _ _ _ (by omega), up_n s _ _ _ (by omega), up_n s _ _ _ (by omega), up_n s _ _ _ (by omega), up_n s _ _ _ (by omega), up_n s _ _ _ (by omega), up_n s _ _ _ (by omega)]
    exact h.2.2.1 k hk
  · intro k hk
    rw [up_n D _ _ _ (by omega)]
    exact h.2.2.2.1 k hk
theorem su_5 {c : Nat × Nat} {D : hz_D} {B n m : Nat} {s : Nat → Int32} (hB : is_sea B) (hn : n ≤ 9) (h : sea_rel c D B s n m) (x : Int32) : sea_rel c (mx_up D B (mx_up (D B) 5 x)) B (mx_up s 5 x) n m := by
  have hb := (show 35 ≤ B ∧ B ≤ 63 by rcases hB with rfl | rfl | rfl <;> omega)
  refine sea_cg h ⟨by rw [up_s, up_n _ _ _ _ (by omega), up_n s _ _ _ (by omega)]; exact h.1.1, by rw [up_s, up_n _ _ _ _ (by omega), up_n s _ _ _ (by omega)]; exact h.1.2.1, by rw [up_s, up_n _ _ _ _ (by omega), up_n s _ _ _ (by omega)]; exact h.1.2.2.1, by rw [up_s, up_s, up_s], by rw [up_s, up_n _ _ _ _ (by omega), up_n s _ _ _ (by omega)]; exact h.1.2.2.2.2.1, by rw [up_s, up_n _ _ _ _ (by omega), up_n s _ _ _ (by omega)]; exact h.1.2.2.2.2.2.1, by rw [up_s, up_n _ _ _ _ (by omega), up_n s _ _ _ (by omega)]; exact h.1.2.2.2.2.2.2⟩ ?_ ?_ ?_ (up_n _ _ _ _ (by omega)) (up_n _ _ _ _ (by omega)) (fun a h1 h2 => up_n _ _ _ _ (by omega)) (fun j hj => up_n _ _ _ _ (by omega))
  · intro j hj
    rw [up_n _ _ _ _ (by omega), up_n s _ _ _ (by omega)]
    exact h.2.1 j hj
  · intro k hk
    unfold bt_rel
    rw [up_n D _ _ _ (by omega), up_n s _ _ _ (by omega), up_n s _ _ _ (by omega), up_n s _ _ _ (by omega), up_n s _ _ _ (by omega), up_n s _ _ _ (by omega), up_n s _ _ _ (by omega), up_n s _ _ _ (by omega)]
    exact h.2.2.1 k hk
  · intro k hk
    rw [up_n D _ _ _ (by omega)]
    exact h.2.2.2.1 k hk
theorem su_6 {c : Nat × Nat} {D : hz_D} {B n m : Nat} {s : Nat → Int32} (hB : is_sea B) (hn : n ≤ 9) (h : sea_rel c D B s n m) (x : Int32) : sea_rel c (mx_up D B (mx_up (D B) 6 x)) B (mx_up s 2 x) n m := by
  have hb := (show 35 ≤ B ∧ B ≤ 63 by rcases hB with rfl | rfl | rfl <;> omega)
  refine sea_cg h ⟨by rw [up_s, up_n _ _ _ _ (by omega), up_n s _ _ _ (by omega)]; exact h.1.1, by rw [up_s, up_n _ _ _ _ (by omega), up_n s _ _ _ (by omega)]; exact h.1.2.1, by rw [up_s, up_n _ _ _ _ (by omega), up_n s _ _ _ (by omega)]; exact h.1.2.2.1, by rw [up_s, up_n _ _ _ _ (by omega), up_n s _ _ _ (by omega)]; exact h.1.2.2.2.1, by rw [up_s, up_s, up_s], by rw [up_s, up_n _ _ _ _ (by omega), up_n s _ _ _ (by omega)]; exact h.1.2.2.2.2.2.1, by rw [up_s, up_n _ _ _ _ (by omega), up_n s _ _ _ (by omega)]; exact h.1.2.2.2.2.2.2⟩ ?_ ?_ ?_ (up_n _ _ _ _ (by omega)) (up_n _ _ _ _ (by omega)) (fun a h1 h2 => up_n _ _ _ _ (by omega)) (fun j hj => up_n _ _ _ _ (by omega))
  · intro j hj
    rw [up_n _ _ _ _ (by omega), up_n s _ _ _ (by omega)]
    exact h.2.1 j hj
  · intro k hk
    unfold bt_rel
    rw [up_n D _ _ _ (by omega), up_n s _ _ _ (by omega), up_n s _ _ _ (by omega), up_n s _ _ _ (by omega), up_n s _ _ _ (by omega), up_n s _ _ _ (by omega), up_n s _ _ _ (by omega), up_n s _ _ _ (by omega)]
    exact h.2.2.1 k hk
  · intro k hk
    rw [up_n D _ _ _ (by omega)]
    exact h.2.2.2.1 k hk
theorem su_7 {c : Nat × Nat} {D : hz_D} {B n m : Nat} {s : Nat → Int32} (hB : is_sea B) (hn : n ≤ 9) (h : sea_rel c D B s n m) (x : Int32) : sea_rel c (mx_up D B (mx_up (D B) 7 x)) B (mx_up s 6 x) n m := by
  have hb := (show 35 ≤ B ∧ B ≤ 63 by rcases hB with rfl | rfl | rfl <;> omega)
  refine sea_cg h ⟨by rw [up_s, up_n _ _ _ _ (by omega), up_n s _ _ _ (by omega)]; exact h.1.1, by rw [up_s, up_n _ _ _ _ (by omega), up_n s _ _ _ (by omega)]; exact h.1.2.1, by rw [up_s, up_n _ _ _ _ (by omega), up_n s _ _ _ (by omega)]; exact h.1.2.2.1, by rw [up_s, up_n _ _ _ _ (by omega), up_n s _ _ _ (by omega)]; exact h.1.2.2.2.1, by rw [up_s, up_n _ _ _ _ (by omega), up_n s _ _ _ (by omega)]; exact h.1.2.2.2.2.1, by rw [up_s, up_s, up_s], by rw [up_s, up_n _ _ _ _ (by omega), up_n s _ _ _ (by omega)]; exact h.1.2.2.2.2.2.2⟩ ?_ ?_ ?_ (up_n _ _ _ _ (by omega)) (up_n _ _ _ _ (by omega)) (fun a h1 h2 => up_n _ _ _ _ (by omega)) (fun j hj => up_n _ _ _ _ (by omega))
  · intro j hj
    rw [up_n _ _ _ _ (by omega), up_n s _ _ _ (by omega)]
    exact h.2.1 j hj
  · intro k hk
    unfold bt_rel
    rw [up_n D _ _ _ (by omega), up_n s _ _ _ (by omega), up_n s _ _ _ (by omega), up_n s _ _ _ (by omega), up_n s _ _ _ (by omega), up_n s _ _ _ (by omega), up_n s _ _ _ (by omega), up_n s _ _ _ (by omega)]
    exact h.2.2.1 k hk
  · intro k hk
    rw [up_n D _ _ _ (by omega)]
    exact h.2.2.2.1 k hk
theorem su_rul {c : Nat × Nat} {D : hz_D} {B n m : Nat} {s : Nat → Int32} (hB : is_sea B) (hn : n ≤ 9) (h : sea_rel c D B s n m) (i : Nat) (hi : i < 5) (x : Int32) : sea_rel c (mx_up D (B + 2) (mx_up (D (B + 2)) i x)) B (mx_up s (7 + i) x) n m := by
  have hb := (show 35 ≤ B ∧ B ≤ 63 by rcases hB with rfl | rfl | rfl <;> omega)
  refine sea_cg h ?_ ?_ ?_ ?_ (up_n _ _ _ _ (by omega)) (up_n _ _ _ _ (by omega)) (fun a h1 h2 => up_n _ _ _ _ (by omega)) (fun j hj => up_n _ _ _ _ (by omega))
  · unfold sf_rel
    rw [up_n D _ _ _ (by omega), up_n s _ _ _ (by omega), up_n s _ _ _ (by omega), up_n s _ _ _ (by omega), up_n s _ _ _ (by omega), up_n s _ _ _ (by omega), up_n s _ _ _ (by omega), up_n s _ _ _ (by omega)]
    exact h.1
  · intro j hj
    rw [up_s]
    by_cases e : j = i
    · subst e
      rw [up_s, up_s]
    · rw [up_n _ _ _ _ e, up_n s _ _ _ (by omega)]
      exact h.2.1 j hj
  · intro k hk
    unfold bt_rel
    rw [up_n D _ _ _ (by omega), up_n s _ _ _ (by omega), up_n s _ _ _ (by omega), up_n s _ _ _ (by omega), up_n s _ _ _ (by omega), up_n s _ _ _ (by omega), up_n s _ _ _ (by omega), up_n s _ _ _ (by omega)]
    exact h.2.2.1 k hk
  · intro k hk
    rw [up_n D _ _ _ (by omega)]
    exact h.2.2.2.1 k hk
theorem su_b0 {c : Nat × Nat} {D : hz_D} {B n m : Nat} {s : Nat → Int32} (hB : is_sea B) (hn : n ≤ 9) (h : sea_rel c D B s n m) (k : Nat) (hk : k < 9) (x : Int32) : sea_rel c (mx_up D (B + 5 + k) (mx_up (D (B + 5 + k)) 0 (29 + x))) B (mx_up s (12 + 7 * k + 0) x) n m := by
  have hb := (show 35 ≤ B ∧ B ≤ 63 by rcases hB with rfl | rfl | rfl <;> omega)
  refine sea_cg h ?_ ?_ ?_ ?_ (up_n _ _ _ _ (by omega)) (up_n _ _ _ _ (by omega)) (fun a h1 h2 => up_n _ _ _ _ (by omega)) (fun j hj => up_n _ _ _ _ (by omega))
  · unfold sf_rel
    rw [up_n D _ _ _ (by omega), up_n s _ _ _ (by omega), up_n s _ _ _ (by omega), up_n s _ _ _ (by omega), up_n s _ _ _ (by omega), up_n s _ _ _ (by omega), up_n s _ _ _ (by omega), up_n s _ _ _ (by omega)]
    exact h.1
  · intro j hj
    rw [up_n D _ _ _ (by omega), up_n s _ _ _ (by omega)]
    exact h.2.1 j hj
  · intro i hi
    by_cases e : i = k
    · subst e
      exact ⟨by rw [up_s, up_s, up_s], by rw [up_s, up_n _ _ _ _ (by omega), up_n s _ _ _ (by omega)]; exact (h.2.2.1 i hi).2.1, by rw [up_s, up_n _ _ _ _ (by omega), up_n s _ _ _ (by omega)]; exact (h.2.2.1 i hi).2.2.1, by rw [up_s, up_n _ _ _ _ (by omega), up_n s _ _ _ (by omega)]; exact (h.2.2.1 i hi).2.2.2.1, by rw [up_s, up_n _ _ _ _ (by omega), up_n s _ _ _ (by omega)]; exact (h.2.2.1 i hi).2.2.2.2.1, by rw [up_s, up_n _ _ _ _ (by omega), up_n s _ _ _ (by omega)]; exact (h.2.2.1 i hi).2.2.2.2.2.1, by rw [up_s, up_n _ _ _ _ (by omega), up_n s _ _ _ (by omega)]; exact (h.2.2.1 i hi).2.2.2.2.2.2⟩
    · unfold bt_rel
      rw [up_n D _ _ _ (by omega), up_n s _ _ _ (by omega), up_n s _ _ _ (by omega), up_n s _ _ _ (by omega), up_n s _ _ _ (by omega), up_n s _ _ _ (by omega), up_n s _ _ _ (by omega), up_n s _ _ _ (by omega)]
      exact h.2.2.1 i hi
  · intro i hi
    by_cases e : i = k
    · subst e
      rw [up_s, up_n _ _ _ _ (by omega)]
      exact h.2.2.2.1 i hi
    · rw [up_n D _ _ _ (by omega)]
      exact h.2.2.2.1 i hi
theorem su_b1 {c : Nat × Nat} {D : hz_D} {B n m : Nat} {s : Nat → Int32} (hB : is_sea B) (hn : n ≤ 9) (h : sea_rel c D B s n m) (k : Nat) (hk : k < 9) (x : Int32) : sea_rel c (mx_up D (B + 5 + k) (mx_up (D (B + 5 + k)) 1 x)) B (mx_up s (12 + 7 * k + 1) x) n m := by
  have hb := (show 35 ≤ B ∧ B ≤ 63 by rcases hB with rfl | rfl | rfl <;> omega)
  refine sea_cg h ?_ ?_ ?_ ?_ (up_n _ _ _ _ (by omega)) (up_n _ _ _ _ (by omega)) (fun a h1 h2 => up_n _ _ _ _ (by omega)) (fun j hj => up_n _ _ _ _ (by omega))
  · unfold sf_rel
    rw [up_n D _ _ _ (by omega), up_n s _ _ _ (by omega), up_n s _ _ _ (by omega), up_n s _ _ _ (by omega), up_n s _ _ _ (by omega), up_n s _ _ _ (by omega), up_n s _ _ _ (by omega), up_n s _ _ _ (by omega)]
    exact h.1
  · intro j hj
    rw [up_n D _ _ _ (by omega), up_n s _ _ _ (by omega)]
    exact h.2.1 j hj
  · intro i hi
    by_cases e : i = k
    · subst e
      exact ⟨by rw [up_s, up_n _ _ _ _ (by omega), up_n s _ _ _ (by omega)]; exact (h.2.2.1 i hi).1, by rw [up_s, up_s, up_s], by rw [up_s, up_n _ _ _ _ (by omega), up_n s _ _ _ (by omega)]; exact (h.2.2.1 i hi).2.2.1, by rw [up_s, up_n _ _ _ _ (by omega), up_n s _ _ _ (by omega)]; exact (h.2.2.1 i hi).2.2.2.1, by rw [up_s, up_n _ _ _ _ (by omega), up_n s _ _ _ (by omega)]; exact (h.2.2.1 i hi).2.2.2.2.1, by rw [up_s, up_n _ _ _ _ (by omega), up_n s _ _ _ (by omega)]; exact (h.2.2.1 i hi).2.2.2.2.2.1, by rw [up_s, up_n _ _ _ _ (by omega), up_n s _ _ _ (by omega)]; exact (h.2.2.1 i hi).2.2.2.2.2.2⟩
    · unfold bt_rel
      rw [up_n D _ _ _ (by omega), up_n s _ _ _ (by omega), up_n s _ _ _ (by omega), up_n s _ _ _ (by omega), up_n s _ _ _ (by omega), up_n s _ _ _ (by omega), up_n s _ _ _ (by omega), up_n s _ _ _ (by omega)]
      exact h.2.2.1 i hi
  · intro i hi
    by_cases e : i = k
    · subst e
      rw [up_s, up_n _ _ _ _ (by omega)]
      exact h.2.2.2.1 i hi
    · rw [up_n D _ _ _ (by omega)]
      exact h.2.2.2.1 i hi
theorem su_b2 {c : Nat × Nat} {D : hz_D} {B n m : Nat} {s : Nat → Int32} (hB : is_sea B) (hn : n ≤ 9) (h : sea_rel c D B s n m) (k : Nat) (hk : k < 9) (x : Int32) : sea_rel c (mx_up D (B + 5 + k) (mx_up (D (B + 5 + k)) 2 x)) B (mx_up s (12 + 7 * k + 2) x) n m := by
  have hb := (show 35 ≤ B ∧ B ≤ 63 by rcases hB with rfl | rfl | rfl <;> omega)
  refine sea_cg h ?_ ?_ ?_ ?_ (up_n _ _ _ _ (by omega)) (up_n _ _ _ _ (by omega)) (fun a h1 h2 => up_n _ _ _ _ (by omega)) (fun j hj => up_n _ _ _ _ (by omega))
  · unfold sf_rel
    rw [up_n D _ _ _ (by omega), up_n s _ _ _ (by omega), up_n s _ _ _ (by omega), up_n s _ _ _ (by omega), up_n s _ _ _ (by omega), up_n s _ _ _ (by omega), up_n s _ _ _ (by omega), up_n s _ _ _ (by omega)]
    exact h.1
  · intro j hj
    rw [up_n D _ _ _ (by omega), up_n s _ _ _ (by omega)]
    exact h.2.1 j hj
  · intro i hi
    by_cases e : i = k
    · subst e
      exact ⟨by rw [up_s, up_n _ _ _ _ (by omega), up_n s _ _ _ (by omega)]; exact (h.2.2.1 i hi).1, by rw [up_s, up_n _ _ _ _ (by omega), up_n s _ _ _ (by omega)]; exact (h.2.2.1 i hi).2.1, by rw [up_s, up_s, up_s], by rw [up_s, up_n _ _ _ _ (by omega), up_n s _ _ _ (by omega)]; exact (h.2.2.1 i hi).2.2.2.1, by rw [up_s, up_n _ _ _ _ (by omega), up_n s _ _ _ (by omega)]; exact (h.2.2.1 i hi).2.2.2.2.1, by rw [up_s, up_n _ _ _ _ (by omega), up_n s _ _ _ (by omega)]; exact (h.2.2.1 i hi).2.2.2.2.2.1, by rw [up_s, up_n _ _ _ _ (by omega), up_n s _ _ _ (by omega)]; exact (h.2.2.1 i hi).2.2.2.2.2.2⟩
    · unfold bt_rel
      rw [up_n D _ _ _ (by omega), up_n s _ _ _ (by omega), up_n s _ _ _ (by omega), up_n s _ _ _ (by omega), up_n s _ _ _ (by omega), up_n s _ _ _ (by omega), up_n s _ _ _ (by omega), up_n s _ _ _ (by omega)]
      exact h.2.2.1 i hi
  · intro i hi
    by_cases e : i = k
    · subst e
      rw [up_s, up_n _ _ _ _ (by omega)]
      exact h.2.2.2.1 i hi
    · rw [up_n D _ _ _ (by omega)]
      exact h.2.2.2.1 i hi
theorem su_b3 {c : Nat × Nat} {D : hz_D} {B n m : Nat} {s : Nat → Int32} (hB : is_sea B) (hn : n ≤ 9) (h : sea_rel c D B s n m) (k : Nat) (hk : k < 9) (x : Int32) : sea_rel c (mx_up D (B + 5 + k) (mx_up (D (B + 5 + k)) 3 x)) B (mx_up s (12 + 7 * k + 3) x) n m := by
  have hb := (show 35 ≤ B ∧ B ≤ 63 by rcases hB with rfl | rfl | rfl <;> omega)
  refine sea_cg h ?_ ?_ ?_ ?_ (up_n _ _ _ _ (by omega)) (up_n _ _ _ _ (by omega)) (fun a h1 h2 => up_n _ _ _ _ (by omega)) (fun j hj => up_n _ _ _ _ (by omega))
  · unfold sf_rel
    rw [up_n D _ _ _ (by omega), up_n s _ _ _ (by omega), up_n s _ _ _ (by omega), up_n s _ _ _ (by omega), up_n s _ _ _ (by omega), up_n s _ _ _ (by omega), up_n s _ _ _ (by omega), up_n s _ _ _ (by omega)]
    exact h.1
  · intro j hj
    rw [up_n D _ _ _ (by omega), up_n s _ _ _ (by omega)]
    exact h.2.1 j hj
  · intro i hi
    by_cases e : i = k
    · subst e
      exact ⟨by rw [up_s, up_n _ _ _ _ (by omega), up_n s _ _ _ (by omega)]; exact (h.2.2.1 i hi).1, by rw [up_s, up_n _ _ _ _ (by omega), up_n s _ _ _ (by omega)]; exact (h.2.2.1 i hi).2.1, by rw [up_s, up_n _ _ _ _ (by omega), up_n s _ _ _ (by omega)]; exact (h.2.2.1 i hi).2.2.1, by rw [up_s, up_s, up_s], by rw [up_s, up_n _ _ _ _ (by omega), up_n s _ _ _ (by omega)]; exact (h.2.2.1 i hi).2.2.2.2.1, by rw [up_s, up_n _ _ _ _ (by omega), up_n s _ _ _ (by omega)]; exact (h.2.2.1 i hi).2.2.2.2.2.1, by rw [up_s, up_n _ _ _ _ (by omega), up_n s _ _ _ (by omega)]; exact (h.2.2.1 i hi).2.2.2.2.2.2⟩
    · unfold bt_rel
      rw [up_n D _ _ _ (by omega), up_n s _ _ _ (by omega), up_n s _ _ _ (by omega), up_n s _ _ _ (by omega), up_n s _ _ _ (by omega), up_n s _ _ _ (by omega), up_n s _ _ _ (by omega), up_n s _ _ _ (by omega)]
      exact h.2.2.1 i hi
  · intro i hi
    by_cases e : i = k
    · subst e
      rw [up_s, up_n _ _ _ _ (by omega)]
      exact h.2.2.2.1 i hi
    · rw [up_n D _ _ _ (by omega)]
      exact h.2.2.2.1 i hi
theorem su_b4 {c : Nat × Nat} {D : hz_D} {B n m : Nat} {s : Nat → Int32} (hB : is_sea B) (hn : n ≤ 9) (h : sea_rel c D B s n m) (k : Nat) (hk : k < 9) (x : Int32) : sea_rel c (mx_up D (B + 5 + k) (mx_up (D (B + 5 + k)) 4 x)) B (mx_up s (12 + 7 * k + 4) x) n m := by
  have hb := (show 35 ≤ B ∧ B ≤ 63 by rcases hB with rfl | rfl | rfl <;> omega)
  refine sea_cg h ?_ ?_ ?_ ?_ (up_n _ _ _ _ (by omega)) (up_n _ _ _ _ (by omega)) (fun a h1 h2 => up_n _ _ _ _ (by omega)) (fun j hj => up_n _ _ _ _ (by omega))
  · unfold sf_rel
    rw [up_n D _ _ _ (by omega), up_n s _ _ _ (by omega), up_n s _ _ _ (by omega), up_n s _ _ _ (by omega), up_n s _ _ _ (by omega), up_n s _ _ _ (by omega), up_n s _ _ _ (by omega), up_n s _ _ _ (by omega)]
    exact h.1
  · intro j hj
    rw [up_n D _ _ _ (by omega), up_n s _ _ _ (by omega)]
    exact h.2.1 j hj
  · intro i hi
    by_cases e : i = k
    · subst e
      exact ⟨by rw [up_s, up_n _ _ _ _ (by omega), up_n s _ _ _ (by omega)]; exact (h.2.2.1 i hi).1, by rw [up_s, up_n _ _ _ _ (by omega), up_n s _ _ _ (by omega)]; exact (h.2.2.1 i hi).2.1, by rw [up_s, up_n _ _ _ _ (by omega), up_n s _ _ _ (by omega)]; exact (h.2.2.1 i hi).2.2.1, by rw [up_s, up_n _ _ _ _ (by omega), up_n s _ _ _ (by omega)]; exact (h.2.2.1 i hi).2.2.2.1, by rw [up_s, up_s, up_s], by rw [up_s, up_n _ _ _ _ (by omega), up_n s _ _ _ (by omega)]; exact (h.2.2.1 i hi).2.2.2.2.2.1, by rw [up_s, up_n _ _ _ _ (by omega), up_n s _ _ _ (by omega)]; exact (h.2.2.1 i hi).2.2.2.2.2.2⟩
    · unfold bt_rel
      rw [up_n D _ _ _ (by omega), up_n s _ _ _ (by omega), up_n s _ _ _ (by omega), up_n s _ _ _ (by omega), up_n s _ _ _ (by omega), up_n s _ _ _ (by omega), up_n s _ _ _ (by omega), up_n s _ _ _ (by omega)]
      exact h.2.2.1 i hi
  · intro i hi
    by_cases e : i = k
    · subst e
      rw [up_s, up_n _ _ _ _ (by omega)]
      exact h.2.2.2.1 i hi
    · rw [up_n D _ _ _ (by omega)]
      exact h.2.2.2.1 i hi
theorem su_b5 {c : Nat × Nat} {D : hz_D} {B n m : Nat} {s : Nat → Int32} (hB : is_sea B) (hn : n ≤ 9) (h : sea_rel c D B s n m) (k : Nat) (hk : k < 9) (x : Int32) : sea_rel c (mx_up D (B + 5 + k) (mx_up (D (B + 5 + k)) 5 x)) B (mx_up s (12 + 7 * k + 6) x) n m := by
  have hb := (show 35 ≤ B ∧ B ≤ 63 by rcases hB with rfl | rfl | rfl <;> omega)
  refine sea_cg h ?_ ?_ ?_ ?_ (up_n _ _ _ _ (by omega)) (up_n _ _ _ _ (by omega)) (fun a h1 h2 => up_n _ _ _ _ (by omega)) (fun j hj => up_n _ _ _ _ (by omega))
  · unfold sf_rel
    rw [up_n D _ _ _ (by omega), up_n s _ _ _ (by omega), up_n s _ _ _ (by omega), up_n s _ _ _ (by omega), up_n s _ _ _ (by omega), up_n s _ _ _ (by omega), up_n s _ _ _ (by omega), up_n s _ _ _ (by omega)]
    exact h.1
  · intro j hj
    rw [up_n D _ _ _ (by omega), up_n s _ _ _ (by omega)]
    exact h.2.1 j hj
  · intro i hi
    by_cases e : i = k
    · subst e
      exact ⟨by rw [up_s, up_n _ _ _ _ (by omega), up_n s _ _ _ (by omega)]; exact (h.2.2.1 i hi).1, by rw [up_s, up_n _ _ _ _ (by omega), up_n s _ _ _ (by omega)]; exact (h.2.2.1 i hi).2.1, by rw [up_s, up_n _ _ _ _ (by omega), up_n s _ _ _ (by omega)]; exact (h.2.2.1 i hi).2.2.1, by rw [up_s, up_n _ _ _ _ (by omega), up_n s _ _ _ (by omega)]; exact (h.2.2.1 i hi).2.2.2.1, by rw [up_s, up_n _ _ _ _ (by omega), up_n s _ _ _ (by omega)]; exact (h.2.2.1 i hi).2.2.2.2.1, by rw [up_s, up_s, up_s], by rw [up_s, up_n _ _ _ _ (by omega), up_n s _ _ _ (by omega)]; exact (h.2.2.1 i hi).2.2.2.2.2.2⟩
    · unfold bt_rel
      rw [up_n D _ _ _ (by omega), up_n s _ _ _ (by omega), up_n s _ _ _ (by omega), up_n s _ _ _ (by omega), up_n s _ _ _ (by omega), up_n s _ _ _ (by omega), up_n s _ _ _ (by omega), up_n s _ _ _ (by omega)]
      exact h.2.2.1 i hi
  · intro i hi
    by_cases e : i = k
    · subst e
      rw [up_s, up_n _ _ _ _ (by omega)]
      exact h.2.2.2.1 i hi
    · rw [up_n D _ _ _ (by omega)]
      exact h.2.2.2.1 i hi
theorem su_b6 {c : Nat × Nat} {D : hz_D} {B n m : Nat} {s : Nat → Int32} (hB : is_sea B) (hn : n ≤ 9) (h : sea_rel c D B s n m) (k : Nat) (hk : k < 9) (x : Int32) (hx : x = 0 ∨ x = 1) : sea_rel c (mx_up D (B + 5 + k) (mx_up (D (B + 5 + k)) 6 x)) B (mx_up s (12 + 7 * k + 5) x) n m := by
  have hb := (show 35 ≤ B ∧ B ≤ 63 by rcases hB with rfl | rfl | rfl <;> omega)
  refine sea_cg h ?_ ?_ ?_ ?_ (up_n _ _ _ _ (by omega)) (up_n _ _ _ _ (by omega)) (fun a h1 h2 => up_n _ _ _ _ (by omega)) (fun j hj => up_n _ _ _ _ (by omega))
  · unfold sf_rel
    rw [up_n D _ _ _ (by omega), up_n s _ _ _ (by omega), up_n s _ _ _ (by omega), up_n s _ _ _ (by omega), up_n s _ _ _ (by omega), up_n s _ _ _ (by omega), up_n s _ _ _ (by omega), up_n s _ _ _ (by omega)]
    exact h.1
  · intro j hj
    rw [up_n D _ _ _ (by omega), up_n s _ _ _ (by omega)]
    exact h.2.1 j hj
  · intro i hi
    by_cases e : i = k
    · subst e
      exact ⟨by rw [up_s, up_n _ _ _ _ (by omega), up_n s _ _ _ (by omega)]; exact (h.2.2.1 i hi).1, by rw [up_s, up_n _ _ _ _ (by omega), up_n s _ _ _ (by omega)]; exact (h.2.2.1 i hi).2.1, by rw [up_s, up_n _ _ _ _ (by omega), up_n s _ _ _ (by omega)]; exact (h.2.2.1 i hi).2.2.1, by rw [up_s, up_n _ _ _ _ (by omega), up_n s _ _ _ (by omega)]; exact (h.2.2.1 i hi).2.2.2.1, by rw [up_s, up_n _ _ _ _ (by omega), up_n s _ _ _ (by omega)]; exact (h.2.2.1 i hi).2.2.2.2.1, by rw [up_s, up_n _ _ _ _ (by omega), up_n s _ _ _ (by omega)]; exact (h.2.2.1 i hi).2.2.2.2.2.1, by rw [up_s, up_s, up_s]⟩
    · unfold bt_rel
      rw [up_n D _ _ _ (by omega), up_n s _ _ _ (by omega), up_n s _ _ _ (by omega), up_n s _ _ _ (by omega), up_n s _ _ _ (by omega), up_n s _ _ _ (by omega), up_n s _ _ _ (by omega), up_n s _ _ _ (by omega)]
      exact h.2.2.1 i hi
  · intro i hi
    by_cases e : i = k
    · subst e
      rw [up_s, up_s]
      exact hx
    · rw [up_n D _ _ _ (by omega)]
      exact h.2.2.2.1 i hi
