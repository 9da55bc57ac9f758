def I_sea (c : Nat × Nat) (D : hz_D) (n m : Nat) : Prop := sea_rel c D 35 (D 110) n m ∧ sv (D 110) n m ∧ tn_ok c D 35 ∧ (∃ h : Nat, h ≤ 9999 ∧ D 110 2 = nI h)
def I_img (c : Nat × Nat) (D : hz_D) (n m : Nat) : Prop := (D 17 4 = 0 ∧ D 109 3 = 0) ∨ (D 17 4 = 1 ∧ D 109 3 = 1 ∧ sea_rel c D 63 (D 111) n m ∧ sv (D 111) n m ∧ tn_ok c D 63 ∧ (∃ h : Nat, h ≤ 9999 ∧ D 111 2 = nI h))
def I_tap (D : hz_D) : Prop := ∃ len : Nat, len ≤ 96 ∧ D 20 1 = nI len ∧ D 109 14 = nI len ∧ ∀ i, i < len → ∃ b : Nat, b < 256 ∧ D 122 i = nI b ∧ D 21 i = (nI b).toInt8.toInt32
/-- a place: the short x, the float y, the number v -/
def sh_c (so x y v : Int32) : Prop := (so = 0 → x = v ∧ v ≠ -1000000005) ∧ (so = 1 → (v = -1000000005 ∧ y = (FP.i2f 1000000).toInt32) ∨ (v ≠ -1000000005 ∧ ¬ v < -99999 ∧ ¬ 99999 < v ∧ y = (FP.i2f v).toInt32))
def sh_rel (D : hz_D) (a : Nat) (z : Int32) (f : Nat → Int32) : Prop := (D a 0 = -1 ∨ D a 0 = 0 ∨ D a 0 = 1) ∧ D a 1 = z ∧ (∃ q : Nat, q ≤ 24 ∧ z = nI q) ∧ ∀ i, i < 24 → fits .short (.int (D (a + 1) i)) = true ∧ sh_c (D a 0) (D (a + 1) i) (D (a + 2) i) (f i)
def I_shs (D : hz_D) : Prop := ∀ k, k < 4 → D (77 + 3 * k) 0 = D 113 k ∧ sh_rel D (77 + 3 * k) (D 114 k) (fun i => D 115 (24 * k + i))
def sl_rel (D : hz_D) (k : Nat) : Prop := D 24 k = D 116 k ∧ ((D 116 k = 0) ∨ (D 116 k = 1 ∧ ∃ a w : Nat, a ≤ 5 ∧ w ≤ 50 ∧ D 117 k = nI a ∧ D (89 + 4 * k) 0 = 29 + nI a ∧ D (89 + 4 * k) 1 = nI w ∧ D 118 k = sp_wor (nI a) (nI w)) ∨ (D 116 k = 2 ∧ (D (90 + 4 * k) 0 = 0 ∨ D (90 + 4 * k) 0 = 1) ∧ sh_rel D (90 + 4 * k) (D 119 k) (fun i => D 120 (24 * k + i))) ∨ (D 116 k = 3 ∧ D 27 k = D 117 k))
def I_slt (D : hz_D) : Prop := ∀ k, k < 5 → sl_rel D k
def I_wai (D : hz_D) : Prop := ∃ w : Nat, w ≤ 60 ∧ D 17 13 = nI w ∧ D 109 29 = nI w ∧ ∀ i, i < w → D 28 i = D 126 i
def Inv (c : Nat × Nat) (D : hz_D) : Prop := (128 ≤ c.1 ∧ (c.1 - 128) % 3 = 0 ∧ c.1 < 600000) ∧ (∃ n m, I_sea c D n m) ∧ (∃ n m, I_img c D n m) ∧ I_tap D ∧ I_shs D ∧ I_slt D ∧ I_wai D
theorem I_sea_fr {c : Nat × Nat} {D D' : hz_D} {n m : Nat} (h : I_sea c D n m) (h1 : D' 110 = D 110) (hD : ∀ a, (35 ≤ a ∧ a ≤ 48) ∨ (128 ≤ a ∧ (a - 128) % 3 ≠ 2) → D' a = D a) : I_sea c D' n m := by
  obtain ⟨a1, a2, a3, a4⟩ := h
  refine ⟨?_, by rw [h1]; exact a2, fun t ht => ?_, by rw [h1]; exact a4⟩
  · rw [h1]
    exact sea_fr a1 (sv_n9 a2) (fun a ha => hD a (by omega))
  · rw [hD (35 + 3) (by omega)]
    exact a3 t ht
theorem I_img_fr {c : Nat × Nat} {D D' : hz_D} {n m : Nat} (h : I_img c D n m) (h1 : D' 111 = D 111) (h2 : D' 17 4 = D 17 4) (h3 : D' 109 3 = D 109 3) (hD : ∀ a, (63 ≤ a ∧ a ≤ 76) ∨ (128 ≤ a ∧ (a - 128) % 3 ≠ 2) → D' a = D a) : I_img c D' n m := by
  rcases h with ⟨a1, a2⟩ | ⟨a1, a2, a3, a4, a5, a6⟩
  · exact Or.inl ⟨by rw [h2]; exact a1, by rw [h3]; exact a2⟩
  · refine Or.inr ⟨by rw [h2]; exact a1, by rw [h3]; exact a2, ?_, by rw [h1]; exact a4, fun t ht => ?_, by rw [h1]; exact a6⟩
    · rw [h1]
      exact sea_fr a3 (sv_n9 a4) (fun a ha => hD a (by omega))
    · rw [hD (63 + 3) (by omega)]
      exact a5 t ht
theorem I_tap_fr {D D' : hz_D} (h : I_tap D) (h1 : D' 20 1 = D 20 1) (h2 : D' 109 14 = D 109 14) (h3 : D' 21 = D 21) (h4 : D' 122 = D 122) : I_tap D' := by
  unfold I_tap
  rw [h1, h2, h3, h4]
  exact h
theorem sh_rel_fr {D D' : hz_D} {a : Nat} {z : Int32} {f : Nat → Int32} (h : sh_rel D a z f) (h0 : D' a = D a) (h1 : D' (a + 1) = D (a + 1)) (h2 : D' (a + 2) = D (a + 2)) : sh_rel D' a z f := by
  unfold sh_rel
  rw [h0, h1, h2]
  exact h
theorem I_shs_fr {D D' : hz_D} (h : I_shs D) (hD : ∀ a, (77 ≤ a ∧ a ≤ 88) ∨ (113 ≤ a ∧ a ≤ 115) → D' a = D a) : I_shs D' := by
  intro k hk
  obtain ⟨a1, a2⟩ := h k hk
  rw [hD 113 (by omega), hD 114 (by omega), hD 115 (by omega)]
  exact ⟨by rw [hD _ (by omega)]; exact a1, sh_rel_fr a2 (hD _ (by omega)) (hD _ (by omega)) (hD _ (by omega))⟩
theorem sl_rel_fr {D D' : hz_D} {k : Nat} (hk : k < 5) (h : sl_rel D k) (hD : ∀ a, a = 24 ∨ a = 27 ∨ (89 ≤ a ∧ a ≤ 108) ∨ (116 ≤ a ∧ a ≤ 120) → D' a = D a) : sl_rel D' k := by
  obtain ⟨a0, a1⟩ := h
  unfold sl_rel
  rw [hD 24 (by omega), hD 27 (by omega), hD 116 (by omega), hD 117 (by omega), hD 118 (by omega), hD 119 (by omega), hD 120 (by omega), hD (89 + 4 * k) (by omega), hD (90 + 4 * k) (by omega)]
  refine ⟨a0, ?_⟩
  rcases a1 with h | h | ⟨b1, b2, b3⟩ | h
  · exact Or.inl h
  · exact Or.inr (Or.inl h)
  · exact Or.inr (Or.inr (Or.inl ⟨b1, b2, sh_rel_fr b3 (hD _ (by omega)) (hD _ (by omega)) (hD _ (by omega))⟩))
  · exact Or.inr (Or.inr (Or.inr h))
theorem I_slt_fr {D D' : hz_D} (h : I_slt D) (hD : ∀ a, a = 24 ∨ a = 27 ∨ (89 ≤ a ∧ a ≤ 108) ∨ (116 ≤ a ∧ a ≤ 120) → D' a = D a) : I_slt D' := fun k hk => sl_rel_fr hk (h k hk) hD
theorem I_wai_fr {D D' : hz_D} (h : I_wai D) (h1 : D' 17 13 = D 17 13) (h2 : D' 109 29 = D 109 29) (h3 : D' 28 = D 28) (h4 : D' 126 = D 126) : I_wai D' := by
  unfold I_wai
  rw [h1, h2, h3, h4]
  exact h
/-- what sea and image do not speak of -/
def Xw (a : Nat) : Prop := a = 19 ∨ (35 ≤ a ∧ a ≤ 76) ∨ a = 110 ∨ a = 111 ∨ a = 112 ∨ a = 121 ∨ a = 123 ∨ a = 124 ∨ a = 125 ∨ a = 127 ∨ 128 ≤ a
/-- a call that leaves all but sea and image -/
theorem Inv_sea {c : Nat × Nat} {D D' : hz_D} (h : Inv c D) {n m : Nat} (h1 : I_sea c D' n m) {n' m' : Nat} (h2 : I_img c D' n' m') (hD : ∀ a, ¬ Xw a → D' a = D a) : Inv c D' := by
  obtain ⟨a0, -, -, a3, a4, a5, a6⟩ := h
  have e : ∀ a, a = 17 ∨ a = 20 ∨ a = 21 ∨ a = 24 ∨ a = 27 ∨ a = 28 ∨ a = 109 ∨ (77 ≤ a ∧ a ≤ 108) ∨ (113 ≤ a ∧ a ≤ 120) ∨ a = 122 ∨ a = 126 → D' a = D a := fun a ha => hD a (by unfold Xw; omega)
  exact ⟨a0, ⟨n, m, h1⟩, ⟨n', m', h2⟩, I_tap_fr a3 (by rw [e 20 (by omega)]) (by rw [e 109 (by omega)]) (e 21 (by omega)) (e 122 (by omega)), I_shs_fr a4 (fun a ha => e a (by omega)), I_slt_fr a5 (fun a ha => e a (by omega)), I_wai_fr a6 (by rw [e 17 (by omega)]) (by rw [e 109 (by omega)]) (e 28 (by omega)) (e 126 (by omega))⟩
/-- a call that leaves the image too -/
theorem Inv_sea1 {c : Nat × Nat} {D D' : hz_D} (h : Inv c D) {n m : Nat} (h1 : I_sea c D' n m) (hD : ∀ a, ¬ (a = 19 ∨ (35 ≤ a ∧ a ≤ 62) ∨ a = 110 ∨ a = 112 ∨ a = 121 ∨ a = 123 ∨ a = 124 ∨ a = 125 ∨ a = 127 ∨ (128 ≤ a ∧ (a - 128) % 3 = 2)) → D' a = D a) : Inv c D' := by
  obtain ⟨n', m', hi⟩ := h.2.2.1
  exact Inv_sea h h1 (I_img_fr hi (hD 111 (by omega)) (by rw [hD 17 (by omega)]) (by rw [hD 109 (by omega)]) (fun a ha => hD a (by omega))) (fun a ha => hD a (by unfold Xw at ha; omega))
/-- a call that leaves all that counts -/
theorem Inv_all {c : Nat × Nat} {D D' : hz_D} (h : Inv c D) (hD : ∀ a, ¬ (a = 19 ∨ (49 ≤ a ∧ a ≤ 62) ∨ a = 112 ∨ a = 121 ∨ a = 123 ∨ a = 124 ∨ a = 125 ∨ a = 127 ∨ (128 ≤ a ∧ (a - 128) % 3 = 2)) → D' a = D a) : Inv c D' := by
  obtain ⟨n, m, hs⟩ := h.2.1
  exact Inv_sea1 h (I_sea_fr hs (hD 110 (by omega)) (fun a ha => hD a (by omega))) (fun a ha => hD a (by omega))
/-- class and reference answer alike, and all stands well behind it -/
def ap (d L : Nat) (xs : Nat → Int32) (c : Nat × Nat) (D : hz_D) (Mc : Nat) (lc : mx_Lo) (Mr : Nat) (lr : mx_Lo) : Prop := ∃ (v : Int32) (c' : Nat × Nat) (D' D'' : hz_D), mx_run (d + 100) Mc 0 lc [] (hp (sx_rom L xs) c D) = some (some (.int v), hp (sx_rom L xs) c' D') ∧ mx_run (d + 100) Mr 0 lr [] (hp (sx_rom L xs) c' D') = some (some (.int v), hp (sx_rom L xs) c' D'') ∧ Inv c' D'' ∧ c'.1 ≤ c.1 + 3 ∧ c'.2 ≤ c.2 + 300
/-- no new cells -/
theorem ap_c {d L : Nat} {xs : Nat → Int32} {c : Nat × Nat} {D : hz_D} {Mc : Nat} {lc : mx_Lo} {Mr : Nat} {lr : mx_Lo} (v : Int32) (D' D'' : hz_D) (h1 : mx_run (d + 100) Mc 0 lc [] (hp (sx_rom L xs) c D) = some (some (.int v), hp (sx_rom L xs) c D')) (h2 : mx_run (d + 100) Mr 0 lr [] (hp (sx_rom L xs) c D') = some (some (.int v), hp (sx_rom L xs) c D'')) (h3 : Inv c D'') : ap d L xs c D Mc lc Mr lr := ⟨v, c, D', D'', h1, h2, h3, by omega, by omega⟩
