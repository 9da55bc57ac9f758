section MV
variable {c c' : Nat × Nat} {D D' : hz_D} {s s' : Nat → Int32}
theorem dp_mv {t : Nat} (hs : ∀ i, 75 + 200 * t ≤ i → i < 275 + 200 * t → s' i = s i) : ∀ k, k ≤ 97 → sp_dp s' t k = sp_dp s t k
  | 0, _ => rfl
  | k + 1, hk => by
    unfold sp_dp
    rw [dp_mv hs k (by omega)]
    unfold sp_wt sp_wv
    rw [hs _ (by omega) (by omega), hs _ (by omega) (by omega)]
theorem txo_mv {t : Nat} (hx : tx_ok s t) (h : ∀ i, 75 + 200 * t ≤ i → i < 275 + 200 * t → s' i = s i) : tx_ok s' t := by
  obtain ⟨q, h1, h2, h3, h4, h5⟩ := hx
  refine ⟨q, by rw [h _ (by omega) (by omega)]; exact h1, h2, ?_, by rw [dp_mv h q (by omega)]; exact h4, by rw [h _ (by omega) (by omega)]; exact h5⟩
  intro k hk
  have e1 : sp_wt s' t k = sp_wt s t k := h _ (by omega) (by omega)
  have e2 : sp_wv s' t k = sp_wv s t k := h _ (by omega) (by omega)
  rw [e1, e2, dp_mv h k (by omega), h _ (by omega) (by omega)]
  exact h3 k hk
theorem tx_mv {p t : Nat} (hx : tx_rel c D p s t) (hc : c.1 ≤ c'.1) (hD : ∀ a, 128 ≤ a → a < c.1 → (a - 128) % 3 ≠ 2 → D' a = D a) (h : ∀ i, 75 + 200 * t ≤ i → i < 275 + 200 * t → s' i = s i) : tx_rel c' D' p s' t := by
  obtain ⟨⟨g1, g2, g3⟩, h2, h3, q, o, o', a1, a2, a3, a4, a5, a6, a7, a8, a9, a10⟩ := hx
  have e0 : D' p = D p := hD p g1 (by omega) (by omega)
  have e1 : D' (p + 1) = D (p + 1) := hD (p + 1) (by omega) (by omega) (by omega)
  refine ⟨⟨g1, by omega, g3⟩, by rw [e0, h2, h _ (by omega) (by omega)], by rw [e0, h3, h _ (by omega) (by omega)], q, o, o', by rw [h _ (by omega) (by omega)]; exact a1, a2, by rw [h _ (by omega) (by omega)]; exact a3, by rw [e0]; exact a4, by rw [e0]; exact a5, a6, a7, a8, ?_, ?_⟩
  · intro k hk
    have e3 : sp_wt s' t k = sp_wt s t k := h _ (by omega) (by omega)
    have e4 : sp_wv s' t k = sp_wv s t k := h _ (by omega) (by omega)
    rw [e1, a9 k hk, h (75 + 200 * t) (by omega) (by omega), e3, e4]
  · intro k hk
    have e3 : sp_wt s' t k = sp_wt s t k := h _ (by omega) (by omega)
    rw [e3, dp_mv h k (by omega)]
    exact a10 k hk
theorem cnt_mv (key : Int32) : ∀ m, (∀ i, 75 ≤ i → i < 75 + 200 * m → s' i = s i) → sp_cnt s' key m = sp_cnt s key m
  | 0, _ => rfl
  | m + 1, h => by rw [sp_cnt_s, sp_cnt_s, h _ (by omega) (by omega), cnt_mv key m (fun i h1 h2 => h i h1 (by omega))]
theorem sv_mvt {n m : Nat} (hv : sv s n m) (h : ∀ i, i < 75 + 200 * m → s' i = s i) : sv s' n m := by
  obtain ⟨h1, h2, h3, h4, h5, h6, h7⟩ := hv
  refine ⟨by rw [h _ (by omega)]; exact h1, h2, by rw [h _ (by omega)]; exact h3, h4, by rw [h _ (by omega)]; exact h5, ?_, fun t ht => txo_mv (h7 t ht) (fun i i1 i2 => h i (by omega))⟩
  intro k hk
  unfold sv_b
  rw [h _ (by omega), h _ (by omega), h _ (by omega), h _ (by omega)]
  exact h6 k hk
theorem sea_mv {B n m : Nat} (hr : sea_rel c D B s n m) (hn : n ≤ 9) (hc : c.1 ≤ c'.1) (hD : ∀ a, (B ≤ a ∧ a ≤ B + 13) ∨ (128 ≤ a ∧ a < c.1 ∧ (a - 128) % 3 ≠ 2) → D' a = D a) (h : ∀ i, i < 75 + 200 * m → s' i = s i) : sea_rel c' D' B s' n m := by
  obtain ⟨h1, h2, h3, h4, h5, h6⟩ := hr
  refine ⟨?_, ?_, ?_, ?_, ?_, ?_⟩
  · unfold sf_rel
    rw [hD B (by omega), h _ (by omega), h _ (by omega), h _ (by omega), h _ (by omega), h _ (by omega), h _ (by omega), h _ (by omega)]
    exact h1
  · intro i hi
    rw [hD (B + 2) (by omega), h _ (by omega)]
    exact h2 i hi
  · intro k hk
    unfold bt_rel
    rw [hD (B + 5 + k) (by omega), h _ (by omega), h _ (by omega), h _ (by omega), h _ (by omega), h _ (by omega), h _ (by omega), h _ (by omega)]
    exact h3 k hk
  · intro k hk
    rw [hD (B + 5 + k) (by omega)]
    exact h4 k hk
  · intro k hk
    rw [hD (B + 4) (by omega), cnt_mv _ m (fun i _ i2 => h i i2)]
    exact h5 k hk
  · intro t ht
    obtain ⟨p, a1, a2, a3⟩ := h6 t ht
    exact ⟨p, by rw [hD (B + 3) (by omega)]; exact a1, a2, tx_mv a3 hc (fun a b1 b2 b3 => hD a (Or.inr ⟨b1, b2, b3⟩)) (fun i i1 i2 => h i (by omega))⟩
theorem tn_mv {B : Nat} (hr : tn_ok c D B) (hc : c.1 ≤ c'.1) (h : D' (B + 3) = D (B + 3)) : tn_ok c' D' B := by
  intro t ht
  rw [h]
  rcases hr t ht with z | ⟨p, z1, z2, ⟨z3, z4, z5⟩⟩
  · exact Or.inl z
  · exact Or.inr ⟨p, z1, z2, z3, by omega, z5⟩
/-- one text more -/
theorem sv_add {n m : Nat} (hv : sv s n m) (hm : m < 14) (h : ∀ i, i ≠ 1 → i < 75 + 200 * m → s' i = s i) (h1' : s' 1 = nI (m + 1)) (hok : tx_ok s' m) : sv s' n (m + 1) := by
  obtain ⟨h1, h2, h3, h4, h5, h6, h7⟩ := hv
  refine ⟨by rw [h _ (by omega) (by omega)]; exact h1, h2, h1', by omega, by rw [h _ (by omega) (by omega)]; exact h5, ?_, fun t ht => ?_⟩
  · intro k hk
    unfold sv_b
    rw [h _ (by omega) (by omega), h _ (by omega) (by omega), h _ (by omega) (by omega), h _ (by omega) (by omega)]
    exact h6 k hk
  · by_cases e : t = m
    · rw [e]
      exact hok
    · exact txo_mv (h7 t (by omega)) (fun i i1 i2 => h i (by omega) (by omega))
theorem sea_add {n m p key : Nat} (hr : sea_rel c D 35 s n m) (hn : n ≤ 9) (hm : m < 14) (hc : c.1 ≤ c'.1) (hk : key ≤ 2) (hD : ∀ a, (35 < a ∧ a ≤ 48 ∧ a ≠ 38 ∧ a ≠ 39) ∨ (128 ≤ a ∧ a < c.1 ∧ (a - 128) % 3 ≠ 2) → D' a = D a) (h35 : ∀ k, k ≠ 9 → D' 35 k = D 35 k) (h359 : D' 35 9 = nI (m + 1)) (h38 : ∀ t, t ≠ m → D' 38 t = D 38 t) (h38m : D' 38 m = nI p) (h39 : ∀ k, k ≠ key → D' 39 k = D 39 k) (h39k : D' 39 key = nI m) (h : ∀ i, i ≠ 1 → i < 75 + 200 * m → s' i = s i) (h1' : s' 1 = nI (m + 1)) (hsk : s' (75 + 200 * m) = nI key) (hp31 : p < 2 ^ 31) (htx : tx_rel c' D' p s' m) : sea_rel c' D' 35 s' n (m + 1) := by
  obtain ⟨h1, h2, h3, h4, h5, h6⟩ := hr
  refine ⟨?_, ?_, ?_, ?_, ?_, ?_⟩
  · obtain ⟨k1, k2, k3, k4, k5, k6, k7⟩ := h1
    refine ⟨?_, ?_, ?_, ?_, ?_, ?_, ?_⟩
    · rw [h35 1 (by omega), h _ (by omega) (by omega)]; exact k1
    · rw [h35 2 (by omega), h _ (by omega) (by omega)]; exact k2
    · rw [h35 4 (by omega), h _ (by omega) (by omega)]; exact k3
    · rw [h35 5 (by omega), h _ (by omega) (by omega)]; exact k4
    · rw [h35 6 (by omega), h _ (by omega) (by omega)]; exact k5
    · rw [h35 7 (by omega), h _ (by omega) (by omega)]; exact k6
    · rw [h359, h1']
  · intro i hi
    rw [hD (35 + 2) (by omega), h _ (by omega) (by omega)]
    exact h2 i hi
  · intro k hk9
    unfold bt_rel
    rw [hD (35 + 5 + k) (by omega), h _ (by omega) (by omega), h _ (by omega) (by omega), h _ (by omega) (by omega), h _ (by omega) (by omega), h _ (by omega) (by omega), h _ (by omega) (by omega), h _ (by omega) (by omega)]
    exact h3 k hk9
  · intro k hk9
    rw [hD (35 + 5 + k) (by omega)]
    exact h4 k hk9
  · intro k hk3
    rw [sp_cnt_s, hsk, cnt_mv _ m (fun i i1 i2 => h i (by omega) i2)]
    by_cases e : k = key
    · subst e
      rw [if_pos rfl]
      exact h39k
    · rw [if_neg (fun z => e ((nI_eq (by omega) (by omega)).mp z).symm)]
      exact (h39 k e).trans (h5 k hk3)
  · intro t ht
    by_cases e : t = m
    · subst e
      exact ⟨p, h38m, hp31, htx⟩
    · obtain ⟨p', a1, a2, a3⟩ := h6 t (by omega)
      exact ⟨p', (h38 t e).trans a1, a2, tx_mv a3 hc (fun a b1 b2 b3 => hD a (Or.inr ⟨b1, b2, b3⟩)) (fun i i1 i2 => h i (by omega) (by omega))⟩
end MV
theorem pz_la2 {P Q : Nat → pz_x → Prop} : ∀ (w : List pz_x) (n k : Nat), pz_la P n w → pz_la Q n w → k < w.length → ∃ x, P (n + k) x ∧ Q (n + k) x
  | [], _, _, _, _, h => absurd h (by show ¬ _ < 0; omega)
  | x :: w, n, 0, h1, h2, _ => ⟨x, h1.1, h2.1⟩
  | x :: w, n, k + 1, h1, h2, h => by
    have := pz_la2 w (n + 1) k h1.2 h2.2 (by rw [List.length_cons] at h; omega)
    rw [show n + (k + 1) = n + 1 + k by omega]
    exact this
theorem sgn_33 {v : Int32} (h : sp_sgn v) : v ≠ 33 := by
  unfold sp_sgn at h
  rcases h with h | h | h | h | h | h | h | h | h <;> subst h <;> decide
/-- the pile along the steps -/
theorem dp_g (key o m : Nat) (s' : Nat → Int32) : ∀ (w : List pz_x) (k0 b b' : Nat), pz_g key o w b b' → pz_la (pz_r s' (75 + 200 * m + 4)) k0 w → sp_dp s' m k0 = b → sp_dp s' m (k0 + w.length) = b' ∧ ∀ k, k0 ≤ k → k < k0 + w.length → (sp_wt s' m k = 0 ∧ (∃ u : Nat, u < 10000 ∧ sp_wv s' m k = nI u) ∧ sp_dp s' m k < o) ∨ (sp_wt s' m k = 1 ∧ sp_let (nI key) (sp_wv s' m k) ∧ sp_dp s' m k < o) ∨ (sp_wt s' m k = 2 ∧ sp_wv s' m k = 33 ∧ 1 ≤ sp_dp s' m k ∧ sp_dp s' m k ≤ o) ∨ (sp_wt s' m k = 2 ∧ sp_sgn (sp_wv s' m k) ∧ 2 ≤ sp_dp s' m k ∧ sp_dp s' m k ≤ o)
  | [], k0, b, b', hg, _, hd => ⟨by
      have e : b = b' := hg
      rw [← e]
      exact hd, fun k h1 h2 => absurd h2 (by show ¬ k < k0 + 0; omega)⟩
  | x :: w, k0, b, b', hg, hl, hd => by
    obtain ⟨⟨l1, l2⟩, l3⟩ := hl
    have l1 : sp_wt s' m k0 = nI x.1 := l1
    have l2 : sp_wv s' m k0 = nI x.2 := l2
    have hds : sp_dp s' m (k0 + 1) = if sp_wt s' m k0 = 2 then (if sp_wv s' m k0 = 33 then sp_dp s' m k0 else sp_dp s' m k0 - 1) else sp_dp s' m k0 + 1 := rfl
    have hcons : k0 + (x :: w).length = k0 + 1 + w.length := by rw [List.length_cons]; omega
    rw [hcons]
    rcases hg with ⟨a, g⟩ | ⟨a, g⟩ | ⟨a, g⟩
    · have h01 : x.1 = 0 ∨ x.1 = 1 := by
        rcases a with a | a
        · exact Or.inl a.1
        · exact Or.inr a.1
      have hn2 : sp_wt s' m k0 ≠ 2 := by
        rw [l1]
        rcases h01 with z | z <;> rw [z] <;> decide
      rw [if_neg hn2, hd] at hds
      obtain ⟨r1, r2⟩ := dp_g key o m s' w (k0 + 1) (b + 1) b' g l3 hds
      refine ⟨r1, fun k h1 h2 => ?_⟩
      by_cases e : k = k0
      · subst e
        rcases a with ⟨a1, a2, a3⟩ | ⟨a1, a2, a3⟩
        · refine Or.inl ⟨by rw [l1, a1]; rfl, ⟨x.2, a2, l2⟩, by rw [hd]; exact a3⟩
        · refine Or.inr (Or.inl ⟨by rw [l1, a1]; rfl, by rw [l2]; exact a2, by rw [hd]; exact a3⟩)
      · exact r2 k (by omega) h2
    · obtain ⟨a1, a2, a3, a4⟩ := a
      have e2 : sp_wt s' m k0 = 2 := by rw [l1, a1]; rfl
      have e3 : sp_wv s' m k0 = 33 := by rw [l2, a2]; rfl
      rw [if_pos e2, if_pos e3, hd] at hds
      obtain ⟨r1, r2⟩ := dp_g key o m s' w (k0 + 1) b b' g l3 hds
      refine ⟨r1, fun k h1 h2 => ?_⟩
      by_cases e : k = k0
      · subst e
        exact Or.inr (Or.inr (Or.inl ⟨e2, e3, by rw [hd]; exact a3, by rw [hd]; exact a4⟩))
      · exact r2 k (by omega) h2
    · obtain ⟨a1, a2, a3, a4⟩ := a
      have e2 : sp_wt s' m k0 = 2 := by rw [l1, a1]; rfl
      have e3 : sp_wv s' m k0 ≠ 33 := by rw [l2]; exact sgn_33 a2
      rw [if_pos e2, if_neg e3, hd] at hds
      obtain ⟨r1, r2⟩ := dp_g key o m s' w (k0 + 1) (b - 1) b' g l3 hds
      refine ⟨r1, fun k h1 h2 => ?_⟩
      by_cases e : k = k0
      · subst e
        exact Or.inr (Or.inr (Or.inr ⟨e2, by rw [l2]; exact a2, by rw [hd]; exact a3, by rw [hd]; exact a4⟩))
      · exact r2 k (by omega) h2
/-- a new text's row, and its cells -/
theorem tx_new {c : Nat × Nat} {D : hz_D} {s : Nat → Int32} {p key m : Nat} {w : List pz_x} {f : Nat → Int32} (hp0 : is_tx c p) (hk : key ≤ 2) (hw : pz_k key w) (hwl : w.length ≤ 96) (d0 : D p 0 = nI key) (d1 : D p 1 = nI (pz_o w)) (d2 : D p 2 = nI w.length) (d3 : D p 3 = nI (max 1 (pz_o w))) (dc : ∀ k, k < w.length → D (p + 1) k = f k) (hf : pz_la (pz_c key f) 0 w) (s0 : s (75 + 200 * m) = nI key) (s1 : s (75 + 200 * m + 1) = nI (pz_o w)) (s2 : s (75 + 200 * m + 2) = nI w.length) (hs : pz_la (pz_r s (75 + 200 * m + 4)) 0 w) : tx_rel c D p s m ∧ tx_ok s m := by
  obtain ⟨w1, w2, w3⟩ := hw
  have g0 := w3 0
  rw [Nat.zero_add] at g0
  obtain ⟨r1, r2⟩ := dp_g key (pz_o w) m s w 0 0 1 g0 hs rfl
  rw [Nat.zero_add] at r1 r2
  refine ⟨⟨hp0, by rw [d0, s0], by rw [d1, s1], w.length, pz_o w, max 1 (pz_o w), s2, hwl, s1, d2, d3, by omega, by omega, by omega, fun k hk2 => ?_, fun k hk2 hn => ?_⟩, ⟨w.length, s2, hwl, fun k hk2 => ?_, r1, ?_⟩⟩
  · obtain ⟨x, x1, x2⟩ := pz_la2 w 0 k hf hs hk2
    rw [Nat.zero_add] at x1 x2
    have e1 : sp_wt s m k = nI x.1 := x2.1
    have e2 : sp_wv s m k = nI x.2 := x2.2
    rw [dc k hk2, s0, e1, e2]
    exact x1
  · rcases r2 k (by omega) hk2 with z | z | z | z
    · exact z.2.2
    · exact z.2.2
    · exact absurd z.1 hn
    · exact absurd z.1 hn
  · rcases r2 k (by omega) hk2 with z | z | z | z
    · exact Or.inl ⟨z.1, z.2.1, by have := z.2.2; omega⟩
    · exact Or.inr (Or.inl ⟨z.1, by rw [s0]; exact z.2.1, by have := z.2.2; omega⟩)
    · exact Or.inr (Or.inr (Or.inl ⟨z.1, z.2.1, z.2.2.1, by have := z.2.2.2; omega⟩))
    · exact Or.inr (Or.inr (Or.inr ⟨z.1, z.2.1, z.2.2.1, by have := z.2.2.2; omega⟩))
  · rw [s0]
    have : key = 0 ∨ key = 1 ∨ key = 2 := by omega
    rcases this with z | z | z <;> rw [z]
    · exact Or.inl rfl
    · exact Or.inr (Or.inl rfl)
    · exact Or.inr (Or.inr rfl)
section AD
variable (R : Nat → Option mx_MC) (c : Nat × Nat) (D : hz_D)
/-- addText -/
theorem in_add (d p key m S : Nat) (hS : is_sea S) (hp0 : is_tx c p) (hp31 : p < 2 ^ 31) (hm : m < 14) (hk : key ≤ 2) (h9 : D S 9 = nI m) (h0 : D p 0 = nI key) : mx_run d 147 0 [some (.ref S), some (.ref p)] [] (hp R c D) = some (none, hp R c (mx_up (mx_up (mx_up D (S + 3) (mx_up (D (S + 3)) m (nI p))) (S + 4) (mx_up (D (S + 4)) key (nI m))) S (mx_up (D S) 9 (nI (m + 1))))) := by
  have hb : 35 ≤ S ∧ S ≤ 63 := by rcases hS with rfl | rfl | rfl <;> omega
  have hp1 := hp0.1
  have e1 : (nI m < 14) = True := eq_true (nI_lt (b := 14) hm (by omega))
  have a1 := as_tx R c D hS m hm hp0 hp31
  have g0 : mg_f (hp R c (mx_up D (S + 3) (mx_up (D (S + 3)) m (nI p)))) p [10] 0 = some (.int (nI key)) := by rw [gf_tx_0 R c _ hp0, up_n _ _ _ _ (by omega), h0]
  have f9 : (mx_up D (S + 3) (mx_up (D (S + 3)) m (nI p))) S 9 = nI m := by rw [up_n _ _ _ _ (by omega), h9]
  have s1 : mg_st (hp R c (mx_up D (S + 3) (mx_up (D (S + 3)) m (nI p)))) (S + 4) .int (nI key) (.int (nI m)) = some (hp R c (mx_up (mx_up D (S + 3) (mx_up (D (S + 3)) m (nI p))) (S + 4) (mx_up (D (S + 4)) key (nI m)))) := by
    rw [st_cnt R c _ hS key _ (by omega), up_n _ _ _ _ (by omega)]
  have f92 : (mx_up (mx_up D (S + 3) (mx_up (D (S + 3)) m (nI p))) (S + 4) (mx_up (D (S + 4)) key (nI m))) S 9 = nI m := by rw [up_n _ _ _ _ (by omega), f9]
  have fS : (mx_up (mx_up D (S + 3) (mx_up (D (S + 3)) m (nI p))) (S + 4) (mx_up (D (S + 4)) key (nI m))) S = D S := by rw [up_n _ _ _ _ (by omega), up_n _ _ _ _ (by omega)]
  simp (disch := first | assumption | omega | exact kd_sea _ _ _ (by assumption)) only [iq_147_0, iq_147_1, iq_147_4, iq_147_6, iq_147_9, iq_147_10, iq_147_13, iq_147_14, iq_147_17, iq_147_17n, iq_147_18, iq_147_18n, iq_147_19, iq_147_20, iq_147_23, iq_147_23n, iq_147_24, iq_147_27, iq_147_28, iq_147_31, iq_147_32, iq_147_33, iq_147_34, iq_147_37, iq_147_38, iq_147_39, iq_147_42, Option.bind_some, Option.toList, List.cons_append, List.nil_append, ↓reduceIte, nI_1, Int32.reduceLT, Int32.reduceLE, dv_1, dv_2, dv_3, dv_4, dv_6, dv_8, dv_10, dv_20, dv_100, dv_200, dv_500, gf_sea_0, gf_sea_1, gf_sea_2, gf_sea_3, gf_sea_4, gf_sea_5, gf_sea_6, gf_sea_7, gf_sea_8, gf_sea_9, gf_sea_10, kd_sea, pf_sea_1, pf_sea_2, pf_sea_4, pf_sea_5, pf_sea_6, pf_sea_7, pf_sea_9, h9, e1, a1, g0, f9, s1, f92, fS]
end AD
