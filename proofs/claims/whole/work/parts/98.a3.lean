abbrev pz_x : Type := Nat × Nat
/-- operands among the steps -/
def pz_o : List pz_x → Nat
  | [] => 0
  | x :: w => (if x.1 = 2 then 0 else 1) + pz_o w
def pz_la (P : Nat → pz_x → Prop) : Nat → List pz_x → Prop
  | _, [] => True
  | n, x :: w => P n x ∧ pz_la P (n + 1) w
theorem pz_o_app : ∀ (w v : List pz_x), pz_o (w ++ v) = pz_o w + pz_o v
  | [], v => (Nat.zero_add _).symm
  | x :: w, v => by
    show (if x.1 = 2 then 0 else 1) + pz_o (w ++ v) = (if x.1 = 2 then 0 else 1) + pz_o w + pz_o v
    rw [pz_o_app w v, Nat.add_assoc]
theorem pz_la_app (P : Nat → pz_x → Prop) : ∀ (n : Nat) (w v : List pz_x), pz_la P n w → pz_la P (n + w.length) v → pz_la P n (w ++ v)
  | _, [], _, _, h => h
  | n, x :: w, v, h1, h2 => ⟨h1.1, pz_la_app P (n + 1) w v h1.2 (by rw [show n + 1 + w.length = n + (x :: w).length from by rw [List.length_cons]; omega]; exact h2)⟩
theorem pz_la_imp {P Q : Nat → pz_x → Prop} : ∀ (n : Nat) (w : List pz_x), pz_la P n w → (∀ j x, n ≤ j → j < n + w.length → P j x → Q j x) → pz_la Q n w
  | _, [], _, _ => trivial
  | n, x :: w, h, hq => ⟨hq n x (Nat.le_refl _) (by rw [List.length_cons]; omega) h.1, pz_la_imp (n + 1) w h.2 (fun j y h1 h2 => hq j y (by omega) (by rw [List.length_cons]; omega))⟩
def pz_c (key : Nat) (f : Nat → Int32) (j : Nat) (x : pz_x) : Prop := f j = sp_cd (nI key) (nI x.1) (nI x.2)
def pz_r (f : Nat → Int32) (A j : Nat) (x : pz_x) : Prop := f (A + 2 * j) = nI x.1 ∧ f (A + 2 * j + 1) = nI x.2
/-- the steps go from pile b to pile b', operands below o -/
def pz_g (key o : Nat) : List pz_x → Nat → Nat → Prop
  | [], b, b' => b = b'
  | x :: w, b, b' => (((x.1 = 0 ∧ x.2 < 10000 ∧ b < o) ∨ (x.1 = 1 ∧ sp_let (nI key) (nI x.2) ∧ b < o)) ∧ pz_g key o w (b + 1) b') ∨ ((x.1 = 2 ∧ x.2 = 33 ∧ 1 ≤ b ∧ b ≤ o) ∧ pz_g key o w b b') ∨ ((x.1 = 2 ∧ sp_sgn (nI x.2) ∧ 2 ≤ b ∧ b ≤ o) ∧ pz_g key o w (b - 1) b')
theorem pz_g_app (key o : Nat) : ∀ (w v : List pz_x) (b b1 b2 : Nat), pz_g key o w b b1 → pz_g key o v b1 b2 → pz_g key o (w ++ v) b b2
  | [], v, b, b1, b2, h1, h2 => by
    have e : b = b1 := h1
    rw [e]
    exact h2
  | x :: w, v, b, b1, b2, h1, h2 => by
    rcases h1 with ⟨a, g⟩ | ⟨a, g⟩ | ⟨a, g⟩
    · exact Or.inl ⟨a, pz_g_app key o w v _ _ _ g h2⟩
    · exact Or.inr (Or.inl ⟨a, pz_g_app key o w v _ _ _ g h2⟩)
    · exact Or.inr (Or.inr ⟨a, pz_g_app key o w v _ _ _ g h2⟩)
theorem pz_g_mono (key : Nat) {o o' : Nat} (ho : o ≤ o') : ∀ (w : List pz_x) (b b1 : Nat), pz_g key o w b b1 → pz_g key o' w b b1
  | [], _, _, h => h
  | x :: w, b, b1, h => by
    rcases h with ⟨a, g⟩ | ⟨a, g⟩ | ⟨a, g⟩
    · refine Or.inl ⟨?_, pz_g_mono key ho w _ _ g⟩
      rcases a with ⟨a1, a2, a3⟩ | ⟨a1, a2, a3⟩
      · exact Or.inl ⟨a1, a2, by omega⟩
      · exact Or.inr ⟨a1, a2, by omega⟩
    · exact Or.inr (Or.inl ⟨⟨a.1, a.2.1, a.2.2.1, by have := a.2.2.2; omega⟩, pz_g_mono key ho w _ _ g⟩)
    · exact Or.inr (Or.inr ⟨⟨a.1, a.2.1, a.2.2.1, by have := a.2.2.2; omega⟩, pz_g_mono key ho w _ _ g⟩)
/-- the steps of a text -/
def pz_k (key : Nat) (w : List pz_x) : Prop := 1 ≤ pz_o w ∧ pz_o w ≤ w.length ∧ ∀ b, pz_g key (b + pz_o w) w b (b + 1)
theorem pz_k_num (key u : Nat) (hu : u < 10000) : pz_k key [(0, u)] := ⟨by show 1 ≤ 1 + 0; omega, by show 1 + 0 ≤ 1; omega, fun b => Or.inl ⟨Or.inl ⟨rfl, hu, by show b < b + (1 + 0); omega⟩, rfl⟩⟩
theorem pz_k_nam (key u : Nat) (hu : sp_let (nI key) (nI u)) : pz_k key [(1, u)] := ⟨by show 1 ≤ 1 + 0; omega, by show 1 + 0 ≤ 1; omega, fun b => Or.inl ⟨Or.inr ⟨rfl, hu, by show b < b + (1 + 0); omega⟩, rfl⟩⟩
theorem pz_k_not (key : Nat) (w : List pz_x) (h : pz_k key w) : pz_k key (w ++ [(2, 33)]) := by
  obtain ⟨h1, h2, h3⟩ := h
  have e : pz_o (w ++ [(2, 33)]) = pz_o w := by rw [pz_o_app]; rfl
  refine ⟨by rw [e]; exact h1, by rw [e, List.length_append]; omega, fun b => ?_⟩
  rw [e]
  exact pz_g_app key _ w _ _ _ _ (h3 b) (Or.inr (Or.inl ⟨⟨rfl, rfl, by omega, by omega⟩, rfl⟩))
theorem pz_k_bin (key g : Nat) (w v : List pz_x) (h : pz_k key w) (k : pz_k key v) (hg : sp_sgn (nI g)) : pz_k key (w ++ v ++ [(2, g)]) := by
  obtain ⟨h1, h2, h3⟩ := h
  obtain ⟨k1, k2, k3⟩ := k
  have e : pz_o (w ++ v ++ [(2, g)]) = pz_o w + pz_o v := by rw [pz_o_app, pz_o_app]; rfl
  refine ⟨by rw [e]; omega, by rw [e, List.length_append, List.length_append]; omega, fun b => ?_⟩
  rw [e]
  refine pz_g_app key _ _ _ b (b + 2) (b + 1) (pz_g_app key _ w v b (b + 1) (b + 2) (pz_g_mono key (by omega) w _ _ (h3 b)) (pz_g_mono key (by omega) v _ _ (k3 (b + 1)))) (Or.inr (Or.inr ⟨⟨rfl, hg, by omega, by omega⟩, ?_⟩))
  show b + 2 - 1 = b + 1
  omega
/-- a token -/
def pz_T (B : Nat → Nat) (len s e ty : Nat) : Prop := s ≤ e ∧ e ≤ len ∧ ty ≤ 4 ∧ (ty = 3 → s < len ∧ e = s + 1) ∧ (ty = 1 → s < e ∧ tk_so (B s) = 1) ∧ (ty = 2 → s < e ∧ e - s ≤ 4 ∧ ∀ j, s ≤ j → j < e → tk_so (B j) = 2)
theorem tk_ru_all (B : Nat → Nat) (len so : Nat) : ∀ i p j, p ≤ j → j < tk_ru B len so i p → tk_so (B j) = so
  | 0, p, j, h1, h2 => absurd h2 (by show ¬ j < p; omega)
  | i + 1, p, j, h1, h2 => by
    unfold tk_ru at h2
    by_cases q : p < len ∧ tk_so (B p) = so
    · rw [if_pos q] at h2
      by_cases e : j = p
      · rw [e]
        exact q.2
      · exact tk_ru_all B len so i (p + 1) j (by omega) h2
    · rw [if_neg q] at h2
      omega
theorem pz_T_next (B : Nat → Nat) (len p ps : Nat) (h : p ≤ len) : pz_T B len (tk_st B len p) (tk_en B len p) (tk_ty B len p ps) ∧ p ≤ tk_st B len p := by
  have h1 := tk_st_le B len p h
  have h2 := tk_en_le B len p h
  refine ⟨⟨h2.1, h2.2.1, tk_ty_le B len p ps, fun z => ?_, fun z => ?_, fun z => ?_⟩, h1.1⟩
  · unfold tk_ty at z
    unfold tk_en
    by_cases q : len ≤ tk_st B len p
    · rw [if_pos q] at z
      exact absurd z (by omega)
    · rw [if_neg q] at z
      rw [if_neg q]
      by_cases q3 : tk_so (B (tk_st B len p)) = 3
      · rw [if_pos q3]
        exact ⟨by omega, rfl⟩
      · rw [if_neg q3] at z
        split at z
        · exact absurd z (by omega)
        · exact absurd z q3
  · unfold tk_ty at z
    by_cases q : len ≤ tk_st B len p
    · rw [if_pos q] at z
      exact absurd z (by omega)
    · refine ⟨h2.2.2 (by omega), ?_⟩
      rw [if_neg q] at z
      split at z
      · exact absurd z (by omega)
      · split at z
        · exact absurd z (by omega)
        · exact z
  · by_cases q : len ≤ tk_st B len p
    · unfold tk_ty at z
      rw [if_pos q] at z
      exact absurd z (by omega)
    · unfold tk_ty at z
      rw [if_neg q] at z
      by_cases q3 : tk_so (B (tk_st B len p)) = 3
      · rw [if_pos q3] at z
        exact absurd z (by omega)
      · rw [if_neg q3] at z
        split at z
        · exact absurd z (by omega)
        · rename_i hn
          refine ⟨h2.2.2 (by omega), ?_, fun j hj1 hj2 => ?_⟩
          · by_cases q5 : 4 < tk_en B len p - tk_st B len p
            · exact absurd (Or.inl ⟨z, q5⟩) hn
            · omega
          · unfold tk_en at hj2
            rw [if_neg q, if_neg q3] at hj2
            by_cases ej : j = tk_st B len p
            · rw [ej]
              exact z
            · rw [tk_ru_all B len _ _ _ j (by omega) hj2]
              exact z
/-- the class's tape at a token, with n codes and o operands -/
def pz_C (D : hz_D) (B : Nat → Nat) (len key s e ty n o : Nat) : Prop := tp_c D B len ∧ D 20 2 = nI ty ∧ D 20 3 = nI s ∧ D 20 4 = nI e ∧ D 20 5 = -1 ∧ D 20 6 = nI key ∧ D 20 7 = nI o ∧ D 20 9 = nI n
def pz_R (D : hz_D) (B : Nat → Nat) (len s e ty br nt n A o : Nat) : Prop := tp_r D B len ∧ D 109 15 = nI s ∧ D 109 16 = nI e ∧ D 109 17 = nI ty ∧ (ty = 3 → D 109 19 = nI (B s)) ∧ (ty = 1 → D 109 19 = if e - s = 1 then nI (B s) else 0) ∧ (ty = 2 → D 109 18 = nI (tk_nu B s (e - s))) ∧ D 109 20 = nI br ∧ D 109 21 = nI nt ∧ D 109 22 = nI n ∧ D 109 23 = nI A ∧ D 109 24 = nI o
def pz_FC (D D' : hz_D) : Prop := ∀ a, a ≠ 20 → a ≠ 22 → D' a = D a
def pz_FE (D D' : hz_D) (A n : Nat) : Prop := (∀ a, a ≠ 109 → a ≠ 110 → D' a = D a) ∧ (∀ k, k < 15 ∨ 24 < k → D' 109 k = D 109 k) ∧ (∀ j, j < A + 2 * n → D' 110 j = D 110 j)
theorem pz_FC_t {D D' D'' : hz_D} (h : pz_FC D D') (k : pz_FC D' D'') : pz_FC D D'' := fun a h1 h2 => (k a h1 h2).trans (h a h1 h2)
theorem pz_FE_t {D D' D'' : hz_D} {A n n' : Nat} (h : pz_FE D D' A n) (k : pz_FE D' D'' A n') (hn : n ≤ n') : pz_FE D D'' A n := ⟨fun a h1 h2 => (k.1 a h1 h2).trans (h.1 a h1 h2), fun j hj => (k.2.1 j hj).trans (h.2.1 j hj), fun j hj => (k.2.2 j (by omega)).trans (h.2.2 j hj)⟩
theorem pz_FC_r (D : hz_D) : pz_FC D D := fun _ _ _ => rfl
theorem pz_FE_r (D : hz_D) (A n : Nat) : pz_FE D D A n := ⟨fun _ _ _ => rfl, fun _ _ => rfl, fun _ _ => rfl⟩
section PN
variable (R : Nat → Option mx_MC) (c : Nat × Nat) (B : Nat → Nat) (len : Nat)
theorem pz_Cnext (d : Nat) {D : hz_D} {key s e ty n o : Nat} (h : pz_C D B len key s e ty n o) (hT : pz_T B len s e ty) : ∃ D0, mx_run (d + 1) 101 0 [some (.ref 20), none, none, none] [] (hp R c D) = some (none, hp R c D0) ∧ pz_C D0 B len key (tk_st B len e) (tk_en B len e) (tk_ty B len e ty) n o ∧ pz_FC D D0 ∧ D0 22 = D 22 := by
  obtain ⟨h1, h2, h3, h4, h5, h6, h7, h9⟩ := h
  refine ⟨tk_D D B len e ty, ct_next R c d D B len e ty none none none h1 h4 h2 hT.2.1 hT.2.2.1, ⟨?_, ?_, ?_, ?_, ?_, ?_, ?_, ?_⟩, fun a ha hb => ?_, ?_⟩
  · obtain ⟨a1, a2, a3⟩ := h1
    refine ⟨a1, ?_, fun i hi => ?_⟩
    · unfold tk_D
      rw [up_s, up_n _ _ _ _ (by omega), up_n _ _ _ _ (by omega), up_n _ _ _ _ (by omega)]
      exact a2
    · unfold tk_D
      rw [up_n _ _ _ _ (by omega)]
      exact a3 i hi
  · unfold tk_D
    rw [up_s, up_n _ _ _ _ (by omega), up_s]
  · unfold tk_D
    rw [up_s, up_n _ _ _ _ (by omega), up_n _ _ _ _ (by omega), up_s]
  · unfold tk_D
    rw [up_s, up_s]
  · unfold tk_D
    rw [up_s, up_n _ _ _ _ (by omega), up_n _ _ _ _ (by omega), up_n _ _ _ _ (by omega)]
    exact h5
  · unfold tk_D
    rw [up_s, up_n _ _ _ _ (by omega), up_n _ _ _ _ (by omega), up_n _ _ _ _ (by omega)]
    exact h6
  · unfold tk_D
    rw [up_s, up_n _ _ _ _ (by omega), up_n _ _ _ _ (by omega), up_n _ _ _ _ (by omega)]
    exact h7
  · unfold tk_D
    rw [up_s, up_n _ _ _ _ (by omega), up_n _ _ _ _ (by omega), up_n _ _ _ _ (by omega)]
    exact h9
  · unfold tk_D
    rw [up_n _ _ _ _ ha]
  · unfold tk_D
    rw [up_n _ _ _ _ (by omega)]
theorem pz_Rnext (d : Nat) {D : hz_D} {s e ty br nt n A o : Nat} (h : pz_R D B len s e ty br nt n A o) (hT : pz_T B len s e ty) : ∃ D0, mx_run (d + 1) 230 0 [some (.ref 109), none, none] [] (hp R c D) = some (none, hp R c D0) ∧ pz_R D0 B len (tk_st B len e) (tk_en B len e) (tk_ty B len e ty) br nt n A o ∧ (∀ m, pz_FE D D0 A m) ∧ D0 110 = D 110 := by
  obtain ⟨h1, h15, h16, h17, h19, h19b, h18, h20, h21, h22, h23, h24⟩ := h
  have tb := hT.2.2.2
  obtain ⟨F, f1, f2, f3, f4, f5, f6, f7, f8⟩ := rt_next R c d D B len e ty none none h1 h16 h17 hT.2.1 hT.2.2.1 (by
    intro z
    rcases z with z | z
    · have := (tb.2.1 z).1; omega
    · have := (tb.2.2 z).1; omega)
  have hN := (pz_T_next B len e ty hT.2.1).1
  have hn := hN.2.2.2
  refine ⟨mx_up D 109 F, f1, ⟨?_, ?_, ?_, ?_, ?_, ?_, ?_, ?_, ?_, ?_, ?_, ?_⟩, fun m => ⟨fun a ha _ => up_n _ _ _ _ ha, fun k hk => ?_, fun j _ => ?_⟩, up_n _ _ _ _ (by omega)⟩
  · obtain ⟨a1, a2, a3⟩ := h1
    refine ⟨a1, ?_, fun i hi => ?_⟩
    · rw [up_s, f2 14 (by omega)]
      exact a2
    · rw [up_n _ _ _ _ (by omega)]
      exact a3 i hi
  · rw [up_s]; exact f3
  · rw [up_s]; exact f4
  · rw [up_s]; exact f5
  · intro z
    rw [up_s]
    refine f6 (hn.1 z).1 ?_
    unfold tk_ty at z
    by_cases q : len ≤ tk_st B len e
    · rw [if_pos q] at z
      exact absurd z (by omega)
    · rw [if_neg q] at z
      split at z
      · rename_i y
        exact y
      · rename_i y
        split at z
        · exact absurd z (by omega)
        · exact z
  · intro z
    rw [up_s]
    exact f7 (by have := (hn.2.1 z).1; have := hN.2.1; omega) (hn.2.1 z).2
  · intro z
    rw [up_s]
    obtain ⟨z1, z2, z3⟩ := hn.2.2 z
    rw [f8 (by have := hN.2.1; omega) (z3 _ (Nat.le_refl _) z1), Nat.min_eq_right z2]
  · rw [up_s, f2 20 (by omega)]; exact h20
  · rw [up_s, f2 21 (by omega)]; exact h21
  · rw [up_s, f2 22 (by omega)]; exact h22
  · rw [up_s, f2 23 (by omega)]; exact h23
  · rw [up_s, f2 24 (by omega)]; exact h24
  · rw [up_s, f2 k (by omega)]
  · rw [up_n _ _ _ _ (by omega)]
/-- put of the class, in a good state -/
theorem pz_Cput (d : Nat) (x : Int32) {D : hz_D} {key s e ty n o : Nat} (h : pz_C D B len key s e ty n o) (hn : n < 96) : ∃ D2, mx_run d 125 0 [some (.ref 20), some (.int x)] [] (hp R c D) = some (none, hp R c D2) ∧ pz_C D2 B len key s e ty (n + 1) o ∧ pz_FC D D2 ∧ (∀ j, j < n → D2 22 j = D 22 j) ∧ D2 22 n = x := by
  obtain ⟨h1, h2, h3, h4, h5, h6, h7, h9⟩ := h
  refine ⟨_, ct_put R c d n D x h9 hn, ⟨?_, ?_, ?_, ?_, ?_, ?_, ?_, ?_⟩, fun a ha hb => ?_, fun j hj => ?_, ?_⟩
  · obtain ⟨a1, a2, a3⟩ := h1
    refine ⟨a1, ?_, fun i hi => ?_⟩
    · rw [up_s, up_n _ _ _ _ (by omega)]
      exact a2
    · rw [up_n _ _ _ _ (by omega), up_n _ _ _ _ (by omega)]
      exact a3 i hi
  · rw [up_s, up_n _ _ _ _ (by omega)]; exact h2
  · rw [up_s, up_n _ _ _ _ (by omega)]; exact h3
  · rw [up_s, up_n _ _ _ _ (by omega)]; exact h4
  · rw [up_s, up_n _ _ _ _ (by omega)]; exact h5
  · rw [up_s, up_n _ _ _ _ (by omega)]; exact h6
  · rw [up_s, up_n _ _ _ _ (by omega)]; exact h7
  · rw [up_s, up_s]
  · rw [up_n _ _ _ _ ha, up_n _ _ _ _ hb]
  · rw [up_n _ _ _ _ (by omega), up_s, up_n _ _ _ _ (by omega)]
  · rw [up_n _ _ _ _ (by omega), up_s, up_s]
/-- put of the class, in any state -/
theorem pz_Bput (d : Nat) (x : Int32) {D : hz_D} {n : Nat} (h9 : D 20 9 = nI n) (hn : n ≤ 96) : ∃ D2 n2, mx_run d 125 0 [some (.ref 20), some (.int x)] [] (hp R c D) = some (none, hp R c D2) ∧ D2 20 5 = D 20 5 ∧ D2 20 1 = D 20 1 ∧ D2 20 9 = nI n2 ∧ n2 ≤ 96 ∧ pz_FC D D2 := by
  by_cases q : n < 96
  · refine ⟨_, n + 1, ct_put R c d n D x h9 q, ?_, ?_, ?_, by omega, fun a ha hb => ?_⟩
    · rw [up_s, up_n _ _ _ _ (by omega)]
    · rw [up_s, up_n _ _ _ _ (by omega)]
    · rw [up_s, up_s]
    · rw [up_n _ _ _ _ ha, up_n _ _ _ _ hb]
  · refine ⟨D, n, ?_, rfl, rfl, h9, hn, pz_FC_r D⟩
    have e1 : (nI n < 96) = False := eq_false (nI_nlt (b := 96) (by omega) (by omega))
    simp (disch := first | assumption | omega | exact kd_sh _ _ _ (by assumption) | exact kd_sea _ _ _ (by assumption) | exact is_bts (by assumption) _ (by omega) | exact kd_bt _ _ _ (by first | assumption | exact is_bts (by assumption) _ (by omega)) | exact kd_109 _ _ _ | exact kd_17 _ _ _ | exact kd_20 _ _ _) only [iq_125_0, iq_125_1, iq_125_4, iq_125_6, iq_125_9, iq_125_10, iq_125_13, iq_125_14, iq_125_17, iq_125_18, iq_125_19, iq_125_20, iq_125_21, iq_125_24, iq_125_25, iq_125_26, iq_125_29, Option.bind_some, Option.toList, List.cons_append, List.nil_append, ↓reduceIte, nI_1, Int32.reduceLT, Int32.reduceLE, dv_1, dv_2, dv_3, dv_4, dv_6, dv_8, dv_10, dv_20, dv_100, dv_200, dv_500, gf_20_0, gf_20_1, gf_20_2, gf_20_3, gf_20_4, gf_20_5, gf_20_6, gf_20_7, gf_20_8, gf_20_9, kd_20, pf_20_1, pf_20_2, pf_20_3, pf_20_4, pf_20_5, pf_20_6, pf_20_7, pf_20_9, h9, e1]
/-- step of the reference -/
theorem pz_step (d : Nat) (x v : Int32) {D : hz_D} {s e ty br nt n A o : Nat} (h : pz_R D B len s e ty br nt n A o) (hn : n < 96) (hA : A + 192 ≤ 3075) : ∃ D2, mx_run d 241 0 [some (.ref 109), some (.int x), some (.int v)] [] (hp R c D) = some (none, hp R c D2) ∧ pz_R D2 B len s e ty br nt (n + 1) A o ∧ pz_FE D D2 A n ∧ D2 110 (A + 2 * n) = x ∧ D2 110 (A + 2 * n + 1) = v := by
  obtain ⟨h1, h15, h16, h17, h19, h19b, h18, h20, h21, h22, h23, h24⟩ := h
  have e2 : 2 * nI n = nI (2 * n) := rc_mul 2 n
  have ea : nI A + nI (2 * n) = nI (A + 2 * n) := nI_add A (2 * n)
  refine ⟨mx_up (mx_up D 110 (mx_up (mx_up (D 110) (A + 2 * n) x) (A + 2 * n + 1) v)) 109 (mx_up (D 109) 22 (nI (n + 1))), ?_, ⟨?_, ?_, ?_, ?_, ?_, ?_, ?_, ?_, ?_, ?_, ?_, ?_⟩, ⟨fun a ha hb => ?_, fun k hk => ?_, fun j hj => ?_⟩, ?_, ?_⟩
  · simp (disch := first | assumption | omega | exact kd_sh _ _ _ (by assumption) | exact kd_sea _ _ _ (by assumption) | exact is_bts (by assumption) _ (by omega) | exact kd_bt _ _ _ (by first | assumption | exact is_bts (by assumption) _ (by omega)) | exact kd_109 _ _ _ | exact kd_17 _ _ _ | exact kd_20 _ _ _) only [iq_241_0, iq_241_1, iq_241_4, iq_241_5, iq_241_8, iq_241_9, iq_241_10, iq_241_13, iq_241_14, iq_241_15, iq_241_16, iq_241_17, iq_241_18, iq_241_21, iq_241_22, iq_241_25, iq_241_26, iq_241_27, iq_241_30, iq_241_31, iq_241_32, iq_241_33, iq_241_34, iq_241_35, iq_241_36, iq_241_37, iq_241_38, iq_241_41, iq_241_42, iq_241_43, iq_241_46, Option.bind_some, Option.toList, List.cons_append, List.nil_append, ↓reduceIte, nI_1, Int32.reduceLT, Int32.reduceLE, dv_1, dv_2, dv_3, dv_4, dv_6, dv_8, dv_10, dv_20, dv_100, dv_200, dv_500, gf_109_0, gf_109_1, gf_109_2, gf_109_3, gf_109_4, gf_109_5, gf_109_6, gf_109_7, gf_109_8, gf_109_9, gf_109_10, gf_109_11, gf_109_12, gf_109_13, gf_109_14, gf_109_15, gf_109_16, gf_109_17, gf_109_18, gf_109_19, gf_109_20, gf_109_21, gf_109_22, gf_109_23, gf_109_24, gf_109_25, gf_109_26, gf_109_27, gf_109_28, gf_109_29, gf_109_30, kd_109, pf_109_3, pf_109_14, pf_109_15, pf_109_16, pf_109_17, pf_109_18, pf_109_19, pf_109_20, pf_109_21, pf_109_22, pf_109_23, pf_109_24, pf_109_29, up_s, up_up, up_n, ne_eq, Nat.reduceEqDiff, not_false_eq_true, h22, h23, e2, ea, st_110]
  · obtain ⟨a1, a2, a3⟩ := h1
    refine ⟨a1, ?_, fun i hi => ?_⟩
    · rw [up_s, up_n _ _ _ _ (by omega)]
      exact a2
    · rw [up_n _ _ _ _ (by omega), up_n _ _ _ _ (by omega)]
      exact a3 i hi
  · rw [up_s, up_n _ _ _ _ (by omega)]; exact h15
  · rw [up_s, up_n _ _ _ _ (by omega)]; exact h16
  · rw [up_s, up_n _ _ _ _ (by omega)]; exact h17
  · rw [up_s, up_n _ _ _ _ (by omega)]; exact h19
  · rw [up_s, up_n _ _ _ _ (by omega)]; exact h19b
  · rw [up_s, up_n _ _ _ _ (by omega)]; exact h18
  · rw [up_s, up_n _ _ _ _ (by omega)]; exact h20
  · rw [up_s, up_n _ _ _ _ (by omega)]; exact h21
  · rw [up_s, up_s]
  · rw [up_s, up_n _ _ _ _ (by omega)]; exact h23
  · rw [up_s, up_n _ _ _ _ (by omega)]; exact h24
  · rw [up_n _ _ _ _ ha, up_n _ _ _ _ hb]
  · rw [up_s, up_n _ _ _ _ (by omega)]
  · rw [up_n _ _ _ _ (by omega), up_s, up_n _ _ _ _ (by omega), up_n _ _ _ _ (by omega)]
  · rw [up_n _ _ _ _ (by omega), up_s, up_n _ _ _ _ (by omega), up_s]
  · rw [up_n _ _ _ _ (by omega), up_s, up_s]
end PN
