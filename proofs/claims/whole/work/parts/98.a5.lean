section GN
variable {R : Nat → Option mx_MC} {c : Nat × Nat} {B : Nat → Nat} {len key br nt dn : Nat} {S : hz_D → pz_Y} {T : Nat × Nat → hz_D → pz_Y} {sg : Nat → Prop} {Lc : Nat → Option Value → hz_D → pz_Y} {Lr : Nat × Nat → Option Value → hz_D → pz_Y}
/-- the loops of class and reference read alike, from the token s e ty on, with w read -/
theorem pz_loop (h96 : len ≤ 96) (hJ : pz_J R c B len key br nt S T) (hsg : ∀ b, sg b → sp_sgn (nI b)) (hno : pz_hno R c B len key sg Lc) (hend : pz_hend R c Lc) (hyes : pz_hyes R c B len key dn S sg Lc) (rno : pz_rno R B len br nt sg Lr) (ry1 : pz_ry1 R B len br nt dn T sg Lr) (ry0 : pz_ry0 R B len br nt dn T sg Lr) : ∀ (m s e ty : Nat) (w : List pz_x), pz_T B len s e ty → len - s ≤ m → pz_k key w → (∃ (v : List pz_x) (s' e' ty' : Nat), pz_T B len s' e' ty' ∧ s + v.length ≤ s' + w.length ∧ pz_k key v ∧ (∀ (D : hz_D) (n o i : Nat) (l : Option Value), pz_C D B len key s e ty (n + w.length) (o + pz_o w) → n + w.length ≤ s → i < s → pz_la (pz_c key (D 22)) n w → ∃ D', Lc i l D = some (none, hp R c D') ∧ pz_C D' B len key s' e' ty' (n + v.length) (o + pz_o v) ∧ pz_FC D D' ∧ (∀ j, j < n → D' 22 j = D 22 j) ∧ pz_la (pz_c key (D' 22)) n v) ∧ (∀ (c : Nat × Nat) (D : hz_D) (n o A : Nat) (l : Option Value), pz_R D B len s e ty br nt (n + w.length) A (o + pz_o w) → n + w.length ≤ s → A + 192 ≤ 3075 → pz_la (pz_r (D 110) A) n w → ∃ D', Lr c l D = some (some (.int 1), hp R c D') ∧ pz_R D' B len s' e' ty' br nt (n + v.length) A (o + pz_o v) ∧ pz_FE D D' A n ∧ pz_la (pz_r (D' 110) A) n v)) ∨ (∃ s', s' ≤ len ∧ (∀ (D : hz_D) (n o i : Nat) (l : Option Value), pz_C D B len key s e ty (n + w.length) (o + pz_o w) → n + w.length ≤ s → i < s → pz_la (pz_c key (D 22)) n w → ∃ D' n', Lc i l D = some (none, hp R c D') ∧ D' 20 5 = nI s' ∧ D' 20 1 = nI len ∧ D' 20 9 = nI n' ∧ n' ≤ 96 ∧ pz_FC D D') ∧ (∀ (c : Nat × Nat) (D : hz_D) (n o A : Nat) (l : Option Value), pz_R D B len s e ty br nt (n + w.length) A (o + pz_o w) → n + w.length ≤ s → A + 192 ≤ 3075 → pz_la (pz_r (D 110) A) n w → ∃ D', Lr c l D = some (some (.int 0), hp R c D') ∧ D' 109 15 = nI s' ∧ pz_FE D D' A n)) := by
  intro m
  induction m with
  | zero =>
    intro s e ty w hT hm hw
    have hq : ¬ (ty = 3 ∧ sg (B s)) := fun z => by have := (hT.2.2.2.1 z.1).1; omega
    have hse := hT.1
    have hel := hT.2.1
    refine Or.inl ⟨w, s, e, ty, hT, by omega, hw, fun D n o i l h1 h2 h3 h4 => ⟨D, hno D s e ty _ _ i l h1 hT (by omega) hq, h1, pz_FC_r D, fun _ _ => rfl, h4⟩, fun c' D n o A l h1 h2 h3 h4 => ⟨D, rno c' D s e ty _ _ _ l h1 hT hq, h1, pz_FE_r D A n, h4⟩⟩
  | succ m ih =>
    intro s e ty w hT hm hw
    have hse := hT.1
    have hel := hT.2.1
    by_cases hq : ty = 3 ∧ sg (B s)
    · obtain ⟨rfl, hsb⟩ := hq
      have hst := (pz_T_next B len e 3 hT.2.1).2
      have he := (hT.2.2.2.1 rfl).2
      rcases hJ _ _ _ (pz_T_next B len e 3 hT.2.1).1 with ⟨w1, s2, e2, t2, hT2, h2, hw1, hG, hH⟩ | ⟨s', hs', hG, hH⟩
      · have hs3 := hT2.1
        have hs4 := hT2.2.1
        have hwu := pz_k_bin key (B s) w w1 hw hw1 (hsg _ hsb)
        have eu : (w ++ w1 ++ [(2, B s)]).length = w.length + w1.length + 1 := by
          rw [List.length_append, List.length_append, List.length_singleton]
        rcases ih s2 e2 t2 (w ++ w1 ++ [(2, B s)]) hT2 (by omega) hwu with ⟨v, s', e', ty', hT', hv, hwv, hc, hr⟩ | ⟨s', hs', hc, hr⟩
        · refine Or.inl ⟨v, s', e', ty', hT', by omega, hwv, fun D n o i l h1 h3 h4 h5 => ?_, fun c' D n o A l h1 h3 h4 h5 => ?_⟩
          · obtain ⟨D0, D1, D2, a1, a2, a3, a4, a5, a6, a7⟩ := pz_one (R := R) (c := c) (dn := dn) (S := S) h96 h1 hT h3 h5 hT2 h2 hG
            obtain ⟨l', hl'⟩ := hyes D s e _ _ i l D0 D1 D2 h1 hT (by omega) hsb a1 a2 a3
            obtain ⟨D', b1, b2, b3, b4, b5⟩ := hc D2 n o (i + 1) l' a4 (by omega) (by omega) a7
            exact ⟨D', hl'.trans b1, b2, pz_FC_t a5 b3, fun j hj => (b4 j hj).trans (a6 j hj), b5⟩
          · obtain ⟨D0, D1, D2, a1, a2, a3, a4, a5, a7⟩ := pz_oneR (R := R) (c := c') (dn := dn) (T := T) h96 h1 hT h3 h4 h5 hT2 h2 hH
            obtain ⟨l', hl'⟩ := ry1 c' D s e _ _ _ l D0 D1 D2 h1 hT hsb a1 a2 a3
            obtain ⟨D', b1, b2, b3, b5⟩ := hr c' D2 n o A l' a4 (by omega) h4 a7
            exact ⟨D', hl'.trans b1, b2, pz_FE_t a5 b3 (by omega), b5⟩
        · refine Or.inr ⟨s', hs', fun D n o i l h1 h3 h4 h5 => ?_, fun c' D n o A l h1 h3 h4 h5 => ?_⟩
          · obtain ⟨D0, D1, D2, a1, a2, a3, a4, a5, a6, a7⟩ := pz_one (R := R) (c := c) (dn := dn) (S := S) h96 h1 hT h3 h5 hT2 h2 hG
            obtain ⟨l', hl'⟩ := hyes D s e _ _ i l D0 D1 D2 h1 hT (by omega) hsb a1 a2 a3
            obtain ⟨D', n', b1, b2, b3, b4, b5, b6⟩ := hc D2 n o (i + 1) l' a4 (by omega) (by omega) a7
            exact ⟨D', n', hl'.trans b1, b2, b3, b4, b5, pz_FC_t a5 b6⟩
          · obtain ⟨D0, D1, D2, a1, a2, a3, a4, a5, a7⟩ := pz_oneR (R := R) (c := c') (dn := dn) (T := T) h96 h1 hT h3 h4 h5 hT2 h2 hH
            obtain ⟨l', hl'⟩ := ry1 c' D s e _ _ _ l D0 D1 D2 h1 hT hsb a1 a2 a3
            obtain ⟨D', b1, b2, b3⟩ := hr c' D2 n o A l' a4 (by omega) h4 a7
            exact ⟨D', hl'.trans b1, b2, pz_FE_t a5 b3 (by omega)⟩
      · refine Or.inr ⟨s', hs', fun D n o i l h1 h3 h4 h5 => ?_, fun c' D n o A l h1 h3 h4 h5 => ?_⟩
        · obtain ⟨D0, D1, D2, n', a1, a2, a3, a4, a5, a6, a7, a8⟩ := pz_oneB (R := R) (c := c) (dn := dn) (S := S) h1 hT h3 hG
          obtain ⟨l', hl'⟩ := hyes D s e _ _ i l D0 D1 D2 h1 hT (by omega) hsb a1 a2 a3
          exact ⟨D2, n', hl'.trans (hend D2 s' (i + 1) l' a4 (by omega) (by omega)), a4, a5, a6, a7, a8⟩
        · obtain ⟨D0, D1, a1, a2, a3, a4⟩ := pz_oneRB (R := R) (c := c') (dn := dn) (T := T) h1 hT h3 h4 hH
          exact ⟨D1, ry0 c' D s e _ _ _ l D0 D1 h1 hT hsb a1 a2, a3, ⟨a4.1, a4.2.1, fun j hj => a4.2.2 j (by omega)⟩⟩
    · exact Or.inl ⟨w, s, e, ty, hT, by omega, hw, fun D n o i l h1 h2 h3 h4 => ⟨D, hno D s e ty _ _ i l h1 hT (by omega) hq, h1, pz_FC_r D, fun _ _ => rfl, h4⟩, fun c' D n o A l h1 h2 h3 h4 => ⟨D, rno c' D s e ty _ _ _ l h1 hT hq, h1, pz_FE_r D A n, h4⟩⟩
/-- a level: what is below it, then its loop -/
theorem pz_level {Lv : hz_D → pz_Y} {Lw : Nat × Nat → hz_D → pz_Y} (h96 : len ≤ 96) (hJ : pz_J R c B len key br nt S T) (hsg : ∀ b, sg b → sp_sgn (nI b)) (hno : pz_hno R c B len key sg Lc) (hend : pz_hend R c Lc) (hyes : pz_hyes R c B len key dn S sg Lc) (rno : pz_rno R B len br nt sg Lr) (ry1 : pz_ry1 R B len br nt dn T sg Lr) (ry0 : pz_ry0 R B len br nt dn T sg Lr) (hst : ∀ D D1, S D = some (none, hp R c D1) → Lv D = Lc 0 none D1) (rs1 : ∀ c D D1, T c D = some (some (.int 1), hp R c D1) → Lw c D = Lr c none D1) (rs0 : ∀ c D D1, T c D = some (some (.int 0), hp R c D1) → Lw c D = some (some (.int 0), hp R c D1)) : pz_J R c B len key br nt Lv Lw := by
  intro s e ty hT
  rcases hJ s e ty hT with ⟨w1, s2, e2, t2, hT2, h2, hw1, hG, hH⟩ | ⟨s', hs', hG, hH⟩
  · have hw1l : 1 ≤ w1.length := Nat.le_trans hw1.1 hw1.2.1
    rcases pz_loop h96 hJ hsg hno hend hyes rno ry1 ry0 (len - s2) s2 e2 t2 w1 hT2 (Nat.le_refl _) hw1 with ⟨v, s', e', ty', hT', hv, hwv, hc, hr⟩ | ⟨s', hs', hc, hr⟩
    · refine Or.inl ⟨v, s', e', ty', hT', by omega, hwv, fun D n o h1 h3 => ?_, fun c' D n o A h1 h3 h4 => ?_⟩
      · obtain ⟨D1, g1, g2, g3, g4, g5⟩ := hG D n o h1 h3
        obtain ⟨D', b1, b2, b3, b4, b5⟩ := hc D1 n o 0 none g2 (by omega) (by omega) g5
        exact ⟨D', (hst D D1 g1).trans b1, b2, pz_FC_t g3 b3, fun j hj => (b4 j hj).trans (g4 j hj), b5⟩
      · obtain ⟨D1, g1, g2, g3, g5⟩ := hH c' D n o A h1 h3 h4
        obtain ⟨D', b1, b2, b3, b5⟩ := hr c' D1 n o A none g2 (by omega) h4 g5
        exact ⟨D', (rs1 c' D D1 g1).trans b1, b2, pz_FE_t g3 b3 (by omega), b5⟩
    · refine Or.inr ⟨s', hs', fun D n o h1 h3 => ?_, fun c' D n o A h1 h3 h4 => ?_⟩
      · obtain ⟨D1, g1, g2, g3, g4, g5⟩ := hG D n o h1 h3
        obtain ⟨D', n', b1, b2, b3, b4, b5, b6⟩ := hc D1 n o 0 none g2 (by omega) (by omega) g5
        exact ⟨D', n', (hst D D1 g1).trans b1, b2, b3, b4, b5, pz_FC_t g3 b6⟩
      · obtain ⟨D1, g1, g2, g3, g5⟩ := hH c' D n o A h1 h3 h4
        obtain ⟨D', b1, b2, b3⟩ := hr c' D1 n o A none g2 (by omega) h4 g5
        exact ⟨D', (rs1 c' D D1 g1).trans b1, b2, pz_FE_t g3 b3 (by omega)⟩
  · refine Or.inr ⟨s', hs', fun D n o h1 h3 => ?_, fun c' D n o A h1 h3 h4 => ?_⟩
    · obtain ⟨D1, n', g1, g2, g3, g4, g5, g6⟩ := hG D n o h1 h3
      exact ⟨D1, n', (hst D D1 g1).trans (hend D1 s' 0 none g2 (by omega) (by omega)), g2, g3, g4, g5, g6⟩
    · obtain ⟨D1, g1, g2, g3⟩ := hH c' D n o A h1 h3 h4
      exact ⟨D1, rs0 c' D D1 g1, g2, g3⟩
/-- the level of the tests: at most one sign -/
theorem pz_levelT {Lv : hz_D → pz_Y} {Lw : Nat × Nat → hz_D → pz_Y} {Lt : hz_D → pz_Y} {Ls : Nat × Nat → hz_D → pz_Y} (h96 : len ≤ 96) (hJ : pz_J R c B len key br nt S T) (hsg : ∀ b, sg b → sp_sgn (nI b)) (hno : pz_hno R c B len key sg (fun _ _ => Lt)) (hend : pz_hend R c (fun _ _ => Lt)) (hyes : ∀ (D : hz_D) (s e n o : Nat) (D0 D1 D2 : hz_D), pz_C D B len key s e 3 n o → pz_T B len s e 3 → sg (B s) → mx_run (dn + 1) 101 0 [some (.ref 20), none, none, none] [] (hp R c D) = some (none, hp R c D0) → S D0 = some (none, hp R c D1) → mx_run (dn + 1) 125 0 [some (.ref 20), some (.int (-(nI (B s))))] [] (hp R c D1) = some (none, hp R c D2) → Lt D = some (none, hp R c D2)) (rno : pz_rno R B len br nt sg (fun c _ => Ls c)) (ry1 : ∀ (c : Nat × Nat) (D : hz_D) (s e n A o : Nat) (D0 D1 D2 : hz_D), pz_R D B len s e 3 br nt n A o → pz_T B len s e 3 → sg (B s) → mx_run (dn + 1) 230 0 [some (.ref 109), none, none] [] (hp R c D) = some (none, hp R c D0) → T c D0 = some (some (.int 1), hp R c D1) → mx_run (dn + 1) 241 0 [some (.ref 109), some (.int 2), some (.int (nI (B s)))] [] (hp R c D1) = some (none, hp R c D2) → Ls c D = some (some (.int 1), hp R c D2)) (ry0 : pz_ry0 R B len br nt dn T sg (fun c _ => Ls c)) (hst : ∀ D D1, S D = some (none, hp R c D1) → Lv D = Lt D1) (rs1 : ∀ c D D1, T c D = some (some (.int 1), hp R c D1) → Lw c D = Ls c D1) (rs0 : ∀ c D D1, T c D = some (some (.int 0), hp R c D1) → Lw c D = some (some (.int 0), hp R c D1)) : pz_J R c B len key br nt Lv Lw := by
  intro s0 e0 ty0 hT0
  rcases hJ s0 e0 ty0 hT0 with ⟨w, s, e, ty, hT, h0, hw, hG0, hH0⟩ | ⟨s', hs', hG, hH⟩
  · by_cases hq : ty = 3 ∧ sg (B s)
    · obtain ⟨rfl, hsb⟩ := hq
      have hst0 := (pz_T_next B len e 3 hT.2.1).2
      have he := (hT.2.2.2.1 rfl).2
      rcases hJ _ _ _ (pz_T_next B len e 3 hT.2.1).1 with ⟨w1, s2, e2, t2, hT2, h2, hw1, hG, hH⟩ | ⟨s', hs', hG, hH⟩
      · have eu : (w ++ w1 ++ [(2, B s)]).length = w.length + w1.length + 1 := by
          rw [List.length_append, List.length_append, List.length_singleton]
        refine Or.inl ⟨w ++ w1 ++ [(2, B s)], s2, e2, t2, hT2, by omega, pz_k_bin key (B s) w w1 hw hw1 (hsg _ hsb), fun D n o h1 h3 => ?_, fun c' D n o A h1 h3 h4 => ?_⟩
        · obtain ⟨D3, g1, g2, g3, g4, g5⟩ := hG0 D n o h1 h3
          obtain ⟨D0, D1, D2, a1, a2, a3, a4, a5, a6, a7⟩ := pz_one (R := R) (c := c) (dn := dn) (S := S) h96 g2 hT (by omega) g5 hT2 h2 hG
          exact ⟨D2, (hst D D3 g1).trans (hyes D3 s e _ _ D0 D1 D2 g2 hT hsb a1 a2 a3), a4, pz_FC_t g3 a5, fun j hj => (a6 j hj).trans (g4 j hj), a7⟩
        · obtain ⟨D3, g1, g2, g3, g5⟩ := hH0 c' D n o A h1 h3 h4
          obtain ⟨D0, D1, D2, a1, a2, a3, a4, a5, a7⟩ := pz_oneR (R := R) (c := c') (dn := dn) (T := T) h96 g2 hT (by omega) h4 g5 hT2 h2 hH
          exact ⟨D2, (rs1 c' D D3 g1).trans (ry1 c' D3 s e _ _ _ D0 D1 D2 g2 hT hsb a1 a2 a3), a4, pz_FE_t g3 a5 (by omega), a7⟩
      · refine Or.inr ⟨s', hs', fun D n o h1 h3 => ?_, fun c' D n o A h1 h3 h4 => ?_⟩
        · obtain ⟨D3, g1, g2, g3, g4, g5⟩ := hG0 D n o h1 h3
          obtain ⟨D0, D1, D2, n', a1, a2, a3, a4, a5, a6, a7, a8⟩ := pz_oneB (R := R) (c := c) (dn := dn) (S := S) g2 hT (by omega) hG
          exact ⟨D2, n', (hst D D3 g1).trans (hyes D3 s e _ _ D0 D1 D2 g2 hT hsb a1 a2 a3), a4, a5, a6, a7, pz_FC_t g3 a8⟩
        · obtain ⟨D3, g1, g2, g3, g5⟩ := hH0 c' D n o A h1 h3 h4
          obtain ⟨D0, D1, a1, a2, a3, a4⟩ := pz_oneRB (R := R) (c := c') (dn := dn) (T := T) g2 hT (by omega) h4 hH
          exact ⟨D1, (rs1 c' D D3 g1).trans (ry0 c' D3 s e _ _ _ none D0 D1 g2 hT hsb a1 a2), a3, pz_FE_t g3 a4 (by omega)⟩
    · refine Or.inl ⟨w, s, e, ty, hT, h0, hw, fun D n o h1 h3 => ?_, fun c' D n o A h1 h3 h4 => ?_⟩
      · obtain ⟨D3, g1, g2, g3, g4, g5⟩ := hG0 D n o h1 h3
        exact ⟨D3, (hst D D3 g1).trans (hno D3 s e ty _ _ 0 none g2 hT (by omega) hq), g2, g3, g4, g5⟩
      · obtain ⟨D3, g1, g2, g3, g5⟩ := hH0 c' D n o A h1 h3 h4
        exact ⟨D3, (rs1 c' D D3 g1).trans (rno c' D3 s e ty _ _ _ none g2 hT hq), g2, g3, g5⟩
  · refine Or.inr ⟨s', hs', fun D n o h1 h3 => ?_, fun c' D n o A h1 h3 h4 => ?_⟩
    · obtain ⟨D1, n', g1, g2, g3, g4, g5, g6⟩ := hG D n o h1 h3
      exact ⟨D1, n', (hst D D1 g1).trans (hend D1 s' 0 none g2 (by omega) (by omega)), g2, g3, g4, g5, g6⟩
    · obtain ⟨D1, g1, g2, g3⟩ := hH c' D n o A h1 h3 h4
      exact ⟨D1, rs0 c' D D1 g1, g2, g3⟩
end GN
