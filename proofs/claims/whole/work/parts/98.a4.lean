abbrev pz_Y : Type := Option (Option Value × mx_MH)
def pz_cG (R : Nat → Option mx_MC) (c : Nat × Nat) (B : Nat → Nat) (len key : Nat) (S : hz_D → pz_Y) (s e ty : Nat) (w : List pz_x) (s' e' ty' : Nat) : Prop := ∀ (D : hz_D) (n o : Nat), pz_C D B len key s e ty n o → n ≤ s → ∃ D', S D = some (none, hp R c D') ∧ pz_C D' B len key s' e' ty' (n + w.length) (o + pz_o w) ∧ pz_FC D D' ∧ (∀ j, j < n → D' 22 j = D 22 j) ∧ pz_la (pz_c key (D' 22)) n w
def pz_cB (R : Nat → Option mx_MC) (c : Nat × Nat) (B : Nat → Nat) (len key : Nat) (S : hz_D → pz_Y) (s e ty s' : Nat) : Prop := ∀ (D : hz_D) (n o : Nat), pz_C D B len key s e ty n o → n ≤ s → ∃ D' n', S D = some (none, hp R c D') ∧ D' 20 5 = nI s' ∧ D' 20 1 = nI len ∧ D' 20 9 = nI n' ∧ n' ≤ 96 ∧ pz_FC D D'
def pz_rG (R : Nat → Option mx_MC) (B : Nat → Nat) (len br nt : Nat) (S : Nat × Nat → hz_D → pz_Y) (s e ty : Nat) (w : List pz_x) (s' e' ty' : Nat) : Prop := ∀ (c : Nat × Nat) (D : hz_D) (n o A : Nat), pz_R D B len s e ty br nt n A o → n ≤ s → A + 192 ≤ 3075 → ∃ D', S c D = some (some (.int 1), hp R c D') ∧ pz_R D' B len s' e' ty' br nt (n + w.length) A (o + pz_o w) ∧ pz_FE D D' A n ∧ pz_la (pz_r (D' 110) A) n w
def pz_rB (R : Nat → Option mx_MC) (B : Nat → Nat) (len br nt : Nat) (S : Nat × Nat → hz_D → pz_Y) (s e ty s' : Nat) : Prop := ∀ (c : Nat × Nat) (D : hz_D) (n o A : Nat), pz_R D B len s e ty br nt n A o → n ≤ s → A + 192 ≤ 3075 → ∃ D', S c D = some (some (.int 0), hp R c D') ∧ D' 109 15 = nI s' ∧ pz_FE D D' A n
/-- the class's S and the reference's T read alike -/
def pz_J (R : Nat → Option mx_MC) (c : Nat × Nat) (B : Nat → Nat) (len key br nt : Nat) (S : hz_D → pz_Y) (T : Nat × Nat → hz_D → pz_Y) : Prop := ∀ s e ty, pz_T B len s e ty → (∃ (w : List pz_x) (s' e' ty' : Nat), pz_T B len s' e' ty' ∧ s + w.length ≤ s' ∧ pz_k key w ∧ pz_cG R c B len key S s e ty w s' e' ty' ∧ pz_rG R B len br nt T s e ty w s' e' ty') ∨ (∃ s', s' ≤ len ∧ pz_cB R c B len key S s e ty s' ∧ pz_rB R B len br nt T s e ty s')
section GL
variable (R : Nat → Option mx_MC) (c : Nat × Nat) (B : Nat → Nat) (len key br nt dn : Nat) (S : hz_D → pz_Y) (T : Nat × Nat → hz_D → pz_Y) (sg : Nat → Prop) (Lc : Nat → Option Value → hz_D → pz_Y) (Lr : Nat × Nat → Option Value → hz_D → pz_Y)
/-- the class's loop, and the reference's -/
def pz_hno : Prop := ∀ (D : hz_D) (s e ty n o i : Nat) (l : Option Value), pz_C D B len key s e ty n o → pz_T B len s e ty → i < 96 → ¬ (ty = 3 ∧ sg (B s)) → Lc i l D = some (none, hp R c D)
def pz_hend : Prop := ∀ (D : hz_D) (s' i : Nat) (l : Option Value), D 20 5 = nI s' → s' ≤ 96 → i ≤ 96 → Lc i l D = some (none, hp R c D)
def pz_hyes : Prop := ∀ (D : hz_D) (s e n o i : Nat) (l : Option Value) (D0 D1 D2 : hz_D), pz_C D B len key s e 3 n o → pz_T B len s e 3 → i < 96 → sg (B s) → mx_run (dn + 1) 101 0 [some (.ref 20), none, none, none] [] (hp R c D) = some (none, hp R c D0) → S D0 = some (none, hp R c D1) → mx_run (dn + 1) 125 0 [some (.ref 20), some (.int (-(nI (B s))))] [] (hp R c D1) = some (none, hp R c D2) → ∃ l', Lc i l D = Lc (i + 1) l' D2
def pz_rno : Prop := ∀ (c : Nat × Nat) (D : hz_D) (s e ty n A o : Nat) (l : Option Value), pz_R D B len s e ty br nt n A o → pz_T B len s e ty → ¬ (ty = 3 ∧ sg (B s)) → Lr c l D = some (some (.int 1), hp R c D)
def pz_ry1 : Prop := ∀ (c : Nat × Nat) (D : hz_D) (s e n A o : Nat) (l : Option Value) (D0 D1 D2 : hz_D), pz_R D B len s e 3 br nt n A o → pz_T B len s e 3 → sg (B s) → mx_run (dn + 1) 230 0 [some (.ref 109), none, none] [] (hp R c D) = some (none, hp R c D0) → T c D0 = some (some (.int 1), hp R c D1) → mx_run (dn + 1) 241 0 [some (.ref 109), some (.int 2), some (.int (nI (B s)))] [] (hp R c D1) = some (none, hp R c D2) → ∃ l', Lr c l D = Lr c l' D2
def pz_ry0 : Prop := ∀ (c : Nat × Nat) (D : hz_D) (s e n A o : Nat) (l : Option Value) (D0 D1 : hz_D), pz_R D B len s e 3 br nt n A o → pz_T B len s e 3 → sg (B s) → mx_run (dn + 1) 230 0 [some (.ref 109), none, none] [] (hp R c D) = some (none, hp R c D0) → T c D0 = some (some (.int 0), hp R c D1) → Lr c l D = some (some (.int 0), hp R c D1)
end GL
theorem pz_cd2 (k g : Int32) : sp_cd k (nI 2) g = -g := by
  unfold sp_cd
  rw [if_neg (by decide), if_neg (by decide)]
section GM
variable {R : Nat → Option mx_MC} {c : Nat × Nat} {B : Nat → Nat} {len key br nt dn : Nat} {S : hz_D → pz_Y} {T : Nat × Nat → hz_D → pz_Y}
/-- one sign and what stands behind it: class -/
theorem pz_one {s e n o : Nat} {w w1 : List pz_x} {s2 e2 t2 : Nat} {D : hz_D} (h96 : len ≤ 96) (hC : pz_C D B len key s e 3 (n + w.length) (o + pz_o w)) (hT : pz_T B len s e 3) (hn : n + w.length ≤ s) (hla : pz_la (pz_c key (D 22)) n w) (hT2 : pz_T B len s2 e2 t2) (h2 : tk_st B len e + w1.length ≤ s2) (hG : pz_cG R c B len key S (tk_st B len e) (tk_en B len e) (tk_ty B len e 3) w1 s2 e2 t2) : ∃ D0 D1 D2, mx_run (dn + 1) 101 0 [some (.ref 20), none, none, none] [] (hp R c D) = some (none, hp R c D0) ∧ S D0 = some (none, hp R c D1) ∧ mx_run (dn + 1) 125 0 [some (.ref 20), some (.int (-(nI (B s))))] [] (hp R c D1) = some (none, hp R c D2) ∧ pz_C D2 B len key s2 e2 t2 (n + (w ++ w1 ++ [(2, B s)]).length) (o + pz_o (w ++ w1 ++ [(2, B s)])) ∧ pz_FC D D2 ∧ (∀ j, j < n → D2 22 j = D 22 j) ∧ pz_la (pz_c key (D2 22)) n (w ++ w1 ++ [(2, B s)]) := by
  have hst := (pz_T_next B len e 3 hT.2.1).2
  have he := (hT.2.2.2.1 rfl).2
  obtain ⟨D0, n1, n2, n3, n4⟩ := pz_Cnext R c B len dn hC hT
  obtain ⟨D1, g1, g2, g3, g4, g5⟩ := hG D0 _ _ n2 (by omega)
  have hs2 := hT2.1
  have hs3 := hT2.2.1
  obtain ⟨D2, p1, p2, p3, p4, p5⟩ := pz_Cput R c B len (dn + 1) (-(nI (B s))) g2 (by omega)
  have el : n + w.length + w1.length + 1 = n + (w ++ w1 ++ [(2, B s)]).length := by
    rw [List.length_append, List.length_append, List.length_singleton]
    omega
  have eo : o + pz_o w + pz_o w1 = o + pz_o (w ++ w1 ++ [(2, B s)]) := by
    rw [pz_o_app, pz_o_app]
    show _ = o + (pz_o w + pz_o w1 + 0)
    omega
  rw [el, eo] at p2
  refine ⟨D0, D1, D2, n1, g1, p1, p2, pz_FC_t (pz_FC_t n3 g3) p3, fun j hj => ?_, ?_⟩
  · rw [p4 j (by omega), g4 j (by omega), n4]
  · refine pz_la_app _ n _ _ (pz_la_app _ n w w1 ?_ ?_) ⟨?_, trivial⟩
    · refine pz_la_imp n w hla (fun j x h1 h3 h4 => ?_)
      show D2 22 j = _
      rw [p4 j (by omega), g4 j (by omega), n4]
      exact h4
    · refine pz_la_imp _ w1 g5 (fun j x h1 h3 h4 => ?_)
      show D2 22 j = _
      rw [p4 j (by omega)]
      exact h4
    · show D2 22 (n + (w ++ w1).length) = sp_cd (nI key) (nI 2) (nI (B s))
      rw [pz_cd2, List.length_append, show n + (w.length + w1.length) = n + w.length + w1.length by omega]
      exact p5
/-- the same, where what stands behind it is no text -/
theorem pz_oneB {s e n o : Nat} {s' : Nat} {D : hz_D} (hC : pz_C D B len key s e 3 n o) (hT : pz_T B len s e 3) (hn : n ≤ s) (hG : pz_cB R c B len key S (tk_st B len e) (tk_en B len e) (tk_ty B len e 3) s') : ∃ D0 D1 D2 n', mx_run (dn + 1) 101 0 [some (.ref 20), none, none, none] [] (hp R c D) = some (none, hp R c D0) ∧ S D0 = some (none, hp R c D1) ∧ mx_run (dn + 1) 125 0 [some (.ref 20), some (.int (-(nI (B s))))] [] (hp R c D1) = some (none, hp R c D2) ∧ D2 20 5 = nI s' ∧ D2 20 1 = nI len ∧ D2 20 9 = nI n' ∧ n' ≤ 96 ∧ pz_FC D D2 := by
  have hst := (pz_T_next B len e 3 hT.2.1).2
  have he := (hT.2.2.2.1 rfl).2
  obtain ⟨D0, n1, n2, n3, n4⟩ := pz_Cnext R c B len dn hC hT
  obtain ⟨D1, m, g1, g2, g3, g4, g5, g6⟩ := hG D0 _ _ n2 (by omega)
  obtain ⟨D2, m2, p1, p2, p3, p4, p5, p6⟩ := pz_Bput R c (dn + 1) (-(nI (B s))) g4 g5
  exact ⟨D0, D1, D2, m2, n1, g1, p1, p2.trans g2, p3.trans g3, p4, p5, pz_FC_t (pz_FC_t n3 g6) p6⟩
/-- reference -/
theorem pz_oneR {s e n o A : Nat} {w w1 : List pz_x} {s2 e2 t2 : Nat} {D : hz_D} (h96 : len ≤ 96) (hC : pz_R D B len s e 3 br nt (n + w.length) A (o + pz_o w)) (hT : pz_T B len s e 3) (hn : n + w.length ≤ s) (hA : A + 192 ≤ 3075) (hla : pz_la (pz_r (D 110) A) n w) (hT2 : pz_T B len s2 e2 t2) (h2 : tk_st B len e + w1.length ≤ s2) (hG : pz_rG R B len br nt T (tk_st B len e) (tk_en B len e) (tk_ty B len e 3) w1 s2 e2 t2) : ∃ D0 D1 D2, mx_run (dn + 1) 230 0 [some (.ref 109), none, none] [] (hp R c D) = some (none, hp R c D0) ∧ T c D0 = some (some (.int 1), hp R c D1) ∧ mx_run (dn + 1) 241 0 [some (.ref 109), some (.int 2), some (.int (nI (B s)))] [] (hp R c D1) = some (none, hp R c D2) ∧ pz_R D2 B len s2 e2 t2 br nt (n + (w ++ w1 ++ [(2, B s)]).length) A (o + pz_o (w ++ w1 ++ [(2, B s)])) ∧ pz_FE D D2 A n ∧ pz_la (pz_r (D2 110) A) n (w ++ w1 ++ [(2, B s)]) := by
  have hst := (pz_T_next B len e 3 hT.2.1).2
  have he := (hT.2.2.2.1 rfl).2
  obtain ⟨D0, n1, n2, n3, n4⟩ := pz_Rnext R c B len dn hC hT
  obtain ⟨D1, g1, g2, g3, g5⟩ := hG c D0 _ _ A n2 (by omega) hA
  have hs2 := hT2.1
  have hs3 := hT2.2.1
  obtain ⟨D2, p1, p2, p3, p4, p5⟩ := pz_step R c B len (dn + 1) 2 (nI (B s)) g2 (by omega) hA
  have el : n + w.length + w1.length + 1 = n + (w ++ w1 ++ [(2, B s)]).length := by
    rw [List.length_append, List.length_append, List.length_singleton]
    omega
  have eo : o + pz_o w + pz_o w1 = o + pz_o (w ++ w1 ++ [(2, B s)]) := by
    rw [pz_o_app, pz_o_app]
    show _ = o + (pz_o w + pz_o w1 + 0)
    omega
  rw [el, eo] at p2
  refine ⟨D0, D1, D2, n1, g1, p1, p2, pz_FE_t (n3 n) (pz_FE_t g3 p3 (by omega)) (by omega), ?_⟩
  refine pz_la_app _ n _ _ (pz_la_app _ n w w1 ?_ ?_) ⟨?_, trivial⟩
  · refine pz_la_imp n w hla (fun j x h1 h3 h4 => ?_)
    show D2 110 (A + 2 * j) = _ ∧ D2 110 (A + 2 * j + 1) = _
    rw [p3.2.2 _ (by omega), g3.2.2 _ (by omega), p3.2.2 _ (by omega), g3.2.2 _ (by omega), n4]
    exact h4
  · refine pz_la_imp _ w1 g5 (fun j x h1 h3 h4 => ?_)
    show D2 110 (A + 2 * j) = _ ∧ D2 110 (A + 2 * j + 1) = _
    rw [p3.2.2 _ (by omega), p3.2.2 _ (by omega)]
    exact h4
  · show D2 110 (A + 2 * (n + (w ++ w1).length)) = nI 2 ∧ D2 110 (A + 2 * (n + (w ++ w1).length) + 1) = nI (B s)
    rw [List.length_append, show n + (w.length + w1.length) = n + w.length + w1.length by omega]
    exact ⟨p4, p5⟩
theorem pz_oneRB {s e n o A : Nat} {s' : Nat} {D : hz_D} (hC : pz_R D B len s e 3 br nt n A o) (hT : pz_T B len s e 3) (hn : n ≤ s) (hA : A + 192 ≤ 3075) (hG : pz_rB R B len br nt T (tk_st B len e) (tk_en B len e) (tk_ty B len e 3) s') : ∃ D0 D1, mx_run (dn + 1) 230 0 [some (.ref 109), none, none] [] (hp R c D) = some (none, hp R c D0) ∧ T c D0 = some (some (.int 0), hp R c D1) ∧ D1 109 15 = nI s' ∧ pz_FE D D1 A n := by
  have hst := (pz_T_next B len e 3 hT.2.1).2
  have he := (hT.2.2.2.1 rfl).2
  obtain ⟨D0, n1, n2, n3, n4⟩ := pz_Rnext R c B len dn hC hT
  obtain ⟨D1, g1, g2, g3⟩ := hG c D0 _ _ A n2 (by omega) hA
  exact ⟨D0, D1, n1, g1, g2, pz_FE_t (n3 n) g3 (by omega)⟩
end GM
