section H75
variable {s : Nat → Int32} {n m : Nat}
theorem q5_gt (k : Int32) {i : Nat} (hi : 75 ≤ i) : sp_gt s k i = s i := by
  unfold sp_gt
  rw [up_n _ _ _ _ (by omega), up_n _ _ _ _ (by omega)]
theorem q5_h1 {i : Nat} (hi : 75 ≤ i) : sp_h1 s i = s i := by
  unfold sp_h1
  rw [up_n _ _ _ _ (by omega), up_n _ _ _ _ (by omega), up_n _ _ _ _ (by omega), up_n _ _ _ _ (by omega)]
theorem q5_tea (h0 : 0 < n) (h9 : n ≤ 9) {i : Nat} (hi : 75 ≤ i) : sp_tea s n i = s i := by
  have hb : sp_hv s n < n := sp_mx_lt _ n h0
  unfold sp_tea
  rw [up_n _ _ _ _ (by omega), up_n _ _ _ _ (by omega), q5_gt _ hi]
theorem q5_mv (v : Int32) {i : Nat} (hi : 75 ≤ i) : ∀ k, k ≤ 9 → sp_mv s v k i = s i
  | 0, _ => rfl
  | k + 1, hk => by
    show sp_mv1 (sp_mv s v k) v k i = _
    unfold sp_mv1
    rw [up_n _ _ _ _ (by omega)]
    exact q5_mv v hi k (by omega)
theorem q5_fi {i : Nat} (hi : 75 ≤ i) : ∀ k, k ≤ 9 → sp_fi s k i = s i
  | 0, _ => rfl
  | k + 1, hk => by
    show sp_fi1 (sp_fi s k) k i = _
    unfold sp_fi1
    rw [up_n _ _ _ _ (by omega)]
    exact q5_fi hi k (by omega)
theorem q5_ps {i : Nat} (hi : 75 ≤ i) : sp_ps s n i = s i := by
  unfold sp_ps
  by_cases h1 : s 8 = 0
  · rw [if_pos h1]
    by_cases h2 : s 5 < s 9
    · rw [if_pos h2]
    · rw [if_neg h2, q5_gt _ hi]
  · rw [if_neg h1]
    by_cases h2 : s 8 = 1
    · rw [if_pos h2]
      by_cases h3 : s 7 < 4
      · rw [if_pos h3, q5_gt _ hi]
      · rw [if_neg h3]
    · rw [if_neg h2]
      by_cases h3 : 0 < sp_tg s (sp_mg s n)
      · rw [if_pos h3, q5_gt _ hi]
      · rw [if_neg h3]
theorem q5_h3 (h9 : n ≤ 9) {i : Nat} (hi : 75 ≤ i) : sp_h3 s n m i = s i := by
  unfold sp_h3
  rw [q5_ps hi]
  unfold sp_wr
  rw [up_n _ _ _ _ (by omega), up_n _ _ _ _ (by omega), q5_fi hi n h9]
  unfold sp_h2
  by_cases h1 : 0 < s 7
  · rw [if_pos h1, q5_mv _ hi n h9]
  · rw [if_neg h1]
theorem q5_hr (h9 : n ≤ 9) {i : Nat} (hi : 75 ≤ i) : sp_hr s n m i = s i := by
  unfold sp_hr
  by_cases e : n = 0
  · rw [if_pos e, q5_h1 hi]
  · rw [if_neg e, q5_h3 h9 hi]
    by_cases h1 : sp_stm s = true
    · rw [if_pos h1, q5_tea (by omega) h9 hi, q5_h1 hi]
    · rw [if_neg h1, q5_h1 hi]
theorem q5_it (h9 : n ≤ 9) {i : Nat} (hi : 75 ≤ i) : ∀ k, sp_it s n m k i = s i
  | 0 => rfl
  | k + 1 => by
    show sp_hr (sp_it s n m k) n m i = _
    rw [q5_hr h9 hi, q5_it h9 hi k]
end H75
/-- laid back -/
theorem sp_mixb {f g s : Nat → Int32} (h1 : ∀ i, i < 75 → f i = s i) (h2 : ∀ i, 75 ≤ i → g i = s i) : sp_mix 75 f g = s := by
  funext i
  unfold sp_mix
  by_cases h : i < 75
  · rw [if_pos h, h1 i h]
  · rw [if_neg h, h2 i (by omega)]
def Xth (a : Nat) : Prop := (49 ≤ a ∧ a ≤ 62) ∨ (128 ≤ a ∧ (a - 128) % 3 = 2)
section TH
variable (c : Nat × Nat) (D : hz_D) {n m : Nat} {s : Nat → Int32}
/-- the thought sea becomes the true one -/
theorem th_bec (d L : Nat) (xs : Nat → Int32) {D : hz_D} (hr : sea_rel c D 35 s n m) (hv : sv s n m) (htn : tn_ok c D 35) : ∃ D', mx_run (d + 1) 77 0 [some (.ref 49), some (.ref 35), none] [] (hp (sx_rom L xs) c D) = some (none, hp (sx_rom L xs) c D') ∧ sea_rel c D' 49 s n m ∧ fr Xth D D' := by
  obtain ⟨D', h1, h2, h3, h4⟩ := cc_become c D d L xs is_s35 is_s49 (by omega) hr hv htn
  exact ⟨D', h1, h2, fun a ha => h4 a (fun z => ha (Or.inl (by omega)))⟩
theorem th_fr {D D' : hz_D} (h : fr (Xsea 49) D D') : fr Xth D D' := fr_mono h (fun a ha => by
  rcases ha with h | h
  · exact Or.inl (by omega)
  · exact Or.inr h)
theorem th_sea {D D' : hz_D} (h : fr Xth D D') (hn9 : n ≤ 9) (hr : sea_rel c D 35 s n m) : sea_rel c D' 35 s n m := sea_fr hr hn9 (fun a ha => h a (fun z => by unfold Xth at z; omega))
theorem th_tn {D D' : hz_D} (h : fr Xth D D') (htn : tn_ok c D 35) : tn_ok c D' 35 := fun t ht => by
  rw [h (35 + 3) (fun z => by unfold Xth at z; omega)]
  exact htn t ht
end TH
def Xrt (a : Nat) : Prop := a = 110 ∨ a = 121 ∨ a = 123 ∨ a = 124
/-- the best of k, labels from o on -/
def sp_bo (f : Nat → Int32) (b0 : Int32) (o : Nat) : Nat → Int32 × Int32
  | 0 => (b0, -1)
  | k + 1 => if (sp_bo f b0 o k).2 < f k then (nI (k + o), f k) else sp_bo f b0 o k
theorem sp_bo_b (f : Nat → Int32) (b b' : Int32) (o : Nat) (h : -1 < f 0) : ∀ k, sp_bo f b o (k + 1) = sp_bo f b' o (k + 1)
  | 0 => by
    show (if (-1 : Int32) < f 0 then _ else _) = (if (-1 : Int32) < f 0 then _ else _)
    rw [if_pos h, if_pos h]
  | k + 1 => by
    show (if (sp_bo f b o (k + 1)).2 < f (k + 1) then _ else sp_bo f b o (k + 1)) = (if (sp_bo f b' o (k + 1)).2 < f (k + 1) then _ else sp_bo f b' o (k + 1))
    rw [sp_bo_b f b b' o h k]
theorem sp_bo_0 (f : Nat → Int32) (b : Int32) (o : Nat) (h : -1 < f 0) : ∀ k, k < 1000 → o < 1000 → ¬ (sp_bo f b o (k + 1)).1 < 0
  | 0, _, ho => by
    show ¬ (if (-1 : Int32) < f 0 then (nI (0 + o), f 0) else _).1 < 0
    rw [if_pos h]
    exact nI_pos (by omega)
  | k + 1, hk, ho => by
    show ¬ (if (sp_bo f b o (k + 1)).2 < f (k + 1) then (nI (k + 1 + o), f (k + 1)) else sp_bo f b o (k + 1)).1 < 0
    by_cases z : (sp_bo f b o (k + 1)).2 < f (k + 1)
    · rw [if_pos z]
      exact nI_pos (by omega)
    · rw [if_neg z]
      exact sp_bo_0 f b o h k (by omega) ho
section RT
variable (R : Nat → Option mx_MC) (c : Nat × Nat) {n m : Nat} {s : Nat → Int32}
/-- the reference thinks from the row s' on and lays s back -/
theorem rt_go (d N : Nat) {D : hz_D} (hN : N < 2 ^ 31) (s' : Nat → Int32) (hD : D 110 = s') (hv : sv s' n m) (h121 : ∀ i, i < 75 → D 121 i = s i) (h75 : ∀ i, 75 ≤ i → s' i = s i) : ∃ D', mx_run (d + 5) 216 0 [some (.ref 109), some (.int (nI N)), none] [] (hp R c D) = some (none, hp R c D') ∧ D' 110 = sp_it s' n m N ∧ fr Xr D D' ∧ sp_mix 75 (D' 121) (D' 110) = s := by
  obtain ⟨D', h1, h2, h3⟩ := rc_many R c D d N n m hN (by rw [hD]; exact hv)
  rw [hD] at h2
  refine ⟨D', h1, h2, h3, sp_mixb (fun i hi => ?_) (fun i hi => ?_)⟩
  · rw [h3 121 (by unfold Xr; omega)]
    exact h121 i hi
  · rw [h2, q5_it (sv_n9 hv) hi, h75 i hi]
end RT
