/-- a text lies at p -/
def is_tx (c : Nat × Nat) (p : Nat) : Prop := 128 ≤ p ∧ p + 2 < c.1 ∧ (p - 128) % 3 = 0
variable (R : Nat → Option mx_MC) (c : Nat × Nat) (D : hz_D)
theorem hp_hi {a : Nat} (h1 : 128 ≤ a) (h2 : a < c.1) : (hp R c D).2 a = some (hz_dy a D) := by
  unfold hp
  dsimp only
  rw [if_neg (by omega), if_neg (by omega), if_pos h2]
theorem dy_0 {p : Nat} (h : is_tx c p) : hz_dy p D = .inl (10, [.int (D p 0), .int (D p 1), .ref (p + 1), .ref (p + 2)]) := by
  unfold hz_dy
  rw [if_pos h.2.2]
theorem dy_1 {p : Nat} (h : is_tx c p) : hz_dy (p + 1) D = hz_ia (D p 2).toNatClampNeg (D (p + 1)) := by
  obtain ⟨h1, h2, h3⟩ := h
  unfold hz_dy
  rw [if_neg (by omega), if_pos (by omega)]
  rfl
theorem dy_2 {p : Nat} (h : is_tx c p) : hz_dy (p + 2) D = hz_ia (D p 3).toNatClampNeg (D (p + 2)) := by
  obtain ⟨h1, h2, h3⟩ := h
  unfold hz_dy
  rw [if_neg (by omega), if_neg (by omega)]
  rfl
theorem hp_setd {a : Nat} (h1 : 128 ≤ a) (h2 : a < c.1) (h3 : (a - 128) % 3 = 2) (f : Nat → Int32) (m : mx_MC) (hm : m = hz_dy a (mx_up D a f)) : mx_set (hp R c D) a m = hp R c (mx_up D a f) := by
  rw [hm]
  unfold mx_set
  refine Prod.ext rfl ?_
  funext b
  show mx_up (hp R c D).2 a _ b = (hp R c (mx_up D a f)).2 b
  by_cases e : b = a
  · subst e
    rw [up_s, hp_hi R c _ h1 h2]
  · rw [up_n _ _ _ _ e]
    unfold hp
    dsimp only
    by_cases e1 : b < 17
    · rw [if_pos e1, if_pos e1]
    · rw [if_neg e1, if_neg e1, up_n _ _ _ _ e]
      by_cases e2 : b < 128
      · rw [if_pos e2, if_pos e2]
      · rw [if_neg e2, if_neg e2]
        by_cases e3 : b < c.1
        · rw [if_pos e3, if_pos e3]
          unfold hz_dy
          have q0 : (mx_up D a f) b = D b := up_n _ _ _ _ e
          by_cases m0 : (b - 128) % 3 = 0
          · rw [if_pos m0, if_pos m0, q0]
          · rw [if_neg m0, if_neg m0]
            by_cases m1 : (b - 128) % 3 = 1
            · rw [if_pos m1, if_pos m1, q0, up_n _ _ _ _ (show b - 1 ≠ a by omega)]
            · rw [if_neg m1, if_neg m1, q0, up_n _ _ _ _ (show b - 2 ≠ a by omega)]
        · rw [if_neg e3, if_neg e3]
variable {p : Nat}
theorem ob_tx (h : is_tx c p) : mx_obj (hp R c D) p = some (10, [.int (D p 0), .int (D p 1), .ref (p + 1), .ref (p + 2)]) := by
  unfold mx_obj
  rw [hp_hi R c D h.1 (by have := h.2.1; omega), dy_0 c D h]
theorem kd_tx (h : is_tx c p) : mg_kd (hp R c D) p = some 10 := by
  unfold mg_kd
  rw [ob_tx R c D h]
  rfl
theorem gf_tx_0 (h : is_tx c p) : mg_f (hp R c D) p [10] 0 = some (.int (D p 0)) := by
  unfold mg_f
  rw [ob_tx R c D h]
  rfl
theorem gf_tx_1 (h : is_tx c p) : mg_f (hp R c D) p [10] 1 = some (.int (D p 1)) := by
  unfold mg_f
  rw [ob_tx R c D h]
  rfl
theorem gf_tx_2 (h : is_tx c p) : mg_f (hp R c D) p [10] 2 = some (.ref (p + 1)) := by
  unfold mg_f
  rw [ob_tx R c D h]
  rfl
theorem gf_tx_3 (h : is_tx c p) : mg_f (hp R c D) p [10] 3 = some (.ref (p + 2)) := by
  unfold mg_f
  rw [ob_tx R c D h]
  rfl
theorem ar_tx1 (h : is_tx c p) {q : Nat} (hq : D p 2 = nI q) (h9 : q < 1000) : mx_arr (hp R c D) (p + 1) = some (.int, q, fun j => .int (D (p + 1) j)) := by
  have := h.2.1
  have := h.1
  unfold mx_arr
  rw [hp_hi R c D (by omega) (by omega), dy_1 c D h, hq, nI_clamp (by omega)]
  rfl
theorem ar_tx2 (h : is_tx c p) {q : Nat} (hq : D p 3 = nI q) (h9 : q < 1000) : mx_arr (hp R c D) (p + 2) = some (.int, q, fun j => .int (D (p + 2) j)) := by
  have := h.2.1
  have := h.1
  unfold mx_arr
  rw [hp_hi R c D (by omega) (by omega), dy_2 c D h, hq, nI_clamp (by omega)]
  rfl
theorem ln_tx1 (h : is_tx c p) {q : Nat} (hq : D p 2 = nI q) (h9 : q < 1000) : mg_ln (hp R c D) (p + 1) = some (nI q) := by
  unfold mg_ln
  rw [ar_tx1 R c D h hq h9]
  rfl
theorem ln_tx2 (h : is_tx c p) {q : Nat} (hq : D p 3 = nI q) (h9 : q < 1000) : mg_ln (hp R c D) (p + 2) = some (nI q) := by
  unfold mg_ln
  rw [ar_tx2 R c D h hq h9]
  rfl
theorem ld_tx1 (h : is_tx c p) {q : Nat} (hq : D p 2 = nI q) (h9 : q < 1000) (j : Nat) (hj : j < q) : mg_ld (hp R c D) (p + 1) .int (nI j) = some (.int (D (p + 1) j)) := by
  unfold mg_ld
  rw [ar_tx1 R c D h hq h9]
  dsimp only
  rw [if_pos ⟨rfl, by unfold mx_in; simp only [decide_eq_true_eq]; exact nI_in hj (by omega)⟩, nI_clamp (by omega)]
theorem ld_tx2 (h : is_tx c p) {q : Nat} (hq : D p 3 = nI q) (h9 : q < 1000) (j : Nat) (hj : j < q) : mg_ld (hp R c D) (p + 2) .int (nI j) = some (.int (D (p + 2) j)) := by
  unfold mg_ld
  rw [ar_tx2 R c D h hq h9]
  dsimp only
  rw [if_pos ⟨rfl, by unfold mx_in; simp only [decide_eq_true_eq]; exact nI_in hj (by omega)⟩, nI_clamp (by omega)]
theorem st_tx2 (h : is_tx c p) {q : Nat} (hq : D p 3 = nI q) (h9 : q < 1000) (j : Nat) (x : Int32) (hj : j < q) : mg_st (hp R c D) (p + 2) .int (nI j) (.int x) = some (hp R c (mx_up D (p + 2) (mx_up (D (p + 2)) j x))) := by
  have h1 := h.1
  have h2 := h.2.1
  have h3 := h.2.2
  unfold mg_st
  rw [ar_tx2 R c D h hq h9]
  dsimp only
  rw [if_pos ⟨rfl, by unfold mx_in; simp only [decide_eq_true_eq]; exact nI_in hj (by omega), by omega⟩, nI_clamp (by omega)]
  refine congrArg some (hp_setd R c D (by omega) (by omega) (by omega) _ _ ?_)
  rw [dy_2 c _ h, up_s, up_n _ _ _ _ (show p ≠ p + 2 by omega), hq, nI_clamp (by omega)]
  unfold hz_ia
  rw [show (mx_up (fun j => Value.int (D (p + 2) j)) j (.int x)) = fun i => Value.int (mx_up (D (p + 2)) j x i) from ?_]
  funext i
  unfold mx_up
  by_cases e : i = j
  · rw [if_pos e, if_pos e]
  · rw [if_neg e, if_neg e]
