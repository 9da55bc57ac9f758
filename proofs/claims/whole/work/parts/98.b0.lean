theorem gf_w (h : mx_MH) (l : Nat) (x : mx_MC) (b : Nat) (cis : List Nat) (k : Nat) (hb : b ≠ h.1.1) : mg_f (mx_new h l x) b cis k = mg_f h b cis k := by
  unfold mg_f
  rw [ob_w _ _ _ _ hb]
theorem gl_w (h : mx_MH) (l : Nat) (x : mx_MC) (b : Nat) (hb : b ≠ h.1.1) : mg_ln (mx_new h l x) b = mg_ln h b := by
  unfold mg_ln
  rw [ar_w _ _ _ _ hb]
theorem nI_cl (n : Nat) (h : n < 2 ^ 31) : (nI n).toNatClampNeg = n := nI_clamp h
theorem nI_alloc (n : Nat) (h : n ≤ 100000) : (¬ nI n < 0 ∧ (nI n).toNatClampNeg ≤ 100000) = True := by
  rw [nI_cl n (by omega)]
  exact eq_true ⟨nI_nlt (b := 0) (by omega) (by omega), h⟩
/-- copyOf of the code, into a new cell -/
theorem in_copy (d n sa : Nat) (f : Nat → Value) (h : mx_MH) (hn : n < 96) (h17 : 17 ≤ h.1.1) (hs : sa ≠ h.1.1) (ha : mx_arr h sa = some (.int, 96, f)) (hf : ∀ i, fits .int (f i) = true) : mx_run d 145 0 [some (.ref sa), some (.int (nI n)), none] [] h = some (some (.ref h.1.1), mx_set (mx_new h n (.inr (.int, n, fun _ => defaultValue .int))) h.1.1 (.inr (.int, n, mx_cpy f (fun _ => defaultValue .int) 0 0 n))) := by
  have l1 : mg_ln h sa = some 96 := by
    unfold mg_ln
    rw [ha]
    rfl
  have l2 : mg_ln (mx_new h n (.inr (.int, n, fun _ => defaultValue .int))) sa = some 96 := by rw [gl_w _ _ _ _ hs]; exact l1
  have e1 : (nI n = 96) = False := eq_false (fun z => by have := (nI_eq (b := 96) (by omega) (by omega)).mp z; omega)
  have e2 : (nI n < 96) = True := eq_true (nI_lt (b := 96) hn (by omega))
  have e3 := nI_cl n (by omega)
  have e4 : (¬ nI n < 0 ∧ n ≤ 100000) = True := by rw [← nI_alloc n (by omega), e3]
  have cp : mg_cp (mx_new h n (.inr (.int, n, fun _ => defaultValue .int))) sa h.1.1 0 0 (nI n) = some (mx_set (mx_new h n (.inr (.int, n, fun _ => defaultValue .int))) h.1.1 (.inr (.int, n, mx_cpy f (fun _ => defaultValue .int) 0 0 n))) := by
    unfold mg_cp
    rw [ar_w _ _ _ _ hs, ha, ar_ws]
    dsimp only
    rw [e3, show (0 : Int32).toNatClampNeg = 0 by decide]
    rw [if_pos ⟨⟨rfl, Or.inl rfl, by decide, by decide, nI_nlt (b := 0) (by omega) (by omega), by omega, by omega, fun i _ => hf _⟩, h17⟩]
  simp only [iq_145_0, iq_145_1, iq_145_2, iq_145_3, iq_145_6, iq_145_14, iq_145_15, iq_145_17, iq_145_17n, iq_145_18, iq_145_19, iq_145_20, iq_145_20n, iq_145_21, iq_145_22, iq_145_23, iq_145_24, iq_145_25, iq_145_28, iq_145_31, iq_145_31n, iq_145_32, iq_145_32n, Option.bind_some, ↓reduceIte, l1, l2, e1, e2, e3, e4, cp]
/-- a new text, in its cell a -/
theorem in_text (d a b : Nat) (k o : Nat) (h : mx_MH) (ha : 17 ≤ a) (hn : a < h.1.1) (ho96 : o ≤ 96) (ho : mx_obj h a = some (10, [.int 0, .int 0, .null, .null])) : mx_run d 146 0 [some (.ref a), some (.int (nI k)), some (.int (nI o)), some (.ref b)] [] h = some (none, mx_set (mx_new h (max 1 o) (.inr (.int, max 1 o, fun _ => defaultValue .int))) a (.inl (10, [.int (nI k), .int (nI o), .ref b, .ref h.1.1]))) := by
  have em : (if (1 : Int32) < nI o then nI o else 1) = nI (max 1 o) := by
    by_cases q : 1 < o
    · rw [if_pos (show (1 : Int32) < nI o from nI_lt (a := 1) q (by omega)), Nat.max_eq_right (by omega)]
    · rw [if_neg (show ¬ (1 : Int32) < nI o from nI_nlt (a := 1) (b := o) (by omega) (by omega)), Nat.max_eq_left (by omega)]
      rfl
  have hm : max 1 o ≤ 96 := by omega
  have e3 := nI_cl (max 1 o) (by omega)
  have e4 : (¬ nI (max 1 o) < 0 ∧ max 1 o ≤ 100000) = True := eq_true ⟨nI_nlt (b := 0) (by omega) (by omega), by omega⟩
  have p1 : mg_p h a [10] 0 0 (.int (nI k)) = some (mx_set h a (.inl (10, [.int (nI k), .int 0, .null, .null]))) := pf_e ho ha [10] 0 0 _ rfl rfl (by show 0 < 4; omega)
  have p2 : mg_p (mx_set h a (.inl (10, [.int (nI k), .int 0, .null, .null]))) a [10] 1 0 (.int (nI o)) = some (mx_set h a (.inl (10, [.int (nI k), .int (nI o), .null, .null]))) := by
    rw [pf_e (ob_s h a _) ha [10] 1 0 _ rfl rfl (by show 1 < 4; omega), se_s]
    rfl
  have p3 : mg_p (mx_set h a (.inl (10, [.int (nI k), .int (nI o), .null, .null]))) a [10] 2 2 (.ref b) = some (mx_set h a (.inl (10, [.int (nI k), .int (nI o), .ref b, .null]))) := by
    rw [pf_e (ob_s h a _) ha [10] 2 2 _ rfl rfl (by show 2 < 4; omega), se_s]
    rfl
  have n1 : mx_new (mx_set h a (.inl (10, [.int (nI k), .int (nI o), .ref b, .null]))) (max 1 o) (.inr (.int, max 1 o, fun _ => defaultValue .int)) = mx_set (mx_new h (max 1 o) (.inr (.int, max 1 o, fun _ => defaultValue .int))) a (.inl (10, [.int (nI k), .int (nI o), .ref b, .null])) := ne_s _ _ _ _ _ (by omega)
  have p4 : mg_p (mx_set (mx_new h (max 1 o) (.inr (.int, max 1 o, fun _ => defaultValue .int))) a (.inl (10, [.int (nI k), .int (nI o), .ref b, .null]))) a [10] 3 2 (.ref h.1.1) = some (mx_set (mx_new h (max 1 o) (.inr (.int, max 1 o, fun _ => defaultValue .int))) a (.inl (10, [.int (nI k), .int (nI o), .ref b, .ref h.1.1]))) := by
    rw [pf_e (ob_s _ a _) ha [10] 3 2 _ rfl rfl (by show 3 < 4; omega), se_s]
    rfl
  simp only [iq_146_0, iq_146_1, iq_146_4, iq_146_5, iq_146_6, iq_146_9, iq_146_10, iq_146_11, iq_146_14, iq_146_15, iq_146_15n, iq_146_16, iq_146_19, iq_146_20, iq_146_21, iq_146_22, iq_146_25, iq_146_27, iq_146_30, Option.bind_some, ↓reduceIte, p1, p2, p3, em, e3, e4, n1, se_1, p4]
section MD
variable (R : Nat → Option mx_MC) (c : Nat × Nat) (D : hz_D)
/-- the table with one more text: its cell, its code, its pile -/
def tx_D (p key o n : Nat) : hz_D := mx_up (mx_up (mx_up D p (fun k => if k = 0 then nI key else if k = 1 then nI o else if k = 2 then nI n else nI (max 1 o))) (p + 1) (fun k => if k < n then D 22 k else 0)) (p + 2) (fun _ => 0)
theorem tx_heap (key o n : Nat) (hc : 128 ≤ c.1 ∧ (c.1 - 128) % 3 = 0) (hn : n ≤ 96) (ho : o ≤ 96) (h : mx_MH) (h1 : h.1 = (c.1 + 3, c.2 + 4 + n + max 1 o)) (hp0 : h.2 c.1 = some (.inl (10, [.int (nI key), .int (nI o), .ref (c.1 + 1), .ref (c.1 + 2)]))) (hp1 : h.2 (c.1 + 1) = some (.inr (.int, n, fun k => if k < n then .int (D 22 k) else .int 0))) (hp2 : h.2 (c.1 + 2) = some (.inr (.int, max 1 o, fun _ => .int 0))) (hx : ∀ a, a ≠ c.1 → a ≠ c.1 + 1 → a ≠ c.1 + 2 → h.2 a = (hp R c D).2 a) : h = hp R (c.1 + 3, c.2 + 4 + n + max 1 o) (tx_D D c.1 key o n) := by
  obtain ⟨c1, c2⟩ := hc
  refine Prod.ext h1 ?_
  funext a
  have d0 : tx_D D c.1 key o n c.1 = fun k => if k = 0 then nI key else if k = 1 then nI o else if k = 2 then nI n else nI (max 1 o) := by
    unfold tx_D
    rw [up_n _ _ _ _ (by omega), up_n _ _ _ _ (by omega), up_s]
  have d1 : tx_D D c.1 key o n (c.1 + 1) = fun k => if k < n then D 22 k else 0 := by
    unfold tx_D
    rw [up_n _ _ _ _ (by omega), up_s]
  have d2 : tx_D D c.1 key o n (c.1 + 2) = fun _ => 0 := by
    unfold tx_D
    rw [up_s]
  have dx : ∀ b, b ≠ c.1 → b ≠ c.1 + 1 → b ≠ c.1 + 2 → tx_D D c.1 key o n b = D b := by
    intro b b0 b1 b2
    unfold tx_D
    rw [up_n _ _ _ _ b2, up_n _ _ _ _ b1, up_n _ _ _ _ b0]
  have it : is_tx (c.1 + 3, c.2 + 4 + n + max 1 o) c.1 := ⟨c1, by show c.1 + 2 < c.1 + 3; omega, c2⟩
  have hm : max 1 o ≤ 96 := by omega
  by_cases e0 : a = c.1
  · subst e0
    rw [hp0, hp_hi R _ _ c1 (by show c.1 < c.1 + 3; omega), dy_0 _ _ it, d0]
    rfl
  · by_cases e1 : a = c.1 + 1
    · subst e1
      rw [hp1, hp_hi R _ _ (by omega) (by show c.1 + 1 < c.1 + 3; omega), dy_1 _ _ it, d0, d1]
      show _ = some (hz_ia (nI n).toNatClampNeg _)
      rw [nI_cl n (by omega)]
      unfold hz_ia
      refine congrArg (fun z : Nat → Value => (some (.inr (.int, n, z)) : Option mx_MC)) (funext fun k => ?_)
      show (if k < n then Value.int (D 22 k) else .int 0) = .int (if k < n then D 22 k else 0)
      by_cases q : k < n
      · rw [if_pos q, if_pos q]
      · rw [if_neg q, if_neg q]
    · by_cases e2 : a = c.1 + 2
      · subst e2
        rw [hp2, hp_hi R _ _ (by omega) (by show c.1 + 2 < c.1 + 3; omega), dy_2 _ _ it, d0, d2]
        show _ = some (hz_ia (nI (max 1 o)).toNatClampNeg _)
        rw [nI_cl (max 1 o) (by omega)]
        rfl
      · rw [hx a e0 e1 e2]
        unfold hp
        dsimp only
        by_cases f1 : a < 17
        · rw [if_pos f1, if_pos f1]
        · rw [if_neg f1, if_neg f1]
          by_cases f2 : a < 128
          · rw [if_pos f2, if_pos f2, dx a e0 e1 e2]
          · rw [if_neg f2, if_neg f2]
            by_cases f3 : a < c.1
            · rw [if_pos f3, if_pos (by omega)]
              unfold hz_dy
              rw [dx a e0 e1 e2]
              by_cases m0 : (a - 128) % 3 = 0
              · rw [if_pos m0, if_pos m0]
              · rw [if_neg m0, if_neg m0]
                by_cases m1 : (a - 128) % 3 = 1
                · rw [if_pos m1, if_pos m1, dx (a - 1) (by omega) (by omega) (by omega)]
                · rw [if_neg m1, if_neg m1, dx (a - 2) (by omega) (by omega) (by omega)]
            · rw [if_neg f3, if_neg (by omega)]
/-- made -/
theorem in_made (d key o n : Nat) (hc : 128 ≤ c.1 ∧ (c.1 - 128) % 3 = 0) (hn : n < 96) (ho : o ≤ 96) (h6 : D 20 6 = nI key) (h7 : D 20 7 = nI o) (h9 : D 20 9 = nI n) : mx_run (d + 1) 144 0 [some (.ref 20)] [] (hp R c D) = some (some (.ref c.1), hp R (c.1 + 3, c.2 + 4 + n + max 1 o) (tx_D D c.1 key o n)) := by
  obtain ⟨c1, c2⟩ := id hc
  obtain ⟨h1, e1⟩ : ∃ h1, h1 = mx_new (hp R c D) 4 (.inl (10, [.int 0, .int 0, .null, .null])) := ⟨_, rfl⟩
  have x1 : h1.1 = (c.1 + 1, c.2 + 4) := by rw [e1]; rfl
  have x11 : h1.1.1 = c.1 + 1 := by rw [x1]
  have ha : mx_arr h1 22 = some (.int, 96, fun j => .int (D 22 j)) := by
    rw [e1, ar_w _ _ _ _ (by show 22 ≠ c.1; omega)]
    rfl
  have cp := in_copy d n 22 _ h1 hn (by omega) (by omega) ha (fun i => rfl)
  obtain ⟨h2, e2⟩ : ∃ h2, h2 = mx_set (mx_new h1 n (.inr (.int, n, fun _ => defaultValue .int))) h1.1.1 (.inr (.int, n, mx_cpy (fun j => .int (D 22 j)) (fun _ => defaultValue .int) 0 0 n)) := ⟨_, rfl⟩
  rw [← e2, x11] at cp
  have x2 : h2.1 = (c.1 + 2, c.2 + 4 + n) := by rw [e2, se_1, ne_1, x1]
  have o2 : mx_obj h2 c.1 = some (10, [.int 0, .int 0, .null, .null]) := by
    rw [e2, ob_n _ _ _ _ (by omega), ob_w _ _ _ _ (by omega), e1]
    exact ob_ws (hp R c D) 4 _
  have tx := in_text d c.1 (c.1 + 1) key o h2 (by omega) (by rw [x2]; show c.1 < c.1 + 2; omega) ho o2
  have g6 : mg_f h1 20 [8] 6 = some (.int (nI key)) := by
    rw [e1, gf_w _ _ _ _ _ _ (by show 20 ≠ c.1; omega), gf_20_6, h6]
  have g7 : mg_f h1 20 [8] 7 = some (.int (nI o)) := by
    rw [e1, gf_w _ _ _ _ _ _ (by show 20 ≠ c.1; omega), gf_20_7, h7]
  have g8 : mg_f h1 20 [8] 8 = some (.ref 22) := by
    rw [e1, gf_w _ _ _ _ _ _ (by show 20 ≠ c.1; omega), gf_20_8]
  have g9 : mg_f h1 20 [8] 9 = some (.int (nI n)) := by
    rw [e1, gf_w _ _ _ _ _ _ (by show 20 ≠ c.1; omega), gf_20_9, h9]
  have x21 : h2.1.1 = c.1 + 2 := by rw [x2]
  have fin := tx_heap R c D key o n hc (by omega) ho (mx_set (mx_new h2 (max 1 o) (.inr (.int, max 1 o, fun _ => defaultValue .int))) c.1 (.inl (10, [.int (nI key), .int (nI o), .ref (c.1 + 1), .ref h2.1.1]))) (by rw [se_1, ne_1, x2]) (by rw [x21]; exact up_s _ _ _) (by
    show mx_up (mx_up h2.2 h2.1.1 _) c.1 _ (c.1 + 1) = _
    rw [up_n _ _ _ _ (by omega), up_n _ _ _ _ (by omega), e2]
    show mx_up _ h1.1.1 _ (c.1 + 1) = _
    rw [x11, up_s]
    refine congrArg (fun z : Nat → Value => (some (.inr (.int, n, z)) : Option mx_MC)) (funext fun k => ?_)
    unfold mx_cpy
    by_cases q : k < n
    · rw [if_pos q, if_pos (by omega), Nat.zero_add, Nat.sub_zero]
    · rw [if_neg q, if_neg (by omega)]
      rfl) (by
    show mx_up (mx_up h2.2 h2.1.1 _) c.1 _ (c.1 + 2) = _
    rw [up_n _ _ _ _ (by omega), x21, up_s]
    rfl) (by
    intro a a0 a1 a2
    show mx_up (mx_up h2.2 h2.1.1 _) c.1 _ a = _
    rw [up_n _ _ _ _ a0, up_n _ _ _ _ (by omega), e2]
    show mx_up (mx_up h1.2 h1.1.1 _) h1.1.1 _ a = _
    rw [up_n _ _ _ _ (by omega), up_n _ _ _ _ (by omega), e1]
    show mx_up (hp R c D).2 c.1 _ a = _
    rw [up_n _ _ _ _ a0])
  rw [fin] at tx
  rw [iq_144_0]
  show mx_run (d + 1) 144 3 _ [.ref c.1] _ = _
  rw [← e1]
  simp only [iq_144_3, iq_144_4, iq_144_5, iq_144_8, iq_144_9, iq_144_12, iq_144_13, iq_144_16, iq_144_17, iq_144_20, iq_144_23, iq_144_26, iq_144_26n, Option.bind_some, Option.toList, List.cons_append, List.nil_append, g6, g7, g8, g9, cp, tx]
end MD
