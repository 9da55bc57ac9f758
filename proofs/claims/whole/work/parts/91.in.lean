theorem ob_s (h : mx_MH) (a : Nat) (q : Nat × List Value) : mx_obj (mx_set h a (.inl q)) a = some q := by
  unfold mx_obj mx_set
  dsimp only
  rw [up_s]
theorem ob_n (h : mx_MH) (a b : Nat) (x : mx_MC) (hb : b ≠ a) : mx_obj (mx_set h a x) b = mx_obj h b := by
  unfold mx_obj mx_set
  dsimp only
  rw [up_n _ _ _ _ hb]
theorem ar_n (h : mx_MH) (a b : Nat) (x : mx_MC) (hb : b ≠ a) : mx_arr (mx_set h a x) b = mx_arr h b := by
  unfold mx_arr mx_set
  dsimp only
  rw [up_n _ _ _ _ hb]
theorem ar_s (h : mx_MH) (a : Nat) (q : FieldType × Nat × (Nat → Value)) : mx_arr (mx_set h a (.inr q)) a = some q := by
  unfold mx_arr mx_set
  dsimp only
  rw [up_s]
theorem ob_w (h : mx_MH) (l b : Nat) (x : mx_MC) (hb : b ≠ h.1.1) : mx_obj (mx_new h l x) b = mx_obj h b := by
  unfold mx_obj mx_new
  dsimp only
  rw [up_n _ _ _ _ hb]
theorem ob_ws (h : mx_MH) (l : Nat) (q : Nat × List Value) : mx_obj (mx_new h l (.inl q)) h.1.1 = some q := by
  unfold mx_obj mx_new
  dsimp only
  rw [up_s]
theorem ar_w (h : mx_MH) (l b : Nat) (x : mx_MC) (hb : b ≠ h.1.1) : mx_arr (mx_new h l x) b = mx_arr h b := by
  unfold mx_arr mx_new
  dsimp only
  rw [up_n _ _ _ _ hb]
theorem ar_ws (h : mx_MH) (l : Nat) (q : FieldType × Nat × (Nat → Value)) : mx_arr (mx_new h l (.inr q)) h.1.1 = some q := by
  unfold mx_arr mx_new
  dsimp only
  rw [up_s]
theorem se_s (h : mx_MH) (a : Nat) (x y : mx_MC) : mx_set (mx_set h a x) a y = mx_set h a y := by
  unfold mx_set
  dsimp only
  rw [up_up]
theorem se_1 (h : mx_MH) (a : Nat) (x : mx_MC) : (mx_set h a x).1 = h.1 := rfl
theorem ne_1 (h : mx_MH) (l : Nat) (x : mx_MC) : (mx_new h l x).1 = (h.1.1 + 1, h.1.2 + l) := rfl
theorem pf_e {h : mx_MH} {a ci : Nat} {fs : List Value} (ho : mx_obj h a = some (ci, fs)) (ha : 17 ≤ a) (cis : List Nat) (k tc : Nat) (v : Value) (hc : cis.contains ci = true) (ht : mx_tcOk tc v = true) (hk : k < fs.length) : mg_p h a cis k tc v = some (mx_set h a (.inl (ci, fs.set k v))) := by
  unfold mg_p
  rw [ho]
  dsimp only
  rw [if_pos ⟨hc, ht, hk, ha⟩]
/-- a new boat's cell -/
def c_bt (k : Nat) : mx_MC := .inl (0, [.ref k, .int 1, .int 0, .int 0, .int 0, .int 0, .int 1])
theorem in_boat (d a k : Nat) (h : mx_MH) (ha : 17 ≤ a) (ho : mx_obj h a = some (0, [.null, .int 0, .int 0, .int 0, .int 0, .int 0, .int 0])) : mx_run d 10 0 [some (.ref a), some (.ref k)] [] h = some (none, mx_set h a (c_bt k)) := by
  have p1 : mg_p h a [0] 1 0 (.int 1) = some (mx_set h a (.inl (0, [.null, .int 1, .int 0, .int 0, .int 0, .int 0, .int 0]))) := pf_e ho ha [0] 1 0 (.int 1) rfl rfl (by show 1 < 7; omega)
  have p2 : mg_p (mx_set h a (.inl (0, [.null, .int 1, .int 0, .int 0, .int 0, .int 0, .int 0]))) a [0] 6 1 (.int 1) = some (mx_set (mx_set h a (.inl (0, [.null, .int 1, .int 0, .int 0, .int 0, .int 0, .int 0]))) a (.inl (0, [.null, .int 1, .int 0, .int 0, .int 0, .int 0, .int 1]))) := pf_e (ob_s h a _) ha [0] 6 1 (.int 1) rfl rfl (by show 6 < 7; omega)
  have p3 : mg_p (mx_set h a (.inl (0, [.null, .int 1, .int 0, .int 0, .int 0, .int 0, .int 1]))) a [0] 0 2 (.ref k) = some (mx_set (mx_set h a (.inl (0, [.null, .int 1, .int 0, .int 0, .int 0, .int 0, .int 1]))) a (c_bt k)) := pf_e (ob_s h a _) ha [0] 0 2 (.ref k) rfl rfl (by show 0 < 7; omega)
  simp only [iq_10_0, iq_10_1, iq_10_4, iq_10_5, iq_10_6, iq_10_9, iq_10_10, iq_10_11, iq_10_14, iq_10_15, iq_10_15n, iq_10_16, iq_10_19, Option.bind_some, p1, p2, se_s, p3]
/-- kinds -/
theorem in_kind (d a ci : Nat) (n : Int32) (up : Value) (h : mx_MH) (ha : 17 ≤ a) (hci : [1, 2, 3, 4, 7, 9].contains ci = true) (hu : up = .null ∨ ∃ u, up = .ref u) (ho : mx_obj h a = some (ci, [.int 0, .null])) : mx_run d 3 0 [some (.ref a), some (.int n), some up] [] h = some (none, mx_set h a (.inl (ci, [.int n, up]))) := by
  have p1 : mg_p h a [1, 2, 3, 4, 7, 9] 0 0 (.int n) = some (mx_set h a (.inl (ci, [.int n, .null]))) := pf_e ho ha [1, 2, 3, 4, 7, 9] 0 0 (.int n) hci rfl (by show 0 < 2; omega)
  have p2 : mg_p (mx_set h a (.inl (ci, [.int n, .null]))) a [1, 2, 3, 4, 7, 9] 1 2 up = some (mx_set (mx_set h a (.inl (ci, [.int n, .null]))) a (.inl (ci, [.int n, up]))) := pf_e (ob_s h a _) ha [1, 2, 3, 4, 7, 9] 1 2 up hci (by rcases hu with rfl | ⟨u, rfl⟩ <;> rfl) (by show 1 < 2; omega)
  rcases hu with rfl | ⟨u, rfl⟩
  · simp only [iq_3_0, iq_3_1, iq_3_4, iq_3_5, iq_3_6, iq_3_9, iq_3_10, iq_3_10n, iq_3_11, iq_3_14, Option.bind_some, p1, p2, se_s]
  · simp only [iq_3_0, iq_3_1, iq_3_4, iq_3_5, iq_3_6, iq_3_9, iq_3_10, iq_3_10n, iq_3_11, iq_3_14, Option.bind_some, p1, p2, se_s]
theorem ne_s (h : mx_MH) (a l : Nat) (x y : mx_MC) (ha : a ≠ h.1.1) : mx_new (mx_set h a x) l y = mx_set (mx_new h l y) a x := by
  unfold mx_new mx_set
  dsimp only
  rw [up_cm _ _ _ _ _ ha]
/-- a new sheet's cells -/
theorem in_sheet (d a : Nat) (h : mx_MH) (ha : 17 ≤ a) (hn : a < h.1.1) (ho : mx_obj h a = some (6, [.int 0, .int 0, .null, .null])) : mx_run d 12 0 [some (.ref a)] [] h = some (none, mx_set (mx_new (mx_new h 24 (.inr (.short, 24, fun _ => defaultValue .short))) 24 (.inr (.float, 24, fun _ => defaultValue .float))) a (.inl (6, [.int (-1), .int 0, .ref h.1.1, .ref (h.1.1 + 1)]))) := by
  obtain ⟨h2, e2⟩ : ∃ h2, h2 = mx_new h 24 (.inr (.short, 24, fun _ => defaultValue .short)) := ⟨_, rfl⟩
  obtain ⟨h3, e3⟩ : ∃ h3, h3 = mx_new h2 24 (.inr (.float, 24, fun _ => defaultValue .float)) := ⟨_, rfl⟩
  have x2 : h2.1.1 = h.1.1 + 1 := by rw [e2]; rfl
  have p1 : mg_p h a [6] 0 0 (.int (-1)) = some (mx_set h a (.inl (6, [.int (-1), .int 0, .null, .null]))) := pf_e ho ha [6] 0 0 (.int (-1)) rfl rfl (by show 0 < 4; omega)
  have n1 : mx_new (mx_set h a (.inl (6, [.int (-1), .int 0, .null, .null]))) 24 (.inr (.short, 24, fun _ => defaultValue .short)) = mx_set h2 a (.inl (6, [.int (-1), .int 0, .null, .null])) := by rw [ne_s _ _ _ _ _ (by omega), e2]
  have p2 : mg_p (mx_set h2 a (.inl (6, [.int (-1), .int 0, .null, .null]))) a [6] 2 2 (.ref h.1.1) = some (mx_set h2 a (.inl (6, [.int (-1), .int 0, .ref h.1.1, .null]))) := by
    rw [pf_e (ob_s h2 a _) ha [6] 2 2 (.ref h.1.1) rfl rfl (by show 2 < 4; omega), se_s]
    rfl
  have n2 : mx_new (mx_set h2 a (.inl (6, [.int (-1), .int 0, .ref h.1.1, .null]))) 24 (.inr (.float, 24, fun _ => defaultValue .float)) = mx_set h3 a (.inl (6, [.int (-1), .int 0, .ref h.1.1, .null])) := by rw [ne_s _ _ _ _ _ (by omega), e3]
  have p3 : mg_p (mx_set h3 a (.inl (6, [.int (-1), .int 0, .ref h.1.1, .null]))) a [6] 3 2 (.ref (h.1.1 + 1)) = some (mx_set h3 a (.inl (6, [.int (-1), .int 0, .ref h.1.1, .ref (h.1.1 + 1)]))) := by
    rw [pf_e (ob_s h3 a _) ha [6] 3 2 (.ref (h.1.1 + 1)) rfl rfl (by show 3 < 4; omega), se_s]
    rfl
  have k24 : (¬ (24 : Int32) < 0 ∧ (24 : Nat) ≤ 100000) = True := by decide
  have c24 : (24 : Int32).toNatClampNeg = 24 := by decide
  rw [← e2, ← e3]
  simp only [iq_12_0, iq_12_1, iq_12_4, iq_12_5, iq_12_6, iq_12_9, iq_12_10, iq_12_12, iq_12_14, iq_12_17, iq_12_18, iq_12_20, iq_12_22, iq_12_25, Option.bind_some, p1, ↓reduceIte, k24, c24, n1, se_1, p2, n2, x2, p3]
/-- the tape's cells -/
theorem in_tape (d a : Nat) (h : mx_MH) (ha : 17 ≤ a) (hn : a < h.1.1) (ho : mx_obj h a = some (8, [.null, .int 0, .int 0, .int 0, .int 0, .int 0, .int 0, .int 0, .null, .int 0])) : mx_run d 2 0 [some (.ref a)] [] h = some (none, mx_set (mx_new (mx_new h 96 (.inr (.byte, 96, fun _ => defaultValue .byte))) 96 (.inr (.int, 96, fun _ => defaultValue .int))) a (.inl (8, [.ref h.1.1, .int 0, .int 0, .int 0, .int 0, .int 0, .int 0, .int 0, .ref (h.1.1 + 1), .int 0]))) := by
  obtain ⟨h2, e2⟩ : ∃ h2, h2 = mx_new h 96 (.inr (.byte, 96, fun _ => defaultValue .byte)) := ⟨_, rfl⟩
  obtain ⟨h3, e3⟩ : ∃ h3, h3 = mx_new h2 96 (.inr (.int, 96, fun _ => defaultValue .int)) := ⟨_, rfl⟩
  have x2 : h2.1.1 = h.1.1 + 1 := by rw [e2]; rfl
  have o2 : mx_obj h2 a = some (8, [.null, .int 0, .int 0, .int 0, .int 0, .int 0, .int 0, .int 0, .null, .int 0]) := by rw [e2, ob_w _ _ _ _ (by omega)]; exact ho
  have p2 : mg_p h2 a [8] 0 2 (.ref h.1.1) = some (mx_set h2 a (.inl (8, [.ref h.1.1, .int 0, .int 0, .int 0, .int 0, .int 0, .int 0, .int 0, .null, .int 0]))) := pf_e o2 ha [8] 0 2 (.ref h.1.1) rfl rfl (by show 0 < 10; omega)
  have n2 : mx_new (mx_set h2 a (.inl (8, [.ref h.1.1, .int 0, .int 0, .int 0, .int 0, .int 0, .int 0, .int 0, .null, .int 0]))) 96 (.inr (.int, 96, fun _ => defaultValue .int)) = mx_set h3 a (.inl (8, [.ref h.1.1, .int 0, .int 0, .int 0, .int 0, .int 0, .int 0, .int 0, .null, .int 0])) := by rw [ne_s _ _ _ _ _ (by omega), e3]
  have p3 : mg_p (mx_set h3 a (.inl (8, [.ref h.1.1, .int 0, .int 0, .int 0, .int 0, .int 0, .int 0, .int 0, .null, .int 0]))) a [8] 8 2 (.ref (h.1.1 + 1)) = some (mx_set h3 a (.inl (8, [.ref h.1.1, .int 0, .int 0, .int 0, .int 0, .int 0, .int 0, .int 0, .ref (h.1.1 + 1), .int 0]))) := by
    rw [pf_e (ob_s h3 a _) ha [8] 8 2 (.ref (h.1.1 + 1)) rfl rfl (by show 8 < 10; omega), se_s]
    rfl
  have k96 : (¬ (96 : Int32) < 0 ∧ (96 : Nat) ≤ 100000) = True := by decide
  have c96 : (96 : Int32).toNatClampNeg = 96 := by decide
  rw [← e2, ← e3]
  simp only [iq_2_0, iq_2_1, iq_2_4, iq_2_5, iq_2_7, iq_2_9, iq_2_12, iq_2_13, iq_2_15, iq_2_17, iq_2_20, Option.bind_some, ↓reduceIte, k96, c96, ← e2, se_1, p2, n2, x2, p3]
