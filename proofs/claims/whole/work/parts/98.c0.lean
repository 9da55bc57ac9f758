/-- the first table -/
def z_bt (k : Nat) : Int32 := if k = 0 then 29 else if k = 1 then 1 else if k = 6 then 1 else 0
def z_sea (k : Nat) : Int32 := if k = 7 then 1 else 0
def z_rul (k : Nat) : Int32 := if k = 0 then 5 else if k = 2 then 3 else if k = 3 then 4 else 0
def z_m3 (k : Nat) : Int32 := if k < 3 then -1 else 0
def z_m4 (k : Nat) : Int32 := if k < 4 then -1 else 0
def z_sh (k : Nat) : Int32 := if k = 0 then -1 else 0
def z_s (k : Nat) : Int32 := if k = 6 then 1 else if k = 7 then 5 else if k = 9 then 3 else if k = 10 then 4 else 0
def z_0 (_ : Nat) : Int32 := 0
def z_se (m : Nat) : Nat → Int32 := match m with
  | 0 => z_sea
  | 1 => z_0
  | 2 => z_rul
  | 3 => z_0
  | 4 => z_m3
  | _ => z_bt
def z_D (a : Nat) : Nat → Int32 :=
  if a < 35 then z_0
  else if a < 77 then z_se ((a - 35) % 14)
  else if a < 89 then (if (a - 77) % 3 = 0 then z_sh else z_0)
  else if a < 109 then (if (a - 89) % 4 = 0 then z_bt else if (a - 89) % 4 = 1 then z_sh else z_0)
  else if a = 110 then z_s
  else if a = 113 then z_m4
  else z_0
section XF
variable (L : Nat) (xs : Nat → Int32)
def xf (a : Nat) : Option mx_MC := if a < 17 then sx_rom L xs a else if a < 128 then some (hz_shp a (z_D a)) else none
def xp (k : Nat) (o17 o18 o23 o25 o26 : Option mx_MC) (a : Nat) : Option mx_MC := if a = 17 then o17 else if a = 18 then o18 else if a = 23 then o23 else if a = 25 then o25 else if a = 26 then o26 else if a < k then xf L xs a else none
variable (k : Nat) (o17 o18 o23 o25 o26 v : Option mx_MC)
theorem xp_17 : mx_up (xp L xs k o17 o18 o23 o25 o26) 17 v = xp L xs k v o18 o23 o25 o26 := by
  funext a
  by_cases e : a = 17
  · subst e
    rw [up_s]
    rfl
  · rw [up_n _ _ _ _ e]
    unfold xp
    simp only [if_neg e]
theorem xp_18 : mx_up (xp L xs k o17 o18 o23 o25 o26) 18 v = xp L xs k o17 v o23 o25 o26 := by
  funext a
  by_cases e : a = 18
  · subst e
    rw [up_s]
    rfl
  · rw [up_n _ _ _ _ e]
    unfold xp
    simp only [if_neg e]
theorem xp_23 : mx_up (xp L xs k o17 o18 o23 o25 o26) 23 v = xp L xs k o17 o18 v o25 o26 := by
  funext a
  by_cases e : a = 23
  · subst e
    rw [up_s]
    rfl
  · rw [up_n _ _ _ _ e]
    unfold xp
    simp only [if_neg e]
theorem xp_25 : mx_up (xp L xs k o17 o18 o23 o25 o26) 25 v = xp L xs k o17 o18 o23 v o26 := by
  funext a
  by_cases e : a = 25
  · subst e
    rw [up_s]
    rfl
  · rw [up_n _ _ _ _ e]
    unfold xp
    simp only [if_neg e]
theorem xp_26 : mx_up (xp L xs k o17 o18 o23 o25 o26) 26 v = xp L xs k o17 o18 o23 o25 v := by
  funext a
  by_cases e : a = 26
  · subst e
    rw [up_s]
    rfl
  · rw [up_n _ _ _ _ e]
    unfold xp
    simp only [if_neg e]
theorem xp_new {x : mx_MC} (hk : k ≠ 17 ∧ k ≠ 18 ∧ k ≠ 23 ∧ k ≠ 25 ∧ k ≠ 26) (hx : xf L xs k = some x) : mx_up (xp L xs k o17 o18 o23 o25 o26) k (some x) = xp L xs (k + 1) o17 o18 o23 o25 o26 := by
  obtain ⟨k1, k2, k3, k4, k5⟩ := hk
  funext a
  by_cases e : a = k
  · subst e
    rw [up_s]
    unfold xp
    rw [if_neg k1, if_neg k2, if_neg k3, if_neg k4, if_neg k5, if_pos (by omega), hx]
  · rw [up_n _ _ _ _ e]
    unfold xp
    have h : (a < k + 1) = (a < k) := propext (by omega)
    simp only [h]
theorem xp_skip (hk : k = 17 ∨ k = 18 ∨ k = 23 ∨ k = 25 ∨ k = 26) : xp L xs k o17 o18 o23 o25 o26 = xp L xs (k + 1) o17 o18 o23 o25 o26 := by
  funext a
  unfold xp
  by_cases e : a = k
  · rcases hk with z | z | z | z | z <;> (rw [e, z]; rfl)
  · have h : (a < k + 1) = (a < k) := propext (by omega)
    simp only [h]
end XF
theorem he_11 (k q : Nat) (X : Nat → Option mx_MC) : (((k, q), X) : mx_MH).1.1 = k := rfl
theorem he_pf {k q a ci : Nat} {X : Nat → Option mx_MC} {fs : List Value} (hX : X a = some (.inl (ci, fs))) (ha : 17 ≤ a) (cis : List Nat) (i tc : Nat) (v : Value) (hc : cis.contains ci = true) (ht : mx_tcOk tc v = true) (hk : i < fs.length) : mg_p ((k, q), X) a cis i tc v = some ((k, q), mx_up X a (some (.inl (ci, fs.set i v)))) := by
  unfold mg_p mx_obj
  dsimp only
  rw [hX]
  dsimp only
  rw [if_pos ⟨hc, ht, hk, ha⟩]
  rfl
theorem he_gf {k q a ci : Nat} {X : Nat → Option mx_MC} {fs : List Value} (hX : X a = some (.inl (ci, fs))) (cis : List Nat) (i : Nat) (v : Value) (hc : cis.contains ci = true) (hv : fs[i]? = some v) : mg_f ((k, q), X) a cis i = some v := by
  unfold mg_f mx_obj
  dsimp only
  rw [hX]
  dsimp only
  rw [if_pos hc, hv]
theorem he_ob {k q a : Nat} {X : Nat → Option mx_MC} {z : Nat × List Value} (hX : X a = some (.inl z)) : mx_obj ((k, q), X) a = some z := by
  unfold mx_obj
  dsimp only
  rw [hX]
theorem he_ln {k q a n : Nat} {X : Nat → Option mx_MC} {t : FieldType} {V : Nat → Value} (hX : X a = some (.inr (t, n, V))) : mg_ln ((k, q), X) a = some (nI n) := by
  unfold mg_ln mx_arr
  dsimp only
  rw [hX]
  rfl
theorem he_as {k q a v ci n j : Nat} {X : Nat → Option mx_MC} {C : String} {V : Nat → Value} {fs : List Value} (hX : X a = some (.inr (.object C, n, V))) (hY : X v = some (.inl (ci, fs))) (hj : j < n) (hn : n < 2 ^ 31) (hC : mx_cast ci C = true) (ha : 17 ≤ a) (hv : 17 ≤ v) : mg_as ((k, q), X) a (nI j) v = some ((k, q), mx_up X a (some (.inr (.object C, n, mx_up V j (.ref v))))) := by
  unfold mg_as mx_arr mx_obj
  dsimp only
  rw [hX, hY]
  dsimp only
  rw [if_pos ⟨in_nI hj hn, hC, hv, ha⟩, nI_clamp (by omega)]
  rfl
theorem he_st {k q a n j : Nat} {X : Nat → Option mx_MC} {V : Nat → Value} (x : Int32) (hX : X a = some (.inr (.int, n, V))) (hj : j < n) (hn : n < 2 ^ 31) (ha : 17 ≤ a) : mg_st ((k, q), X) a .int (nI j) (.int x) = some ((k, q), mx_up X a (some (.inr (.int, n, mx_up V j (.int x))))) := by
  unfold mg_st mx_arr
  dsimp only
  rw [hX]
  dsimp only
  rw [if_pos ⟨rfl, in_nI hj hn, ha⟩, nI_clamp (by omega)]
  rfl
/-- kinds under kinds -/
theorem in_k4 (d a ci u : Nat) (n : Int32) (h : mx_MH) (ha : 17 ≤ a) (hci : [1, 2, 3, 4, 7, 9].contains ci = true) (ho : mx_obj h a = some (ci, [.int 0, .null])) : mx_run (d + 1) 4 0 [some (.ref a), some (.int n), some (.ref u)] [] h = some (none, mx_set h a (.inl (ci, [.int n, .ref u]))) := by
  have k := in_kind d a ci n (.ref u) h ha hci (Or.inr ⟨u, rfl⟩) ho
  simp only [iq_4_0, iq_4_1, iq_4_2, iq_4_2n, iq_4_3, iq_4_6, Option.bind_some, Option.toList, List.cons_append, List.nil_append, ↓reduceIte, nI_1, Int32.reduceLT, Int32.reduceLE, dv_1, dv_2, dv_3, dv_4, dv_6, dv_8, dv_10, dv_20, dv_100, dv_200, dv_500, k]
theorem in_k5 (d a ci u : Nat) (n : Int32) (h : mx_MH) (ha : 17 ≤ a) (hci : [1, 2, 3, 4, 7, 9].contains ci = true) (ho : mx_obj h a = some (ci, [.int 0, .null])) : mx_run (d + 1) 5 0 [some (.ref a), some (.int n), some (.ref u)] [] h = some (none, mx_set h a (.inl (ci, [.int n, .ref u]))) := by
  have k := in_kind d a ci n (.ref u) h ha hci (Or.inr ⟨u, rfl⟩) ho
  simp only [iq_5_0, iq_5_1, iq_5_2, iq_5_2n, iq_5_3, iq_5_6, Option.bind_some, Option.toList, List.cons_append, List.nil_append, ↓reduceIte, nI_1, Int32.reduceLT, Int32.reduceLE, dv_1, dv_2, dv_3, dv_4, dv_6, dv_8, dv_10, dv_20, dv_100, dv_200, dv_500, k]
theorem in_k8 (d a ci u : Nat) (n : Int32) (h : mx_MH) (ha : 17 ≤ a) (hci : [1, 2, 3, 4, 7, 9].contains ci = true) (ho : mx_obj h a = some (ci, [.int 0, .null])) : mx_run (d + 1) 8 0 [some (.ref a), some (.int n), some (.ref u)] [] h = some (none, mx_set h a (.inl (ci, [.int n, .ref u]))) := by
  have k := in_kind d a ci n (.ref u) h ha hci (Or.inr ⟨u, rfl⟩) ho
  simp only [iq_8_0, iq_8_1, iq_8_2, iq_8_2n, iq_8_3, iq_8_6, Option.bind_some, Option.toList, List.cons_append, List.nil_append, ↓reduceIte, nI_1, Int32.reduceLT, Int32.reduceLE, dv_1, dv_2, dv_3, dv_4, dv_6, dv_8, dv_10, dv_20, dv_100, dv_200, dv_500, k]
theorem in_k6 (d a ci u : Nat) (n : Int32) (h : mx_MH) (ha : 17 ≤ a) (hci : [1, 2, 3, 4, 7, 9].contains ci = true) (ho : mx_obj h a = some (ci, [.int 0, .null])) : mx_run (d + 2) 6 0 [some (.ref a), some (.int n), some (.ref u)] [] h = some (none, mx_set h a (.inl (ci, [.int n, .ref u]))) := by
  have k := in_k4 d a ci u n h ha hci ho
  simp only [iq_6_0, iq_6_1, iq_6_2, iq_6_2n, iq_6_3, iq_6_6, Option.bind_some, Option.toList, List.cons_append, List.nil_append, ↓reduceIte, nI_1, Int32.reduceLT, Int32.reduceLE, dv_1, dv_2, dv_3, dv_4, dv_6, dv_8, dv_10, dv_20, dv_100, dv_200, dv_500, k]
theorem in_k7 (d a ci u : Nat) (n : Int32) (h : mx_MH) (ha : 17 ≤ a) (hci : [1, 2, 3, 4, 7, 9].contains ci = true) (ho : mx_obj h a = some (ci, [.int 0, .null])) : mx_run (d + 2) 7 0 [some (.ref a), some (.int n), some (.ref u)] [] h = some (none, mx_set h a (.inl (ci, [.int n, .ref u]))) := by
  have k := in_k5 d a ci u n h ha hci ho
  simp only [iq_7_0, iq_7_1, iq_7_2, iq_7_2n, iq_7_3, iq_7_6, Option.bind_some, Option.toList, List.cons_append, List.nil_append, ↓reduceIte, nI_1, Int32.reduceLT, Int32.reduceLE, dv_1, dv_2, dv_3, dv_4, dv_6, dv_8, dv_10, dv_20, dv_100, dv_200, dv_500, k]
theorem iq_1_84v (d : Nat) (ls : mx_Lo) (a : Nat) (x0 : Int32) (r0 : Value) (h : mx_MH) : mx_run (d + 1) 1 84 ls [.null, .int x0, .ref a, r0] h = (mx_run d 3 0 [some (.ref a), some (.int x0), some .null] [] h).bind (fun y => mx_run (d + 1) 1 87 ls (y.1.toList ++ [r0]) y.2) := mr_cK mq_1 (show decode prog_1_method_1_code 84 = .ok (.invokespecial 50, 3) by decide +kernel) rfl (q := (45106, 126, 3, 2, false, 127, 51, 128)) rfl ⟨rfl, rfl⟩ mq_3 ⟨by decide, Nat.le_of_ble_eq_true rfl, rfl, Nat.le_of_ble_eq_true rfl⟩
