def rz_vi (v : Value) : Int32 := match v with
  | .int x => x
  | _ => 0
def rz_len (a : Nat) : Nat := match a with
  | 110 => 3075
  | 111 => 3075
  | 112 => 3075
  | 113 => 4
  | 114 => 4
  | 115 => 96
  | 116 => 5
  | 117 => 5
  | 118 => 5
  | 119 => 5
  | 120 => 120
  | 121 => 75
  | 122 => 96
  | 123 => 128
  | 124 => 100
  | 125 => 24
  | 126 => 60
  | 127 => 60
  | _ => 0
def rz_A (h : mx_MH) (a j : Nat) : Int32 := match h.2 a with
  | some (.inr (_, _, V)) => rz_vi (V j)
  | _ => 0
def rz_F (h : mx_MH) (k : Nat) : Int32 := match h.2 109 with
  | some (.inl (_, fs)) => rz_vi (fs.getD k .null)
  | _ => 0
def rz_fs (F : Nat → Int32) : List Value := [.ref 110, .ref 111, .ref 112, .int (F 3), .ref 113, .ref 114, .ref 115, .ref 116, .ref 117, .ref 118, .ref 119, .ref 120, .ref 121, .ref 122, .int (F 14), .int (F 15), .int (F 16), .int (F 17), .int (F 18), .int (F 19), .int (F 20), .int (F 21), .int (F 22), .int (F 23), .int (F 24), .ref 123, .ref 124, .ref 125, .ref 126, .int (F 29), .ref 127]
def rz_ia (n : Nat) (f : Nat → Int32) : mx_MC := .inr (.int, n, fun j => .int (f j))
def rz_ok (h : mx_MH) : Prop := h.2 109 = some (.inl (12, rz_fs (rz_F h))) ∧ ∀ a, 110 ≤ a → a ≤ 127 → h.2 a = some (rz_ia (rz_len a) (rz_A h a))
def rz_sA (h : mx_MH) (a : Nat) (f : Nat → Int32) : mx_MH := mx_set h a (rz_ia (rz_len a) f)
def rz_sF (h : mx_MH) (k : Nat) (x : Int32) : mx_MH := mx_set h 109 (.inl (12, rz_fs (mx_up (rz_F h) k x)))
theorem rz_set2 (h : mx_MH) (a : Nat) (c : mx_MC) (b : Nat) : (mx_set h a c).2 b = if b = a then some c else h.2 b := rfl
theorem rz_A_sA (h : mx_MH) (a : Nat) (f : Nat → Int32) (b : Nat) : rz_A (rz_sA h a f) b = if b = a then f else rz_A h b := by
  funext j
  unfold rz_A rz_sA
  rw [rz_set2]
  by_cases e : b = a
  · rw [if_pos e, if_pos e]
    rfl
  · rw [if_neg e, if_neg e]
theorem rz_F_sA (h : mx_MH) (a : Nat) (f : Nat → Int32) (ha : a ≠ 109) : rz_F (rz_sA h a f) = rz_F h := by
  funext k
  unfold rz_F rz_sA
  rw [rz_set2, if_neg (Ne.symm ha)]
theorem rz_ok_sA (h : mx_MH) (a : Nat) (f : Nat → Int32) (ha : a ≠ 109) (hk : rz_ok h) : rz_ok (rz_sA h a f) := by
  refine ⟨?_, fun b h1 h2 => ?_⟩
  · rw [rz_F_sA h a f ha]
    unfold rz_sA
    rw [rz_set2, if_neg (Ne.symm ha)]
    exact hk.1
  · rw [rz_A_sA]
    unfold rz_sA
    rw [rz_set2]
    by_cases e : b = a
    · rw [if_pos e, if_pos e, e]
    · rw [if_neg e, if_neg e]
      exact hk.2 b h1 h2
theorem rz_sA_sA (h : mx_MH) (a : Nat) (f g : Nat → Int32) : rz_sA (rz_sA h a f) a g = rz_sA h a g := by
  unfold rz_sA mx_set
  refine Prod.ext rfl ?_
  funext b
  show mx_up (mx_up h.2 a _) a _ b = mx_up h.2 a _ b
  unfold mx_up
  by_cases e : b = a
  · rw [if_pos e, if_pos e]
  · rw [if_neg e, if_neg e, if_neg e]
theorem rz_sA_1 (h : mx_MH) (a : Nat) (f : Nat → Int32) : (rz_sA h a f).1 = h.1 := rfl
theorem rz_sF_1 (h : mx_MH) (k : Nat) (x : Int32) : (rz_sF h k x).1 = h.1 := rfl
theorem rz_sA_id {h : mx_MH} {a : Nat} (hk : rz_ok h) (h1 : 110 ≤ a) (h2 : a ≤ 127) : rz_sA h a (rz_A h a) = h := by
  unfold rz_sA mx_set
  refine Prod.ext rfl ?_
  funext b
  show mx_up h.2 a _ b = h.2 b
  unfold mx_up
  by_cases e : b = a
  · rw [if_pos e, e, hk.2 a h1 h2]
  · rw [if_neg e]
def rz_isI (k : Nat) : Bool := k == 3 || (14 ≤ k && k ≤ 24) || k == 29
theorem rz_F_sF (h : mx_MH) (k : Nat) (x : Int32) (j : Nat) (hj : rz_isI j = true) : rz_F (rz_sF h k x) j = if j = k then x else rz_F h j := by
  have key : ∀ G : Nat → Int32, rz_vi ((rz_fs G).getD j .null) = G j := by
    intro G
    simp only [rz_isI, Bool.or_eq_true, Bool.and_eq_true, beq_iff_eq, decide_eq_true_eq] at hj
    have hd : j = 3 ∨ j = 14 ∨ j = 15 ∨ j = 16 ∨ j = 17 ∨ j = 18 ∨ j = 19 ∨ j = 20 ∨ j = 21 ∨ j = 22 ∨ j = 23 ∨ j = 24 ∨ j = 29 := by omega
    rcases hd with rfl | rfl | rfl | rfl | rfl | rfl | rfl | rfl | rfl | rfl | rfl | rfl | rfl <;> rfl
  show rz_vi ((rz_fs (mx_up (rz_F h) k x)).getD j .null) = _
  rw [key]
  rfl
theorem rz_A_sF (h : mx_MH) (k : Nat) (x : Int32) (b : Nat) (hb : b ≠ 109) : rz_A (rz_sF h k x) b = rz_A h b := by
  funext j
  unfold rz_A rz_sF
  rw [rz_set2, if_neg hb]
theorem rz_ok_sF (h : mx_MH) (k : Nat) (x : Int32) (hk : rz_ok h) : rz_ok (rz_sF h k x) := by
  have hi : ∀ j, rz_isI j = true → rz_F (rz_sF h k x) j = mx_up (rz_F h) k x j := fun j hj => rz_F_sF h k x j hj
  refine ⟨?_, fun b h1 h2 => ?_⟩
  · show some (Sum.inl (12, rz_fs (mx_up (rz_F h) k x))) = _
    unfold rz_fs
    rw [hi 3 rfl, hi 14 rfl, hi 15 rfl, hi 16 rfl, hi 17 rfl, hi 18 rfl, hi 19 rfl, hi 20 rfl, hi 21 rfl, hi 22 rfl, hi 23 rfl, hi 24 rfl, hi 29 rfl]
  · rw [rz_A_sF h k x b (by omega)]
    show (mx_set h 109 _).2 b = _
    rw [rz_set2, if_neg (by omega)]
    exact hk.2 b h1 h2
theorem rz_obj {h : mx_MH} (hk : rz_ok h) : mx_obj h 109 = some (12, rz_fs (rz_F h)) := by
  unfold mx_obj
  rw [hk.1]
theorem rz_kd {h : mx_MH} (hk : rz_ok h) : mg_kd h 109 = some 12 := by
  unfold mg_kd
  rw [rz_obj hk]
  rfl
theorem rz_arr {h : mx_MH} (hk : rz_ok h) {a : Nat} (h1 : 110 ≤ a) (h2 : a ≤ 127) : mx_arr h a = some (.int, rz_len a, fun j => .int (rz_A h a j)) := by
  unfold mx_arr
  rw [hk.2 a h1 h2]
  rfl
theorem rz_ld {h : mx_MH} (hk : rz_ok h) (a : Nat) (j : Int32) (h1 : 110 ≤ a ∧ a ≤ 127) (hj : mx_in j (rz_len a) = true) : mg_ld h a .int j = some (.int (rz_A h a j.toNatClampNeg)) := by
  unfold mg_ld
  rw [rz_arr hk h1.1 h1.2]
  simp only [hj, and_self, if_true]
theorem rz_st {h : mx_MH} (hk : rz_ok h) (a : Nat) (j x : Int32) (h1 : 110 ≤ a ∧ a ≤ 127) (hj : mx_in j (rz_len a) = true) : mg_st h a .int j (.int x) = some (rz_sA h a (mx_up (rz_A h a) j.toNatClampNeg x)) := by
  unfold mg_st
  rw [rz_arr hk h1.1 h1.2]
  simp only [hj, true_and]
  rw [if_pos (by omega)]
  unfold rz_sA rz_ia
  congr 5
  funext i
  unfold mx_up
  by_cases e : i = j.toNatClampNeg
  · rw [if_pos e, if_pos e]
  · rw [if_neg e, if_neg e]
theorem rz_in {k n : Nat} (h : k < n) (hn : n < 2 ^ 31) : mx_in (nI k) n = true := by
  unfold mx_in
  simp only [decide_eq_true_eq]
  exact nI_in h hn
theorem rz_g0 {h : mx_MH} (hk : rz_ok h) : mg_f h 109 [12] 0 = some (.ref 110) := by
  unfold mg_f
  rw [rz_obj hk]
  rfl
theorem rz_g1 {h : mx_MH} (hk : rz_ok h) : mg_f h 109 [12] 1 = some (.ref 111) := by
  unfold mg_f
  rw [rz_obj hk]
  rfl
theorem rz_g2 {h : mx_MH} (hk : rz_ok h) : mg_f h 109 [12] 2 = some (.ref 112) := by
  unfold mg_f
  rw [rz_obj hk]
  rfl
theorem rz_g3 {h : mx_MH} (hk : rz_ok h) : mg_f h 109 [12] 3 = some (.int (rz_F h 3)) := by
  unfold mg_f
  rw [rz_obj hk]
  rfl
theorem rz_p3 {h : mx_MH} (hk : rz_ok h) (x : Int32) (hx : mx_tcOk 1 (.int x) = true) : mg_p h 109 [12] 3 1 (.int x) = some (rz_sF h 3 x) := by
  unfold mg_p
  rw [rz_obj hk]
  dsimp only
  rw [if_pos ⟨rfl, hx, by show 3 < 31; omega, by omega⟩]
  rfl
theorem rz_g4 {h : mx_MH} (hk : rz_ok h) : mg_f h 109 [12] 4 = some (.ref 113) := by
  unfold mg_f
  rw [rz_obj hk]
  rfl
theorem rz_g5 {h : mx_MH} (hk : rz_ok h) : mg_f h 109 [12] 5 = some (.ref 114) := by
  unfold mg_f
  rw [rz_obj hk]
  rfl
theorem rz_g6 {h : mx_MH} (hk : rz_ok h) : mg_f h 109 [12] 6 = some (.ref 115) := by
  unfold mg_f
  rw [rz_obj hk]
  rfl
theorem rz_g7 {h : mx_MH} (hk : rz_ok h) : mg_f h 109 [12] 7 = some (.ref 116) := by
  unfold mg_f
  rw [rz_obj hk]
  rfl
theorem rz_g8 {h : mx_MH} (hk : rz_ok h) : mg_f h 109 [12] 8 = some (.ref 117) := by
  unfold mg_f
  rw [rz_obj hk]
  rfl
theorem rz_g9 {h : mx_MH} (hk : rz_ok h) : mg_f h 109 [12] 9 = some (.ref 118) := by
  unfold mg_f
  rw [rz_obj hk]
  rfl
theorem rz_g10 {h : mx_MH} (hk : rz_ok h) : mg_f h 109 [12] 10 = some (.ref 119) := by
  unfold mg_f
  rw [rz_obj hk]
  rfl
theorem rz_g11 {h : mx_MH} (hk : rz_ok h) : mg_f h 109 [12] 11 = some (.ref 120) := by
  unfold mg_f
  rw [rz_obj hk]
  rfl
theorem rz_g12 {h : mx_MH} (hk : rz_ok h) : mg_f h 109 [12] 12 = some (.ref 121) := by
  unfold mg_f
  rw [rz_obj hk]
  rfl
theorem rz_g13 {h : mx_MH} (hk : rz_ok h) : mg_f h 109 [12] 13 = some (.ref 122) := by
  unfold mg_f
  rw [rz_obj hk]
  rfl
theorem rz_g14 {h : mx_MH} (hk : rz_ok h) : mg_f h 109 [12] 14 = some (.int (rz_F h 14)) := by
  unfold mg_f
  rw [rz_obj hk]
  rfl
theorem rz_p14 {h : mx_MH} (hk : rz_ok h) (x : Int32) : mg_p h 109 [12] 14 0 (.int x) = some (rz_sF h 14 x) := by
  unfold mg_p
  rw [rz_obj hk]
  dsimp only
  rw [if_pos ⟨rfl, rfl, by show 14 < 31; omega, by omega⟩]
  rfl
theorem rz_g15 {h : mx_MH} (hk : rz_ok h) : mg_f h 109 [12] 15 = some (.int (rz_F h 15)) := by
  unfold mg_f
  rw [rz_obj hk]
  rfl
theorem rz_p15 {h : mx_MH} (hk : rz_ok h) (x : Int32) : mg_p h 109 [12] 15 0 (.int x) = some (rz_sF h 15 x) := by
  unfold mg_p
  rw [rz_obj hk]
  dsimp only
  rw [if_pos ⟨rfl, rfl, by show 15 < 31; omega, by omega⟩]
  rfl
theorem rz_g16 {h : mx_MH} (hk : rz_ok h) : mg_f h 109 [12] 16 = some (.int (rz_F h 16)) := by
  unfold mg_f
  rw [rz_obj hk]
  rfl
theorem rz_p16 {h : mx_MH} (hk : rz_ok h) (x : Int32) : mg_p h 109 [12] 16 0 (.int x) = some (rz_sF h 16 x) := by
  unfold mg_p
  rw [rz_obj hk]
  dsimp only
  rw [if_pos ⟨rfl, rfl, by show 16 < 31; omega, by omega⟩]
  rfl
theorem rz_g17 {h : mx_MH} (hk : rz_ok h) : mg_f h 109 [12] 17 = some (.int (rz_F h 17)) := by
  unfold mg_f
  rw [rz_obj hk]
  rfl
theorem rz_p17 {h : mx_MH} (hk : rz_ok h) (x : Int32) : mg_p h 109 [12] 17 0 (.int x) = some (rz_sF h 17 x) := by
  unfold mg_p
  rw [rz_obj hk]
  dsimp only
  rw [if_pos ⟨rfl, rfl, by show 17 < 31; omega, by omega⟩]
  rfl
theorem rz_g18 {h : mx_MH} (hk : rz_ok h) : mg_f h 109 [12] 18 = some (.int (rz_F h 18)) := by
  unfold mg_f
  rw [rz_obj hk]
  rfl
theorem rz_p18 {h : mx_MH} (hk : rz_ok h) (x : Int32) : mg_p h 109 [12] 18 0 (.int x) = some (rz_sF h 18 x) := by
  unfold mg_p
  rw [rz_obj hk]
  dsimp only
  rw [if_pos ⟨rfl, rfl, by show 18 < 31; omega, by omega⟩]
  rfl
theorem rz_g19 {h : mx_MH} (hk : rz_ok h) : mg_f h 109 [12] 19 = some (.int (rz_F h 19)) := by
  unfold mg_f
  rw [rz_obj hk]
  rfl
theorem rz_p19 {h : mx_MH} (hk : rz_ok h) (x : Int32) : mg_p h 109 [12] 19 0 (.int x) = some (rz_sF h 19 x) := by
  unfold mg_p
  rw [rz_obj hk]
  dsimp only
  rw [if_pos ⟨rfl, rfl, by show 19 < 31; omega, by omega⟩]
  rfl
theorem rz_g20 {h : mx_MH} (hk : rz_ok h) : mg_f h 109 [12] 20 = some (.int (rz_F h 20)) := by
  unfold mg_f
  rw [rz_obj hk]
  rfl
theorem rz_p20 {h : mx_MH} (hk : rz_ok h) (x : Int32) : mg_p h 109 [12] 20 0 (.int x) = some (rz_sF h 20 x) := by
  unfold mg_p
  rw [rz_obj hk]
  dsimp only
  rw [if_pos ⟨rfl, rfl, by show 20 < 31; omega, by omega⟩]
  rfl
theorem rz_g21 {h : mx_MH} (hk : rz_ok h) : mg_f h 109 [12] 21 = some (.int (rz_F h 21)) := by
  unfold mg_f
  rw [rz_obj hk]
  rfl
theorem rz_p21 {h : mx_MH} (hk : rz_ok h) (x : Int32) : mg_p h 109 [12] 21 0 (.int x) = some (rz_sF h 21 x) := by
  unfold mg_p
  rw [rz_obj hk]
  dsimp only
  rw [if_pos ⟨rfl, rfl, by show 21 < 31; omega, by omega⟩]
  rfl
theorem rz_g22 {h : mx_MH} (hk : rz_ok h) : mg_f h 109 [12] 22 = some (.int (rz_F h 22)) := by
  unfold mg_f
  rw [rz_obj hk]
  rfl
theorem rz_p22 {h : mx_MH} (hk : rz_ok h) (x : Int32) : mg_p h 109 [12] 22 0 (.int x) = some (rz_sF h 22 x) := by
  unfold mg_p
  rw [rz_obj hk]
  dsimp only
  rw [if_pos ⟨rfl, rfl, by show 22 < 31; omega, by omega⟩]
  rfl
theorem rz_g23 {h : mx_MH} (hk : rz_ok h) : mg_f h 109 [12] 23 = some (.int (rz_F h 23)) := by
  unfold mg_f
  rw [rz_obj hk]
  rfl
theorem rz_p23 {h : mx_MH} (hk : rz_ok h) (x : Int32) : mg_p h 109 [12] 23 0 (.int x) = some (rz_sF h 23 x) := by
  unfold mg_p
  rw [rz_obj hk]
  dsimp only
  rw [if_pos ⟨rfl, rfl, by show 23 < 31; omega, by omega⟩]
  rfl
theorem rz_g24 {h : mx_MH} (hk : rz_ok h) : mg_f h 109 [12] 24 = some (.int (rz_F h 24)) := by
  unfold mg_f
  rw [rz_obj hk]
  rfl
theorem rz_p24 {h : mx_MH} (hk : rz_ok h) (x : Int32) : mg_p h 109 [12] 24 0 (.int x) = some (rz_sF h 24 x) := by
  unfold mg_p
  rw [rz_obj hk]
  dsimp only
  rw [if_pos ⟨rfl, rfl, by show 24 < 31; omega, by omega⟩]
  rfl
theorem rz_g25 {h : mx_MH} (hk : rz_ok h) : mg_f h 109 [12] 25 = some (.ref 123) := by
  unfold mg_f
  rw [rz_obj hk]
  rfl
theorem rz_g26 {h : mx_MH} (hk : rz_ok h) : mg_f h 109 [12] 26 = some (.ref 124) := by
  unfold mg_f
  rw [rz_obj hk]
  rfl
theorem rz_g27 {h : mx_MH} (hk : rz_ok h) : mg_f h 109 [12] 27 = some (.ref 125) := by
  unfold mg_f
  rw [rz_obj hk]
  rfl
theorem rz_g28 {h : mx_MH} (hk : rz_ok h) : mg_f h 109 [12] 28 = some (.ref 126) := by
  unfold mg_f
  rw [rz_obj hk]
  rfl
theorem rz_g29 {h : mx_MH} (hk : rz_ok h) : mg_f h 109 [12] 29 = some (.int (rz_F h 29)) := by
  unfold mg_f
  rw [rz_obj hk]
  rfl
theorem rz_p29 {h : mx_MH} (hk : rz_ok h) (x : Int32) : mg_p h 109 [12] 29 0 (.int x) = some (rz_sF h 29 x) := by
  unfold mg_p
  rw [rz_obj hk]
  dsimp only
  rw [if_pos ⟨rfl, rfl, by show 29 < 31; omega, by omega⟩]
  rfl
theorem rz_g30 {h : mx_MH} (hk : rz_ok h) : mg_f h 109 [12] 30 = some (.ref 127) := by
  unfold mg_f
  rw [rz_obj hk]
  rfl
