section HP
abbrev hz_D : Type := Nat → Nat → Int32
def hz_ia (n : Nat) (f : Nat → Int32) : mx_MC := .inr (.int, n, fun j => .int (f j))
def hz_bt (f : Nat → Int32) : mx_MC := .inl (0, [.ref (f 0).toNatClampNeg, .int (f 1), .int (f 2), .int (f 3), .int (f 4), .int (f 5), .int (f 6)])
def hz_sea (a : Nat) (f : Nat → Int32) : mx_MC := .inl (5, [.ref (a + 1), .int (f 1), .int (f 2), .ref (a + 2), .int (f 4), .int (f 5), .int (f 6), .int (f 7), .ref (a + 3), .int (f 9), .ref (a + 4)])
def hz_sh (a : Nat) (f : Nat → Int32) : mx_MC := .inl (6, [.int (f 0), .int (f 1), .ref (a + 1), .ref (a + 2)])
def hz_bs (a : Nat) : mx_MC := .inr (.object "NineSail$Boat", 9, fun j => if j < 9 then .ref (a + 4 + j) else .null)
def hz_rf (x : Int32) : Value := if x = 0 then .null else .ref x.toNatClampNeg
def hz_tx (f : Nat → Int32) : mx_MC := .inr (.object "NineSail$Text", 14, fun j => hz_rf (f j))
def hz_so (f : Nat → Int32) : mx_MC := .inr (.short, 24, fun j => .int (f j))
def hz_fl (f : Nat → Int32) : mx_MC := .inr (.float, 24, fun j => .float (f j).toUInt32)
def hz_len (a : Nat) : Nat := match a with
  | 19 => 9
  | 22 => 96
  | 24 => 5
  | 27 => 5
  | 28 => 60
  | 110 => 3075
  | 111 => 3075
  | 112 => 3075
  | 113 => 4
  | 114 => 4
  | 115 => 96
  | 116 => 5
  | 117 => 5
  | 118 => 5
  | 119 => 5
  | 120 => 120
  | 121 => 75
  | 122 => 96
  | 123 => 128
  | 124 => 100
  | 125 => 24
  | 126 => 60
  | 127 => 60
  | _ => 0
def hz_no : mx_MC := .inl (0, [])
def hz_lo (a : Nat) (f : Nat → Int32) : mx_MC := match a with
  | 17 => .inl (11, [.ref 18, .ref 35, .ref 49, .ref 63, .int (f 4), .ref 19, .ref 20, .ref 23, .ref 24, .ref 25, .ref 26, .ref 27, .ref 28, .int (f 13)])
  | 18 => .inr (.object "NineSail$Kind", 6, fun j => if j < 6 then .ref (29 + j) else .null)
  | 19 => hz_ia 9 f
  | 20 => .inl (8, [.ref 21, .int (f 1), .int (f 2), .int (f 3), .int (f 4), .int (f 5), .int (f 6), .int (f 7), .ref 22, .int (f 9)])
  | 21 => .inr (.byte, 96, fun j => .int (f j))
  | 22 => hz_ia 96 f
  | 23 => .inr (.object "NineSail$Sheet", 4, fun j => if j < 4 then .ref (77 + 3 * j) else .null)
  | 24 => hz_ia 5 f
  | 25 => .inr (.object "NineSail$Boat", 5, fun j => if j < 5 then .ref (89 + 4 * j) else .null)
  | 26 => .inr (.object "NineSail$Sheet", 5, fun j => if j < 5 then .ref (90 + 4 * j) else .null)
  | 27 => hz_ia 5 f
  | 28 => hz_ia 60 f
  | 29 => .inl (1, [.int 0, .null])
  | 30 => .inl (4, [.int 1, .ref 29])
  | 31 => .inl (7, [.int 2, .ref 29])
  | 32 => .inl (2, [.int 3, .ref 30])
  | 33 => .inl (3, [.int 4, .ref 31])
  | 34 => .inl (9, [.int 5, .ref 29])
  | _ => hz_no
def hz_se (a m : Nat) (f : Nat → Int32) : mx_MC := match m with
  | 0 => hz_sea a f
  | 1 => hz_bs a
  | 2 => hz_ia 5 f
  | 3 => hz_tx f
  | 4 => hz_ia 3 f
  | _ => hz_bt f
def hz_sk (a m : Nat) (f : Nat → Int32) : mx_MC := match m with
  | 0 => hz_sh a f
  | 1 => hz_so f
  | _ => hz_fl f
def hz_fs (F : Nat → Int32) : List Value := [.ref 110, .ref 111, .ref 112, .int (F 3), .ref 113, .ref 114, .ref 115, .ref 116, .ref 117, .ref 118, .ref 119, .ref 120, .ref 121, .ref 122, .int (F 14), .int (F 15), .int (F 16), .int (F 17), .int (F 18), .int (F 19), .int (F 20), .int (F 21), .int (F 22), .int (F 23), .int (F 24), .ref 123, .ref 124, .ref 125, .ref 126, .int (F 29), .ref 127]
def hz_shp (a : Nat) (f : Nat → Int32) : mx_MC :=
  if a < 35 then hz_lo a f
  else if a < 77 then hz_se a ((a - 35) % 14) f
  else if a < 89 then hz_sk a ((a - 77) % 3) f
  else if a < 109 then (if (a - 89) % 4 = 0 then hz_bt f else hz_sk a ((a - 89) % 4 - 1) f)
  else if a = 109 then .inl (12, hz_fs f)
  else hz_ia (hz_len a) f
def hz_dy (a : Nat) (D : hz_D) : mx_MC :=
  if (a - 128) % 3 = 0 then .inl (10, [.int (D a 0), .int (D a 1), .ref (a + 1), .ref (a + 2)])
  else if (a - 128) % 3 = 1 then hz_ia (D (a - 1) 2).toNatClampNeg (D a)
  else hz_ia (D (a - 2) 3).toNatClampNeg (D a)
/-- the heap: rom R, counters c, contents D -/
def hp (R : Nat → Option mx_MC) (c : Nat × Nat) (D : hz_D) : mx_MH := (c, fun a => if a < 17 then R a else if a < 128 then some (hz_shp a (D a)) else if a < c.1 then some (hz_dy a D) else none)
theorem up_s {α : Type} (f : Nat → α) (a : Nat) (x : α) : mx_up f a x a = x := if_pos rfl
theorem up_n {α : Type} (f : Nat → α) (a : Nat) (x : α) (b : Nat) (h : b ≠ a) : mx_up f a x b = f b := if_neg h
theorem up_up {α : Type} (f : Nat → α) (a : Nat) (x y : α) : mx_up (mx_up f a x) a y = mx_up f a y := by
  funext j
  unfold mx_up
  by_cases e : j = a
  · rw [if_pos e, if_pos e]
  · rw [if_neg e, if_neg e, if_neg e]
theorem up_id {α : Type} (f : Nat → α) (a : Nat) : mx_up f a (f a) = f := by
  funext j
  unfold mx_up
  by_cases e : j = a
  · rw [if_pos e, e]
  · rw [if_neg e]
theorem up_cm {α : Type} (f : Nat → α) (a b : Nat) (x y : α) (h : a ≠ b) : mx_up (mx_up f a x) b y = mx_up (mx_up f b y) a x := by
  funext j
  unfold mx_up
  by_cases e : j = a
  · rw [if_pos e]
    by_cases e2 : j = b
    · exact absurd (e.symm.trans e2) h
    · rw [if_neg e2, if_pos e]
  · simp only [e, if_false]
variable (R : Nat → Option mx_MC) (c : Nat × Nat) (D : hz_D)
theorem hp_lo {a : Nat} (h1 : 17 ≤ a) (h2 : a < 128) : (hp R c D).2 a = some (hz_shp a (D a)) := by
  unfold hp
  dsimp only
  rw [if_neg (by omega), if_pos h2]
theorem hp_1 : (hp R c D).1 = c := rfl
theorem hp_set {a : Nat} (h1 : 17 ≤ a) (h2 : a < 128) (f : Nat → Int32) (m : mx_MC) (hm : m = hz_shp a f) : mx_set (hp R c D) a m = hp R c (mx_up D a f) := by
  subst hm
  unfold mx_set
  refine Prod.ext rfl ?_
  funext b
  show mx_up (hp R c D).2 a _ b = (hp R c (mx_up D a f)).2 b
  by_cases e : b = a
  · subst e
    rw [up_s, hp_lo R c _ h1 h2, up_s]
  · rw [up_n _ _ _ _ e]
    unfold hp
    dsimp only
    by_cases e1 : b < 17
    · rw [if_pos e1, if_pos e1]
    · rw [if_neg e1, if_neg e1, up_n _ _ _ _ e]
      by_cases e2 : b < 128
      · rw [if_pos e2, if_pos e2]
      · rw [if_neg e2, if_neg e2]
        by_cases e3 : b < c.1
        · rw [if_pos e3, if_pos e3]
          unfold hz_dy
          have q0 : (mx_up D a f) b = D b := up_n _ _ _ _ e
          by_cases m0 : (b - 128) % 3 = 0
          · rw [if_pos m0, if_pos m0, q0]
          · rw [if_neg m0, if_neg m0]
            by_cases m1 : (b - 128) % 3 = 1
            · rw [if_pos m1, if_pos m1, q0, up_n _ _ _ _ (show b - 1 ≠ a by omega)]
            · rw [if_neg m1, if_neg m1, q0, up_n _ _ _ _ (show b - 2 ≠ a by omega)]
        · rw [if_neg e3, if_neg e3]
/-- int arrays at fixed places -/
theorem hp_arr {a n : Nat} (h1 : 17 ≤ a) (h2 : a < 128) (hs : ∀ f, hz_shp a f = hz_ia n f) : mx_arr (hp R c D) a = some (.int, n, fun j => .int (D a j)) := by
  unfold mx_arr
  rw [hp_lo R c D h1 h2, hs]
  rfl
theorem hp_ld {a n : Nat} (h1 : 17 ≤ a) (h2 : a < 128) (hs : ∀ f, hz_shp a f = hz_ia n f) (j : Int32) (hj : mx_in j n = true) : mg_ld (hp R c D) a .int j = some (.int (D a j.toNatClampNeg)) := by
  unfold mg_ld
  rw [hp_arr R c D h1 h2 hs]
  simp only [hj, and_self, if_true]
theorem hp_st {a n : Nat} (h1 : 17 ≤ a) (h2 : a < 128) (hs : ∀ f, hz_shp a f = hz_ia n f) (j x : Int32) (hj : mx_in j n = true) : mg_st (hp R c D) a .int j (.int x) = some (hp R c (mx_up D a (mx_up (D a) j.toNatClampNeg x))) := by
  unfold mg_st
  rw [hp_arr R c D h1 h2 hs]
  simp only [hj, true_and]
  rw [if_pos h1]
  refine congrArg some (hp_set R c D h1 h2 _ _ ?_)
  rw [hs]
  unfold hz_ia
  congr 3
  funext i
  unfold mx_up
  by_cases e : i = j.toNatClampNeg
  · rw [if_pos e, if_pos e]
  · rw [if_neg e, if_neg e]
theorem hp_ldN {a n : Nat} (h1 : 17 ≤ a) (h2 : a < 128) (hs : ∀ f, hz_shp a f = hz_ia n f) (k : Nat) (hk : k < n) (hn : n < 2 ^ 31) : mg_ld (hp R c D) a .int (nI k) = some (.int (D a k)) := by
  rw [hp_ld R c D h1 h2 hs _ (by unfold mx_in; simp only [decide_eq_true_eq]; exact nI_in hk hn), nI_clamp (by omega)]
theorem hp_stN {a n : Nat} (h1 : 17 ≤ a) (h2 : a < 128) (hs : ∀ f, hz_shp a f = hz_ia n f) (k : Nat) (x : Int32) (hk : k < n) (hn : n < 2 ^ 31) : mg_st (hp R c D) a .int (nI k) (.int x) = some (hp R c (mx_up D a (mx_up (D a) k x))) := by
  rw [hp_st R c D h1 h2 hs _ _ (by unfold mx_in; simp only [decide_eq_true_eq]; exact nI_in hk hn), nI_clamp (by omega)]
theorem hA_19 (f : Nat → Int32) : hz_shp 19 f = hz_ia 9 f := rfl
theorem ld_19 (k : Nat) (hk : k < 9) : mg_ld (hp R c D) 19 .int (nI k) = some (.int (D 19 k)) := hp_ldN R c D (by omega) (by omega) hA_19 k hk (by omega)
theorem st_19 (k : Nat) (x : Int32) (hk : k < 9) : mg_st (hp R c D) 19 .int (nI k) (.int x) = some (hp R c (mx_up D 19 (mx_up (D 19) k x))) := hp_stN R c D (by omega) (by omega) hA_19 k x hk (by omega)
theorem ln_19 : mg_ln (hp R c D) 19 = some 9 := rfl
theorem hA_22 (f : Nat → Int32) : hz_shp 22 f = hz_ia 96 f := rfl
theorem ld_22 (k : Nat) (hk : k < 96) : mg_ld (hp R c D) 22 .int (nI k) = some (.int (D 22 k)) := hp_ldN R c D (by omega) (by omega) hA_22 k hk (by omega)
theorem st_22 (k : Nat) (x : Int32) (hk : k < 96) : mg_st (hp R c D) 22 .int (nI k) (.int x) = some (hp R c (mx_up D 22 (mx_up (D 22) k x))) := hp_stN R c D (by omega) (by omega) hA_22 k x hk (by omega)
theorem ln_22 : mg_ln (hp R c D) 22 = some 96 := rfl
theorem hA_24 (f : Nat → Int32) : hz_shp 24 f = hz_ia 5 f := rfl
theorem ld_24 (k : Nat) (hk : k < 5) : mg_ld (hp R c D) 24 .int (nI k) = some (.int (D 24 k)) := hp_ldN R c D (by omega) (by omega) hA_24 k hk (by omega)
theorem st_24 (k : Nat) (x : Int32) (hk : k < 5) : mg_st (hp R c D) 24 .int (nI k) (.int x) = some (hp R c (mx_up D 24 (mx_up (D 24) k x))) := hp_stN R c D (by omega) (by omega) hA_24 k x hk (by omega)
theorem ln_24 : mg_ln (hp R c D) 24 = some 5 := rfl
theorem hA_27 (f : Nat → Int32) : hz_shp 27 f = hz_ia 5 f := rfl
theorem ld_27 (k : Nat) (hk : k < 5) : mg_ld (hp R c D) 27 .int (nI k) = some (.int (D 27 k)) := hp_ldN R c D (by omega) (by omega) hA_27 k hk (by omega)
theorem st_27 (k : Nat) (x : Int32) (hk : k < 5) : mg_st (hp R c D) 27 .int (nI k) (.int x) = some (hp R c (mx_up D 27 (mx_up (D 27) k x))) := hp_stN R c D (by omega) (by omega) hA_27 k x hk (by omega)
theorem ln_27 : mg_ln (hp R c D) 27 = some 5 := rfl
theorem hA_28 (f : Nat → Int32) : hz_shp 28 f = hz_ia 60 f := rfl
theorem ld_28 (k : Nat) (hk : k < 60) : mg_ld (hp R c D) 28 .int (nI k) = some (.int (D 28 k)) := hp_ldN R c D (by omega) (by omega) hA_28 k hk (by omega)
theorem st_28 (k : Nat) (x : Int32) (hk : k < 60) : mg_st (hp R c D) 28 .int (nI k) (.int x) = some (hp R c (mx_up D 28 (mx_up (D 28) k x))) := hp_stN R c D (by omega) (by omega) hA_28 k x hk (by omega)
theorem ln_28 : mg_ln (hp R c D) 28 = some 60 := rfl
theorem hA_110 (f : Nat → Int32) : hz_shp 110 f = hz_ia 3075 f := rfl
theorem ld_110 (k : Nat) (hk : k < 3075) : mg_ld (hp R c D) 110 .int (nI k) = some (.int (D 110 k)) := hp_ldN R c D (by omega) (by omega) hA_110 k hk (by omega)
theorem st_110 (k : Nat) (x : Int32) (hk : k < 3075) : mg_st (hp R c D) 110 .int (nI k) (.int x) = some (hp R c (mx_up D 110 (mx_up (D 110) k x))) := hp_stN R c D (by omega) (by omega) hA_110 k x hk (by omega)
theorem ln_110 : mg_ln (hp R c D) 110 = some 3075 := rfl
theorem hA_111 (f : Nat → Int32) : hz_shp 111 f = hz_ia 3075 f := rfl
theorem ld_111 (k : Nat) (hk : k < 3075) : mg_ld (hp R c D) 111 .int (nI k) = some (.int (D 111 k)) := hp_ldN R c D (by omega) (by omega) hA_111 k hk (by omega)
theorem st_111 (k : Nat) (x : Int32) (hk : k < 3075) : mg_st (hp R c D) 111 .int (nI k) (.int x) = some (hp R c (mx_up D 111 (mx_up (D 111) k x))) := hp_stN R c D (by omega) (by omega) hA_111 k x hk (by omega)
theorem ln_111 : mg_ln (hp R c D) 111 = some 3075 := rfl
theorem hA_112 (f : Nat → Int32) : hz_shp 112 f = hz_ia 3075 f := rfl
theorem ld_112 (k : Nat) (hk : k < 3075) : mg_ld (hp R c D) 112 .int (nI k) = some (.int (D 112 k)) := hp_ldN R c D (by omega) (by omega) hA_112 k hk (by omega)
theorem st_112 (k : Nat) (x : Int32) (hk : k < 3075) : mg_st (hp R c D) 112 .int (nI k) (.int x) = some (hp R c (mx_up D 112 (mx_up (D 112) k x))) := hp_stN R c D (by omega) (by omega) hA_112 k x hk (by omega)
theorem ln_112 : mg_ln (hp R c D) 112 = some 3075 := rfl
theorem hA_113 (f : Nat → Int32) : hz_shp 113 f = hz_ia 4 f := rfl
theorem ld_113 (k : Nat) (hk : k < 4) : mg_ld (hp R c D) 113 .int (nI k) = some (.int (D 113 k)) := hp_ldN R c D (by omega) (by omega) hA_113 k hk (by omega)
theorem st_113 (k : Nat) (x : Int32) (hk : k < 4) : mg_st (hp R c D) 113 .int (nI k) (.int x) = some (hp R c (mx_up D 113 (mx_up (D 113) k x))) := hp_stN R c D (by omega) (by omega) hA_113 k x hk (by omega)
theorem ln_113 : mg_ln (hp R c D) 113 = some 4 := rfl
theorem hA_114 (f : Nat → Int32) : hz_shp 114 f = hz_ia 4 f := rfl
theorem ld_114 (k : Nat) (hk : k < 4) : mg_ld (hp R c D) 114 .int (nI k) = some (.int (D 114 k)) := hp_ldN R c D (by omega) (by omega) hA_114 k hk (by omega)
theorem st_114 (k : Nat) (x : Int32) (hk : k < 4) : mg_st (hp R c D) 114 .int (nI k) (.int x) = some (hp R c (mx_up D 114 (mx_up (D 114) k x))) := hp_stN R c D (by omega) (by omega) hA_114 k x hk (by omega)
theorem ln_114 : mg_ln (hp R c D) 114 = some 4 := rfl
theorem hA_115 (f : Nat → Int32) : hz_shp 115 f = hz_ia 96 f := rfl
theorem ld_115 (k : Nat) (hk : k < 96) : mg_ld (hp R c D) 115 .int (nI k) = some (.int (D 115 k)) := hp_ldN R c D (by omega) (by omega) hA_115 k hk (by omega)
theorem st_115 (k : Nat) (x : Int32) (hk : k < 96) : mg_st (hp R c D) 115 .int (nI k) (.int x) = some (hp R c (mx_up D 115 (mx_up (D 115) k x))) := hp_stN R c D (by omega) (by omega) hA_115 k x hk (by omega)
theorem ln_115 : mg_ln (hp R c D) 115 = some 96 := rfl
theorem hA_116 (f : Nat → Int32) : hz_shp 116 f = hz_ia 5 f := rfl
theorem ld_116 (k : Nat) (hk : k < 5) : mg_ld (hp R c D) 116 .int (nI k) = some (.int (D 116 k)) := hp_ldN R c D (by omega) (by omega) hA_116 k hk (by omega)
theorem st_116 (k : Nat) (x : Int32) (hk : k < 5) : mg_st (hp R c D) 116 .int (nI k) (.int x) = some (hp R c (mx_up D 116 (mx_up (D 116) k x))) := hp_stN R c D (by omega) (by omega) hA_116 k x hk (by omega)
theorem ln_116 : mg_ln (hp R c D) 116 = some 5 := rfl
theorem hA_117 (f : Nat → Int32) : hz_shp 117 f = hz_ia 5 f := rfl
theorem ld_117 (k : Nat) (hk : k < 5) : mg_ld (hp R c D) 117 .int (nI k) = some (.int (D 117 k)) := hp_ldN R c D (by omega) (by omega) hA_117 k hk (by omega)
theorem st_117 (k : Nat) (x : Int32) (hk : k < 5) : mg_st (hp R c D) 117 .int (nI k) (.int x) = some (hp R c (mx_up D 117 (mx_up (D 117) k x))) := hp_stN R c D (by omega) (by omega) hA_117 k x hk (by omega)
theorem ln_117 : mg_ln (hp R c D) 117 = some 5 := rfl
theorem hA_118 (f : Nat → Int32) : hz_shp 118 f = hz_ia 5 f := rfl
theorem ld_118 (k : Nat) (hk : k < 5) : mg_ld (hp R c D) 118 .int (nI k) = some (.int (D 118 k)) := hp_ldN R c D (by omega) (by omega) hA_118 k hk (by omega)
theorem st_118 (k : Nat) (x : Int32) (hk : k < 5) : mg_st (hp R c D) 118 .int (nI k) (.int x) = some (hp R c (mx_up D 118 (mx_up (D 118) k x))) := hp_stN R c D (by omega) (by omega) hA_118 k x hk (by omega)
theorem ln_118 : mg_ln (hp R c D) 118 = some 5 := rfl
theorem hA_119 (f : Nat → Int32) : hz_shp 119 f = hz_ia 5 f := rfl
theorem ld_119 (k : Nat) (hk : k < 5) : mg_ld (hp R c D) 119 .int (nI k) = some (.int (D 119 k)) := hp_ldN R c D (by omega) (by omega) hA_119 k hk (by omega)
theorem st_119 (k : Nat) (x : Int32) (hk : k < 5) : mg_st (hp R c D) 119 .int (nI k) (.int x) = some (hp R c (mx_up D 119 (mx_up (D 119) k x))) := hp_stN R c D (by omega) (by omega) hA_119 k x hk (by omega)
theorem ln_119 : mg_ln (hp R c D) 119 = some 5 := rfl
theorem hA_120 (f : Nat → Int32) : hz_shp 120 f = hz_ia 120 f := rfl
theorem ld_120 (k : Nat) (hk : k < 120) : mg_ld (hp R c D) 120 .int (nI k) = some (.int (D 120 k)) := hp_ldN R c D (by omega) (by omega) hA_120 k hk (by omega)
theorem st_120 (k : Nat) (x : Int32) (hk : k < 120) : mg_st (hp R c D) 120 .int (nI k) (.int x) = some (hp R c (mx_up D 120 (mx_up (D 120) k x))) := hp_stN R c D (by omega) (by omega) hA_120 k x hk (by omega)
theorem ln_120 : mg_ln (hp R c D) 120 = some 120 := rfl
theorem hA_121 (f : Nat → Int32) : hz_shp 121 f = hz_ia 75 f := rfl
theorem ld_121 (k : Nat) (hk : k < 75) : mg_ld (hp R c D) 121 .int (nI k) = some (.int (D 121 k)) := hp_ldN R c D (by omega) (by omega) hA_121 k hk (by omega)
theorem st_121 (k : Nat) (x : Int32) (hk : k < 75) : mg_st (hp R c D) 121 .int (nI k) (.int x) = some (hp R c (mx_up D 121 (mx_up (D 121) k x))) := hp_stN R c D (by omega) (by omega) hA_121 k x hk (by omega)
theorem ln_121 : mg_ln (hp R c D) 121 = some 75 := rfl
theorem hA_122 (f : Nat → Int32) : hz_shp 122 f = hz_ia 96 f := rfl
theorem ld_122 (k : Nat) (hk : k < 96) : mg_ld (hp R c D) 122 .int (nI k) = some (.int (D 122 k)) := hp_ldN R c D (by omega) (by omega) hA_122 k hk (by omega)
theorem st_122 (k : Nat) (x : Int32) (hk : k < 96) : mg_st (hp R c D) 122 .int (nI k) (.int x) = some (hp R c (mx_up D 122 (mx_up (D 122) k x))) := hp_stN R c D (by omega) (by omega) hA_122 k x hk (by omega)
theorem ln_122 : mg_ln (hp R c D) 122 = some 96 := rfl
theorem hA_123 (f : Nat → Int32) : hz_shp 123 f = hz_ia 128 f := rfl
theorem ld_123 (k : Nat) (hk : k < 128) : mg_ld (hp R c D) 123 .int (nI k) = some (.int (D 123 k)) := hp_ldN R c D (by omega) (by omega) hA_123 k hk (by omega)
theorem st_123 (k : Nat) (x : Int32) (hk : k < 128) : mg_st (hp R c D) 123 .int (nI k) (.int x) = some (hp R c (mx_up D 123 (mx_up (D 123) k x))) := hp_stN R c D (by omega) (by omega) hA_123 k x hk (by omega)
theorem ln_123 : mg_ln (hp R c D) 123 = some 128 := rfl
theorem hA_124 (f : Nat → Int32) : hz_shp 124 f = hz_ia 100 f := rfl
theorem ld_124 (k : Nat) (hk : k < 100) : mg_ld (hp R c D) 124 .int (nI k) = some (.int (D 124 k)) := hp_ldN R c D (by omega) (by omega) hA_124 k hk (by omega)
theorem st_124 (k : Nat) (x : Int32) (hk : k < 100) : mg_st (hp R c D) 124 .int (nI k) (.int x) = some (hp R c (mx_up D 124 (mx_up (D 124) k x))) := hp_stN R c D (by omega) (by omega) hA_124 k x hk (by omega)
theorem ln_124 : mg_ln (hp R c D) 124 = some 100 := rfl
theorem hA_125 (f : Nat → Int32) : hz_shp 125 f = hz_ia 24 f := rfl
theorem ld_125 (k : Nat) (hk : k < 24) : mg_ld (hp R c D) 125 .int (nI k) = some (.int (D 125 k)) := hp_ldN R c D (by omega) (by omega) hA_125 k hk (by omega)
theorem st_125 (k : Nat) (x : Int32) (hk : k < 24) : mg_st (hp R c D) 125 .int (nI k) (.int x) = some (hp R c (mx_up D 125 (mx_up (D 125) k x))) := hp_stN R c D (by omega) (by omega) hA_125 k x hk (by omega)
theorem ln_125 : mg_ln (hp R c D) 125 = some 24 := rfl
theorem hA_126 (f : Nat → Int32) : hz_shp 126 f = hz_ia 60 f := rfl
theorem ld_126 (k : Nat) (hk : k < 60) : mg_ld (hp R c D) 126 .int (nI k) = some (.int (D 126 k)) := hp_ldN R c D (by omega) (by omega) hA_126 k hk (by omega)
theorem st_126 (k : Nat) (x : Int32) (hk : k < 60) : mg_st (hp R c D) 126 .int (nI k) (.int x) = some (hp R c (mx_up D 126 (mx_up (D 126) k x))) := hp_stN R c D (by omega) (by omega) hA_126 k x hk (by omega)
theorem ln_126 : mg_ln (hp R c D) 126 = some 60 := rfl
theorem hA_127 (f : Nat → Int32) : hz_shp 127 f = hz_ia 60 f := rfl
theorem ld_127 (k : Nat) (hk : k < 60) : mg_ld (hp R c D) 127 .int (nI k) = some (.int (D 127 k)) := hp_ldN R c D (by omega) (by omega) hA_127 k hk (by omega)
theorem st_127 (k : Nat) (x : Int32) (hk : k < 60) : mg_st (hp R c D) 127 .int (nI k) (.int x) = some (hp R c (mx_up D 127 (mx_up (D 127) k x))) := hp_stN R c D (by omega) (by omega) hA_127 k x hk (by omega)
theorem ln_127 : mg_ln (hp R c D) 127 = some 60 := rfl
theorem ld_110_0 : mg_ld (hp R c D) 110 .int 0 = some (.int (D 110 0)) := ld_110 R c D 0 (by omega)
theorem st_110_0 (x : Int32) : mg_st (hp R c D) 110 .int 0 (.int x) = some (hp R c (mx_up D 110 (mx_up (D 110) 0 x))) := st_110 R c D 0 x (by omega)
theorem ld_110_1 : mg_ld (hp R c D) 110 .int 1 = some (.int (D 110 1)) := ld_110 R c D 1 (by omega)
theorem st_110_1 (x : Int32) : mg_st (hp R c D) 110 .int 1 (.int x) = some (hp R c (mx_up D 110 (mx_up (D 110) 1 x))) := st_110 R c D 1 x (by omega)
theorem ld_110_2 : mg_ld (hp R c D) 110 .int 2 = some (.int (D 110 2)) := ld_110 R c D 2 (by omega)
theorem st_110_2 (x : Int32) : mg_st (hp R c D) 110 .int 2 (.int x) = some (hp R c (mx_up D 110 (mx_up (D 110) 2 x))) := st_110 R c D 2 x (by omega)
theorem ld_110_3 : mg_ld (hp R c D) 110 .int 3 = some (.int (D 110 3)) := ld_110 R c D 3 (by omega)
theorem st_110_3 (x : Int32) : mg_st (hp R c D) 110 .int 3 (.int x) = some (hp R c (mx_up D 110 (mx_up (D 110) 3 x))) := st_110 R c D 3 x (by omega)
theorem ld_110_4 : mg_ld (hp R c D) 110 .int 4 = some (.int (D 110 4)) := ld_110 R c D 4 (by omega)
theorem st_110_4 (x : Int32) : mg_st (hp R c D) 110 .int 4 (.int x) = some (hp R c (mx_up D 110 (mx_up (D 110) 4 x))) := st_110 R c D 4 x (by omega)
theorem ld_110_5 : mg_ld (hp R c D) 110 .int 5 = some (.int (D 110 5)) := ld_110 R c D 5 (by omega)
theorem st_110_5 (x : Int32) : mg_st (hp R c D) 110 .int 5 (.int x) = some (hp R c (mx_up D 110 (mx_up (D 110) 5 x))) := st_110 R c D 5 x (by omega)
theorem ld_110_6 : mg_ld (hp R c D) 110 .int 6 = some (.int (D 110 6)) := ld_110 R c D 6 (by omega)
theorem st_110_6 (x : Int32) : mg_st (hp R c D) 110 .int 6 (.int x) = some (hp R c (mx_up D 110 (mx_up (D 110) 6 x))) := st_110 R c D 6 x (by omega)
theorem ld_110_7 : mg_ld (hp R c D) 110 .int 7 = some (.int (D 110 7)) := ld_110 R c D 7 (by omega)
theorem st_110_7 (x : Int32) : mg_st (hp R c D) 110 .int 7 (.int x) = some (hp R c (mx_up D 110 (mx_up (D 110) 7 x))) := st_110 R c D 7 x (by omega)
theorem ld_110_8 : mg_ld (hp R c D) 110 .int 8 = some (.int (D 110 8)) := ld_110 R c D 8 (by omega)
theorem st_110_8 (x : Int32) : mg_st (hp R c D) 110 .int 8 (.int x) = some (hp R c (mx_up D 110 (mx_up (D 110) 8 x))) := st_110 R c D 8 x (by omega)
theorem ld_110_9 : mg_ld (hp R c D) 110 .int 9 = some (.int (D 110 9)) := ld_110 R c D 9 (by omega)
theorem st_110_9 (x : Int32) : mg_st (hp R c D) 110 .int 9 (.int x) = some (hp R c (mx_up D 110 (mx_up (D 110) 9 x))) := st_110 R c D 9 x (by omega)
theorem ld_110_10 : mg_ld (hp R c D) 110 .int 10 = some (.int (D 110 10)) := ld_110 R c D 10 (by omega)
theorem st_110_10 (x : Int32) : mg_st (hp R c D) 110 .int 10 (.int x) = some (hp R c (mx_up D 110 (mx_up (D 110) 10 x))) := st_110 R c D 10 x (by omega)
theorem ld_110_11 : mg_ld (hp R c D) 110 .int 11 = some (.int (D 110 11)) := ld_110 R c D 11 (by omega)
theorem st_110_11 (x : Int32) : mg_st (hp R c D) 110 .int 11 (.int x) = some (hp R c (mx_up D 110 (mx_up (D 110) 11 x))) := st_110 R c D 11 x (by omega)
theorem ld_110_12 : mg_ld (hp R c D) 110 .int 12 = some (.int (D 110 12)) := ld_110 R c D 12 (by omega)
theorem st_110_12 (x : Int32) : mg_st (hp R c D) 110 .int 12 (.int x) = some (hp R c (mx_up D 110 (mx_up (D 110) 12 x))) := st_110 R c D 12 x (by omega)
theorem ld_110_75 : mg_ld (hp R c D) 110 .int 75 = some (.int (D 110 75)) := ld_110 R c D 75 (by omega)
theorem st_110_75 (x : Int32) : mg_st (hp R c D) 110 .int 75 (.int x) = some (hp R c (mx_up D 110 (mx_up (D 110) 75 x))) := st_110 R c D 75 x (by omega)
theorem ld_123_119 : mg_ld (hp R c D) 123 .int 119 = some (.int (D 123 119)) := ld_123 R c D 119 (by omega)
theorem st_123_119 (x : Int32) : mg_st (hp R c D) 123 .int 119 (.int x) = some (hp R c (mx_up D 123 (mx_up (D 123) 119 x))) := st_123 R c D 119 x (by omega)
theorem ld_123_104 : mg_ld (hp R c D) 123 .int 104 = some (.int (D 123 104)) := ld_123 R c D 104 (by omega)
theorem st_123_104 (x : Int32) : mg_st (hp R c D) 123 .int 104 (.int x) = some (hp R c (mx_up D 123 (mx_up (D 123) 104 x))) := st_123 R c D 104 x (by omega)
theorem ld_123_115 : mg_ld (hp R c D) 123 .int 115 = some (.int (D 123 115)) := ld_123 R c D 115 (by omega)
theorem st_123_115 (x : Int32) : mg_st (hp R c D) 123 .int 115 (.int x) = some (hp R c (mx_up D 123 (mx_up (D 123) 115 x))) := st_123 R c D 115 x (by omega)
theorem ld_123_110 : mg_ld (hp R c D) 123 .int 110 = some (.int (D 123 110)) := ld_123 R c D 110 (by omega)
theorem st_123_110 (x : Int32) : mg_st (hp R c D) 123 .int 110 (.int x) = some (hp R c (mx_up D 123 (mx_up (D 123) 110 x))) := st_123 R c D 110 x (by omega)
theorem ld_123_99 : mg_ld (hp R c D) 123 .int 99 = some (.int (D 123 99)) := ld_123 R c D 99 (by omega)
theorem st_123_99 (x : Int32) : mg_st (hp R c D) 123 .int 99 (.int x) = some (hp R c (mx_up D 123 (mx_up (D 123) 99 x))) := st_123 R c D 99 x (by omega)
theorem ld_123_112 : mg_ld (hp R c D) 123 .int 112 = some (.int (D 123 112)) := ld_123 R c D 112 (by omega)
theorem st_123_112 (x : Int32) : mg_st (hp R c D) 123 .int 112 (.int x) = some (hp R c (mx_up D 123 (mx_up (D 123) 112 x))) := st_123 R c D 112 x (by omega)
theorem ld_124_0 : mg_ld (hp R c D) 124 .int 0 = some (.int (D 124 0)) := ld_124 R c D 0 (by omega)
theorem st_124_0 (x : Int32) : mg_st (hp R c D) 124 .int 0 (.int x) = some (hp R c (mx_up D 124 (mx_up (D 124) 0 x))) := st_124 R c D 0 x (by omega)
theorem kd_109 : mg_kd (hp R c D) 109 = some 12 := rfl
theorem hp_pf {a ci : Nat} {fs : List Value} {cis : List Nat} {k tc : Nat} {v : Value} (h1 : 17 ≤ a) (h2 : a < 128) (f : Nat → Int32) (ho : hz_shp a (D a) = .inl (ci, fs)) (hc : cis.contains ci = true) (ht : mx_tcOk tc v = true) (hk : k < fs.length) (hf : (Sum.inl (ci, fs.set k v) : mx_MC) = hz_shp a f) : mg_p (hp R c D) a cis k tc v = some (hp R c (mx_up D a f)) := by
  unfold mg_p mx_obj
  rw [hp_lo R c D h1 h2, ho]
  dsimp only
  rw [if_pos ⟨hc, ht, hk, h1⟩, hp_set R c D h1 h2 f _ hf]
theorem gf_109_0 : mg_f (hp R c D) 109 [12] 0 = some (.ref 110) := rfl
theorem gf_109_1 : mg_f (hp R c D) 109 [12] 1 = some (.ref 111) := rfl
theorem gf_109_2 : mg_f (hp R c D) 109 [12] 2 = some (.ref 112) := rfl
theorem gf_109_3 : mg_f (hp R c D) 109 [12] 3 = some (.int (D 109 3)) := rfl
theorem pf_109_3 (x : Int32) (hx : mx_tcOk 1 (.int x) = true) : mg_p (hp R c D) 109 [12] 3 1 (.int x) = some (hp R c (mx_up D 109 (mx_up (D 109) 3 x))) := hp_pf R c D (by omega) (by omega) _ rfl rfl hx (by show 3 < 31; omega) rfl
theorem gf_109_4 : mg_f (hp R c D) 109 [12] 4 = some (.ref 113) := rfl
theorem gf_109_5 : mg_f (hp R c D) 109 [12] 5 = some (.ref 114) := rfl
theorem gf_109_6 : mg_f (hp R c D) 109 [12] 6 = some (.ref 115) := rfl
theorem gf_109_7 : mg_f (hp R c D) 109 [12] 7 = some (.ref 116) := rfl
theorem gf_109_8 : mg_f (hp R c D) 109 [12] 8 = some (.ref 117) := rfl
theorem gf_109_9 : mg_f (hp R c D) 109 [12] 9 = some (.ref 118) := rfl
theorem gf_109_10 : mg_f (hp R c D) 109 [12] 10 = some (.ref 119) := rfl
theorem gf_109_11 : mg_f (hp R c D) 109 [12] 11 = some (.ref 120) := rfl
theorem gf_109_12 : mg_f (hp R c D) 109 [12] 12 = some (.ref 121) := rfl
theorem gf_109_13 : mg_f (hp R c D) 109 [12] 13 = some (.ref 122) := rfl
theorem gf_109_14 : mg_f (hp R c D) 109 [12] 14 = some (.int (D 109 14)) := rfl
theorem pf_109_14 (x : Int32) : mg_p (hp R c D) 109 [12] 14 0 (.int x) = some (hp R c (mx_up D 109 (mx_up (D 109) 14 x))) := hp_pf R c D (by omega) (by omega) _ rfl rfl rfl (by show 14 < 31; omega) rfl
theorem gf_109_15 : mg_f (hp R c D) 109 [12] 15 = some (.int (D 109 15)) := rfl
theorem pf_109_15 (x : Int32) : mg_p (hp R c D) 109 [12] 15 0 (.int x) = some (hp R c (mx_up D 109 (mx_up (D 109) 15 x))) := hp_pf R c D (by omega) (by omega) _ rfl rfl rfl (by show 15 < 31; omega) rfl
theorem gf_109_16 : mg_f (hp R c D) 109 [12] 16 = some (.int (D 109 16)) := rfl
theorem pf_109_16 (x : Int32) : mg_p (hp R c D) 109 [12] 16 0 (.int x) = some (hp R c (mx_up D 109 (mx_up (D 109) 16 x))) := hp_pf R c D (by omega) (by omega) _ rfl rfl rfl (by show 16 < 31; omega) rfl
theorem gf_109_17 : mg_f (hp R c D) 109 [12] 17 = some (.int (D 109 17)) := rfl
theorem pf_109_17 (x : Int32) : mg_p (hp R c D) 109 [12] 17 0 (.int x) = some (hp R c (mx_up D 109 (mx_up (D 109) 17 x))) := hp_pf R c D (by omega) (by omega) _ rfl rfl rfl (by show 17 < 31; omega) rfl
theorem gf_109_18 : mg_f (hp R c D) 109 [12] 18 = some (.int (D 109 18)) := rfl
theorem pf_109_18 (x : Int32) : mg_p (hp R c D) 109 [12] 18 0 (.int x) = some (hp R c (mx_up D 109 (mx_up (D 109) 18 x))) := hp_pf R c D (by omega) (by omega) _ rfl rfl rfl (by show 18 < 31; omega) rfl
theorem gf_109_19 : mg_f (hp R c D) 109 [12] 19 = some (.int (D 109 19)) := rfl
theorem pf_109_19 (x : Int32) : mg_p (hp R c D) 109 [12] 19 0 (.int x) = some (hp R c (mx_up D 109 (mx_up (D 109) 19 x))) := hp_pf R c D (by omega) (by omega) _ rfl rfl rfl (by show 19 < 31; omega) rfl
theorem gf_109_20 : mg_f (hp R c D) 109 [12] 20 = some (.int (D 109 20)) := rfl
theorem pf_109_20 (x : Int32) : mg_p (hp R c D) 109 [12] 20 0 (.int x) = some (hp R c (mx_up D 109 (mx_up (D 109) 20 x))) := hp_pf R c D (by omega) (by omega) _ rfl rfl rfl (by show 20 < 31; omega) rfl
theorem gf_109_21 : mg_f (hp R c D) 109 [12] 21 = some (.int (D 109 21)) := rfl
theorem pf_109_21 (x : Int32) : mg_p (hp R c D) 109 [12] 21 0 (.int x) = some (hp R c (mx_up D 109 (mx_up (D 109) 21 x))) := hp_pf R c D (by omega) (by omega) _ rfl rfl rfl (by show 21 < 31; omega) rfl
theorem gf_109_22 : mg_f (hp R c D) 109 [12] 22 = some (.int (D 109 22)) := rfl
theorem pf_109_22 (x : Int32) : mg_p (hp R c D) 109 [12] 22 0 (.int x) = some (hp R c (mx_up D 109 (mx_up (D 109) 22 x))) := hp_pf R c D (by omega) (by omega) _ rfl rfl rfl (by show 22 < 31; omega) rfl
theorem gf_109_23 : mg_f (hp R c D) 109 [12] 23 = some (.int (D 109 23)) := rfl
theorem pf_109_23 (x : Int32) : mg_p (hp R c D) 109 [12] 23 0 (.int x) = some (hp R c (mx_up D 109 (mx_up (D 109) 23 x))) := hp_pf R c D (by omega) (by omega) _ rfl rfl rfl (by show 23 < 31; omega) rfl
theorem gf_109_24 : mg_f (hp R c D) 109 [12] 24 = some (.int (D 109 24)) := rfl
theorem pf_109_24 (x : Int32) : mg_p (hp R c D) 109 [12] 24 0 (.int x) = some (hp R c (mx_up D 109 (mx_up (D 109) 24 x))) := hp_pf R c D (by omega) (by omega) _ rfl rfl rfl (by show 24 < 31; omega) rfl
theorem gf_109_25 : mg_f (hp R c D) 109 [12] 25 = some (.ref 123) := rfl
theorem gf_109_26 : mg_f (hp R c D) 109 [12] 26 = some (.ref 124) := rfl
theorem gf_109_27 : mg_f (hp R c D) 109 [12] 27 = some (.ref 125) := rfl
theorem gf_109_28 : mg_f (hp R c D) 109 [12] 28 = some (.ref 126) := rfl
theorem gf_109_29 : mg_f (hp R c D) 109 [12] 29 = some (.int (D 109 29)) := rfl
theorem pf_109_29 (x : Int32) : mg_p (hp R c D) 109 [12] 29 0 (.int x) = some (hp R c (mx_up D 109 (mx_up (D 109) 29 x))) := hp_pf R c D (by omega) (by omega) _ rfl rfl rfl (by show 29 < 31; omega) rfl
theorem gf_109_30 : mg_f (hp R c D) 109 [12] 30 = some (.ref 127) := rfl
theorem kd_17 : mg_kd (hp R c D) 17 = some 11 := rfl
theorem gf_17_0 : mg_f (hp R c D) 17 [11] 0 = some (.ref 18) := rfl
theorem gf_17_1 : mg_f (hp R c D) 17 [11] 1 = some (.ref 35) := rfl
theorem gf_17_2 : mg_f (hp R c D) 17 [11] 2 = some (.ref 49) := rfl
theorem gf_17_3 : mg_f (hp R c D) 17 [11] 3 = some (.ref 63) := rfl
theorem gf_17_4 : mg_f (hp R c D) 17 [11] 4 = some (.int (D 17 4)) := rfl
theorem gf_17_5 : mg_f (hp R c D) 17 [11] 5 = some (.ref 19) := rfl
theorem gf_17_6 : mg_f (hp R c D) 17 [11] 6 = some (.ref 20) := rfl
theorem gf_17_7 : mg_f (hp R c D) 17 [11] 7 = some (.ref 23) := rfl
theorem gf_17_8 : mg_f (hp R c D) 17 [11] 8 = some (.ref 24) := rfl
theorem gf_17_9 : mg_f (hp R c D) 17 [11] 9 = some (.ref 25) := rfl
theorem gf_17_10 : mg_f (hp R c D) 17 [11] 10 = some (.ref 26) := rfl
theorem gf_17_11 : mg_f (hp R c D) 17 [11] 11 = some (.ref 27) := rfl
theorem gf_17_12 : mg_f (hp R c D) 17 [11] 12 = some (.ref 28) := rfl
theorem gf_17_13 : mg_f (hp R c D) 17 [11] 13 = some (.int (D 17 13)) := rfl
theorem pf_17_4 (x : Int32) (hx : mx_tcOk 1 (.int x) = true) : mg_p (hp R c D) 17 [11] 4 1 (.int x) = some (hp R c (mx_up D 17 (mx_up (D 17) 4 x))) := hp_pf R c D (by omega) (by omega) _ rfl rfl hx (by show 4 < 14; omega) rfl
theorem pf_17_13 (x : Int32) : mg_p (hp R c D) 17 [11] 13 0 (.int x) = some (hp R c (mx_up D 17 (mx_up (D 17) 13 x))) := hp_pf R c D (by omega) (by omega) _ rfl rfl rfl (by show 13 < 14; omega) rfl
theorem kd_20 : mg_kd (hp R c D) 20 = some 8 := rfl
theorem gf_20_0 : mg_f (hp R c D) 20 [8] 0 = some (.ref 21) := rfl
theorem gf_20_1 : mg_f (hp R c D) 20 [8] 1 = some (.int (D 20 1)) := rfl
theorem pf_20_1 (x : Int32) : mg_p (hp R c D) 20 [8] 1 0 (.int x) = some (hp R c (mx_up D 20 (mx_up (D 20) 1 x))) := hp_pf R c D (by omega) (by omega) _ rfl rfl rfl (by show 1 < 10; omega) rfl
theorem gf_20_2 : mg_f (hp R c D) 20 [8] 2 = some (.int (D 20 2)) := rfl
theorem pf_20_2 (x : Int32) : mg_p (hp R c D) 20 [8] 2 0 (.int x) = some (hp R c (mx_up D 20 (mx_up (D 20) 2 x))) := hp_pf R c D (by omega) (by omega) _ rfl rfl rfl (by show 2 < 10; omega) rfl
theorem gf_20_3 : mg_f (hp R c D) 20 [8] 3 = some (.int (D 20 3)) := rfl
theorem pf_20_3 (x : Int32) : mg_p (hp R c D) 20 [8] 3 0 (.int x) = some (hp R c (mx_up D 20 (mx_up (D 20) 3 x))) := hp_pf R c D (by omega) (by omega) _ rfl rfl rfl (by show 3 < 10; omega) rfl
theorem gf_20_4 : mg_f (hp R c D) 20 [8] 4 = some (.int (D 20 4)) := rfl
theorem pf_20_4 (x : Int32) : mg_p (hp R c D) 20 [8] 4 0 (.int x) = some (hp R c (mx_up D 20 (mx_up (D 20) 4 x))) := hp_pf R c D (by omega) (by omega) _ rfl rfl rfl (by show 4 < 10; omega) rfl
theorem gf_20_5 : mg_f (hp R c D) 20 [8] 5 = some (.int (D 20 5)) := rfl
theorem pf_20_5 (x : Int32) : mg_p (hp R c D) 20 [8] 5 0 (.int x) = some (hp R c (mx_up D 20 (mx_up (D 20) 5 x))) := hp_pf R c D (by omega) (by omega) _ rfl rfl rfl (by show 5 < 10; omega) rfl
theorem gf_20_6 : mg_f (hp R c D) 20 [8] 6 = some (.int (D 20 6)) := rfl
theorem pf_20_6 (x : Int32) : mg_p (hp R c D) 20 [8] 6 0 (.int x) = some (hp R c (mx_up D 20 (mx_up (D 20) 6 x))) := hp_pf R c D (by omega) (by omega) _ rfl rfl rfl (by show 6 < 10; omega) rfl
theorem gf_20_7 : mg_f (hp R c D) 20 [8] 7 = some (.int (D 20 7)) := rfl
theorem pf_20_7 (x : Int32) : mg_p (hp R c D) 20 [8] 7 0 (.int x) = some (hp R c (mx_up D 20 (mx_up (D 20) 7 x))) := hp_pf R c D (by omega) (by omega) _ rfl rfl rfl (by show 7 < 10; omega) rfl
theorem gf_20_8 : mg_f (hp R c D) 20 [8] 8 = some (.ref 22) := rfl
theorem gf_20_9 : mg_f (hp R c D) 20 [8] 9 = some (.int (D 20 9)) := rfl
theorem pf_20_9 (x : Int32) : mg_p (hp R c D) 20 [8] 9 0 (.int x) = some (hp R c (mx_up D 20 (mx_up (D 20) 9 x))) := hp_pf R c D (by omega) (by omega) _ rfl rfl rfl (by show 9 < 10; omega) rfl
def is_sea (a : Nat) : Prop := a = 35 ∨ a = 49 ∨ a = 63
def is_bt (a : Nat) : Prop := (35 ≤ a ∧ a < 77 ∧ 5 ≤ (a - 35) % 14) ∨ (89 ≤ a ∧ a < 109 ∧ (a - 89) % 4 = 0)
def is_sh (a : Nat) : Prop := (77 ≤ a ∧ a < 89 ∧ (a - 77) % 3 = 0) ∨ (89 ≤ a ∧ a < 109 ∧ (a - 89) % 4 = 1)
theorem sea_ok {a : Nat} (h : is_sea a) : 17 ≤ a ∧ a < 128 ∧ hz_shp a = hz_sea a ∧ hz_shp (a + 1) = (fun _ => hz_bs (a + 1)) ∧ hz_shp (a + 2) = hz_ia 5 ∧ hz_shp (a + 3) = hz_tx ∧ hz_shp (a + 4) = hz_ia 3 := by
  rcases h with rfl | rfl | rfl <;> exact ⟨by omega, by omega, rfl, rfl, rfl, rfl, rfl⟩
theorem hz_se5 (a m : Nat) (hm : 5 ≤ m) : hz_se a m = hz_bt := by
  obtain ⟨q, rfl⟩ : ∃ q, m = q + 5 := ⟨m - 5, by omega⟩
  rfl
theorem bt_ok {a : Nat} (h : is_bt a) : 17 ≤ a ∧ a < 128 ∧ hz_shp a = hz_bt := by
  rcases h with ⟨h1, h2, h3⟩ | ⟨h1, h2, h3⟩
  · refine ⟨by omega, by omega, ?_⟩
    funext f
    unfold hz_shp
    rw [if_neg (by omega), if_pos h2, hz_se5 _ _ h3]
  · refine ⟨by omega, by omega, ?_⟩
    funext f
    unfold hz_shp
    rw [if_neg (by omega), if_neg (by omega), if_neg (by omega), if_pos h2, if_pos h3]
theorem sh_ok {a : Nat} (h : is_sh a) : 17 ≤ a ∧ a < 126 ∧ hz_shp a = hz_sh a ∧ hz_shp (a + 1) = hz_so ∧ hz_shp (a + 2) = hz_fl := by
  rcases h with ⟨h1, h2, h3⟩ | ⟨h1, h2, h3⟩
  · refine ⟨by omega, by omega, ?_, ?_, ?_⟩ <;> funext f <;> unfold hz_shp
    · rw [if_neg (by omega), if_neg (by omega), if_pos h2, h3]; rfl
    · rw [if_neg (by omega), if_neg (by omega), if_pos (by omega), show (a + 1 - 77) % 3 = 1 by omega]; rfl
    · rw [if_neg (by omega), if_neg (by omega), if_pos (by omega), show (a + 2 - 77) % 3 = 2 by omega]; rfl
  · refine ⟨by omega, by omega, ?_, ?_, ?_⟩ <;> funext f <;> unfold hz_shp
    · rw [if_neg (by omega), if_neg (by omega), if_neg (by omega), if_pos h2, if_neg (by omega), show (a - 89) % 4 - 1 = 0 by omega]; rfl
    · rw [if_neg (by omega), if_neg (by omega), if_neg (by omega), if_pos (by omega), if_neg (by omega), show (a + 1 - 89) % 4 - 1 = 1 by omega]; rfl
    · rw [if_neg (by omega), if_neg (by omega), if_neg (by omega), if_pos (by omega), if_neg (by omega), show (a + 2 - 89) % 4 - 1 = 2 by omega]; rfl
theorem hp_obj {a ci : Nat} {fs : List Value} (h1 : 17 ≤ a) (h2 : a < 128) (ho : hz_shp a (D a) = .inl (ci, fs)) : mx_obj (hp R c D) a = some (ci, fs) := by
  unfold mx_obj
  rw [hp_lo R c D h1 h2, ho]
theorem hp_gf {a ci : Nat} {fs : List Value} {cis : List Nat} {k : Nat} (h1 : 17 ≤ a) (h2 : a < 128) (ho : hz_shp a (D a) = .inl (ci, fs)) (hc : cis.contains ci = true) : mg_f (hp R c D) a cis k = fs[k]? := by
  unfold mg_f
  rw [hp_obj R c D h1 h2 ho]
  dsimp only
  rw [if_pos hc]
theorem hp_kd {a ci : Nat} {fs : List Value} (h1 : 17 ≤ a) (h2 : a < 128) (ho : hz_shp a (D a) = .inl (ci, fs)) : mg_kd (hp R c D) a = some ci := by
  unfold mg_kd
  rw [hp_obj R c D h1 h2 ho]
  rfl
variable {a : Nat}
theorem kd_sea (h : is_sea a) : mg_kd (hp R c D) a = some 5 := hp_kd R c D (sea_ok h).1 (sea_ok h).2.1 (by rw [(sea_ok h).2.2.1]; rfl)
theorem kd_bt (h : is_bt a) : mg_kd (hp R c D) a = some 0 := hp_kd R c D (bt_ok h).1 (bt_ok h).2.1 (by rw [(bt_ok h).2.2]; rfl)
theorem kd_sh (h : is_sh a) : mg_kd (hp R c D) a = some 6 := hp_kd R c D (sh_ok h).1 (by have := (sh_ok h).2.1; omega) (by rw [(sh_ok h).2.2.1]; rfl)
theorem gf_sea_0 (h : is_sea a) : mg_f (hp R c D) a [5] 0 = some (.ref (a + 1)) := hp_gf R c D (sea_ok h).1 (sea_ok h).2.1 (by rw [(sea_ok h).2.2.1]; rfl) rfl
theorem gf_sea_1 (h : is_sea a) : mg_f (hp R c D) a [5] 1 = some (.int (D a 1)) := hp_gf R c D (sea_ok h).1 (sea_ok h).2.1 (by rw [(sea_ok h).2.2.1]; rfl) rfl
theorem pf_sea_1 (h : is_sea a) (x : Int32) : mg_p (hp R c D) a [5] 1 0 (.int x) = some (hp R c (mx_up D a (mx_up (D a) 1 x))) := hp_pf R c D (sea_ok h).1 (sea_ok h).2.1 _ (by rw [(sea_ok h).2.2.1]; rfl) rfl rfl (by show 1 < 11; omega) (by rw [(sea_ok h).2.2.1]; rfl)
theorem gf_sea_2 (h : is_sea a) : mg_f (hp R c D) a [5] 2 = some (.int (D a 2)) := hp_gf R c D (sea_ok h).1 (sea_ok h).2.1 (by rw [(sea_ok h).2.2.1]; rfl) rfl
theorem pf_sea_2 (h : is_sea a) (x : Int32) : mg_p (hp R c D) a [5] 2 0 (.int x) = some (hp R c (mx_up D a (mx_up (D a) 2 x))) := hp_pf R c D (sea_ok h).1 (sea_ok h).2.1 _ (by rw [(sea_ok h).2.2.1]; rfl) rfl rfl (by show 2 < 11; omega) (by rw [(sea_ok h).2.2.1]; rfl)
theorem gf_sea_3 (h : is_sea a) : mg_f (hp R c D) a [5] 3 = some (.ref (a + 2)) := hp_gf R c D (sea_ok h).1 (sea_ok h).2.1 (by rw [(sea_ok h).2.2.1]; rfl) rfl
theorem gf_sea_4 (h : is_sea a) : mg_f (hp R c D) a [5] 4 = some (.int (D a 4)) := hp_gf R c D (sea_ok h).1 (sea_ok h).2.1 (by rw [(sea_ok h).2.2.1]; rfl) rfl
theorem pf_sea_4 (h : is_sea a) (x : Int32) : mg_p (hp R c D) a [5] 4 0 (.int x) = some (hp R c (mx_up D a (mx_up (D a) 4 x))) := hp_pf R c D (sea_ok h).1 (sea_ok h).2.1 _ (by rw [(sea_ok h).2.2.1]; rfl) rfl rfl (by show 4 < 11; omega) (by rw [(sea_ok h).2.2.1]; rfl)
theorem gf_sea_5 (h : is_sea a) : mg_f (hp R c D) a [5] 5 = some (.int (D a 5)) := hp_gf R c D (sea_ok h).1 (sea_ok h).2.1 (by rw [(sea_ok h).2.2.1]; rfl) rfl
theorem pf_sea_5 (h : is_sea a) (x : Int32) : mg_p (hp R c D) a [5] 5 0 (.int x) = some (hp R c (mx_up D a (mx_up (D a) 5 x))) := hp_pf R c D (sea_ok h).1 (sea_ok h).2.1 _ (by rw [(sea_ok h).2.2.1]; rfl) rfl rfl (by show 5 < 11; omega) (by rw [(sea_ok h).2.2.1]; rfl)
theorem gf_sea_6 (h : is_sea a) : mg_f (hp R c D) a [5] 6 = some (.int (D a 6)) := hp_gf R c D (sea_ok h).1 (sea_ok h).2.1 (by rw [(sea_ok h).2.2.1]; rfl) rfl
theorem pf_sea_6 (h : is_sea a) (x : Int32) : mg_p (hp R c D) a [5] 6 0 (.int x) = some (hp R c (mx_up D a (mx_up (D a) 6 x))) := hp_pf R c D (sea_ok h).1 (sea_ok h).2.1 _ (by rw [(sea_ok h).2.2.1]; rfl) rfl rfl (by show 6 < 11; omega) (by rw [(sea_ok h).2.2.1]; rfl)
theorem gf_sea_7 (h : is_sea a) : mg_f (hp R c D) a [5] 7 = some (.int (D a 7)) := hp_gf R c D (sea_ok h).1 (sea_ok h).2.1 (by rw [(sea_ok h).2.2.1]; rfl) rfl
theorem pf_sea_7 (h : is_sea a) (x : Int32) : mg_p (hp R c D) a [5] 7 0 (.int x) = some (hp R c (mx_up D a (mx_up (D a) 7 x))) := hp_pf R c D (sea_ok h).1 (sea_ok h).2.1 _ (by rw [(sea_ok h).2.2.1]; rfl) rfl rfl (by show 7 < 11; omega) (by rw [(sea_ok h).2.2.1]; rfl)
theorem gf_sea_8 (h : is_sea a) : mg_f (hp R c D) a [5] 8 = some (.ref (a + 3)) := hp_gf R c D (sea_ok h).1 (sea_ok h).2.1 (by rw [(sea_ok h).2.2.1]; rfl) rfl
theorem gf_sea_9 (h : is_sea a) : mg_f (hp R c D) a [5] 9 = some (.int (D a 9)) := hp_gf R c D (sea_ok h).1 (sea_ok h).2.1 (by rw [(sea_ok h).2.2.1]; rfl) rfl
theorem pf_sea_9 (h : is_sea a) (x : Int32) : mg_p (hp R c D) a [5] 9 0 (.int x) = some (hp R c (mx_up D a (mx_up (D a) 9 x))) := hp_pf R c D (sea_ok h).1 (sea_ok h).2.1 _ (by rw [(sea_ok h).2.2.1]; rfl) rfl rfl (by show 9 < 11; omega) (by rw [(sea_ok h).2.2.1]; rfl)
theorem gf_sea_10 (h : is_sea a) : mg_f (hp R c D) a [5] 10 = some (.ref (a + 4)) := hp_gf R c D (sea_ok h).1 (sea_ok h).2.1 (by rw [(sea_ok h).2.2.1]; rfl) rfl
theorem gf_bt_0 (h : is_bt a) : mg_f (hp R c D) a [0] 0 = some (.ref (D a 0).toNatClampNeg) := hp_gf R c D (bt_ok h).1 (bt_ok h).2.1 (by rw [(bt_ok h).2.2]; rfl) rfl
theorem gf_bt_1 (h : is_bt a) : mg_f (hp R c D) a [0] 1 = some (.int (D a 1)) := hp_gf R c D (bt_ok h).1 (bt_ok h).2.1 (by rw [(bt_ok h).2.2]; rfl) rfl
theorem pf_bt_1 (h : is_bt a) (x : Int32) : mg_p (hp R c D) a [0] 1 0 (.int x) = some (hp R c (mx_up D a (mx_up (D a) 1 x))) := hp_pf R c D (bt_ok h).1 (bt_ok h).2.1 _ (by rw [(bt_ok h).2.2]; rfl) rfl rfl (by show 1 < 7; omega) (by rw [(bt_ok h).2.2]; rfl)
theorem gf_bt_2 (h : is_bt a) : mg_f (hp R c D) a [0] 2 = some (.int (D a 2)) := hp_gf R c D (bt_ok h).1 (bt_ok h).2.1 (by rw [(bt_ok h).2.2]; rfl) rfl
theorem pf_bt_2 (h : is_bt a) (x : Int32) : mg_p (hp R c D) a [0] 2 0 (.int x) = some (hp R c (mx_up D a (mx_up (D a) 2 x))) := hp_pf R c D (bt_ok h).1 (bt_ok h).2.1 _ (by rw [(bt_ok h).2.2]; rfl) rfl rfl (by show 2 < 7; omega) (by rw [(bt_ok h).2.2]; rfl)
theorem gf_bt_3 (h : is_bt a) : mg_f (hp R c D) a [0] 3 = some (.int (D a 3)) := hp_gf R c D (bt_ok h).1 (bt_ok h).2.1 (by rw [(bt_ok h).2.2]; rfl) rfl
theorem pf_bt_3 (h : is_bt a) (x : Int32) : mg_p (hp R c D) a [0] 3 0 (.int x) = some (hp R c (mx_up D a (mx_up (D a) 3 x))) := hp_pf R c D (bt_ok h).1 (bt_ok h).2.1 _ (by rw [(bt_ok h).2.2]; rfl) rfl rfl (by show 3 < 7; omega) (by rw [(bt_ok h).2.2]; rfl)
theorem gf_bt_4 (h : is_bt a) : mg_f (hp R c D) a [0] 4 = some (.int (D a 4)) := hp_gf R c D (bt_ok h).1 (bt_ok h).2.1 (by rw [(bt_ok h).2.2]; rfl) rfl
theorem pf_bt_4 (h : is_bt a) (x : Int32) : mg_p (hp R c D) a [0] 4 0 (.int x) = some (hp R c (mx_up D a (mx_up (D a) 4 x))) := hp_pf R c D (bt_ok h).1 (bt_ok h).2.1 _ (by rw [(bt_ok h).2.2]; rfl) rfl rfl (by show 4 < 7; omega) (by rw [(bt_ok h).2.2]; rfl)
theorem gf_bt_5 (h : is_bt a) : mg_f (hp R c D) a [0] 5 = some (.int (D a 5)) := hp_gf R c D (bt_ok h).1 (bt_ok h).2.1 (by rw [(bt_ok h).2.2]; rfl) rfl
theorem pf_bt_5 (h : is_bt a) (x : Int32) : mg_p (hp R c D) a [0] 5 0 (.int x) = some (hp R c (mx_up D a (mx_up (D a) 5 x))) := hp_pf R c D (bt_ok h).1 (bt_ok h).2.1 _ (by rw [(bt_ok h).2.2]; rfl) rfl rfl (by show 5 < 7; omega) (by rw [(bt_ok h).2.2]; rfl)
theorem gf_bt_6 (h : is_bt a) : mg_f (hp R c D) a [0] 6 = some (.int (D a 6)) := hp_gf R c D (bt_ok h).1 (bt_ok h).2.1 (by rw [(bt_ok h).2.2]; rfl) rfl
theorem pf_bt_6 (h : is_bt a) (x : Int32) (hx : mx_tcOk 1 (.int x) = true) : mg_p (hp R c D) a [0] 6 1 (.int x) = some (hp R c (mx_up D a (mx_up (D a) 6 x))) := hp_pf R c D (bt_ok h).1 (bt_ok h).2.1 _ (by rw [(bt_ok h).2.2]; rfl) rfl hx (by show 6 < 7; omega) (by rw [(bt_ok h).2.2]; rfl)
theorem pf_bt_0 (h : is_bt a) (x : Int32) : mg_p (hp R c D) a [0] 0 2 (.ref x.toNatClampNeg) = some (hp R c (mx_up D a (mx_up (D a) 0 x))) := hp_pf R c D (bt_ok h).1 (bt_ok h).2.1 _ (by rw [(bt_ok h).2.2]; rfl) rfl rfl (by show 0 < 7; omega) (by rw [(bt_ok h).2.2]; rfl)
theorem gf_sh_0 (h : is_sh a) : mg_f (hp R c D) a [6] 0 = some (.int (D a 0)) := hp_gf R c D (sh_ok h).1 (by have := (sh_ok h).2.1; omega) (by rw [(sh_ok h).2.2.1]; rfl) rfl
theorem pf_sh_0 (h : is_sh a) (x : Int32) : mg_p (hp R c D) a [6] 0 0 (.int x) = some (hp R c (mx_up D a (mx_up (D a) 0 x))) := hp_pf R c D (sh_ok h).1 (by have := (sh_ok h).2.1; omega) _ (by rw [(sh_ok h).2.2.1]; rfl) rfl rfl (by show 0 < 4; omega) (by rw [(sh_ok h).2.2.1]; rfl)
theorem gf_sh_1 (h : is_sh a) : mg_f (hp R c D) a [6] 1 = some (.int (D a 1)) := hp_gf R c D (sh_ok h).1 (by have := (sh_ok h).2.1; omega) (by rw [(sh_ok h).2.2.1]; rfl) rfl
theorem pf_sh_1 (h : is_sh a) (x : Int32) : mg_p (hp R c D) a [6] 1 0 (.int x) = some (hp R c (mx_up D a (mx_up (D a) 1 x))) := hp_pf R c D (sh_ok h).1 (by have := (sh_ok h).2.1; omega) _ (by rw [(sh_ok h).2.2.1]; rfl) rfl rfl (by show 1 < 4; omega) (by rw [(sh_ok h).2.2.1]; rfl)
theorem gf_sh_2 (h : is_sh a) : mg_f (hp R c D) a [6] 2 = some (.ref (a + 1)) := hp_gf R c D (sh_ok h).1 (by have := (sh_ok h).2.1; omega) (by rw [(sh_ok h).2.2.1]; rfl) rfl
theorem gf_sh_3 (h : is_sh a) : mg_f (hp R c D) a [6] 3 = some (.ref (a + 2)) := hp_gf R c D (sh_ok h).1 (by have := (sh_ok h).2.1; omega) (by rw [(sh_ok h).2.2.1]; rfl) rfl
theorem ld_rul (h : is_sea a) (k : Nat) (hk : k < 5) : mg_ld (hp R c D) (a + 2) .int (nI k) = some (.int (D (a + 2) k)) := hp_ldN R c D (by have := (sea_ok h).1; omega) (by rcases h with rfl | rfl | rfl <;> omega) (fun f => by rw [(sea_ok h).2.2.2.2.1]) k hk (by omega)
theorem st_rul (h : is_sea a) (k : Nat) (x : Int32) (hk : k < 5) : mg_st (hp R c D) (a + 2) .int (nI k) (.int x) = some (hp R c (mx_up D (a + 2) (mx_up (D (a + 2)) k x))) := hp_stN R c D (by have := (sea_ok h).1; omega) (by rcases h with rfl | rfl | rfl <;> omega) (fun f => by rw [(sea_ok h).2.2.2.2.1]) k x hk (by omega)
theorem ld_cnt (h : is_sea a) (k : Nat) (hk : k < 3) : mg_ld (hp R c D) (a + 4) .int (nI k) = some (.int (D (a + 4) k)) := hp_ldN R c D (by have := (sea_ok h).1; omega) (by rcases h with rfl | rfl | rfl <;> omega) (fun f => by rw [(sea_ok h).2.2.2.2.2.2]) k hk (by omega)
theorem st_cnt (h : is_sea a) (k : Nat) (x : Int32) (hk : k < 3) : mg_st (hp R c D) (a + 4) .int (nI k) (.int x) = some (hp R c (mx_up D (a + 4) (mx_up (D (a + 4)) k x))) := hp_stN R c D (by have := (sea_ok h).1; omega) (by rcases h with rfl | rfl | rfl <;> omega) (fun f => by rw [(sea_ok h).2.2.2.2.2.2]) k x hk (by omega)
theorem hp_aa {n : Nat} {C : String} {V : Nat → Value} (h1 : 17 ≤ a) (h2 : a < 128) (hs : hz_shp a (D a) = .inr (.object C, n, V)) (k : Nat) (hk : k < n) (hn : n < 2 ^ 31) : mg_aa (hp R c D) a (nI k) = some (V k) := by
  unfold mg_aa mx_arr
  rw [hp_lo R c D h1 h2, hs]
  dsimp only
  rw [if_pos (by unfold mx_in; simp only [decide_eq_true_eq]; exact nI_in hk hn), nI_clamp (by omega)]
theorem aa_bs (h : is_sea a) (k : Nat) (hk : k < 9) : mg_aa (hp R c D) (a + 1) (nI k) = some (.ref (a + 5 + k)) := by
  rw [hp_aa R c D (V := fun j => if j < 9 then .ref (a + 1 + 4 + j) else .null) (by have := (sea_ok h).1; omega) (by rcases h with rfl | rfl | rfl <;> omega) (by rw [(sea_ok h).2.2.2.1]; rfl) k hk (by omega)]
  simp only [hk, if_true]
theorem aa_tx (h : is_sea a) (k : Nat) (hk : k < 14) : mg_aa (hp R c D) (a + 3) (nI k) = some (hz_rf (D (a + 3) k)) := hp_aa R c D (a := a + 3) (by have := (sea_ok h).1; omega) (by rcases h with rfl | rfl | rfl <;> omega) (by rw [(sea_ok h).2.2.2.2.2.1]; rfl) k hk (by omega)
theorem aa_18 (k : Nat) (hk : k < 6) : mg_aa (hp R c D) 18 (nI k) = some (.ref (29 + k)) := by
  rw [hp_aa R c D (V := fun j => if j < 6 then .ref (29 + j) else .null) (by omega) (by omega) rfl k hk (by omega)]
  simp only [hk, if_true]
theorem aa_23 (k : Nat) (hk : k < 4) : mg_aa (hp R c D) 23 (nI k) = some (.ref (77 + 3 * k)) := by
  rw [hp_aa R c D (V := fun j => if j < 4 then .ref (77 + 3 * j) else .null) (by omega) (by omega) rfl k hk (by omega)]
  simp only [hk, if_true]
theorem aa_25 (k : Nat) (hk : k < 5) : mg_aa (hp R c D) 25 (nI k) = some (.ref (89 + 4 * k)) := by
  rw [hp_aa R c D (V := fun j => if j < 5 then .ref (89 + 4 * j) else .null) (by omega) (by omega) rfl k hk (by omega)]
  simp only [hk, if_true]
theorem aa_26 (k : Nat) (hk : k < 5) : mg_aa (hp R c D) 26 (nI k) = some (.ref (90 + 4 * k)) := by
  rw [hp_aa R c D (V := fun j => if j < 5 then .ref (90 + 4 * j) else .null) (by omega) (by omega) rfl k hk (by omega)]
  simp only [hk, if_true]
theorem is_bts (h : is_sea a) (k : Nat) (hk : k < 9) : is_bt (a + 5 + k) := by
  left
  rcases h with rfl | rfl | rfl <;> omega
theorem is_sh1 (k : Nat) (hk : k < 4) : is_sh (77 + 3 * k) := by
  left
  omega
theorem is_sh2 (k : Nat) (hk : k < 5) : is_sh (90 + 4 * k) := by
  right
  omega
theorem is_bt2 (k : Nat) (hk : k < 5) : is_bt (89 + 4 * k) := by
  right
  omega
theorem is_s35 : is_sea 35 := Or.inl rfl
theorem is_s49 : is_sea 49 := Or.inr (Or.inl rfl)
theorem is_s63 : is_sea 63 := Or.inr (Or.inr rfl)
end HP
