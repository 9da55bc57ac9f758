def sp_nm (key x1 x2 x3 v : Int32) : Int32 := if key = 0 then (if v = 119 then x1 else if v = 104 then x2 else x3) else if key = 1 then (if v = 119 then x1 else x2) else (if v = 99 then x1 else x2)
def tx_ok (s : Nat → Int32) (t : Nat) : Prop := ∃ q : Nat, s (75 + 200 * t + 2) = nI q ∧ q ≤ 96 ∧ tx_st s t q ∧ sp_dp s t q = 1 ∧ (s (75 + 200 * t) = 0 ∨ s (75 + 200 * t) = 1 ∨ s (75 + 200 * t) = 2)
/-- what text t gives, its names being x1, x2, x3 -/
def sp_tx (s : Nat → Int32) (t : Nat) (x1 x2 x3 : Int32) : Int32 := (sp_wk s (sp_nm (s (75 + 200 * t)) x1 x2 x3) t (s (75 + 200 * t + 2)).toNatClampNeg).2 0
theorem sp_wt_cg {s s' : Nat → Int32} (h : ∀ i, 75 ≤ i → s' i = s i) (t k : Nat) : sp_wt s' t k = sp_wt s t k ∧ sp_wv s' t k = sp_wv s t k := ⟨h _ (by omega), h _ (by omega)⟩
theorem sp_dp_cg {s s' : Nat → Int32} (h : ∀ i, 75 ≤ i → s' i = s i) (t : Nat) : ∀ k, sp_dp s' t k = sp_dp s t k
  | 0 => rfl
  | k + 1 => by
    unfold sp_dp
    rw [sp_dp_cg h t k, (sp_wt_cg h t k).1, (sp_wt_cg h t k).2]
theorem sp_wk_cs {s s' : Nat → Int32} (h : ∀ i, 75 ≤ i → s' i = s i) (nm : Int32 → Int32) (t : Nat) : ∀ k, sp_wk s' nm t k = sp_wk s nm t k
  | 0 => rfl
  | k + 1 => by
    unfold sp_wk
    rw [sp_wk_cs h nm t k, (sp_wt_cg h t k).1, (sp_wt_cg h t k).2]
theorem tx_ok_cg {s s' : Nat → Int32} (h : ∀ i, 75 ≤ i → s' i = s i) {t : Nat} (ht : tx_ok s t) : tx_ok s' t := by
  obtain ⟨q, h1, h2, h3, h4, h5⟩ := ht
  refine ⟨q, by rw [h _ (by omega)]; exact h1, h2, ?_, by rw [sp_dp_cg h]; exact h4, by rw [h _ (by omega)]; exact h5⟩
  intro k hk
  rw [(sp_wt_cg h t k).1, (sp_wt_cg h t k).2, sp_dp_cg h, h _ (by omega)]
  exact h3 k hk
theorem sp_tx_cg {s s' : Nat → Int32} (h : ∀ i, 75 ≤ i → s' i = s i) (t : Nat) (x1 x2 x3 : Int32) : sp_tx s' t x1 x2 x3 = sp_tx s t x1 x2 x3 := by
  unfold sp_tx
  rw [h (75 + 200 * t) (by omega), h (75 + 200 * t + 2) (by omega), sp_wk_cs h]
def sv_b (s : Nat → Int32) (k : Nat) : Prop := (∃ a : Nat, a ≤ 5 ∧ s (12 + 7 * k + 0) = nI a) ∧ (∃ w : Nat, w ≤ 50 ∧ s (12 + 7 * k + 1) = nI w) ∧ (∃ p : Nat, p ≤ 9999 ∧ s (12 + 7 * k + 2) = nI p) ∧ (s (12 + 7 * k + 5) = 0 ∨ s (12 + 7 * k + 5) = 1)
/-- a row is good: n boats, m texts -/
def sv (s : Nat → Int32) (n m : Nat) : Prop := s 0 = nI n ∧ n ≤ 9 ∧ s 1 = nI m ∧ m ≤ 14 ∧ (∃ k : Nat, s 3 = nI k ∧ k < 9 ∧ (0 < n → k < n) ∧ (n = 0 → k = 0)) ∧ (∀ k, k < n → sv_b s k) ∧ (∀ t, t < m → tx_ok s t)
theorem sv_cg {s s' : Nat → Int32} {n m : Nat} (h : sv s n m) (e0 : s' 0 = s 0) (e1 : s' 1 = s 1) (e3 : s' 3 = s 3) (eb : ∀ k, k < n → s' (12 + 7 * k + 0) = s (12 + 7 * k + 0) ∧ s' (12 + 7 * k + 1) = s (12 + 7 * k + 1) ∧ s' (12 + 7 * k + 2) = s (12 + 7 * k + 2) ∧ s' (12 + 7 * k + 5) = s (12 + 7 * k + 5)) (et : ∀ i, 75 ≤ i → s' i = s i) : sv s' n m := by
  obtain ⟨h1, h2, h3, h4, h5, h6, h7⟩ := h
  refine ⟨e0.trans h1, h2, e1.trans h3, h4, by rw [e3]; exact h5, ?_, fun t ht => tx_ok_cg et (h7 t ht)⟩
  intro k hk
  obtain ⟨b0, b1, b2, b5⟩ := eb k hk
  unfold sv_b
  rw [b0, b1, b2, b5]
  exact h6 k hk
/-- a cell that no rule speaks of -/
theorem sv_up {s : Nat → Int32} {n m : Nat} (h : sv s n m) (i : Nat) (x : Int32) (hi : i < 75) (h0 : i ≠ 0 ∧ i ≠ 1 ∧ i ≠ 3) (hb : ∀ k, k < 9 → i ≠ 12 + 7 * k + 0 ∧ i ≠ 12 + 7 * k + 1 ∧ i ≠ 12 + 7 * k + 2 ∧ i ≠ 12 + 7 * k + 5) : sv (mx_up s i x) n m := by
  have hn := h.2.1
  refine sv_cg h (up_n _ _ _ _ (by omega)) (up_n _ _ _ _ (by omega)) (up_n _ _ _ _ (by omega)) (fun k hk => ?_) (fun j hj => up_n _ _ _ _ (by omega))
  obtain ⟨b0, b1, b2, b5⟩ := hb k (by omega)
  exact ⟨up_n _ _ _ _ (Ne.symm b0), up_n _ _ _ _ (Ne.symm b1), up_n _ _ _ _ (Ne.symm b2), up_n _ _ _ _ (Ne.symm b5)⟩
theorem sv_lo {s : Nat → Int32} {n m : Nat} (h : sv s n m) (i : Nat) (x : Int32) (hi : i < 12) (h0 : i ≠ 0 ∧ i ≠ 1 ∧ i ≠ 3) : sv (mx_up s i x) n m := sv_up h i x (by omega) h0 (fun k hk => by omega)
theorem sv_sl {s : Nat → Int32} {n m : Nat} (h : sv s n m) (k : Nat) (hk : k < 9) (h0 : 0 < n → k < n) (hz : n = 0 → k = 0) : sv (mx_up s 3 (nI k)) n m := by
  obtain ⟨h1, h2, h3, h4, h5, h6, h7⟩ := h
  refine ⟨by rw [up_n _ _ _ _ (by omega)]; exact h1, h2, by rw [up_n _ _ _ _ (by omega)]; exact h3, h4, ⟨k, up_s _ _ _, hk, h0, hz⟩, ?_, fun t ht => tx_ok_cg (fun i hi => up_n _ _ _ _ (by omega)) (h7 t ht)⟩
  intro j hj
  unfold sv_b
  rw [up_n _ _ _ _ (by omega), up_n _ _ _ _ (by omega), up_n _ _ _ _ (by omega), up_n _ _ _ _ (by omega)]
  exact h6 j hj
theorem sv_pl {s : Nat → Int32} {n m : Nat} (h : sv s n m) (k : Nat) (hk : k < 9) (p : Nat) (hp : p ≤ 9999) : sv (mx_up s (12 + 7 * k + 2) (nI p)) n m := by
  obtain ⟨h1, h2, h3, h4, h5, h6, h7⟩ := h
  refine ⟨by rw [up_n _ _ _ _ (by omega)]; exact h1, h2, by rw [up_n _ _ _ _ (by omega)]; exact h3, h4, by rw [up_n _ _ _ _ (by omega)]; exact h5, ?_, fun t ht => tx_ok_cg (fun i hi => up_n _ _ _ _ (by omega)) (h7 t ht)⟩
  intro j hj
  unfold sv_b
  rw [up_n _ _ _ _ (by omega), up_n _ _ _ _ (by omega), up_n s _ _ (12 + 7 * j + 5) (by omega)]
  by_cases e : j = k
  · subst e
    rw [up_s]
    exact ⟨(h6 j hj).1, (h6 j hj).2.1, ⟨p, hp, rfl⟩, (h6 j hj).2.2.2⟩
  · rw [up_n _ _ _ _ (by omega)]
    exact h6 j hj
theorem sv_n {s : Nat → Int32} {n m : Nat} (h : sv s n m) : s 0 = nI n := h.1
theorem sv_n9 {s : Nat → Int32} {n m : Nat} (h : sv s n m) : n ≤ 9 := h.2.1
theorem sv_m {s : Nat → Int32} {n m : Nat} (h : sv s n m) : s 1 = nI m := h.2.2.1
theorem sv_m14 {s : Nat → Int32} {n m : Nat} (h : sv s n m) : m ≤ 14 := h.2.2.2.1
theorem sp_cnt_or (s : Nat → Int32) (key : Int32) : ∀ m, sp_cnt s key m = -1 ∨ ∃ t, t < m ∧ sp_cnt s key m = nI t ∧ s (75 + 200 * t) = key
  | 0 => Or.inl rfl
  | m + 1 => by
    rw [sp_cnt_s]
    by_cases h : s (75 + 200 * m) = key
    · rw [if_pos h]
      exact Or.inr ⟨m, by omega, rfl, h⟩
    · rw [if_neg h]
      rcases sp_cnt_or s key m with e | ⟨t, h1, h2, h3⟩
      · exact Or.inl e
      · exact Or.inr ⟨t, by omega, h2, h3⟩
theorem sp_cnt_cg {s s' : Nat → Int32} (h : ∀ i, 75 ≤ i → s' i = s i) (key : Int32) : ∀ m, sp_cnt s' key m = sp_cnt s key m
  | 0 => rfl
  | m + 1 => by rw [sp_cnt_s, sp_cnt_s, h _ (by omega), sp_cnt_cg h key m]
/-- what a key gives: the text that counts, or x -/
def sp_gv (s : Nat → Int32) (key : Int32) (m : Nat) (x x1 x2 x3 : Int32) : Int32 := if sp_cnt s key m < 0 then x else sp_tx s (sp_cnt s key m).toNatClampNeg x1 x2 x3
def sp_pul (s : Nat → Int32) (m k : Nat) : Int32 := sp_pk (s (12 + 7 * k + 0)) (sp_wi (sp_gv s 0 m (10 * s 7 - s (12 + 7 * k + 1)) (s 7) (s (12 + 7 * k + 1)) (s 5)) 999)
def sp_all (s : Nat → Int32) : Nat → Int32
  | 0 => 0
  | k + 1 => sp_all s k + (if nI k = s 3 then 0 else if s (12 + 7 * k + 5) = 1 then sp_drg (s (12 + 7 * k + 0)) (s (12 + 7 * k + 1)) else 0)
def sp_spd (s : Nat → Int32) (n m : Nat) : Int32 := if n = 0 then 0 else sp_sby (sp_pul s m (s 3).toNatClampNeg) (sp_all s n)
def sp_rm (x y : Int32) : Int32 := x - x / y * y
def sp_h1 (s : Nat → Int32) : Nat → Int32 := mx_up (mx_up (mx_up (mx_up s 6 (sp_nx (s 6))) 7 (sp_rm (sp_sh (sp_nx (s 6))) 10)) 6 (sp_nx (sp_nx (s 6)))) 2 (s 2 + 1)
def sp_stm (s : Nat → Int32) : Bool := decide (sp_rm (sp_sh (sp_nx (sp_nx (s 6)))) 100 < s 11)
def sp_gt (s : Nat → Int32) (k : Int32) : Nat → Int32 := mx_up (mx_up s 5 0) 3 k
def sp_tea (s : Nat → Int32) (n : Nat) : Nat → Int32 := mx_up (mx_up (sp_gt s (nI (sp_hv s n))) 4 (s 4 + 5)) (12 + 7 * sp_hv s n + 6) (s (12 + 7 * sp_hv s n + 6) + 1)
def sp_mv1 (s : Nat → Int32) (v : Int32) (k : Nat) : Nat → Int32 := mx_up s (12 + 7 * k + 2) (sp_wi (s (12 + 7 * k + 2) + (if nI k = s 3 then v else if s (12 + 7 * k + 5) = 1 then v else sp_row (s (12 + 7 * k + 0)))) 9999)
def sp_mv (s : Nat → Int32) (v : Int32) : Nat → Nat → Int32
  | 0 => s
  | k + 1 => sp_mv1 (sp_mv s v k) v k
def sp_fi1 (s : Nat → Int32) (k : Nat) : Nat → Int32 := mx_up s (12 + 7 * k + 4) (s (12 + 7 * k + 4) + (if nI k = s 3 then 0 else if s (12 + 7 * k + 5) = 1 then s 10 / 2 else s 10))
def sp_fi (s : Nat → Int32) : Nat → Nat → Int32
  | 0 => s
  | k + 1 => sp_fi1 (sp_fi s k) k
def sp_wr (s : Nat → Int32) : Nat → Int32 := mx_up (mx_up s 4 (s 4 + 1)) 5 (s 5 + 1)
def sp_ps (s : Nat → Int32) (n : Nat) : Nat → Int32 := if s 8 = 0 then (if s 5 < s 9 then s else sp_gt s (sp_rm (s 3 + 1) (nI n))) else if s 8 = 1 then (if s 7 < 4 then sp_gt s (nI (sp_lp s n)) else s) else (if 0 < sp_tg s (sp_mg s n) then sp_gt s (nI (sp_mg s n)) else s)
def sp_h2 (s : Nat → Int32) (n m : Nat) : Nat → Int32 := if 0 < s 7 then sp_mv s (sp_spd s n m) n else s
def sp_h3 (s : Nat → Int32) (n m : Nat) : Nat → Int32 := sp_ps (sp_wr (sp_fi (sp_h2 s n m) n)) n
/-- an hour -/
def sp_hr (s : Nat → Int32) (n m : Nat) : Nat → Int32 := if n = 0 then sp_h1 s else sp_h3 (if sp_stm s = true then sp_tea (sp_h1 s) n else sp_h1 s) n m
theorem sv_h1 {s : Nat → Int32} {n m : Nat} (h : sv s n m) : sv (sp_h1 s) n m := sv_lo (sv_lo (sv_lo (sv_lo h 6 _ (by omega) (by omega)) 7 _ (by omega) (by omega)) 6 _ (by omega) (by omega)) 2 _ (by omega) (by omega)
theorem sv_gt {s : Nat → Int32} {n m : Nat} (h : sv s n m) (k : Nat) (hk : k < 9) (h0 : 0 < n → k < n) (hz : n = 0 → k = 0) : sv (sp_gt s (nI k)) n m := sv_sl (sv_lo h 5 _ (by omega) (by omega)) k hk h0 hz
theorem sv_tea {s : Nat → Int32} {n m : Nat} (h : sv s n m) (hn : 0 < n) : sv (sp_tea s n) n m := by
  have h9 := sv_n9 h
  have hb : sp_hv s n < n := sp_mx_lt _ n hn
  exact sv_up (sv_lo (sv_gt h _ (by omega) (fun _ => hb) (fun z => by omega)) 4 _ (by omega) (by omega)) _ _ (by omega) (by omega) (fun k hk => by omega)
theorem sp_wi_in (v : Int32) : ∃ p : Nat, p ≤ 9999 ∧ sp_wi v 9999 = nI p := by
  unfold sp_wi
  by_cases h1 : v < 0
  · rw [if_pos h1]
    exact ⟨0, by omega, rfl⟩
  · rw [if_neg h1]
    by_cases h2 : 9999 < v
    · rw [if_pos h2]
      exact ⟨9999, by omega, rfl⟩
    · rw [if_neg h2]
      obtain ⟨j, hj, rfl⟩ := nI_of h1
      refine ⟨j, ?_, rfl⟩
      rw [show (9999 : Int32) = nI 9999 from rfl, nI_ltI (by omega) hj] at h2
      omega
theorem sv_mv {s : Nat → Int32} {n m : Nat} (h : sv s n m) (v : Int32) : ∀ k, k ≤ 9 → sv (sp_mv s v k) n m
  | 0, _ => h
  | k + 1, hk => by
    show sv (sp_mv1 (sp_mv s v k) v k) n m
    unfold sp_mv1
    obtain ⟨p, hp, e⟩ := sp_wi_in ((sp_mv s v k) (12 + 7 * k + 2) + (if nI k = (sp_mv s v k) 3 then v else if (sp_mv s v k) (12 + 7 * k + 5) = 1 then v else sp_row ((sp_mv s v k) (12 + 7 * k + 0))))
    rw [e]
    exact sv_pl (sv_mv h v k (by omega)) k (by omega) p hp
theorem sv_fi {s : Nat → Int32} {n m : Nat} (h : sv s n m) : ∀ k, k ≤ 9 → sv (sp_fi s k) n m
  | 0, _ => h
  | k + 1, hk => sv_up (sv_fi h k (by omega)) _ _ (by omega) (by omega) (fun j hj => by omega)
theorem sv_wr {s : Nat → Int32} {n m : Nat} (h : sv s n m) : sv (sp_wr s) n m := sv_lo (sv_lo h 4 _ (by omega) (by omega)) 5 _ (by omega) (by omega)
theorem sp_rmN {a b : Nat} (ha : a < 2 ^ 31) (hb : 0 < b) (hb2 : b < 2 ^ 31) : sp_rm (nI a) (nI b) = nI (a % b) := pk_rem ha hb hb2
theorem sv_ps {s : Nat → Int32} {n m : Nat} (h : sv s n m) (hn : 0 < n) : sv (sp_ps s n) n m := by
  have h9 := sv_n9 h
  obtain ⟨k, hk, hk9, hkn⟩ := h.2.2.2.2.1
  have hl : sp_lp s n < n := sp_mn_lt _ n hn
  have hg : sp_mg s n < n := sp_mx_lt _ n hn
  unfold sp_ps
  by_cases h1 : s 8 = 0
  · rw [if_pos h1]
    by_cases h2 : s 5 < s 9
    · rw [if_pos h2]
      exact h
    · rw [if_neg h2, hk, nI_1, sp_rmN (by omega) hn (by omega)]
      have := Nat.mod_lt (k + 1) hn
      exact sv_gt h _ (by omega) (fun _ => this) (fun z => by omega)
  · rw [if_neg h1]
    by_cases h2 : s 8 = 1
    · rw [if_pos h2]
      by_cases h3 : s 7 < 4
      · rw [if_pos h3]
        exact sv_gt h _ (by omega) (fun _ => hl) (fun z => by omega)
      · rw [if_neg h3]
        exact h
    · rw [if_neg h2]
      by_cases h3 : 0 < sp_tg s (sp_mg s n)
      · rw [if_pos h3]
        exact sv_gt h _ (by omega) (fun _ => hg) (fun z => by omega)
      · rw [if_neg h3]
        exact h
theorem sv_h2 {s : Nat → Int32} {n m : Nat} (h : sv s n m) : sv (sp_h2 s n m) n m := by
  unfold sp_h2
  by_cases e : 0 < s 7
  · rw [if_pos e]
    exact sv_mv h _ n (sv_n9 h)
  · rw [if_neg e]
    exact h
theorem sv_h3 {s : Nat → Int32} {n m : Nat} (h : sv s n m) (hn : 0 < n) : sv (sp_h3 s n m) n m := sv_ps (sv_wr (sv_fi (sv_h2 h) n (sv_n9 h))) hn
theorem sv_hr {s : Nat → Int32} {n m : Nat} (h : sv s n m) : sv (sp_hr s n m) n m := by
  unfold sp_hr
  by_cases e : n = 0
  · rw [if_pos e]
    exact sv_h1 h
  · rw [if_neg e]
    refine sv_h3 ?_ (by omega)
    by_cases e2 : sp_stm s = true
    · rw [if_pos e2]
      exact sv_tea (sv_h1 h) (by omega)
    · rw [if_neg e2]
      exact sv_h1 h
