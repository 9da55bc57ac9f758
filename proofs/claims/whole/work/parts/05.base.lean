def ms_gt : List Jvm.Cond := lw_tbl.filter goodWord
theorem ms_gw {i : Nat} {w : Jvm.Cond} (h : tc_w i w = true) : w ∈ ms_gt := by
  simp only [tc_w, Bool.and_eq_true, decide_eq_true_eq] at h
  exact List.mem_filter.mpr ⟨List.mem_of_getElem? h.1, h.2⟩
theorem ms_nw {i : Nat} {w : Jvm.Cond} (h : tc_nw i w = true) : w ∈ lw_tbl := by
  simp only [tc_nw, decide_eq_true_eq] at h
  exact List.mem_of_getElem? h
def ms_X (g : ms_G) (mi : tb_MI) (p : Program) (s : State) (m : MethodId) (args : Array Value) (meth : Method) (c : Code) : Prop :=
  p.tables.exec = Jvm.exec ∧ c.code = mi.2.1 ∧ c.maxLocals = mi.2.2.1 ∧ s.vm.findClass mi.1.cls = some m.cls ∧ (∀ w ∈ ms_gt, w.before args s = true) ∧ ms_K g s ∧ (mi.1.name = "<init>" → meth.name = "<init>") ∧ tb_cn[mi.2.2.2.2]? = some mi.1.cls
theorem ms_key {oc idx k : Nat} {cls : String} (hk : mx_k oc idx k = true) (hc : tb_cn[oc]? = some cls) : tc_n k = cls ∧ k % 4096 = idx := by
  simp only [mx_k, Bool.and_eq_true, beq_iff_eq, decide_eq_true_eq] at hk
  obtain ⟨rfl, h2⟩ := hk
  refine ⟨?_, by omega⟩
  unfold tc_n
  rw [show (oc * 4096 + idx) / 4096 = oc by omega, hc]
  rfl
def ms_L (g : ms_G) (n : Nat) (ls : mx_Lo) (a : Array Slot) : Prop := ls.length = n ∧ a.size = n ∧ lv_wf a ∧ ∀ (i : Nat) (v : Value), ls[i]? = some (some v) → a[i]? = some (.val (ms_tr g v)) ∧ v.category = 1
def ms_pl (g : ms_G) (ls : mx_Lo) : List (Nat × Value) := (List.range ls.length).filterMap (fun j => match ls[j]? with
  | some (some v) => some (j, ms_tr g v)
  | _ => none)
theorem ms_pl_mem {g : ms_G} {ls : mx_Lo} {q : Nat × Value} : q ∈ ms_pl g ls ↔ ∃ v, ls[q.1]? = some (some v) ∧ q.2 = ms_tr g v := by
  unfold ms_pl
  rw [List.mem_filterMap]
  constructor
  · rintro ⟨j, hj, he⟩
    split at he
    · rename_i v e1
      cases he
      exact ⟨v, e1, rfl⟩
    · cases he
  · rintro ⟨v, h1, h2⟩
    refine ⟨q.1, List.mem_range.mpr (List.getElem?_eq_some_iff.mp h1).1, ?_⟩
    rw [h1]
    simp [← h2]
theorem ms_L.has {g : ms_G} {n : Nat} {ls : mx_Lo} {a : Array Slot} (h : ms_L g n ls a) : lv_has a n (ms_pl g ls) := by
  obtain ⟨h1, h2, h3, h4⟩ := h
  refine ⟨h2, h3, fun q hq => ?_⟩
  obtain ⟨v, e1, e2⟩ := ms_pl_mem.mp hq
  rw [e2]
  exact (h4 _ _ e1).1
theorem ms_tr_cat {g : ms_G} {U : State} (hK : ms_K g U) {v : Value} (h : v.category = 1) : (ms_tr g v).category = 1 := by
  cases v with
  | retAddr pc =>
    show (ms_fm g).category = 1
    rcases hK.1.2.2.2.2.1 with e | ⟨t, e⟩ <;> rw [e] <;> rfl
  | long x => cases h
  | double x => cases h
  | _ => rfl
theorem ms_L.set {g : ms_G} {U : State} (hK : ms_K g U) {n i : Nat} {ls : mx_Lo} {a a' : Array Slot} {v : Value} (h : ms_L g n ls a) (hv : v.category = 1) (hi : i < n)
    (h' : lv_has a' n ((i, ms_tr g v) :: (ms_pl g ls).filter (fun q => !(q.1 == i) && !(q.1 + 1 == i && q.2.category == 2)))) : ms_L g n (ls.set i (some v)) a' := by
  obtain ⟨h1, h2, h3, h4⟩ := h
  obtain ⟨k1, k2, k3⟩ := h'
  refine ⟨by rw [List.length_set]; exact h1, k1, k2, fun j w hj => ?_⟩
  by_cases e : j = i
  · subst e
    rw [List.getElem?_set_self (by omega)] at hj
    cases hj
    exact ⟨k3 _ List.mem_cons_self, hv⟩
  · rw [List.getElem?_set_ne (Ne.symm e)] at hj
    refine ⟨k3 (j, ms_tr g w) (List.mem_cons_of_mem _ (List.mem_filter.mpr ⟨ms_pl_mem.mpr ⟨w, hj, rfl⟩, ?_⟩)), (h4 j w hj).2⟩
    have hc := ms_tr_cat hK (h4 j w hj).2
    simp [e, hc]
def ms_dc (ef : mx_E) : Nat := match ef with
  | .inr (.inr _) => 1
  | _ => 0
def ms_ds (ef : mx_E) : Nat := match ef with
  | .inr (.inr q) => q.1
  | _ => 0
theorem ms_ap_n (ef : mx_E) (h : mx_MH) : (mx_ap ef h).1.1 = h.1.1 + ms_dc ef ∧ (mx_ap ef h).1.2 = h.1.2 + ms_ds ef := by
  match ef with
  | .inl _ => exact ⟨rfl, rfl⟩
  | .inr (.inl (a, c)) => exact ⟨rfl, rfl⟩
  | .inr (.inr (n, c)) => exact ⟨rfl, rfl⟩
theorem mx_go_inv {pc pc' : Nat} {ls ls' : mx_Lo} {st st' : List Value} {ef : mx_E} (h : mx_go pc ls st = some (.inl (pc', ls', st', ef))) : pc' = pc ∧ ls' = ls ∧ st' = st ∧ ef = .inl () := by
  unfold mx_go at h
  cases h
  exact ⟨rfl, rfl, rfl, rfl⟩
theorem mx_jmp_inv {pc pc' : Nat} {off : Int} {ls ls' : mx_Lo} {st st' : List Value} {ef : mx_E} (h : mx_jmp pc off ls st = some (.inl (pc', ls', st', ef))) : (pc : Int) + off = (pc' : Int) ∧ ls' = ls ∧ st' = st ∧ ef = .inl () := by
  unfold mx_jmp at h
  split at h
  · obtain ⟨rfl, rfl, rfl, rfl⟩ := mx_go_inv h
    refine ⟨?_, rfl, rfl, rfl⟩
    omega
  · cases h
theorem mx_put_inv {pc pc' a : Nat} {c : mx_MC} {ls ls' : mx_Lo} {st st' : List Value} {ef : mx_E} (h : mx_put pc ls st a c = some (.inl (pc', ls', st', ef))) : 17 ≤ a ∧ pc' = pc ∧ ls' = ls ∧ st' = st ∧ ef = .inr (.inl (a, c)) := by
  unfold mx_put at h
  split at h
  · rename_i ha
    cases h
    exact ⟨ha, rfl, rfl, rfl, rfl⟩
  · cases h
theorem ms_rest (g : ms_G) {r : List Value} (h : r.length ≤ 4) : ((r.map (ms_tr g)).map fun v => v.category).sum ≤ 8 := by
  have key : ∀ r : List Value, ((r.map (ms_tr g)).map fun v => v.category).sum ≤ 2 * r.length := by
    intro r
    induction r with
    | nil => simp
    | cons v t ih =>
      simp only [List.map_cons, List.sum_cons, List.length_cons]
      have := lv_cat (ms_tr g v)
      omega
  have := key r
  omega
theorem ms_fnd {α : Type} {l : List α} {p : α → Bool} {a : α} (h : l.find? p = some a) : a ∈ l ∧ p a = true := ⟨List.mem_of_find?_eq_some h, List.find?_some h⟩
