theorem ms_nestF (q : Nat × Nat × Nat × Bool) (hm : q ∈ tb_S) (hn : q.2.2.2 = true) {z : String × String × String × Value} (hz : tb_sv[q.2.2.1]? = some z) : Jvm.Cond.fieldLinkNest (tc_n q.1) (q.1 % 4096) z.1 z.2.1 z.2.2.1 "NineSail" ∈ ms_nest := by
  have key : tb_S.all (fun q => !(q.2.2.2) || (match tb_sv[q.2.2.1]? with
    | some z => ms_nest.contains (.fieldLinkNest (tc_n q.1) (q.1 % 4096) z.1 z.2.1 z.2.2.1 "NineSail")
    | none => true)) = true := by decide +kernel
  have h := List.all_eq_true.mp key q hm
  rw [hn, hz] at h
  simpa using h
section MSM
variable {g : ms_G} {mi : tb_MI} {p : Program} {l : Launch} {e : Env} {R : Room} {s : State} {m : MethodId} {args : Array Value} {below : List Frame} {meth : Method} {c : Code} {H : Heap} {locs : List Loc} {cells slots : Nat} {Q : State → Prop}
variable {pc : Nat} {a : Array Slot} {rest : List Value} {h : mx_MH}
theorem ms_new (C : ms_X g mi p s m args meth c) (hR : ms_R g h H) {idx n : Nat} {fs : List Value} {q : Nat × Nat × Nat × Nat × Nat} (hq : tb_N.find? (fun e => mx_k mi.2.2.2.2 idx e.1) = some q) (hdv : mx_dv q.2.2.1 = some (n, fs)) (hc : cells + 1 ≤ R.cells) (hs : slots + n ≤ R.slots) (hd : decode mi.2.1 pc = .ok (.new idx, 3))
    (kk : ∀ H1 : Heap, ms_R g (mx_new h n (.inl (q.2.2.1, fs))) H1 → W p l e R s m args below meth c H1 locs (cells + 1) (slots + n) Q (F0 m (pc + 3) a (.ref (ms_ad g h.1.1) :: rest))) : W p l e R s m args below meth c H locs cells slots Q (F0 m pc a rest) := by
  obtain ⟨hx, hb, -, hown, hw, hK, -, hcn⟩ := C
  obtain ⟨hm, hk⟩ := ms_fnd hq
  obtain ⟨k1, k2⟩ := ms_key hk hcn
  have ok := List.all_eq_true.mp tc_N_ok q hm
  unfold tc_N at ok
  unfold mx_dv at hdv
  cases hr : tb_cl[q.2.2.1]? with
  | none => rw [hr] at ok; cases ok
  | some r =>
    obtain ⟨t, ht⟩ := ms_tyx hr
    rw [hr] at ok
    rw [hr, ht] at hdv
    simp only [Option.some.injEq, Prod.mk.injEq] at hdv
    obtain ⟨rfl, rfl⟩ := hdv
    simp only [Bool.and_eq_true] at ok
    have hcl := hw _ (ms_gw ok.1.1)
    rw [k1, k2] at hcl
    have hKn := ms_cls hK hr
    refine W.newcK hx hb hown hcl (hw _ (ms_gw ok.1.2)) (hw _ (ms_gw ok.2)) rfl hd hc hs hKn.2.1 hR.top fun H1 kC hkC e1 z1 o1 => ?_
    refine kk H1 (hR.new ⟨r, hr, by simp, ?_⟩ (by rw [z1, hR.top]) (fun z hz => o1 z (by rw [← hR.top]; exact hz)))
    refine (u_born t hw (ms_lays hw hr) hKn hkC e1 (ms_tyk hr ht)).to (fun j hj => ?_)
    have e2 : ms_tr g (defaultValue (t j)) = defaultValue (t j) := by cases t j <;> rfl
    simp [vp_V, List.getElem?_map, List.getElem?_range hj, e2]
theorem ms_at {t : ArrayType} {ty : FieldType} (h : mx_at t = some ty) : newarray.typeOf t = ty ∧ ty ∈ ms_tys ∧ (Jvm.Cond.arrayClass ty) ∈ ms_gt ∧ componentBytes ty ≤ 4 ∧ ms_tr g (defaultValue ty) = defaultValue ty ∧ s.vm.findClass ("[" ++ (newarray.typeOf t).toString) = s.vm.findClass ("[" ++ ty.toString) := by
  have key : ∀ e ∈ tb_B, Jvm.Cond.arrayClass e.1 ∈ ms_gt := fun e he => ms_gw (List.all_eq_true.mp tc_B_ok e he)
  cases t <;> simp only [mx_at, Option.some.injEq, reduceCtorEq] at h
  all_goals subst h
  · exact ⟨rfl, by decide, key _ (List.mem_of_getElem? (i := 3) rfl), by decide, rfl, rfl⟩
  · exact ⟨rfl, by decide, key _ (List.mem_of_getElem? (i := 1) rfl), by decide, rfl, rfl⟩
  · exact ⟨rfl, by decide, key _ (List.mem_of_getElem? (i := 2) rfl), by decide, rfl, rfl⟩
  · exact ⟨rfl, by decide, key _ (List.mem_of_getElem? (i := 0) rfl), by decide, rfl, rfl⟩
theorem ms_cid (hK : ms_K g s) {ty : FieldType} (ht : ty ∈ ms_tys) : s.vm.findClass ("[" ++ ty.toString) = some (ms_cA g ty) := by
  have h := (ms_ty hK ht).2
  cases ty with
  | object C =>
    obtain ⟨kA, comp, h1, h2, h3, h4⟩ := h
    exact h4
  | _ => exact h
theorem ms_newP (C : ms_X g mi p s m args meth c) (hR : ms_R g h H) {t : ArrayType} {ty : FieldType} {n : Int32} (hty : mx_at t = some ty) (hn : ¬ n < 0) (hn2 : n.toNatClampNeg ≤ 100000) (hc : cells + 1 ≤ R.cells) (hs : slots + n.toNatClampNeg ≤ R.slots) (hd : decode mi.2.1 pc = .ok (.newarray t, 2))
    (kk : ∀ H1 : Heap, ms_R g (mx_new h n.toNatClampNeg (.inr (ty, n.toNatClampNeg, fun _ => defaultValue ty))) H1 → W p l e R s m args below meth c H1 locs (cells + 1) (slots + n.toNatClampNeg) Q (F0 m (pc + 2) a (.ref (ms_ad g h.1.1) :: rest))) : W p l e R s m args below meth c H locs cells slots Q (F0 m pc a (.int n :: rest)) := by
  obtain ⟨hx, hb, -, hown, hw, hK, -, hcn⟩ := C
  obtain ⟨e1, e2, e3, e4, e5, e6⟩ := ms_at (g := g) (s := s) hty
  refine va_newaK hx hb (atype := t) (by rw [e1]; exact hw _ e3) rfl hd rfl hn rfl (by rw [e1]; have := Nat.mul_le_mul hn2 e4; omega) hc hs hR.top fun H1 cA c1 z1 o1 hA hcA => ?_
  refine kk H1 (hR.new ⟨e2, ?_⟩ (by rw [z1, hR.top]) (fun z hz => o1 z (by rw [← hR.top]; exact hz)))
  rw [c1]
  have ec : cA = ms_cA g ty := by
    rw [e6, ms_cid hK e2] at hcA
    exact (Option.some.inj hcA).symm
  rw [ec, e1]
  simp only [e5]
theorem ms_newA (C : ms_X g mi p s m args meth c) (hR : ms_R g h H) {idx : Nat} {n : Int32} {q : Nat × Nat × String × Nat} (hq : tb_A.find? (fun e => mx_k mi.2.2.2.2 idx e.1) = some q) (hn : ¬ n < 0) (hn2 : n.toNatClampNeg ≤ 100000) (hc : cells + 1 ≤ R.cells) (hs : slots + n.toNatClampNeg ≤ R.slots) (hd : decode mi.2.1 pc = .ok (.anewarray idx, 3))
    (kk : ∀ H1 : Heap, ms_R g (mx_new h n.toNatClampNeg (.inr (.object q.2.2.1, n.toNatClampNeg, fun _ => .null))) H1 → W p l e R s m args below meth c H1 locs (cells + 1) (slots + n.toNatClampNeg) Q (F0 m (pc + 3) a (.ref (ms_ad g h.1.1) :: rest))) : W p l e R s m args below meth c H locs cells slots Q (F0 m pc a (.int n :: rest)) := by
  obtain ⟨hx, hb, -, hown, hw, hK, -, hcn⟩ := C
  obtain ⟨hm, hk⟩ := ms_fnd hq
  obtain ⟨k1, k2⟩ := ms_key hk hcn
  have ok := List.all_eq_true.mp tc_A_ok q hm
  unfold tc_A at ok
  simp only [Bool.and_eq_true, List.contains_iff_mem] at ok
  have hcl := hw _ (ms_gw ok.1.1)
  rw [k1, k2] at hcl
  have hal : q.2.2.1 ∈ tc_al := ok.2
  have hty : FieldType.object q.2.2.1 ∈ ms_tys := by
    simp only [tc_al, List.mem_cons, List.not_mem_nil, or_false] at hal
    rcases hal with h | h | h | h <;> rw [h] <;> decide
  have hAO := hK.1.2.2.2.2.2.2 _ hal
  refine W.anew hx hb hown hcl (va_AO.use hAO) rfl hd rfl hn (by omega) hc hs fun cA kA comp f1 f2 f3 f4 => ?_
  have ec : cA = ms_cA g (.object q.2.2.1) := by
    rw [ms_cid hK hty] at f1
    exact (Option.some.inj f1).symm
  subst ec
  generalize hH1 : H.push ({ cls := ms_cA g (.object q.2.2.1), slots := Array.replicate n.toNatClampNeg .null, vm := .none } : Cell) = H1
  have z1 : H1.size = H.size + 1 := by rw [← hH1, Array.size_push]
  have e1 : H1[H.size]? = some (arrV (ms_cA g (.object q.2.2.1)) n.toNatClampNeg (fun _ => .null)) := by rw [← hH1, Array.getElem?_push_size, ← arrV_new]
  have o1 : ∀ q : Nat, q < H.size → H1[q]? = H[q]? := fun q hq => by rw [← hH1, Array.getElem?_push, if_neg (Nat.ne_of_lt hq)]
  rw [hR.top] at e1
  have hk := kk H1 (hR.new ⟨hty, e1⟩ z1 o1)
  rw [← hR.top] at hk
  exact hk
theorem ms_gets (C : ms_X g mi p s m args meth c) (hR : ms_R g h H) {idx : Nat} {q : Nat × Nat × Nat × Bool} {z : String × String × String × Value} (hq : tb_S.find? (fun e => mx_k mi.2.2.2.2 idx e.1) = some q) (hz : tb_sv[q.2.2.1]? = some z) (hd : decode mi.2.1 pc = .ok (.getstatic idx, 3))
    (kk : W p l e R s m args below meth c H locs cells slots Q (F0 m (pc + 3) a (ms_tr g z.2.2.2 :: rest))) : W p l e R s m args below meth c H locs cells slots Q (F0 m pc a rest) := by
  obtain ⟨hx, hb, -, hown, hw, hK, -, hcn⟩ := C
  obtain ⟨hm, hk⟩ := ms_fnd hq
  obtain ⟨k1, k2⟩ := ms_key hk hcn
  have ok := List.all_eq_true.mp tc_S_ok q hm
  unfold tc_S at ok
  rw [hz] at ok
  obtain ⟨cf, kf, fi, f, a0, cell, h1, h2, h3, h4, h5, h6, h7, h8⟩ := hK.1.2.2.1 z (List.mem_of_getElem? hz)
  have hlt : a0 < ms_b g := Nat.not_le.mp h8
  have hce : H[a0]? = some cell := by rw [hR.2.2.1 a0 hlt]; exact h5
  by_cases hn : q.2.2.2 = true
  · simp only [hn, if_true] at ok
    have ok := ms_nw ok
    have hin : Jvm.Cond.fieldLinkNest (tc_n q.1) (q.1 % 4096) z.1 z.2.1 z.2.2.1 "NineSail" ∈ ms_nest := ms_nestF q hm hn hz
    have hlink := va_Nw.use (A := args) rfl (hK.2.1 _ hin)
    rw [k1, k2] at hlink
    exact va_WgetsN hx hb hown hlink h1 h2 h3 h4 hce (fun e => by rw [e] at h6; cases h6) h7 rfl hd kk
  · simp only [hn, if_false] at ok
    have hlink := hw _ (ms_gw ok)
    rw [k1, k2] at hlink
    exact W.gets hx hb hown hlink h1 h2 h3 h4 hce (fun e => by rw [e] at h6; cases h6) h7 rfl hd kk
theorem ms_const (C : ms_X g mi p s m args meth c) {idx : Nat} {q : Nat × Nat × Value} (hq : tb_C.find? (fun e => mx_k mi.2.2.2.2 idx e.1) = some q) {len : Nat} (hd : (decode mi.2.1 pc = .ok (.ldc idx, 2) ∧ len = 2) ∨ (decode mi.2.1 pc = .ok (.ldc_w idx, 3) ∧ len = 3 ∧ ∃ x, q.2.2 = .int x) ∨ (decode mi.2.1 pc = .ok (.ldc2_w idx, 3) ∧ len = 3 ∧ ∃ x, q.2.2 = .long x)) (hl : len = 2 → ∀ x, q.2.2 ≠ .long x)
    (kk : W p l e R s m args below meth c H locs cells slots Q (F0 m (pc + len) a (ms_tr g q.2.2 :: rest))) : W p l e R s m args below meth c H locs cells slots Q (F0 m pc a rest) := by
  obtain ⟨hx, hb, -, hown, hw, hK, -, hcn⟩ := C
  obtain ⟨hm, hk⟩ := ms_fnd hq
  obtain ⟨k1, k2⟩ := ms_key hk hcn
  have ok := List.all_eq_true.mp tc_C_ok q hm
  unfold tc_C at ok
  rcases hd with ⟨hd, rfl⟩ | ⟨hd, rfl, x, hx2⟩ | ⟨hd, rfl, x, hx2⟩
  · cases hv : q.2.2 with
    | int x =>
      rw [hv] at ok kk
      have hlink := hw _ (ms_gw ok)
      rw [k1, k2] at hlink
      exact lv_ldc hx hb hown hlink hd kk
    | float x =>
      rw [hv] at ok kk
      have hlink := hw _ (ms_gw ok)
      rw [k1, k2] at hlink
      exact lv_ldcf hx hb hown hlink hd kk
    | long x => exact absurd hv (hl rfl x)
    | double x => rw [hv] at ok; cases ok
    | null => rw [hv] at ok; cases ok
    | ref x => rw [hv] at ok; cases ok
    | retAddr x => rw [hv] at ok; cases ok
  · rw [hx2] at ok kk
    have hlink := hw _ (ms_gw ok)
    rw [k1, k2] at hlink
    exact lv_ldcw hx hb hown hlink hd kk
  · rw [hx2] at ok kk
    have hlink := hw _ (ms_gw ok)
    rw [k1, k2] at hlink
    exact lv_ldc2 hx hb hown hlink hd kk
theorem ms_ldcS (C : ms_X g mi p s m args meth c) {idx : Nat} {q : Nat × Nat × Nat × String × Nat} (hq : tb_X.find? (fun e => mx_k mi.2.2.2.2 idx e.1) = some q) (hd : decode mi.2.1 pc = .ok (.ldc idx, 2))
    (kk : W p l e R s m args below meth c H locs cells slots Q (F0 m (pc + 2) a (.ref (ms_ad g q.2.2.2.2) :: rest))) : W p l e R s m args below meth c H locs cells slots Q (F0 m pc a rest) := by
  obtain ⟨hx, hb, -, hown, hw, hK, -, hcn⟩ := C
  obtain ⟨hm, hk⟩ := ms_fnd hq
  obtain ⟨k1, k2⟩ := ms_key hk hcn
  have ok := List.all_eq_true.mp tc_X_ok q hm
  unfold tc_X at ok
  simp only [Bool.and_eq_true, decide_eq_true_eq] at ok
  have e1 : idx = q.2.2.1 := k2.symm.trans ok.1.1.1.1
  subst e1
  have e2 : mi.1.cls = "NineSail$Tape" := k1.symm.trans ok.1.1.1.2
  rw [e2] at hown
  exact va_ldcS hx hb hown (hK.2.2.1 q hm) hd kk
end MSM
