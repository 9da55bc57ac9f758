theorem mx_call_inv {M pc1 : Nat} {As : List Value} {ls : mx_Lo} {r : List Value} {M' pc' : Nat} {As' : List Value} {ls' : mx_Lo} {r' : List Value} (hs : mx_call M As pc1 ls r = some (.inr (.inl (M', As', pc', ls', r')))) :
    M' = M ∧ As' = As ∧ pc' = pc1 ∧ ls' = ls ∧ r' = r ∧ 0 < M ∧ r.length ≤ 4 ∧ As.all mx_c1 = true ∧ ∃ mi, tb_mt M = some mi ∧ As.length ≤ mi.2.2.1 := by
  unfold mx_call at hs
  split at hs
  · rename_i mi hmi
    split at hs
    · rename_i hh
      cases hs
      exact ⟨rfl, rfl, rfl, rfl, rfl, hh.1, hh.2.1, hh.2.2.1, mi, hmi, hh.2.2.2⟩
    · cases hs
  · cases hs
def ms_ret (mi : tb_MI) (i : Instr) (v : Option Value) : Prop :=
  (i = .ireturn ∧ ∃ x ty, v = some (.int x) ∧ mi.2.2.2.1 = some ty ∧ narrow ty (.int x) = .int x) ∨ (i = .areturn ∧ ∃ w rt, v = some w ∧ mx_iref w = true ∧ mi.2.2.2.1 = some rt ∧ ((∃ n, rt = .object n) ∨ ∃ t, rt = .array t)) ∨ (i = .return_ ∧ v = none ∧ mi.2.2.2.1 = none)
theorem mx_go_nr {pc : Nat} {ls : mx_Lo} {st : List Value} {q : (Nat × List Value × Nat × mx_Lo × List Value) ⊕ Option Value} : mx_go pc ls st ≠ some (.inr q) := by
  intro hs
  unfold mx_go at hs
  cases hs
theorem mx_jmp_nr {pc : Nat} {off : Int} {ls : mx_Lo} {st : List Value} {q : (Nat × List Value × Nat × mx_Lo × List Value) ⊕ Option Value} : mx_jmp pc off ls st ≠ some (.inr q) := by
  intro hs
  unfold mx_jmp at hs
  split at hs
  · exact mx_go_nr hs
  · cases hs
theorem mx_br_nr {b : Bool} {pc : Nat} {off : Int} {ls : mx_Lo} {st : List Value} {q : (Nat × List Value × Nat × mx_Lo × List Value) ⊕ Option Value} : mx_br b pc off ls st ≠ some (.inr q) := by
  intro hs
  unfold mx_br at hs
  split at hs
  · split at hs <;> exact mx_go_nr hs
  · cases hs
theorem mx_put_nr {pc a : Nat} {c : mx_MC} {ls : mx_Lo} {st : List Value} {q : (Nat × List Value × Nat × mx_Lo × List Value) ⊕ Option Value} : mx_put pc ls st a c ≠ some (.inr q) := by
  intro hs
  unfold mx_put at hs
  split at hs <;> cases hs
set_option maxHeartbeats 4000000 in
/-- what gives a call, or an end -/
theorem mx_I_nr {ret : Option FieldType} {ini : Bool} {oc pc : Nat} {i : Instr} {ls : mx_Lo} {st : List Value} {h : mx_MH} {q : (Nat × List Value × Nat × mx_Lo × List Value) ⊕ Option Value} (hs : mx_I ret ini oc i pc ls st h = some (.inr q)) :
    (∃ idx, i = .invokevirtual idx) ∨ (∃ idx, i = .invokestatic idx) ∨ (∃ idx, i = .invokespecial idx) ∨ i = .ireturn ∨ i = .areturn ∨ i = .return_ := by
  cases i
  all_goals first | exact Or.inl ⟨_, rfl⟩ | exact Or.inr (Or.inl ⟨_, rfl⟩) | exact Or.inr (Or.inr (Or.inl ⟨_, rfl⟩)) | exact Or.inr (Or.inr (Or.inr (Or.inl rfl))) | exact Or.inr (Or.inr (Or.inr (Or.inr (Or.inl rfl)))) | exact Or.inr (Or.inr (Or.inr (Or.inr (Or.inr rfl)))) | skip
  all_goals exfalso
  all_goals first
    | exact mx_go_nr hs
    | exact mx_jmp_nr hs
    | (cases hs; done)
    | skip
  all_goals (simp only [mx_I, mx_const, mx_loadI, mx_loadA, mx_store, mx_sw, mx_gf, mx_pf, mx_ld, mx_aa, mx_stI, mx_stF, mx_as, mx_newP, mx_newA, mx_newI] at hs)
  all_goals (repeat' split at hs)
  all_goals first
    | exact mx_go_nr hs
    | exact mx_jmp_nr hs
    | exact mx_br_nr hs
    | exact mx_put_nr hs
    | (cases hs; done)
theorem ms_args {vs : List Value} (hv : ∀ v ∈ vs, v.category = 1) : ∀ (k i : Nat) (v : Value), vs[i]? = some v → (k + i, v) ∈ lv_args k vs := by
  induction vs with
  | nil => intro k i v h; simp at h
  | cons w t ih =>
    intro k i v h
    have hw : w.category = 1 := hv w List.mem_cons_self
    have ht := ih (fun u hu => hv u (List.mem_cons_of_mem _ hu))
    simp only [lv_args, hw]
    cases i with
    | zero => simp at h; subst h; exact List.mem_cons_self
    | succ i =>
      simp only [List.getElem?_cons_succ] at h
      have := ht (k + 1) i v h
      rw [show k + (i + 1) = k + 1 + i by omega]
      exact List.mem_cons_of_mem _ (by simpa using this)
theorem ms_sl {vs : List Value} (hv : ∀ v ∈ vs, v.category = 1) : (lg_sl vs).length = vs.length := by
  induction vs with
  | nil => rfl
  | cons w t ih =>
    have hw : w.category = 1 := hv w List.mem_cons_self
    have ht := ih (fun u hu => hv u (List.mem_cons_of_mem _ hu))
    unfold lg_sl at ht ⊢
    simp [hw, ht]
theorem ms_entry {g : ms_G} {s : State} (hK : ms_K g s) {M : Nat} {mj : tb_MI} (hM : tb_mt M = some mj) {As : List Value} (h1 : As.all mx_c1 = true) (h2 : As.length ≤ mj.2.2.1) :
    ms_L g mj.2.2.1 (mx_ent M As) ((lg_sl (As.map (ms_tr g)) ++ List.replicate (mj.2.2.1 - (lg_sl (As.map (ms_tr g))).length) Slot.unset).toArray) := by
  have hc : ∀ v ∈ As, v.category = 1 ∧ (ms_tr g v).category = 1 := fun v hv => ms_c1 hK (List.all_eq_true.mp h1 v hv)
  have hc2 : ∀ v ∈ As.map (ms_tr g), v.category = 1 := by
    intro v hv
    obtain ⟨w, hw, rfl⟩ := List.mem_map.mp hv
    exact (hc w hw).2
  have hl := lv_entry (As.map (ms_tr g)) (n := mj.2.2.1) (by rw [ms_sl hc2, List.length_map]; exact h2)
  obtain ⟨k1, k2, k3⟩ := hl
  have he : mx_ent M As = As.map some ++ List.replicate (mj.2.2.1 - As.length) none := by
    unfold mx_ent
    rw [hM]
    rfl
  refine ⟨by rw [he]; simp; omega, k1, k2, fun i v hv => ?_⟩
  rw [he] at hv
  by_cases hi : i < As.length
  · rw [List.getElem?_append_left (by simpa using hi), List.getElem?_map] at hv
    cases hA : As[i]? with
    | none => rw [hA] at hv; simp at hv
    | some w =>
      rw [hA] at hv
      simp only [Option.map_some, Option.some.injEq] at hv
      subst hv
      have hm := ms_args hc2 0 i (ms_tr g w) (by rw [List.getElem?_map, hA]; rfl)
      rw [Nat.zero_add] at hm
      exact ⟨k3 _ hm, (hc w (List.mem_of_getElem? hA)).1⟩
  · rw [List.getElem?_append_right (by simpa using hi)] at hv
    exfalso
    have := List.mem_of_getElem? hv
    rw [List.mem_replicate] at this
    cases this.2
/-- what soundness says of one state of a method -/
def ms_Snd (l : Launch) (g : ms_G) (d M pc : Nat) (ls : mx_Lo) (st : List Value) (h : mx_MH) (v : Option Value) (h' : mx_MH) : Prop :=
  ∀ mi, tb_mt M = some mi → ∀ (p : Program) (e : Env) (R : Room) (s : State) (m : MethodId) (args : Array Value) (below : List Frame) (meth : Method) (c : Code) (H : Heap) (locs : List Loc) (cells slots : Nat) (Q : State → Prop) (a : Array Slot),
    ms_X g mi p s m args meth c → ms_R g h H → ms_L g mi.2.2.1 ls a → (∀ q ∈ locs, ms_b g ≤ q.base) → d + 2 ≤ R.frames → 40 * (d + 2) ≤ R.locals → cells + (h'.1.1 - h.1.1) ≤ R.cells → slots + (h'.1.2 - h.1.2) ≤ R.slots →
    (∀ (pc' : Nat) (a' : Array Slot) (H' : Heap) (locs' : List Loc) (i : Instr), decode mi.2.1 pc' = .ok (i, 1) → ms_ret mi i v → ms_R g h' H' → (∀ q ∈ locs', ms_b g ≤ q.base) → W p l e R s m args below meth c H' locs' (cells + (h'.1.1 - h.1.1)) (slots + (h'.1.2 - h.1.2)) Q (F0 m pc' a' ((v.map (ms_tr g)).toList))) →
    W p l e R s m args below meth c H locs cells slots Q (F0 m pc a (st.map (ms_tr g)))
theorem ms_metOf {l : Launch} {g : ms_G} {d M : Nat} {As : List Value} {h : mx_MH} {v : Option Value} {h' : mx_MH} (h0 : 0 < M) (h1 : As.all mx_c1 = true) (h2 : ∃ mi, tb_mt M = some mi ∧ As.length ≤ mi.2.2.1) (hS : ms_Snd l g d M 0 (mx_ent M As) [] h v h') : ms_Met l g (d + 1) M As h v h' := by
  intro mj hj
  obtain ⟨mi, hmi, h2⟩ := h2
  obtain rfl : mi = mj := Option.some.inj (hmi.symm.trans hj)
  have hme := ms_meth hj h0
  refine Met.ofW (cc := mi.2.1) (maxL := mi.2.2.1) (ret := mi.2.2.2.1) hme.2.2.1 rfl ?_
  intro p e s m args below meth c s₁ B hml hv
  obtain ⟨rfl, hK, hR⟩ := hv
  have hts := atoms_spec (ws := ms_ws mi) B.pre
  have hlocks := B.notSynchronized
  have hr := B.returns
  have hx := B.exec
  have hb := B.bytes
  rw [lg_entry_eq]
  refine hS mi hj p e _ s m _ below meth c s.heap [] 0 0 _ _ ⟨hx, hb, hml, findClass_of_methodNamed B.named, fun w hw => hts w (List.mem_cons_of_mem _ hw), hK, fun hn => (name_of_methodNamed B.named B.method).1.trans hn, hme.2.1⟩ hR (ms_entry hK hj h1 h2) (fun q hq => by cases hq) (Nat.le_refl _) (Nat.le_refl _) (by rw [Nat.zero_add]; exact Nat.le_refl _) (by rw [Nat.zero_add]; exact Nat.le_refl _) ?_
  intro pc' a' H' locs' i hd hret hR' hl'
  rw [Nat.zero_add, Nat.zero_add]
  rcases hret with ⟨rfl, x, ty, rfl, hty, hn⟩ | ⟨rfl, w, rt, rfl, hw, hrt, hk⟩ | ⟨rfl, rfl, hn⟩
  · exact W.zret hx hb (hr.trans hty) hn (fun t ht _ => ⟨rfl, by rw [ht]; exact hR'⟩) hl' hd
  · refine W.aret hx hb (hr.trans hrt) hk ?_ (fun t ht _ => ⟨rfl, by rw [ht]; exact hR'⟩) hl' hd
    cases w <;> first | exact Or.inl rfl | exact Or.inr ⟨_, rfl⟩ | (simp [mx_iref] at hw)
  · exact W.vret hx hb (hr.trans hn) (fun t ht _ => ⟨rfl, by rw [ht]; exact hR'⟩) hl' hd
