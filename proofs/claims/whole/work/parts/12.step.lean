section MSS
variable {g : ms_G} {mi : tb_MI} {p : Program} {l : Launch} {e : Env} {R : Room} {s : State} {m : MethodId} {args : Array Value} {below : List Frame} {meth : Method} {c : Code} {H : Heap} {locs : List Loc} {cells slots : Nat} {Q : State → Prop}
variable {pc : Nat} {a : Array Slot} {rest : List Value} {h : mx_MH} {ls : mx_Lo} {st : List Value}
theorem ms_ldI (hL : ms_L g mi.2.2.1 ls a) {i pc1 pc' : Nat} {ls' : mx_Lo} {st' : List Value} {ef : mx_E} (hs : mx_loadI i pc1 ls st = some (.inl (pc', ls', st', ef))) : ∃ x, a[i]? = some (.val (.int x)) ∧ pc' = pc1 ∧ ls' = ls ∧ st' = .int x :: st ∧ ef = .inl () := by
  unfold mx_loadI at hs
  split at hs
  · rename_i x e1
    obtain ⟨rfl, rfl, rfl, rfl⟩ := mx_go_inv hs
    exact ⟨x, (hL.2.2.2 i _ e1).1, rfl, rfl, rfl, rfl⟩
  · cases hs
theorem ms_ldA (hL : ms_L g mi.2.2.1 ls a) {i pc1 pc' : Nat} {ls' : mx_Lo} {st' : List Value} {ef : mx_E} (hs : mx_loadA i pc1 ls st = some (.inl (pc', ls', st', ef))) : pc' = pc1 ∧ ls' = ls ∧ ef = .inl () ∧ ((∃ x, a[i]? = some (.val (.ref (ms_ad g x))) ∧ st' = .ref x :: st) ∨ (a[i]? = some (.val .null) ∧ st' = .null :: st)) := by
  unfold mx_loadA at hs
  split at hs
  · rename_i x e1
    obtain ⟨rfl, rfl, rfl, rfl⟩ := mx_go_inv hs
    exact ⟨rfl, rfl, rfl, Or.inl ⟨x, (hL.2.2.2 i _ e1).1, rfl⟩⟩
  · rename_i e1
    obtain ⟨rfl, rfl, rfl, rfl⟩ := mx_go_inv hs
    exact ⟨rfl, rfl, rfl, Or.inr ⟨(hL.2.2.2 i _ e1).1, rfl⟩⟩
  · cases hs
theorem ms_sto {i pc1 pc' : Nat} {v : Value} {ls' : mx_Lo} {r st' : List Value} {ef : mx_E} (hs : mx_store i pc1 v ls r = some (.inl (pc', ls', st', ef))) : i < ls.length ∧ pc' = pc1 ∧ ls' = ls.set i (some v) ∧ st' = r ∧ ef = .inl () := by
  unfold mx_store at hs
  split at hs
  · rename_i hi
    obtain ⟨rfl, rfl, rfl, rfl⟩ := mx_go_inv hs
    exact ⟨hi, rfl, rfl, rfl, rfl⟩
  · cases hs
theorem ms_c1 {v : Value} (hK : ms_K g s) (h : mx_c1 v = true) : v.category = 1 ∧ (ms_tr g v).category = 1 := by
  have h1 : v.category = 1 := by cases v <;> first | rfl | (simp [mx_c1] at h)
  exact ⟨h1, ms_tr_cat hK h1⟩
/-- what goes on behind an instruction -/
abbrev ms_kk (g : ms_G) (mi : tb_MI) (p : Program) (l : Launch) (e : Env) (R : Room) (s : State) (m : MethodId) (args : Array Value) (below : List Frame) (meth : Method) (c : Code) (cells slots : Nat) (Q : State → Prop) (h : mx_MH) (pc' : Nat) (ls' : mx_Lo) (st' : List Value) (ef : mx_E) : Prop :=
  ∀ (H' : Heap) (a' : Array Slot) (locs' : List Loc), ms_R g (mx_ap ef h) H' → ms_L g mi.2.2.1 ls' a' → (∀ q ∈ locs', ms_b g ≤ q.base) → W p l e R s m args below meth c H' locs' (cells + ms_dc ef) (slots + ms_ds ef) Q (F0 m pc' a' (st'.map (ms_tr g)))
theorem ms_brn (C : ms_X g mi p s m args meth c) (hR : ms_R g h H) (hL : ms_L g mi.2.2.1 ls a) (hl : ∀ q ∈ locs, ms_b g ≤ q.base) {cd : Jvm.ClassFile.Cond} {off : Int} {x y : Int32} {r : List Value} {pc' : Nat} {ls' : mx_Lo} {st' : List Value} {ef : mx_E} (hs : mx_br (mx_cmp cd x y) pc off ls r = some (.inl (pc', ls', st', ef))) (kk : ms_kk g mi p l e R s m args below meth c cells slots Q h pc' ls' st' ef) :
    ∃ tgt : Nat, (pc : Int) + off = (tgt : Int) ∧ ((mx_cmp cd x y = true ∧ W p l e R s m args below meth c H locs cells slots Q (F0 m tgt a (r.map (ms_tr g)))) ∨ (mx_cmp cd x y = false ∧ W p l e R s m args below meth c H locs cells slots Q (F0 m (pc + 3) a (r.map (ms_tr g))))) := by
  unfold mx_br at hs
  split at hs
  · rename_i h0
    refine ⟨((pc : Int) + off).toNat, by omega, ?_⟩
    split at hs
    · rename_i hb
      obtain ⟨rfl, rfl, rfl, rfl⟩ := mx_go_inv hs
      exact Or.inl ⟨hb, kk H a locs hR hL hl⟩
    · rename_i hb
      obtain ⟨rfl, rfl, rfl, rfl⟩ := mx_go_inv hs
      exact Or.inr ⟨by simpa using hb, kk H a locs hR hL hl⟩
  · cases hs
theorem ms_if (C : ms_X g mi p s m args meth c) {cd : Jvm.ClassFile.Cond} {off : Int} {x : Int32} {r : List Value} (hd : decode mi.2.1 pc = .ok (.ifCond cd off, 3)) (hh : ∃ tgt : Nat, (pc : Int) + off = (tgt : Int) ∧ ((mx_cmp cd x 0 = true ∧ W p l e R s m args below meth c H locs cells slots Q (F0 m tgt a (r.map (ms_tr g)))) ∨ (mx_cmp cd x 0 = false ∧ W p l e R s m args below meth c H locs cells slots Q (F0 m (pc + 3) a (r.map (ms_tr g)))))) :
    W p l e R s m args below meth c H locs cells slots Q (F0 m pc a (.int x :: r.map (ms_tr g))) := by
  have hx := C.1
  have hb := C.2.1
  obtain ⟨tgt, ht, ⟨hc, w⟩ | ⟨hc, w⟩⟩ := hh
  · cases cd <;> simp only [mx_cmp, decide_eq_true_eq] at hc
    · exact lv_if_eq hx hb hd ht (fun _ => w) (fun q => absurd hc q)
    · exact lv_if_ne hx hb hd ht (fun _ => w) (fun q => absurd hc (by simpa using q))
    · exact lv_if_lt hx hb hd ht (fun _ => w) (fun q => absurd hc q)
    · exact lv_if_ge hx hb hd ht (fun _ => w) (fun q => absurd hc q)
    · exact lv_if_gt hx hb hd ht (fun _ => w) (fun q => absurd hc q)
    · exact lv_if_le hx hb hd ht (fun _ => w) (fun q => absurd hc q)
  · cases cd <;> simp only [mx_cmp, decide_eq_false_iff_not] at hc
    · exact lv_if_eq hx hb hd ht (fun q => absurd q hc) (fun _ => w)
    · exact lv_if_ne hx hb hd ht (fun q => absurd q (by simpa using hc)) (fun _ => w)
    · exact lv_if_lt hx hb hd ht (fun q => absurd q hc) (fun _ => w)
    · exact lv_if_ge hx hb hd ht (fun q => absurd q hc) (fun _ => w)
    · exact lv_if_gt hx hb hd ht (fun q => absurd q hc) (fun _ => w)
    · exact lv_if_le hx hb hd ht (fun q => absurd q hc) (fun _ => w)
theorem ms_icmp (C : ms_X g mi p s m args meth c) {cd : Jvm.ClassFile.Cond} {off : Int} {x y : Int32} {r : List Value} (hd : decode mi.2.1 pc = .ok (.if_icmp cd off, 3)) (hh : ∃ tgt : Nat, (pc : Int) + off = (tgt : Int) ∧ ((mx_cmp cd x y = true ∧ W p l e R s m args below meth c H locs cells slots Q (F0 m tgt a (r.map (ms_tr g)))) ∨ (mx_cmp cd x y = false ∧ W p l e R s m args below meth c H locs cells slots Q (F0 m (pc + 3) a (r.map (ms_tr g)))))) :
    W p l e R s m args below meth c H locs cells slots Q (F0 m pc a (.int y :: .int x :: r.map (ms_tr g))) := by
  have hx := C.1
  have hb := C.2.1
  obtain ⟨tgt, ht, ⟨hc, w⟩ | ⟨hc, w⟩⟩ := hh
  · cases cd <;> simp only [mx_cmp, decide_eq_true_eq] at hc
    · exact lv_icmp_eq hx hb hd ht (fun _ => w) (fun q => absurd hc q)
    · exact lv_icmp_ne hx hb hd ht (fun _ => w) (fun q => absurd hc (by simpa using q))
    · exact lv_icmp_lt hx hb hd ht (fun _ => w) (fun q => absurd hc q)
    · exact lv_icmp_ge hx hb hd ht (fun _ => w) (fun q => absurd hc q)
    · exact lv_icmp_gt hx hb hd ht (fun _ => w) (fun q => absurd hc q)
    · exact lv_icmp_le hx hb hd ht (fun _ => w) (fun q => absurd hc q)
  · cases cd <;> simp only [mx_cmp, decide_eq_false_iff_not] at hc
    · exact lv_icmp_eq hx hb hd ht (fun q => absurd q hc) (fun _ => w)
    · exact lv_icmp_ne hx hb hd ht (fun q => absurd q (by simpa using hc)) (fun _ => w)
    · exact lv_icmp_lt hx hb hd ht (fun q => absurd q hc) (fun _ => w)
    · exact lv_icmp_ge hx hb hd ht (fun q => absurd q hc) (fun _ => w)
    · exact lv_icmp_gt hx hb hd ht (fun q => absurd q hc) (fun _ => w)
    · exact lv_icmp_le hx hb hd ht (fun q => absurd q hc) (fun _ => w)
end MSS
