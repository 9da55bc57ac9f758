section MSH
variable {g : ms_G} {mi : tb_MI} {p : Program} {l : Launch} {e : Env} {R : Room} {s : State} {m : MethodId} {args : Array Value} {below : List Frame} {meth : Method} {c : Code} {H : Heap} {locs : List Loc} {cells slots : Nat} {Q : State → Prop}
variable {pc : Nat} {a : Array Slot} {rest : List Value} {h : mx_MH}
theorem ms_cls (hK : ms_K g s) {ci : Nat} {r : vw_C} (hr : tb_cl[ci]? = some r) : u_Kn s r.1 r.2.1 r.2.2 ((ms_D g).1 ci) ((ms_D g).2 ci) := hK.1.1.1 ci r hr
theorem ms_lays (hw : ∀ w ∈ ms_gt, w.before args s = true) {ci : Nat} {r : vw_C} (hr : tb_cl[ci]? = some r) : ∀ w ∈ u_ws r.1 r.2.1 r.2.2, w ∈ ms_gt := by
  intro w hww
  obtain ⟨k, hk, rfl⟩ := List.mem_map.mp hww
  have h1 := List.all_eq_true.mp tc_lay r (List.mem_of_getElem? hr)
  have h2 := List.all_eq_true.mp h1 k hk
  simp only [Bool.and_eq_true, decide_eq_true_eq] at h2
  exact List.mem_filter.mpr h2
theorem ms_nms {ci : Nat} {r : vw_C} (hr : tb_cl[ci]? = some r) : ∀ a, a < r.2.2 → ∀ b, b < r.2.2 → a ≠ b → (r.2.1 a).2.1 ≠ (r.2.1 b).2.1 := by
  intro a ha b hb hab
  have h1 := List.all_eq_true.mp tc_nm r (List.mem_of_getElem? hr)
  have h2 := List.all_eq_true.mp (List.all_eq_true.mp h1 a (List.mem_range.mpr ha)) b (List.mem_range.mpr hb)
  simp only [Bool.or_eq_true, beq_iff_eq, decide_eq_true_eq] at h2
  rcases h2 with h2 | h2
  · exact absurd h2 hab
  · exact h2
theorem ms_tyk {ci : Nat} {r : vw_C} {t : Nat → FieldType} (hr : tb_cl[ci]? = some r) (ht : tb_tyl[ci]? = some t) : ∀ k, k < r.2.2 → parseFieldDescriptor (r.2.1 k).2.2.1 = some (t k) := by
  intro k hk
  have hz : (tb_cl.zip tb_tyl)[ci]? = some (r, t) := by
    rw [List.getElem?_zip_eq_some]
    exact ⟨hr, ht⟩
  have h1 := List.all_eq_true.mp tc_ty (r, t) (List.mem_of_getElem? hz)
  have h2 := List.all_eq_true.mp h1 k (List.mem_range.mpr hk)
  simpa using h2
theorem ms_tyx {ci : Nat} {r : vw_C} (hr : tb_cl[ci]? = some r) : ∃ t, tb_tyl[ci]? = some t := by
  have hl : ci < 13 := (List.getElem?_eq_some_iff.mp hr).1
  exact ⟨tb_tyl[ci]'hl, List.getElem?_eq_getElem hl⟩
/-- a field is read -/
theorem ms_getf (C : ms_X g mi p s m args meth c) (hR : ms_R g h H) {idx ad ci : Nat} {fs : List Value} {v : Value} {q : tb_FE} (hq : tb_F.find? (fun e => mx_k mi.2.2.2.2 idx e.1) = some q) (ho : mx_obj h ad = some (ci, fs)) (hci : q.2.2.2.1.contains ci = true) (hv : fs[q.2.2.1]? = some v) (hd : decode mi.2.1 pc = .ok (.getfield idx, 3))
    (kk : W p l e R s m args below meth c H locs cells slots Q (F0 m (pc + 3) a (ms_tr g v :: rest))) : W p l e R s m args below meth c H locs cells slots Q (F0 m pc a (.ref (ms_ad g ad) :: rest)) := by
  obtain ⟨hx, hb, -, hown, hw, hK, -, hcn⟩ := C
  obtain ⟨hm, hk⟩ := ms_fnd hq
  obtain ⟨k1, k2⟩ := ms_key hk hcn
  have ok := List.all_eq_true.mp tc_F_ok q hm
  unfold tc_F at ok
  have ok := List.all_eq_true.mp ok ci (by simpa using hci)
  have ho := mx_obj_eq ho
  by_cases ha : ad < 17
  · rw [hR.2.2.2.1 ad ha] at ho
    obtain ⟨h13, ⟨cell, q1, q2, q3, q4⟩, hf⟩ := hK.1.2.1 ad _ ha ho
    subst h13
    have hn : tb_cl[13]? = none := rfl
    rw [hn] at ok
    simp only [Bool.and_eq_true, decide_eq_true_eq] at ok
    have hlink := hw _ (ms_gw ok.2)
    rw [k1, k2] at hlink
    obtain ⟨cf, k, i, f, cell2, f1, f2, f3, f4, f5, f6⟩ := hf q.2.2.1 v ok.1.1.2 hv
    refine W.getf hx hb hown hlink f1 f2 (a := ms_ad g ad) (cell := cell2) ?_ f4 f5 rfl rfl hd kk
    rw [ms_ad_lo ha, hR.2.2.1 _ (hK.1.2.2.2.1 ad ha)]
    exact f3
  · obtain ⟨r, r1, r2, cell, q1, q2, q3, q4⟩ := hR.2.2.2.2 ad _ (by omega) ho
    rw [r1] at ok
    simp only [Bool.and_eq_true, decide_eq_true_eq] at ok
    have hlink := hw _ (ms_gw ok.1.1.1.2)
    rw [k1, k2] at hlink
    have hlt : q.2.2.1 < r.2.2 := ok.1.1.1.1
    obtain ⟨hS, hfc, kC, hkC, hkind⟩ := ms_cls hK r1
    obtain ⟨cf, kf, fi, f, hi, hsl⟩ := hS _ hlt
    refine W.getf hx hb hown hlink hi (u_facts hfc hkC (u_lays hw (ms_lays hw r1) hlt) hi).1 q1 (by rw [q3]; exact fun h => by cases h) (v := ms_tr g v) ?_ rfl rfl hd kk
    rw [hsl, q4 _ hlt]
    simp [vp_V, hv]
theorem ms_tcOk {tc : Nat} {v : Value} {d : String} {ty : FieldType} (h1 : mx_tcOk tc v = true) (h2 : tc_tc d = tc) (h3 : parseFieldDescriptor d = some ty) : narrow ty (ms_tr g v) = ms_tr g v ∧ fits ty (ms_tr g v) = true := by
  unfold tc_tc at h2
  rw [h3] at h2
  have hz : ∀ x : Int32, (x == 0 || x == 1) = true → x &&& 1 = x := by
    intro x hx
    simp only [Bool.or_eq_true, beq_iff_eq] at hx
    rcases hx with rfl | rfl <;> decide
  cases ty <;> simp only at h2 <;> subst h2 <;> cases v <;> simp_all [mx_tcOk, ms_tr, narrow, fits]
  rcases h1 with h1 | h1 <;> rw [h1] <;> decide
/-- a field is written -/
theorem ms_putf (C : ms_X g mi p s m args meth c) (hR : ms_R g h H) (hl : ∀ q ∈ locs, ms_b g ≤ q.base) {idx ad ci : Nat} {fs : List Value} {v : Value} {q : tb_FE} (hq : tb_F.find? (fun e => mx_k mi.2.2.2.2 idx e.1) = some q) (ho : mx_obj h ad = some (ci, fs)) (had : 17 ≤ ad) (hci : q.2.2.2.1.contains ci = true) (htc : mx_tcOk q.2.2.2.2.1 v = true) (hfi : q.2.2.2.2.2 = true → mi.1.name = "<init>") (hlen : q.2.2.1 < fs.length) (hd : decode mi.2.1 pc = .ok (.putfield idx, 3))
    (hdecl : q.2.2.2.2.2 = true → mx_decl ci q.2.2.1 mi.2.2.2.2 = true)
    (kk : ∀ (H1 : Heap) (locs1 : List Loc), ms_R g (mx_set h ad (.inl (ci, fs.set q.2.2.1 v))) H1 → (∀ q ∈ locs1, ms_b g ≤ q.base) → W p l e R s m args below meth c H1 locs1 cells slots Q (F0 m (pc + 3) a rest)) : W p l e R s m args below meth c H locs cells slots Q (F0 m pc a (ms_tr g v :: .ref (ms_ad g ad) :: rest)) := by
  obtain ⟨hx, hb, -, hown, hw, hK, hini, hcn⟩ := C
  obtain ⟨hm, hk⟩ := ms_fnd hq
  obtain ⟨k1, k2⟩ := ms_key hk hcn
  have ok := List.all_eq_true.mp tc_F_ok q hm
  unfold tc_F at ok
  have ok := List.all_eq_true.mp ok ci (by simpa using hci)
  have ho := mx_obj_eq ho
  obtain ⟨r, r1, r2, cell, q1, q2, q3, q4⟩ := hR.2.2.2.2 ad _ had ho
  rw [r1] at ok
  simp only [Bool.and_eq_true, decide_eq_true_eq] at ok
  have hlink := hw _ (ms_gw ok.1.1.1.2)
  rw [k1, k2] at hlink
  have hlt : q.2.2.1 < r.2.2 := ok.1.1.1.1
  have hfin : (r.2.1 q.2.2.1).2.2.2 = q.2.2.2.2.2 := ok.1.1.2
  obtain ⟨t, ht⟩ := ms_tyx r1
  have hty := ms_tyk r1 ht
  obtain ⟨hn, hfit⟩ := ms_tcOk (g := g) htc ok.1.2 (hty _ hlt)
  obtain ⟨hS, hfc, kC, hkC, hkind⟩ := ms_cls hK r1
  obtain ⟨cf, kf, fi, f, hi, hsl⟩ := hS _ hlt
  have hst := (u_facts hfc hkC (u_lays hw (ms_lays hw r1) hlt) hi).1
  have hap : ∀ x y, x < r.2.2 → y < r.2.2 → x ≠ y → ((ms_D g).2 ci) x ≠ ((ms_D g).2 ci) y := va_apart (own := mi.1.cls) (tys := ms_tyl g) hw (ms_lays hw r1) t hty (ms_nms r1) hK.1.1 r1
  have hlay := hw _ (ms_lays hw r1 _ (u_in_lay hlt))
  have fin : ∀ H1 : Heap, H1[ms_ad g ad]? = some (cell.setSlot ((ms_D g).2 ci q.2.2.1) (ms_tr g v)) → H1.size = H.size → (∀ z, z ≠ ms_ad g ad → H1[z]? = H[z]?) → ms_R g (mx_set h ad (.inl (ci, fs.set q.2.2.1 v))) H1 := by
    intro H1 e1 e2 e3
    refine hR.set had ⟨r, r1, by rw [List.length_set]; exact r2, ?_⟩ e2 e3
    refine t_OB.to (V := updV (vp_V (fs.map (ms_tr g))) q.2.2.1 (ms_tr g v)) ⟨_, e1, q2, q3, t_set q4 hap hlt _⟩ (fun j hj => ?_)
    rw [List.map_set]
    exact vp_updV_set (by rw [List.length_map]; exact hlen) _ j
  have lo1 : ∀ z ∈ locs ++ [(⟨ms_ad g ad, (ms_D g).2 ci q.2.2.1⟩ : Loc)], ms_b g ≤ z.base := by
    intro z hz
    rcases List.mem_append.mp hz with hz | hz
    · exact hl z hz
    · rw [List.mem_singleton.mp hz]
      show ms_b g ≤ ms_ad g ad
      rw [ms_ad_hi had]
      omega
  unfold u_lay at hlay
  by_cases hf : q.2.2.2.2.2 = true
  · rw [if_pos (by rw [hfin]; exact hf)] at hlay
    have hdc : (r.2.1 q.2.2.1).1 = mi.1.cls := by
      have hz := hdecl hf
      unfold mx_decl at hz
      rw [r1, hcn] at hz
      simpa using hz
    have hcf : m.cls = cf := by
      obtain ⟨_, _, c', _, _, _, -, -, hf', -, -, -, hown2, -⟩ := Cond.laysFinal_spec hlay
      have e1 : c' = cf := by have := hi.symm.trans hf'; simp at this; exact this.1.symm
      rw [hdc] at hown2
      rw [← e1]; exact Option.some.inj (hown.symm.trans hown2)
    have h6 := u_fits hfc hkC hkind (Or.inr hlay) hi (hty _ hlt) hn hfit
    refine W.putFinK hx hb hown hlink hi hst hcf (hini (hfi hf)) (by rw [q2]; exact h6) q1 q3 (by rw [hsl]; exact k2_hasslot (q4 _ hlt)) rfl rfl hd fun H' e1 e2 e3 => ?_
    rw [hsl] at e1 ⊢
    exact kk H' _ (fin H' e1 e2 e3) lo1
  · rw [if_neg (by rw [hfin]; exact hf)] at hlay
    have h6 := u_store hfc hkC hkind hlay hi (hty _ hlt) hn hfit
    refine W.putK hx hb (f := f) ⟨hown, hlink, ⟨_, _, _, hi⟩, hst⟩ (by rw [q2]; exact h6) q1 q3 (by rw [hsl]; exact k2_hasslot (q4 _ hlt)) rfl rfl hd fun H' e1 e2 e3 => ?_
    rw [hsl] at e1 ⊢
    exact kk H' _ (fin H' e1 e2 e3) lo1
end MSH
