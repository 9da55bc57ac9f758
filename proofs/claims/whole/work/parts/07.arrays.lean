section MSA
variable {g : ms_G} {mi : tb_MI} {p : Program} {l : Launch} {e : Env} {R : Room} {s : State} {m : MethodId} {args : Array Value} {below : List Frame} {meth : Method} {c : Code} {H : Heap} {locs : List Loc} {cells slots : Nat} {Q : State → Prop}
variable {pc : Nat} {a : Array Slot} {rest : List Value} {h : mx_MH}
theorem ms_rd (hK : ms_K g s) (hR : ms_R g h H) {ad n : Nat} {ty : FieldType} {V : Nat → Value} (ea : mx_arr h ad = some (ty, n, V)) {j : Int32} (hj : mx_in j n = true) :
    ∃ cell : Cell, H[ms_ad g ad]? = some cell ∧ s.isArrayOf cell ty ∧ cell.vm ≠ .unknown ∧ ¬ (j < 0 ∨ cell.slots.size ≤ j.toNatClampNeg) ∧ cell.slots[j.toNatClampNeg]? = some (ms_tr g (V j.toNatClampNeg)) := by
  obtain ⟨cell, h1, h2, h3, h4, h5, h6⟩ := ms_arr hK hR ea
  have hi := mx_in_of hj
  have hlt : j.toNatClampNeg < n := Nat.not_le.mp fun q => hi (Or.inr q)
  exact ⟨cell, h1, h2, h3, fun q => q.elim (fun q => hi (Or.inl q)) (fun q => by omega), h6 _ hlt⟩
theorem ms_iald (C : ms_X g mi p s m args meth c) (hR : ms_R g h H) {ad n : Nat} {V : Nat → Value} (ea : mx_arr h ad = some (.int, n, V)) {j : Int32} (hj : mx_in j n = true) (hd : decode mi.2.1 pc = .ok (.iaload, 1))
    (kk : W p l e R s m args below meth c H locs cells slots Q (F0 m (pc + 1) a (ms_tr g (V j.toNatClampNeg) :: rest))) : W p l e R s m args below meth c H locs cells slots Q (F0 m pc a (.int j :: .ref (ms_ad g ad) :: rest)) := by
  obtain ⟨cell, h1, h2, h3, h4, h5⟩ := ms_rd C.2.2.2.2.2.1 hR ea hj
  exact W.iald C.1 C.2.1 h1 h2 h3 h4 h5 rfl rfl hd kk
theorem ms_bald (C : ms_X g mi p s m args meth c) (hR : ms_R g h H) {ad n : Nat} {V : Nat → Value} (ea : mx_arr h ad = some (.byte, n, V)) {j : Int32} (hj : mx_in j n = true) (hd : decode mi.2.1 pc = .ok (.baload, 1))
    (kk : W p l e R s m args below meth c H locs cells slots Q (F0 m (pc + 1) a (ms_tr g (V j.toNatClampNeg) :: rest))) : W p l e R s m args below meth c H locs cells slots Q (F0 m pc a (.int j :: .ref (ms_ad g ad) :: rest)) := by
  obtain ⟨cell, h1, h2, h3, h4, h5⟩ := ms_rd C.2.2.2.2.2.1 hR ea hj
  exact W.bald C.1 C.2.1 h1 h2 h3 h4 h5 rfl rfl hd kk
theorem ms_sald (C : ms_X g mi p s m args meth c) (hR : ms_R g h H) {ad n : Nat} {V : Nat → Value} (ea : mx_arr h ad = some (.short, n, V)) {j : Int32} (hj : mx_in j n = true) (hd : decode mi.2.1 pc = .ok (.saload, 1))
    (kk : W p l e R s m args below meth c H locs cells slots Q (F0 m (pc + 1) a (ms_tr g (V j.toNatClampNeg) :: rest))) : W p l e R s m args below meth c H locs cells slots Q (F0 m pc a (.int j :: .ref (ms_ad g ad) :: rest)) := by
  obtain ⟨cell, h1, h2, h3, h4, h5⟩ := ms_rd C.2.2.2.2.2.1 hR ea hj
  exact W.sald C.1 C.2.1 h1 h2 h3 h4 h5 rfl rfl hd kk
theorem ms_fald (C : ms_X g mi p s m args meth c) (hR : ms_R g h H) {ad n : Nat} {V : Nat → Value} (ea : mx_arr h ad = some (.float, n, V)) {j : Int32} (hj : mx_in j n = true) (hd : decode mi.2.1 pc = .ok (.faload, 1))
    (kk : W p l e R s m args below meth c H locs cells slots Q (F0 m (pc + 1) a (ms_tr g (V j.toNatClampNeg) :: rest))) : W p l e R s m args below meth c H locs cells slots Q (F0 m pc a (.int j :: .ref (ms_ad g ad) :: rest)) := by
  obtain ⟨cell, h1, h2, h3, h4, h5⟩ := ms_rd C.2.2.2.2.2.1 hR ea hj
  exact W.fald C.1 C.2.1 h1 h2 h3 h4 h5 rfl rfl hd kk
theorem ms_aald (C : ms_X g mi p s m args meth c) (hR : ms_R g h H) {ad n : Nat} {V : Nat → Value} {K : String} (ea : mx_arr h ad = some (.object K, n, V)) {j : Int32} (hj : mx_in j n = true) (hd : decode mi.2.1 pc = .ok (.aaload, 1))
    (kk : W p l e R s m args below meth c H locs cells slots Q (F0 m (pc + 1) a (ms_tr g (V j.toNatClampNeg) :: rest))) : W p l e R s m args below meth c H locs cells slots Q (F0 m pc a (.int j :: .ref (ms_ad g ad) :: rest)) := by
  obtain ⟨cell, h1, h2, h3, h4, h5⟩ := ms_rd C.2.2.2.2.2.1 hR ea hj
  exact W.aald C.1 C.2.1 h1 h2 rfl h3 h4 h5 rfl rfl hd kk
theorem ms_alen (C : ms_X g mi p s m args meth c) (hR : ms_R g h H) {ad n : Nat} {ty : FieldType} {V : Nat → Value} (ea : mx_arr h ad = some (ty, n, V)) (hd : decode mi.2.1 pc = .ok (.arraylength, 1))
    (kk : W p l e R s m args below meth c H locs cells slots Q (F0 m (pc + 1) a (.int (Int32.ofNat n) :: rest))) : W p l e R s m args below meth c H locs cells slots Q (F0 m pc a (.ref (ms_ad g ad) :: rest)) := by
  obtain ⟨cell, h1, h2, h3, h4, h5, h6⟩ := ms_arr C.2.2.2.2.2.1 hR ea
  exact W.alen C.1 C.2.1 h1 h2 h5 rfl rfl hd kk
theorem ms_loc (hl : ∀ q ∈ locs, ms_b g ≤ q.base) {ad : Nat} (had : 17 ≤ ad) (i : Nat) : ∀ z ∈ locs ++ [(⟨ms_ad g ad, i⟩ : Loc)], ms_b g ≤ z.base := by
  intro z hz
  rcases List.mem_append.mp hz with hz | hz
  · exact hl z hz
  · rw [List.mem_singleton.mp hz]
    show ms_b g ≤ ms_ad g ad
    rw [ms_ad_hi had]
    omega
/-- the cell of an array that may be written -/
theorem ms_wr (hR : ms_R g h H) {ad n : Nat} {ty : FieldType} {V : Nat → Value} (ea : mx_arr h ad = some (ty, n, V)) (had : 17 ≤ ad) : ty ∈ ms_tys ∧ H[ms_ad g ad]? = some (arrV (ms_cA g ty) n (fun j => ms_tr g (V j))) := hR.2.2.2.2 ad _ had (mx_arr_eq ea)
theorem ms_up {ty : FieldType} {n j : Nat} {V : Nat → Value} {v : Value} : (arrV (ms_cA g ty) n (fun j => ms_tr g (V j))).setSlot j (ms_tr g v) = arrV (ms_cA g ty) n (fun i => ms_tr g (mx_up V j v i)) := by
  rw [arrV_store]
  congr 1
  funext i
  unfold updV mx_up
  by_cases hi : i = j
  · rw [if_pos hi, if_pos hi]
  · rw [if_neg hi, if_neg hi]
theorem ms_stored (hR : ms_R g h H) {ad n : Nat} {ty : FieldType} {V : Nat → Value} (ht : ty ∈ ms_tys) (had : 17 ≤ ad) {j : Nat} {v : Value} {H1 : Heap} (e1 : H1[ms_ad g ad]? = some ((arrV (ms_cA g ty) n (fun j => ms_tr g (V j))).setSlot j (ms_tr g v))) (e2 : H1.size = H.size) (e3 : ∀ q, q ≠ ms_ad g ad → H1[q]? = H[q]?) :
    ms_R g (mx_set h ad (.inr (ty, n, mx_up V j v))) H1 := by
  refine hR.set had ⟨ht, ?_⟩ e2 e3
  rw [e1, ms_up]
theorem ms_inA {j : Int32} {n : Nat} {cA : ClassId} {f : Nat → Value} (hj : mx_in j n = true) : ¬ (j < 0 ∨ (arrV cA n f).slots.size ≤ j.toNatClampNeg) := by
  rw [arrV_size]
  exact mx_in_of hj
theorem ms_iast (C : ms_X g mi p s m args meth c) (hR : ms_R g h H) (hl : ∀ q ∈ locs, ms_b g ≤ q.base) {ad n : Nat} {V : Nat → Value} (ea : mx_arr h ad = some (.int, n, V)) (had : 17 ≤ ad) {j x : Int32} (hj : mx_in j n = true) (hd : decode mi.2.1 pc = .ok (.iastore, 1))
    (kk : ∀ (H1 : Heap) (locs1 : List Loc), ms_R g (mx_set h ad (.inr (.int, n, mx_up V j.toNatClampNeg (.int (mx_nar .int x))))) H1 → (∀ q ∈ locs1, ms_b g ≤ q.base) → W p l e R s m args below meth c H1 locs1 cells slots Q (F0 m (pc + 1) a rest)) : W p l e R s m args below meth c H locs cells slots Q (F0 m pc a (.int x :: .int j :: .ref (ms_ad g ad) :: rest)) := by
  obtain ⟨ht, hc⟩ := ms_wr hR ea had
  exact W.iast C.1 C.2.1 hc ((ms_ty C.2.2.2.2.2.1 ht).1 n _) (fun q => by cases q) (ms_inA hj) rfl rfl hd fun H1 e1 e2 e3 => kk H1 _ (ms_stored hR ht had (v := .int x) e1 e2 e3) (ms_loc hl had _)
theorem ms_bast (C : ms_X g mi p s m args meth c) (hR : ms_R g h H) (hl : ∀ q ∈ locs, ms_b g ≤ q.base) {ad n : Nat} {V : Nat → Value} (ea : mx_arr h ad = some (.byte, n, V)) (had : 17 ≤ ad) {j x : Int32} (hj : mx_in j n = true) (hd : decode mi.2.1 pc = .ok (.bastore, 1))
    (kk : ∀ (H1 : Heap) (locs1 : List Loc), ms_R g (mx_set h ad (.inr (.byte, n, mx_up V j.toNatClampNeg (.int (mx_nar .byte x))))) H1 → (∀ q ∈ locs1, ms_b g ≤ q.base) → W p l e R s m args below meth c H1 locs1 cells slots Q (F0 m (pc + 1) a rest)) : W p l e R s m args below meth c H locs cells slots Q (F0 m pc a (.int x :: .int j :: .ref (ms_ad g ad) :: rest)) := by
  obtain ⟨ht, hc⟩ := ms_wr hR ea had
  exact W.bast C.1 C.2.1 hc ((ms_ty C.2.2.2.2.2.1 ht).1 n _) (fun q => by cases q) (ms_inA hj) rfl rfl hd fun H1 e1 e2 e3 => kk H1 _ (ms_stored hR ht had (v := .int (mx_nar .byte x)) e1 e2 e3) (ms_loc hl had _)
theorem ms_sast (C : ms_X g mi p s m args meth c) (hR : ms_R g h H) (hl : ∀ q ∈ locs, ms_b g ≤ q.base) {ad n : Nat} {V : Nat → Value} (ea : mx_arr h ad = some (.short, n, V)) (had : 17 ≤ ad) {j x : Int32} (hj : mx_in j n = true) (hd : decode mi.2.1 pc = .ok (.sastore, 1))
    (kk : ∀ (H1 : Heap) (locs1 : List Loc), ms_R g (mx_set h ad (.inr (.short, n, mx_up V j.toNatClampNeg (.int (mx_nar .short x))))) H1 → (∀ q ∈ locs1, ms_b g ≤ q.base) → W p l e R s m args below meth c H1 locs1 cells slots Q (F0 m (pc + 1) a rest)) : W p l e R s m args below meth c H locs cells slots Q (F0 m pc a (.int x :: .int j :: .ref (ms_ad g ad) :: rest)) := by
  obtain ⟨ht, hc⟩ := ms_wr hR ea had
  exact W.sast C.1 C.2.1 hc ((ms_ty C.2.2.2.2.2.1 ht).1 n _) (fun q => by cases q) (ms_inA hj) rfl rfl hd fun H1 e1 e2 e3 => kk H1 _ (ms_stored hR ht had (v := .int (mx_nar .short x)) e1 e2 e3) (ms_loc hl had _)
theorem ms_fast (C : ms_X g mi p s m args meth c) (hR : ms_R g h H) (hl : ∀ q ∈ locs, ms_b g ≤ q.base) {ad n : Nat} {V : Nat → Value} (ea : mx_arr h ad = some (.float, n, V)) (had : 17 ≤ ad) {j : Int32} {x : UInt32} (hj : mx_in j n = true) (hd : decode mi.2.1 pc = .ok (.fastore, 1))
    (kk : ∀ (H1 : Heap) (locs1 : List Loc), ms_R g (mx_set h ad (.inr (.float, n, mx_up V j.toNatClampNeg (.float x)))) H1 → (∀ q ∈ locs1, ms_b g ≤ q.base) → W p l e R s m args below meth c H1 locs1 cells slots Q (F0 m (pc + 1) a rest)) : W p l e R s m args below meth c H locs cells slots Q (F0 m pc a (.float x :: .int j :: .ref (ms_ad g ad) :: rest)) := by
  obtain ⟨ht, hc⟩ := ms_wr hR ea had
  exact W.fast C.1 C.2.1 hc ((ms_ty C.2.2.2.2.2.1 ht).1 n _) (fun q => by cases q) (ms_inA hj) rfl rfl hd fun H1 e1 e2 e3 => kk H1 _ (ms_stored hR ht had (v := .float x) e1 e2 e3) (ms_loc hl had _)
theorem ms_aasN (C : ms_X g mi p s m args meth c) (hR : ms_R g h H) (hl : ∀ q ∈ locs, ms_b g ≤ q.base) {ad n : Nat} {V : Nat → Value} {K : String} (ea : mx_arr h ad = some (.object K, n, V)) (had : 17 ≤ ad) {j : Int32} (hj : mx_in j n = true) (hd : decode mi.2.1 pc = .ok (.aastore, 1))
    (kk : ∀ (H1 : Heap) (locs1 : List Loc), ms_R g (mx_set h ad (.inr (.object K, n, mx_up V j.toNatClampNeg .null))) H1 → (∀ q ∈ locs1, ms_b g ≤ q.base) → W p l e R s m args below meth c H1 locs1 cells slots Q (F0 m (pc + 1) a rest)) : W p l e R s m args below meth c H locs cells slots Q (F0 m pc a (.null :: .int j :: .ref (ms_ad g ad) :: rest)) := by
  obtain ⟨ht, hc⟩ := ms_wr hR ea had
  exact va_WaastN (C := K) C.1 C.2.1 hc ((ms_ty C.2.2.2.2.2.1 ht).1 n _) (fun q => by cases q) (ms_inA hj) rfl rfl hd fun H1 e1 e2 e3 => kk H1 _ (ms_stored hR ht had (v := .null) e1 e2 e3) (ms_loc hl had _)
theorem ms_casts (hK : ms_K g s) {ci : Nat} {r : vw_C} {K : String} (hr : tb_cl[ci]? = some r) (hKl : K ∈ tc_al) (hc : mx_cast ci K = true) {comp : ClassId} (hcomp : s.vm.findClass K = some comp) : s.vm.assignable ((ms_D g).1 ci) comp = true := by
  have hci : ci < 13 := (List.getElem?_eq_some_iff.mp hr).1
  have ok := List.all_eq_true.mp (List.all_eq_true.mp tc_cab ci (List.mem_range.mpr hci)) K hKl
  rw [hc] at ok
  simp only [Bool.not_true, Bool.false_or, Bool.or_eq_true, Bool.and_eq_true, decide_eq_true_eq, List.any_eq_true, beq_iff_eq] at ok
  have hcl := (ms_cls hK hr).2
  rcases ok with ok | ⟨rfl, q, hq, rfl⟩
  · unfold tc_cbf at ok
    rw [hr] at ok
    simp only [decide_eq_true_eq] at ok
    rw [← ok] at hcomp
    cases hcl.1.symm.trans hcomp
    exact va_assign hcl
  · obtain ⟨c0, t0, f1, f2, f3⟩ := Cond.castable_spec (va_Nw.use (A := #[]) rfl (hK.2.2.2 q hq r hr))
    cases hcl.1.symm.trans f1
    cases hcomp.symm.trans f2
    exact f3
theorem ms_al {K : String} (h : FieldType.object K ∈ ms_tys) : K ∈ tc_al := by
  simp only [ms_tys, List.mem_cons, List.not_mem_nil, or_false, reduceCtorEq, false_or, FieldType.object.injEq] at h
  simp only [tc_al, List.mem_cons, List.not_mem_nil, or_false]
  exact h
theorem ms_aast (C : ms_X g mi p s m args meth c) (hR : ms_R g h H) (hl : ∀ q ∈ locs, ms_b g ≤ q.base) {ad n : Nat} {V : Nat → Value} {K : String} (ea : mx_arr h ad = some (.object K, n, V)) (had : 17 ≤ ad) {v ci : Nat} {fs : List Value} (ev : mx_obj h v = some (ci, fs)) (hv : 17 ≤ v) (hc : mx_cast ci K = true) {j : Int32} (hj : mx_in j n = true) (hd : decode mi.2.1 pc = .ok (.aastore, 1))
    (kk : ∀ (H1 : Heap) (locs1 : List Loc), ms_R g (mx_set h ad (.inr (.object K, n, mx_up V j.toNatClampNeg (.ref v)))) H1 → (∀ q ∈ locs1, ms_b g ≤ q.base) → W p l e R s m args below meth c H1 locs1 cells slots Q (F0 m (pc + 1) a rest)) : W p l e R s m args below meth c H locs cells slots Q (F0 m pc a (.ref (ms_ad g v) :: .int j :: .ref (ms_ad g ad) :: rest)) := by
  obtain ⟨ht, hca⟩ := ms_wr hR ea had
  have hK := C.2.2.2.2.2.1
  obtain ⟨r, r1, r2, cellV, g1, g2, g3, -⟩ := hR.2.2.2.2 v _ hv (mx_obj_eq ev)
  obtain ⟨kA, comp, k1, k2, k3, -⟩ := (ms_ty hK ht).2
  have has := ms_casts hK r1 (ms_al ht) hc k3
  obtain ⟨kC, hkC, -⟩ := (ms_cls hK r1).2.2
  have hkc : ∃ kk : Class, s.vm.classes[comp]? = some kk := Vm.classAt_of_findClass k3
  obtain ⟨kcomp, hkcomp⟩ := hkc
  have hi := mx_in_of hj
  refine W.aast C.1 C.2.1 hca (fun q h => by cases h) (fun h => by cases h) k1 k2 rfl hkcomp ⟨fun q => hi (Or.inl q), by rw [arrV_size]; exact Nat.not_le.mp fun q => hi (Or.inr q)⟩ g1 (fun q h => by rw [g3] at h; cases h) (by rw [g2]; exact hkC) (by rw [g2]; exact has) rfl rfl hd fun H1 e1 e2 e3 => kk H1 _ (ms_stored hR ht had (v := .ref v) e1 e2 e3) (ms_loc hl had _)
end MSA
