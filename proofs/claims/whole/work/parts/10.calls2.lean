section MSD
variable {g : ms_G} {mi : tb_MI} {p : Program} {l : Launch} {e : Env} {R : Room} {s : State} {m : MethodId} {args : Array Value} {below : List Frame} {meth : Method} {c : Code} {H : Heap} {locs : List Loc} {cells slots : Nat} {Q : State → Prop}
variable {pc : Nat} {a : Array Slot} {rest : List Value} {h : mx_MH}
/-- a constructor's call -/
theorem ms_cK (C : ms_X g mi p s m args meth c) (hR : ms_R g h H) (hl : ∀ q ∈ locs, ms_b g ≤ q.base) (hsz : a.size = mi.2.2.1) {d : Nat} (hfr : d + 2 ≤ R.frames) (hlo : 40 * (d + 2) ≤ R.locals) {idx ad : Nat} {q : Nat × Nat × Nat × Nat × Bool × Nat × Nat × Nat} (hq : tb_K.find? (fun e => mx_k mi.2.2.2.2 idx e.1) = some q) {As r : List Value} (hAs : As.length = q.2.2.2.1) (hr : r.length ≤ 4) {v : Option Value} {h' : mx_MH} (hM : ms_Met l g d q.2.2.1 (.ref ad :: As) h v h')
    (hc : cells + (h'.1.1 - h.1.1) ≤ R.cells) (hs : slots + (h'.1.2 - h.1.2) ≤ R.slots) (hd : decode mi.2.1 pc = .ok (.invokespecial idx, 3))
    (kk : ∀ (H1 : Heap) (locs1 : List Loc), ms_R g h' H1 → (∀ q ∈ locs1, ms_b g ≤ q.base) → W p l e R s m args below meth c H1 locs1 (cells + (h'.1.1 - h.1.1)) (slots + (h'.1.2 - h.1.2)) Q (F0 m (pc + 3) a ((v.map (ms_tr g)).toList ++ r.map (ms_tr g)))) : W p l e R s m args below meth c H locs cells slots Q (F0 m pc a ((As.reverse ++ .ref ad :: r).map (ms_tr g))) := by
  obtain ⟨hx, hb, hml, hown, hw, hK, -, hcn⟩ := id C
  obtain ⟨hm, hk⟩ := ms_fnd hq
  obtain ⟨k1, k2⟩ := ms_key hk hcn
  have ok := List.all_eq_true.mp tc_K_ok q hm
  unfold tc_K at ok
  cases hj : tb_mt q.2.2.1 with
  | none => rw [hj] at ok; cases ok
  | some mj =>
    rw [hj] at ok
    simp only [Bool.and_eq_true, tc_code, decide_eq_true_eq] at ok
    obtain ⟨⟨⟨⟨⟨⟨o1, o2⟩, o3⟩, o4⟩, o5⟩, o6⟩, o7⟩ := ok
    have hme := ms_meth hj o4
    have hroom := ms_rmR (R := R) (mc := h'.1.1 - h.1.1) (ms := h'.1.2 - h.1.2) hj o4 rfl hfr hlo
    have hpre : PreS s H (ms_Pc g (.ref ad :: As) h) (.ref (ms_ad g ad) :: As.map (ms_tr g)) := ⟨ms_blind g _ h, fun U hU hW => ms_pre hK hR hU hW⟩
    have hstk : ((As.reverse ++ .ref ad :: r).map (ms_tr g)) = (As.map (ms_tr g)).reverse ++ .ref (ms_ad g ad) :: r.map (ms_tr g) := by simp [ms_tr]
    have hrr := ms_rest g hr
    have hM' := hM mj hj
    have hcd := hw _ (ms_code hj o4)
    have hin0 : Jvm.Cond.code mj.1 mj.2.1 mj.2.2.1 none ∈ ms_ws mj := by rw [← o7]; exact List.mem_cons_self
    rw [o7] at hcd
    by_cases hn : q.2.2.2.2.1 = true
    · simp only [hn, if_true] at o1
      have hin : Jvm.Cond.methodLinkNest (tc_n q.1) (q.1 % 4096) mj.1 "NineSail" ∈ ms_nest := ms_nestK q hm hn hj
      have hlink := va_Nw.use (A := args) rfl (hK.2.1 _ hin)
      rw [k1, k2] at hlink
      exact ms_back (va_runIN (As := As.map (ms_tr g)) (b := ms_ad g ad) (rest := r.map (ms_tr g)) (Ts := ms_gt) ⟨hx, hb, hml, hown, hw⟩ hM' ⟨⟨⟨rfl, rfl, hroom.1, hroom.2, pay_in hw (ms_good hj o4), hin0⟩, hcd, hw _ (ms_gw o3), hme.2.2.2, ms_par' o5, hlink⟩, o6, hw _ (ms_gw o2)⟩ hpre rfl (by rw [List.length_map]; exact hAs) hsz hstk (by show 2 * 0 + _ ≤ 8; omega) hd ⟨hc, hs⟩) hl kk
    · simp only [hn, if_false] at o1
      have hlink := hw _ (ms_gw o1)
      rw [k1, k2] at hlink
      exact ms_back (va_runI (As := As.map (ms_tr g)) (b := ms_ad g ad) (rest := r.map (ms_tr g)) (Ts := ms_gt) ⟨hx, hb, hml, hown, hw⟩ hM' ⟨⟨rfl, rfl, hroom.1, hroom.2, pay_in hw (ms_good hj o4), hin0, hcd, hw _ (ms_gw o3), hme.2.2.2, ms_par' o5, hlink⟩, o6, hw _ (ms_gw o2)⟩ hpre rfl (by rw [List.length_map]; exact hAs) hsz hstk (by show 2 * 0 + _ ≤ 8; omega) hd ⟨hc, hs⟩) hl kk
theorem ms_cn13 {ci : Nat} {r : vw_C} (hr : tb_cl[ci]? = some r) : tb_cn[ci]? = some r.1 := by
  have key : (List.range 13).all (fun ci => decide (tb_cn[ci]? = (tb_cl[ci]?).map (fun r => r.1))) = true := by decide +kernel
  have hci : ci < 13 := (List.getElem?_eq_some_iff.mp hr).1
  have h := List.all_eq_true.mp key ci (List.mem_range.mpr hci)
  simp only [decide_eq_true_eq] at h
  rw [h, hr]
  rfl
/-- the receiver's cell and what it is of -/
theorem ms_recv (hK : ms_K g s) (hR : ms_R g h H) {ad ci : Nat} {fs : List Value} (ho : mx_obj h ad = some (ci, fs)) : ∃ K : String, tb_cn[ci]? = some K ∧ ∃ cell : Cell, H[ms_ad g ad]? = some cell ∧ cell.vm.isStatics = false ∧ s.vm.findClass K = some cell.cls := by
  have ho := mx_obj_eq ho
  by_cases ha : ad < 17
  · rw [hR.2.2.2.1 ad ha] at ho
    obtain ⟨h13, ⟨cell, q1, q2, q3, q4⟩, hf⟩ := hK.1.2.1 ad _ ha ho
    subst h13
    exact ⟨"java/lang/String", rfl, cell, by rw [ms_ad_lo ha, hR.2.2.1 _ (hK.1.2.2.2.1 ad ha)]; exact q1, q2, q3⟩
  · obtain ⟨r, r1, r2, cell, q1, q2, q3, q4⟩ := hR.2.2.2.2 ad _ (by omega) ho
    exact ⟨r.1, ms_cn13 r1, cell, q1, by rw [q3]; rfl, by rw [q2]; exact (ms_cls hK r1).2.1⟩
/-- super.m(..) -/
theorem ms_cU (C : ms_X g mi p s m args meth c) (hR : ms_R g h H) (hl : ∀ q ∈ locs, ms_b g ≤ q.base) (hsz : a.size = mi.2.2.1) {d : Nat} (hfr : d + 2 ≤ R.frames) (hlo : 40 * (d + 2) ≤ R.locals) {idx ad ci : Nat} {fs : List Value} (ho : mx_obj h ad = some (ci, fs)) (had : 17 ≤ ad) {q : Nat × Nat × Nat × Nat × Nat × Nat × Nat × Nat × Nat} (hq : tb_U.find? (fun e => mx_k mi.2.2.2.2 idx e.1) = some q) {As r : List Value} (hAs : As.length = q.2.2.2.1) (hr : r.length ≤ 4) {v : Option Value} {h' : mx_MH} (hM : ms_Met l g d q.2.2.1 (.ref ad :: As) h v h')
    (hc : cells + (h'.1.1 - h.1.1) ≤ R.cells) (hs : slots + (h'.1.2 - h.1.2) ≤ R.slots) (hd : decode mi.2.1 pc = .ok (.invokespecial idx, 3))
    (kk : ∀ (H1 : Heap) (locs1 : List Loc), ms_R g h' H1 → (∀ q ∈ locs1, ms_b g ≤ q.base) → W p l e R s m args below meth c H1 locs1 (cells + (h'.1.1 - h.1.1)) (slots + (h'.1.2 - h.1.2)) Q (F0 m (pc + 3) a ((v.map (ms_tr g)).toList ++ r.map (ms_tr g)))) : W p l e R s m args below meth c H locs cells slots Q (F0 m pc a ((As.reverse ++ .ref ad :: r).map (ms_tr g))) := by
  obtain ⟨hx, hb, hml, hown, hw, hK, -, hcn⟩ := id C
  obtain ⟨hm, hk⟩ := ms_fnd hq
  obtain ⟨k1, k2⟩ := ms_key hk hcn
  have ok := List.all_eq_true.mp tc_U_ok q hm
  unfold tc_U at ok
  cases hj : tb_mt q.2.2.1 with
  | none => rw [hj] at ok; cases ok
  | some mj =>
    rw [hj] at ok
    simp only [Bool.and_eq_true, tc_code, decide_eq_true_eq] at ok
    obtain ⟨⟨⟨⟨⟨⟨⟨o1, o2⟩, o3⟩, o4⟩, o5⟩, o6⟩, o7⟩, o8⟩ := ok
    have hroom := ms_rmR (R := R) (mc := h'.1.1 - h.1.1) (ms := h'.1.2 - h.1.2) hj o6 rfl hfr hlo
    obtain ⟨K, hKn, hrv⟩ := ms_recv hK hR ho
    obtain ⟨rr, r1, r2, cell, q1, q2, q3, q4⟩ := hR.2.2.2.2 ad _ had (mx_obj_eq ho)
    have hpre : PreV s H K (ms_ad g ad) (ms_Pc g (.ref ad :: As) h) (As.map (ms_tr g)) := ⟨ms_blind g _ h, hrv, fun U hU hW => ms_pre hK hR hU hW⟩
    have hKe : rr.1 = K := Option.some.inj ((ms_cn13 r1).symm.trans hKn)
    have hat : ClassAt s K ((ms_D g).1 ci) := by rw [← hKe]; exact (ms_cls hK r1).2
    have hstk : ((As.reverse ++ .ref ad :: r).map (ms_tr g)) = (As.map (ms_tr g)).reverse ++ .ref (ms_ad g ad) :: r.map (ms_tr g) := by simp [ms_tr]
    have hrr := ms_rest g hr
    have hlink := hw _ (ms_gw o1)
    have hsup := hw _ (ms_gw o3)
    rw [k1, k2] at hlink
    rw [k1] at hsup
    exact ms_back (va_runSU (As := As.map (ms_tr g)) (b := ms_ad g ad) (rest := r.map (ms_tr g)) (Ts := ms_gt) hat ⟨hx, hb, hml, hown, hw⟩ (hM mj hj) ⟨⟨rfl, rfl, hroom.1, hroom.2, pay_in hw (ms_good hj o6), List.mem_cons_self⟩, hlink, hw _ (ms_gw o2), hsup, hw _ (ms_gw o4), hw _ (ms_gw o5), hw _ (ms_code hj o6), o8, ms_par' o7⟩ hpre rfl (by rw [List.length_map]; exact hAs) hsz hstk (by show 2 * 0 + _ ≤ 8; omega) hd ⟨hc, hs⟩) hl kk
/-- invokevirtual -/
theorem ms_cV (C : ms_X g mi p s m args meth c) (hR : ms_R g h H) (hl : ∀ q ∈ locs, ms_b g ≤ q.base) (hsz : a.size = mi.2.2.1) {d : Nat} (hfr : d + 2 ≤ R.frames) (hlo : 40 * (d + 2) ≤ R.locals) {idx ad ci : Nat} {fs : List Value} (ho : mx_obj h ad = some (ci, fs)) {q : tb_VE} (hq : tb_V.find? (fun e => mx_k mi.2.2.2.2 idx e.1 && e.2.1 == ci) = some q) {As r : List Value} (hAs : As.length = q.2.2.2.2.1) (hr : r.length ≤ 4) {v : Option Value} {h' : mx_MH} (hM : ms_Met l g d q.2.2.2.1 (.ref ad :: As) h v h')
    (hc : cells + (h'.1.1 - h.1.1) ≤ R.cells) (hs : slots + (h'.1.2 - h.1.2) ≤ R.slots) (hd : decode mi.2.1 pc = .ok (.invokevirtual idx, 3))
    (kk : ∀ (H1 : Heap) (locs1 : List Loc), ms_R g h' H1 → (∀ q ∈ locs1, ms_b g ≤ q.base) → W p l e R s m args below meth c H1 locs1 (cells + (h'.1.1 - h.1.1)) (slots + (h'.1.2 - h.1.2)) Q (F0 m (pc + 3) a ((v.map (ms_tr g)).toList ++ r.map (ms_tr g)))) : W p l e R s m args below meth c H locs cells slots Q (F0 m pc a ((As.reverse ++ .ref ad :: r).map (ms_tr g))) := by
  obtain ⟨hx, hb, hml, hown, hw, hK, -, hcn⟩ := id C
  obtain ⟨hm, hk⟩ := ms_fnd hq
  simp only [Bool.and_eq_true, beq_iff_eq] at hk
  obtain ⟨hk, hci⟩ := hk
  obtain ⟨k1, k2⟩ := ms_key hk hcn
  have ok := List.all_eq_true.mp tc_V_ok q hm
  obtain ⟨key, ci', wl, M, n, ov, ws, wi, wn, wc, sw, xi, xc, X⟩ := q
  simp only at hci hAs hM hk k1 k2 ok
  subst hci
  unfold tc_V at ok
  obtain ⟨K, hKn, hrv⟩ := ms_recv hK hR ho
  have hpre : PreV s H K (ms_ad g ad) (ms_Pc g (.ref ad :: As) h) (As.map (ms_tr g)) := ⟨ms_blind g _ h, hrv, fun U hU hW => ms_pre hK hR hU hW⟩
  have hstk : ((As.reverse ++ .ref ad :: r).map (ms_tr g)) = (As.map (ms_tr g)).reverse ++ .ref (ms_ad g ad) :: r.map (ms_tr g) := by simp [ms_tr]
  have hrr := ms_rest g hr
  cases hj : tb_mt M with
  | none => simp only [hj] at ok; cases ok
  | some mj =>
    simp only [hj, hKn, Bool.and_eq_true, tc_code, decide_eq_true_eq] at ok
    obtain ⟨⟨⟨o1, o2⟩, o3⟩, o4⟩ := ok
    have hme := ms_meth hj o3
    have hroom := ms_rmR (R := R) (mc := h'.1.1 - h.1.1) (ms := h'.1.2 - h.1.2) hj o3 rfl hfr hlo
    cases ov with
    | true =>
      simp only [if_true] at o4
      cases hx2 : tb_mt X with
      | none => simp only [hx2] at o4; cases o4
      | some xj =>
        simp only [hx2, Bool.and_eq_true, decide_eq_true_eq] at o4
        obtain ⟨⟨⟨⟨⟨p1, p2⟩, p3⟩, p4⟩, p5⟩, p6⟩ := o4
        have hlink := hw _ (ms_gw p1)
        rw [k1, k2] at hlink
        have hxe := ms_meth hx2 p5
        exact ms_back (va_runU (As := As.map (ms_tr g)) (b := ms_ad g ad) (rest := r.map (ms_tr g)) (Ts := ms_gt) (owner := xj.1.cls) (x := xj.1) ⟨hx, hb, hml, hown, hw⟩ (hM mj hj) ⟨⟨rfl, rfl, hroom.1, hroom.2, pay_in hw (ms_good hj o3), List.mem_cons_self⟩, hw _ (ms_code hj o3), hw _ (ms_gw o1), hxe.2.2.2, ms_par' p6, hlink, hw _ (ms_gw p3), va_Decl.of (x := xj.1) (hw _ (ms_gw p4)) (hw _ (ms_code hx2 p5)), hw _ (ms_gw p2), hw _ (ms_gw o2)⟩ hpre rfl (by rw [List.length_map]; exact hAs) hsz hstk (by show 2 * 0 + _ ≤ 8; omega) hd ⟨hc, hs⟩) hl kk
    | false =>
      simp only [Bool.false_eq_true, if_false, Bool.and_eq_true, decide_eq_true_eq] at o4
      obtain ⟨⟨⟨p1, p2⟩, p3⟩, p4⟩ := o4
      have hlink := hw _ (ms_gw p1)
      rw [k1, k2] at hlink
      exact ms_back (va_runV (As := As.map (ms_tr g)) (b := ms_ad g ad) (rest := r.map (ms_tr g)) (Ts := ms_gt) (C := K) ⟨hx, hb, hml, hown, hw⟩ (hM mj hj) ⟨⟨rfl, rfl, hroom.1, hroom.2, pay_in hw (ms_good hj o3), List.mem_cons_self, hw _ (ms_code hj o3), hw _ (ms_gw o1), hme.2.2.2, ms_par' p4, hlink⟩, hw _ (ms_gw o2), hw _ (ms_gw p2)⟩ hpre rfl (by rw [List.length_map]; exact hAs) hsz hstk (by show 2 * 0 + _ ≤ 8; omega) hd ⟨hc, hs⟩) hl kk
end MSD
