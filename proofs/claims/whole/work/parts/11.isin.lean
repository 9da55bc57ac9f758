theorem ms_q0 : decode prog_14_method_2_code 0 = .ok (.lload_n 0, 1) := by decide +kernel
theorem ms_q1 : decode prog_14_method_2_code 1 = .ok (.lload_n 2, 1) := by decide +kernel
theorem ms_q2 : decode prog_14_method_2_code 2 = .ok (.lcmp, 1) := by decide +kernel
theorem ms_q3 : decode prog_14_method_2_code 3 = .ok (.ifCond .lt 14, 3) := by decide +kernel
theorem ms_q6 : decode prog_14_method_2_code 6 = .ok (.lload_n 0, 1) := by decide +kernel
theorem ms_q7 : decode prog_14_method_2_code 7 = .ok (.lload 4, 2) := by decide +kernel
theorem ms_q9 : decode prog_14_method_2_code 9 = .ok (.lcmp, 1) := by decide +kernel
theorem ms_q10 : decode prog_14_method_2_code 10 = .ok (.ifCond .gt 7, 3) := by decide +kernel
theorem ms_q13 : decode prog_14_method_2_code 13 = .ok (.iconst 1, 1) := by decide +kernel
theorem ms_q14 : decode prog_14_method_2_code 14 = .ok (.goto 4, 3) := by decide +kernel
theorem ms_q17 : decode prog_14_method_2_code 17 = .ok (.iconst 0, 1) := by decide +kernel
theorem ms_q18 : decode prog_14_method_2_code 18 = .ok (.ireturn, 1) := by decide +kernel
theorem ms_isIn (l : Launch) (g : ms_G) (d : Nat) (x y z : Int64) (h : mx_MH) : ms_Met l g d tb_isIn [.long x, .long y, .long z] h (some (mx_bool (decide (y ≤ x) && decide (x ≤ z)))) h := by
  intro mi hmi
  have e0 : tb_mt tb_isIn = some (⟨"NineSailModel", "isIn", "(JJJ)Z"⟩, prog_14_method_2_code, 6, some .boolean, 12) := rfl
  cases e0.symm.trans hmi
  simp only [Nat.sub_self]
  refine Met.ofW (cc := prog_14_method_2_code) (maxL := 6) (ret := some .boolean) (by decide) rfl ?_
  intro p e s m args below meth c s₁ B hml hv
  obtain ⟨rfl, hK, hR⟩ := hv
  have hx := B.exec
  have hb := B.bytes
  have hr := B.returns
  have hlocks := B.notSynchronized
  have hl := lv_entry ([.long x, .long y, .long z]) (n := 6) (Nat.le_of_ble_eq_true rfl)
  rw [lg_entry_eq]
  have key : ∀ (ls : Array Slot), lv_has ls 6 [(0, .long x), (2, .long y), (4, .long z)] → W p l e (headSpec (ms_ws (⟨"NineSailModel", "isIn", "(JJJ)Z"⟩, prog_14_method_2_code, 6, some .boolean, 12)) (ms_rm d 0 0)).room s m (List.map (ms_tr g) [.long x, .long y, .long z]).toArray below meth c s.heap [] 0 0 (MQ below (ms_Qc g (some (mx_bool (decide (y ≤ x) && decide (x ≤ z)))) h) (List.map (ms_tr g) [.long x, .long y, .long z]).toArray s 0 0 (ms_A g)) (F0 m 0 ls []) := by
    intro ls hl
    refine lv_lload_n hx hb ms_q0 rfl (lv_at hl 0 rfl) ?_
    refine lv_lload_n hx hb ms_q1 rfl (lv_at hl 1 rfl) ?_
    refine W.lcmp hx hb ms_q2 ?_
    refine lv_if_lt (tgt := 17) hx hb ms_q3 (by decide) (fun c1 => ?_) (fun c1 => ?_)
    · refine lv_iconst (v := 0) hx hb ms_q17 (by decide) ?_
      refine W.zret hx hb hr (by decide) (fun t ht _ => ⟨?_, by rw [ht]; exact hR⟩) (fun q hq => by cases hq) ms_q18
      have : ¬ y ≤ x := fun q => by have := (lg_cmp_lt x y).mp c1; exact absurd q (Int64.not_le.mpr this)
      simp [this, mx_bool, ms_tr]
    · refine lv_lload_n hx hb ms_q6 rfl (lv_at hl 0 rfl) ?_
      refine lv_lload hx hb ms_q7 (lv_at hl 2 rfl) ?_
      refine W.lcmp hx hb ms_q9 ?_
      have h1 : y ≤ x := Int64.not_lt.mp (fun q => c1 ((lg_cmp_lt x y).mpr q))
      refine lv_if_gt (tgt := 17) hx hb ms_q10 (by decide) (fun c2 => ?_) (fun c2 => ?_)
      · refine lv_iconst (v := 0) hx hb ms_q17 (by decide) ?_
        refine W.zret hx hb hr (by decide) (fun t ht _ => ⟨?_, by rw [ht]; exact hR⟩) (fun q hq => by cases hq) ms_q18
        have : ¬ x ≤ z := fun q => absurd q (Int64.not_le.mpr ((lg_cmp_gt x z).mp c2))
        simp [this, mx_bool, ms_tr]
      · refine lv_iconst (v := 1) hx hb ms_q13 (by decide) ?_
        refine lv_goto (tgt := 18) hx hb ms_q14 (by decide) ?_
        refine W.zret hx hb hr (by decide) (fun t ht _ => ⟨?_, by rw [ht]; exact hR⟩) (fun q hq => by cases hq) ms_q18
        have h2 : x ≤ z := Int64.not_lt.mp (fun q => c2 ((lg_cmp_gt x z).mpr q))
        simp [h1, h2, mx_bool, ms_tr]
  exact key _ hl
section MSQ
variable {g : ms_G} {mi : tb_MI} {p : Program} {l : Launch} {e : Env} {R : Room} {s : State} {m : MethodId} {args : Array Value} {below : List Frame} {meth : Method} {c : Code} {H : Heap} {locs : List Loc} {cells slots : Nat} {Q : State → Prop}
variable {pc : Nat} {a : Array Slot} {rest : List Value} {h : mx_MH}
theorem ms_cQ (C : ms_X g mi p s m args meth c) (hR : ms_R g h H) (hl : ∀ q ∈ locs, ms_b g ≤ q.base) (hsz : a.size = mi.2.2.1) (hfr : 2 ≤ R.frames) (hlo : 80 ≤ R.locals) {idx : Nat} {q : Nat × Nat × Nat × Nat × Nat × Nat} (hq : tb_Q.find? (fun e => mx_k mi.2.2.2.2 idx e.1) = some q) {x y z : Int64} {r : List Value} (hr : r.length ≤ 4)
    (hc : cells ≤ R.cells) (hs : slots ≤ R.slots) (hd : decode mi.2.1 pc = .ok (.invokestatic idx, 3))
    (kk : ∀ (H1 : Heap) (locs1 : List Loc), ms_R g h H1 → (∀ q ∈ locs1, ms_b g ≤ q.base) → W p l e R s m args below meth c H1 locs1 cells slots Q (F0 m (pc + 3) a (ms_tr g (mx_bool (decide (y ≤ x) && decide (x ≤ z))) :: r.map (ms_tr g)))) : W p l e R s m args below meth c H locs cells slots Q (F0 m pc a (.long z :: .long y :: .long x :: r.map (ms_tr g))) := by
  obtain ⟨hx, hb, hml, hown, hw, hK, -, hcn⟩ := id C
  obtain ⟨hm, hk⟩ := ms_fnd hq
  obtain ⟨k1, k2⟩ := ms_key hk hcn
  have ok := List.all_eq_true.mp tc_Q_ok q hm
  unfold tc_Q at ok
  cases hj : tb_mt tb_isIn with
  | none => rw [hj] at ok; cases ok
  | some mj =>
    rw [hj] at ok
    simp only [Bool.and_eq_true, tc_code, decide_eq_true_eq] at ok
    obtain ⟨⟨⟨⟨⟨-, o1⟩, o2⟩, o3⟩, o4⟩, o5⟩ := ok
    have hme := ms_meth hj o4
    have hroom := ms_rmR (R := R) (mc := h.1.1 - h.1.1) (ms := h.1.2 - h.1.2) (d := 1) hj o4 rfl hfr hlo
    have hpre : PreS s H (ms_Pc g [.long x, .long y, .long z] h) [.long x, .long y, .long z] := ⟨ms_blind g _ h, fun U hU hW => ms_pre (As := [.long x, .long y, .long z]) hK hR hU hW⟩
    have hrr := ms_rest g hr
    have hlink := hw _ (ms_gw o1)
    rw [k1, k2] at hlink
    have hrun := va_runS (p := p) (e := e) (R := R) (below := below) (meth := meth) (H := H) (locs := locs) (cells := cells) (slots := slots) (g := F0 m pc a (.long z :: .long y :: .long x :: r.map (ms_tr g))) (As := [.long x, .long y, .long z]) (rest := r.map (ms_tr g)) (Ts := ms_gt) ⟨hx, hb, hml, hown, hw⟩ (ms_isIn l g 0 x y z h mj hj) ⟨⟨rfl, rfl, hroom.1, hroom.2, pay_in hw (ms_good hj o4), List.mem_cons_self, hw _ (ms_code hj o4), hw _ (ms_gw o3), hme.2.2.2, ms_par' o5, hlink⟩, hw _ (ms_gw o2)⟩ hpre rfl rfl hsz rfl (by show 2 * 0 + _ ≤ 8; omega) hd (by simp only [Nat.sub_self, Nat.add_zero]; exact ⟨hc, hs⟩)
    refine ms_back hrun hl (fun H1 locs1 h1 h2 => ?_)
    simp only [Nat.sub_self, Nat.add_zero]
    exact kk H1 locs1 h1 h2
end MSQ
