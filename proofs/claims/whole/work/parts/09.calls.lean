theorem ms_prim {g : ms_G} {t : FieldType} {v : Value} (ht : t = .int ∨ t = .short ∨ t = .float) (h : fits t v = true) : ms_tr g v = v ∧ ∀ (U : State) (k : ClassId), U.takes k v := by
  rcases ht with rfl | rfl | rfl <;> cases v <;> first | exact ⟨rfl, fun _ _ => trivial⟩ | (simp [fits] at h)
theorem ms_copied {cs : Cell} {c1 : ClassId} {n0 n1 sp dp n : Nat} (f gg : Nat → Value) (hs : sp + n ≤ n0) (hr : ∀ j : Nat, j < n0 → cs.slots[j]? = some (f j)) :
    (arrV c1 n1 gg).storeRun dp (cs.stretch sp n) = arrV c1 n1 (mx_cpy f gg sp dp n) := by
  have e : cs.stretch sp n = (List.range n).map (fun i => f (sp + i)) := by
    unfold Cell.stretch
    apply List.map_congr_left
    intro i hi
    have hi' := List.mem_range.mp hi
    rw [Array.getD_eq_getD_getElem?, hr _ (by omega)]
    rfl
  rw [e, Cell.storeRun, va_pairs]
  congr 1
  funext k
  simp only [mx_cpy, List.length_map, List.length_range, Nat.add_zero]
  by_cases h : dp ≤ k ∧ k < dp + n
  · rw [if_pos h, if_pos h, List.getD_eq_getElem?_getD, List.getElem?_map, List.getElem?_range (by omega)]
    rfl
  · rw [if_neg h, if_neg h]
def ms_rm (d mc ms : Nat) : Room := { frames := d + 1, cells := mc, slots := ms, locals := 40 * (d + 1) }
def ms_ws (mi : tb_MI) : List Jvm.Cond := .code mi.1 mi.2.1 mi.2.2.1 mi.2.2.2.1 :: ms_gt
def ms_Pc (g : ms_G) (As : List Value) (h : mx_MH) : Array Value → State → Prop := fun a U => a = (As.map (ms_tr g)).toArray ∧ ms_K g U ∧ ms_R g h U.heap
def ms_Qc (g : ms_G) (v : Option Value) (h' : mx_MH) : Array Value → State → Outcome → State → Prop := fun _ _ o t => o = .returned (v.map (ms_tr g)) ∧ ms_R g h' t.heap
def ms_Met (l : Launch) (g : ms_G) (d M : Nat) (As : List Value) (h : mx_MH) (v : Option Value) (h' : mx_MH) : Prop :=
  ∀ mi, tb_mt M = some mi → Met l mi.1 (ms_ws mi) (ms_rm d (h'.1.1 - h.1.1) (h'.1.2 - h.1.2)) (ms_Pc g As h) (ms_Qc g v h') (h'.1.1 - h.1.1) (h'.1.2 - h.1.2) (ms_A g)
theorem ms_blind (g : ms_G) (As : List Value) (h : mx_MH) : FrameBlind (ms_Pc g As h) := fun a U f mk q => ⟨q.1, ms_K.same (u := U) (U := U.calling f mk a) rfl q.2.1, q.2.2⟩
theorem ms_code {M : Nat} {mi : tb_MI} (hM : tb_mt M = some mi) (h0 : 0 < M) : Jvm.Cond.code mi.1 mi.2.1 mi.2.2.1 mi.2.2.2.1 ∈ ms_gt := by
  have hd : mi ∈ tb_m0.drop 1 ∨ mi ∈ tb_m1 ∨ mi ∈ tb_m2 ∨ mi ∈ tb_m3 ∨ mi ∈ tb_m4 ∨ mi ∈ tb_m5 ∨ mi ∈ tb_m6 := by
    obtain ⟨k, rfl⟩ : ∃ k, M = k + 1 := ⟨M - 1, by omega⟩
    have hM' : (tb_ml.drop 1)[k]? = some mi := by rw [List.getElem?_drop, Nat.add_comm]; exact hM
    have e : tb_ml.drop 1 = tb_m0.drop 1 ++ (tb_m1 ++ (tb_m2 ++ (tb_m3 ++ (tb_m4 ++ (tb_m5 ++ tb_m6))))) := rfl
    rw [e] at hM'
    have hm := List.mem_of_getElem? hM'
    simpa only [List.mem_append] using hm
  have key : ∀ (l : List tb_MI) (is : List Nat), l.map (fun q => Jvm.Cond.code q.1 q.2.1 q.2.2.1 q.2.2.2.1) = is.filterMap (fun i => lw_tbl[i]?) → mi ∈ l → Jvm.Cond.code mi.1 mi.2.1 mi.2.2.1 mi.2.2.2.1 ∈ ms_gt := by
    intro l is he hm
    have h1 : Jvm.Cond.code mi.1 mi.2.1 mi.2.2.1 mi.2.2.2.1 ∈ l.map (fun q => Jvm.Cond.code q.1 q.2.1 q.2.2.1 q.2.2.2.1) := List.mem_map.mpr ⟨mi, hm, rfl⟩
    rw [he] at h1
    obtain ⟨i, -, hi⟩ := List.mem_filterMap.mp h1
    exact List.mem_filter.mpr ⟨List.mem_of_getElem? hi, rfl⟩
  rcases hd with h | h | h | h | h | h | h
  · exact key _ _ tb_cd0 h
  · exact key _ _ tb_cd1 h
  · exact key _ _ tb_cd2 h
  · exact key _ _ tb_cd3 h
  · exact key _ _ tb_cd4 h
  · exact key _ _ tb_cd5 h
  · exact key _ _ tb_cd6 h
theorem ms_meth {M : Nat} {mi : tb_MI} (hM : tb_mt M = some mi) (h0 : 0 < M) : mi.2.2.1 ≤ 20 ∧ tb_cn[mi.2.2.2.2]? = some mi.1.cls ∧ plainName mi.1.cls = true ∧ mi.1.cls ≠ "java/lang/invoke/MethodHandle" ∧ mi.1.cls ≠ "java/lang/invoke/VarHandle" := by
  obtain ⟨k, rfl⟩ : ∃ k, M = k + 1 := ⟨M - 1, by omega⟩
  have hM' : (tb_ml.drop 1)[k]? = some mi := by rw [List.getElem?_drop, Nat.add_comm]; exact hM
  have h := List.all_eq_true.mp tc_meth mi (List.mem_of_getElem? hM')
  simp only [Bool.and_eq_true, decide_eq_true_eq] at h
  exact ⟨h.1.1.1.1, h.1.1.1.2, h.1.1.2, h.1.2, h.2⟩
theorem ms_good {M : Nat} {mi : tb_MI} (hM : tb_mt M = some mi) (h0 : 0 < M) : GoodIn ms_gt (ms_ws mi) := by
  intro w hw
  rcases List.mem_cons.mp hw with rfl | hw
  · exact ⟨ms_code hM h0, good_of_word rfl⟩
  · exact ⟨hw, good_of_word (List.mem_filter.mp hw).2⟩
def ms_nIf (q : Nat × Nat × Nat × Nat × Bool × Nat × Nat × Nat) : Bool := !(q.2.2.2.2.1) || (match tb_mt q.2.2.1 with
  | some z => ms_nest.contains (.methodLinkNest (tc_n q.1) (q.1 % 4096) z.1 "NineSail")
  | none => true)
theorem ms_nI_ok : (tb_I.all ms_nIf && tb_K.all ms_nIf) = true := by decide +kernel
theorem ms_nestI (q : Nat × Nat × Nat × Nat × Bool × Nat × Nat × Nat) (hm : q ∈ tb_I) (hn : q.2.2.2.2.1 = true) {z : tb_MI} (hz : tb_mt q.2.2.1 = some z) : Jvm.Cond.methodLinkNest (tc_n q.1) (q.1 % 4096) z.1 "NineSail" ∈ ms_nest := by
  have h0 := ms_nI_ok
  rw [Bool.and_eq_true] at h0
  have h := List.all_eq_true.mp h0.1 q hm
  unfold ms_nIf at h
  rw [hn, hz] at h
  simpa using h
theorem ms_nestK (q : Nat × Nat × Nat × Nat × Bool × Nat × Nat × Nat) (hm : q ∈ tb_K) (hn : q.2.2.2.2.1 = true) {z : tb_MI} (hz : tb_mt q.2.2.1 = some z) : Jvm.Cond.methodLinkNest (tc_n q.1) (q.1 % 4096) z.1 "NineSail" ∈ ms_nest := by
  have h0 := ms_nI_ok
  rw [Bool.and_eq_true] at h0
  have h := List.all_eq_true.mp h0.2 q hm
  unfold ms_nIf at h
  rw [hn, hz] at h
  simpa using h
section MSC
variable {g : ms_G} {mi : tb_MI} {p : Program} {l : Launch} {e : Env} {R : Room} {s : State} {m : MethodId} {args : Array Value} {below : List Frame} {meth : Method} {c : Code} {H : Heap} {locs : List Loc} {cells slots : Nat} {Q : State → Prop}
variable {pc : Nat} {a : Array Slot} {rest : List Value} {h : mx_MH}
theorem ms_copy (C : ms_X g mi p s m args meth c) (hR : ms_R g h H) (hl : ∀ q ∈ locs, ms_b g ≤ q.base) (hsz : a.size = mi.2.2.1) (hfr : 1 ≤ R.frames) (hlo : 40 ≤ R.locals) {idx sa da n0 n1 : Nat} {t : FieldType} {f gg : Nat → Value} {q : Nat × Nat} (hq : tb_P.find? (fun e => mx_k mi.2.2.2.2 idx e.1) = some q)
    (es : mx_arr h sa = some (t, n0, f)) (ed : mx_arr h da = some (t, n1, gg)) (hda : 17 ≤ da) (ht : t = .int ∨ t = .short ∨ t = .float) {sp dp n : Int32} (h1 : ¬ sp < 0) (h2 : ¬ dp < 0) (h3 : ¬ n < 0) (h4 : sp.toNatClampNeg + n.toNatClampNeg ≤ n0) (h5 : dp.toNatClampNeg + n.toNatClampNeg ≤ n1) {r : List Value} (hr : r.length ≤ 4) (hfit : ∀ i, i < n.toNatClampNeg → fits t (f (sp.toNatClampNeg + i)) = true)
    (hd : decode mi.2.1 pc = .ok (.invokestatic idx, 3))
    (kk : ∀ (H1 : Heap) (locs1 : List Loc), ms_R g (mx_set h da (.inr (t, n1, mx_cpy f gg sp.toNatClampNeg dp.toNatClampNeg n.toNatClampNeg))) H1 → (∀ q ∈ locs1, ms_b g ≤ q.base) → W p l e R s m args below meth c H1 locs1 cells slots Q (F0 m (pc + 3) a (r.map (ms_tr g)))) : W p l e R s m args below meth c H locs cells slots Q (F0 m pc a (.int n :: .int dp :: .ref (ms_ad g da) :: .int sp :: .ref (ms_ad g sa) :: r.map (ms_tr g))) := by
  obtain ⟨hx, hb, hml, hown, hw, hK, -, hcn⟩ := C
  obtain ⟨hm, hk⟩ := ms_fnd hq
  obtain ⟨k1, k2⟩ := ms_key hk hcn
  have hlink := hw _ (ms_gw (List.all_eq_true.mp tc_P_ok q hm))
  rw [k1, k2] at hlink
  have hac := tc_ac_ok
  simp only [Bool.and_eq_true] at hac
  have nn : ∀ z : Int32, ¬ z < 0 → z.toInt = (z.toNatClampNeg : Int) := by
    intro z hz
    have hz0 : (0 : Int) ≤ z.toInt := by
      have := Int32.not_lt.mp hz
      simpa using Int32.le_iff_toInt_le.mp this
    show z.toInt = ((z.toInt.toNat : Nat) : Int)
    omega
  obtain ⟨cs, q1, ⟨q2, ks, hks, cm0, hkk0⟩, q3, q4, q5, q6⟩ := ms_arr hK hR es
  obtain ⟨htm, hcd⟩ := ms_wr hR ed hda
  obtain ⟨hdo, kd, hkd, cm1, hkk1⟩ := (ms_ty hK htm).1 n1 (fun j => ms_tr g (gg j))
  intro T hT X
  obtain ⟨vm', X', step⟩ := X.arraycopy hx hown hlink (hw _ (ms_gw hac.1.1)) (hw _ (ms_gw hac.1.2)) (hw _ (ms_gw hac.2)) (src := ms_ad g sa) (dst := ms_ad g da) (cs := cs) (srcPos := sp) (destPos := dp) (n := n) (by rw [hT]; exact q1) (by rw [hT]; exact hcd)
    q2 hdo q3 (fun h => by cases h) hks hkd hkk0 hkk1 (by rcases ht with rfl | rfl | rfl <;> rfl) h1 h2 h3
    (by rw [nn sp h1, nn n h3]; omega)
    (by rw [nn dp h2, nn n h3, arrV_size]; omega)
    (fun vm₁ _ i hi => by
      have ev : cs.slots.getD (sp.toNatClampNeg + i) .null = f (sp.toNatClampNeg + i) := by
        rw [Array.getD_eq_getD_getElem?, q6 _ (by omega)]
        exact (ms_prim ht (hfit i hi)).1
      rw [ev]
      exact ⟨hfit i hi, (ms_prim (g := g) ht (hfit i hi)).2 _ _⟩)
    (g := F0 m pc a (.int n :: .int dp :: .ref (ms_ad g da) :: .int sp :: .ref (ms_ad g sa) :: r.map (ms_tr g))) rfl (by rw [hml]; exact hsz) (rest := r.map (ms_tr g)) rfl (by rw [hb]; exact hd) hfr (by
      have hrr := ms_rest g hr
      have e0 : nativeFrameWords "java/lang/System" "arraycopy" 5 = 7 := by decide
      show 2 * 0 + _ + _ ≤ _
      rw [e0]
      omega)
  have e1 : copied cs (arrV (ms_cA g t) n1 (fun j => ms_tr g (gg j))) sp dp n = arrV (ms_cA g t) n1 (fun j => ms_tr g (mx_cpy f gg sp.toNatClampNeg dp.toNatClampNeg n.toNatClampNeg j)) := by
    have := ms_copied (cs := cs) (c1 := ms_cA g t) (n1 := n1) (dp := dp.toNatClampNeg) (fun j => ms_tr g (f j)) (fun j => ms_tr g (gg j)) h4 q6
    refine this.trans ?_
    congr 1
    funext k
    unfold mx_cpy
    by_cases hk2 : dp.toNatClampNeg ≤ k ∧ k < dp.toNatClampNeg + n.toNatClampNeg
    · rw [if_pos hk2, if_pos hk2]
    · rw [if_neg hk2, if_neg hk2]
  rw [e1] at X' step
  have hlt : ms_ad g da < H.size := (Array.getElem?_eq_some_iff.mp hcd).1
  have hheap : ((T.setVm vm').setCell (ms_ad g da) (arrV (ms_cA g t) n1 (fun j => ms_tr g (mx_cpy f gg sp.toNatClampNeg dp.toNatClampNeg n.toNatClampNeg j)))).heap = H.setIfInBounds (ms_ad g da) (arrV (ms_cA g t) n1 (fun j => ms_tr g (mx_cpy f gg sp.toNatClampNeg dp.toNatClampNeg n.toNatClampNeg j))) := by rw [← hT]; rfl
  obtain ⟨t2, a1, b1⟩ := kk _ _ (hR.set hda (c := .inr (t, n1, mx_cpy f gg sp.toNatClampNeg dp.toNatClampNeg n.toNatClampNeg)) (H1 := H.setIfInBounds (ms_ad g da) (arrV (ms_cA g t) n1 (fun j => ms_tr g (mx_cpy f gg sp.toNatClampNeg dp.toNatClampNeg n.toNatClampNeg j)))) ⟨htm, by simp [Array.getElem?_setIfInBounds, hlt]⟩ (by simp) (fun z hz => by simp [Array.getElem?_setIfInBounds, Ne.symm hz])) (fun z hz => by
      rcases List.mem_append.mp hz with hz | hz
      · exact hl z hz
      · obtain ⟨y, -, hy⟩ := List.mem_map.mp hz
        rw [← hy]
        show ms_b g ≤ ms_ad g da
        rw [ms_ad_hi hda]
        omega) _ hheap X'
  exact ⟨t2, step t2 a1, b1⟩
theorem ms_oinit (C : ms_X g mi p s m args meth c) (hsz : a.size = mi.2.2.1) (hfr : 1 ≤ R.frames) (hlo : 40 ≤ R.locals) {idx ad : Nat} {q : Nat × Nat} (hq : tb_O.find? (fun e => mx_k mi.2.2.2.2 idx e.1) = some q) {r : List Value} (hr : r.length ≤ 4) (hd : decode mi.2.1 pc = .ok (.invokespecial idx, 3))
    (kk : W p l e R s m args below meth c H locs cells slots Q (F0 m (pc + 3) a (r.map (ms_tr g)))) : W p l e R s m args below meth c H locs cells slots Q (F0 m pc a (.ref (ms_ad g ad) :: r.map (ms_tr g))) := by
  obtain ⟨hx, hb, hml, hown, hw, hK, -, hcn⟩ := C
  obtain ⟨hm, hk⟩ := ms_fnd hq
  obtain ⟨k1, k2⟩ := ms_key hk hcn
  have hlink := hw _ (ms_gw (List.all_eq_true.mp tc_O_ok q hm))
  rw [k1, k2] at hlink
  have hoi := tc_oi_ok
  simp only [Bool.and_eq_true] at hoi
  have hrr := ms_rest g hr
  exact W.objInit hx hb hown hlink (hw _ (ms_gw hoi.1)) (hw _ (ms_gw hoi.2)) rfl (by show a.size = _; rw [hml]; exact hsz) rfl hd hfr (by show 2 * 0 + _ + 12 ≤ _; omega) kk
theorem ms_math (C : ms_X g mi p s m args meth c) (hsz : a.size = mi.2.2.1) (hfr : 1 ≤ R.frames) (hlo : 40 ≤ R.locals) (hc : cells ≤ R.cells) (hs : slots ≤ R.slots) {idx : Nat} {q : Nat × Nat × Nat} (hq : tb_Z.find? (fun e => mx_k mi.2.2.2.2 idx e.1) = some q) {st r : List Value} {z : Int32} (hst : (q.2.2 = 0 ∧ ∃ x y, st = .int y :: .int x :: r ∧ z = if x < y then y else x) ∨ (q.2.2 = 1 ∧ ∃ x y, st = .int y :: .int x :: r ∧ z = if y < x then y else x) ∨ (q.2.2 = 2 ∧ ∃ x, st = .int x :: r ∧ z = if 0 ≤ x then x else 0 - x)) (hr : r.length ≤ 4) (hd : decode mi.2.1 pc = .ok (.invokestatic idx, 3))
    (kk : W p l e R s m args below meth c H locs cells slots Q (F0 m (pc + 3) a (.int z :: r.map (ms_tr g)))) : W p l e R s m args below meth c H locs cells slots Q (F0 m pc a (st.map (ms_tr g))) := by
  obtain ⟨hx, hb, hml, hown, hw, hK, -, hcn⟩ := C
  obtain ⟨hm, hk⟩ := ms_fnd hq
  obtain ⟨k1, k2⟩ := ms_key hk hcn
  have ok := List.all_eq_true.mp tc_Z_ok q hm
  simp only [Bool.and_eq_true, decide_eq_true_eq] at ok
  have hlink := hw _ (ms_gw ok.1)
  rw [k1, k2] at hlink
  have hmm := tc_mm0
  simp only [tb_mm, Bool.and_eq_true] at hmm
  obtain ⟨⟨-, hmi⟩, ⟨⟨⟨⟨m1, m2⟩, m3⟩, m4⟩, m5⟩, m6⟩ := hmm
  have hrr := ms_rest g hr
  rcases hst with ⟨e0, x, y, rfl, rfl⟩ | ⟨e0, x, y, rfl, rfl⟩ | ⟨e0, x, rfl, rfl⟩
  · rw [e0] at hlink
    exact va_mmax hx hb (by rw [hml]; exact hsz.symm) hown hlink (hw _ (ms_gw m1)) (hw _ (ms_gw hmi)) (hw _ (ms_gw m2)) hfr (by omega) hc hs hd kk
  · rw [e0] at hlink
    exact va_mmin hx hb (by rw [hml]; exact hsz.symm) hown hlink (hw _ (ms_gw m3)) (hw _ (ms_gw hmi)) (hw _ (ms_gw m4)) hfr (by omega) hc hs hd kk
  · rw [e0] at hlink
    exact va_mabs hx hb (by rw [hml]; exact hsz.symm) hown hlink (hw _ (ms_gw m5)) (hw _ (ms_gw hmi)) (hw _ (ms_gw m6)) hfr (by omega) hc hs hd kk
/-- behind a call -/
theorem ms_back {mc ms : Nat} {st0 : List Value} {v : Option Value} {h' : mx_MH} {arr : Array Value} (hr : va_Run p l e R s m args below meth c H locs cells slots mc ms (F0 m pc a st0) rest (ms_Qc g v h' arr) (ms_A g)) (hl : ∀ q ∈ locs, ms_b g ≤ q.base)
    (kk : ∀ (H1 : Heap) (locs1 : List Loc), ms_R g h' H1 → (∀ q ∈ locs1, ms_b g ≤ q.base) → W p l e R s m args below meth c H1 locs1 (cells + mc) (slots + ms) Q (F0 m (pc + 3) a ((v.map (ms_tr g)).toList ++ rest))) : W p l e R s m args below meth c H locs cells slots Q (F0 m pc a st0) := by
  intro T hT X
  obtain ⟨v', st₀, t, T', L, h0, X', hL, e1, e2, ⟨hv, hR'⟩, st⟩ := hr T hT X
  cases hv
  obtain ⟨t2, a1, b1⟩ := kk T'.heap (locs ++ L) (by rw [e1]; exact hR') (fun q hq => by
    rcases List.mem_append.mp hq with h | h
    · exact hl q h
    · exact hL q h) T' rfl X'
  exact ⟨t2, st t2 a1, b1⟩
theorem ms_par {d : String} {n : Nat} (h : tc_par d n = true) : (parseMethodDescriptor d).map (fun d => d.parameters.length) = some n := by
  simpa [tc_par] using h
theorem ms_par' {d : String} {n : Nat} (h : tc_par d n = true) : ∀ sig, parseMethodDescriptor d = some sig → n = sig.parameters.length := by
  intro sig hs
  have h2 := ms_par h
  rw [hs] at h2
  exact (Option.some.inj h2).symm
theorem ms_pre (hK : ms_K g s) {As : List Value} {U : State} (hR : ms_R g h H) (hU : U.heap = H) (hW : s.WarmedH U.vm) : ms_Pc g As h (As.map (ms_tr g)).toArray U := ⟨rfl, hK.warm hW, by rw [hU]; exact hR⟩
theorem ms_rmR {d d' mc ms M : Nat} {mj : tb_MI} (hM : tb_mt M = some mj) (h0 : 0 < M) (hd : d = d' + 1) (hfr : d + 1 ≤ R.frames) (hlo : 40 * (d + 1) ≤ R.locals) : (ms_rm d' mc ms).frames + 1 ≤ R.frames ∧ 8 + (mj.2.2.1 + 11) + (ms_rm d' mc ms).locals ≤ R.locals := by
  have := (ms_meth hM h0).1
  subst hd
  constructor
  · show d' + 1 + 1 ≤ _
    omega
  · show 8 + (mj.2.2.1 + 11) + 40 * (d' + 1) ≤ _
    omega
/-- invokestatic -/
theorem ms_cS (C : ms_X g mi p s m args meth c) (hR : ms_R g h H) (hl : ∀ q ∈ locs, ms_b g ≤ q.base) (hsz : a.size = mi.2.2.1) {d : Nat} (hfr : d + 2 ≤ R.frames) (hlo : 40 * (d + 2) ≤ R.locals) {idx : Nat} {q : Nat × Nat × Nat × Nat × Bool × Nat × Nat × Nat} (hq : tb_I.find? (fun e => mx_k mi.2.2.2.2 idx e.1) = some q) {As r : List Value} (hAs : As.length = q.2.2.2.1) (hr : r.length ≤ 4) {v : Option Value} {h' : mx_MH} (hM : ms_Met l g d q.2.2.1 As h v h')
    (hc : cells + (h'.1.1 - h.1.1) ≤ R.cells) (hs : slots + (h'.1.2 - h.1.2) ≤ R.slots) (hd : decode mi.2.1 pc = .ok (.invokestatic idx, 3))
    (kk : ∀ (H1 : Heap) (locs1 : List Loc), ms_R g h' H1 → (∀ q ∈ locs1, ms_b g ≤ q.base) → W p l e R s m args below meth c H1 locs1 (cells + (h'.1.1 - h.1.1)) (slots + (h'.1.2 - h.1.2)) Q (F0 m (pc + 3) a ((v.map (ms_tr g)).toList ++ r.map (ms_tr g)))) : W p l e R s m args below meth c H locs cells slots Q (F0 m pc a ((As.reverse ++ r).map (ms_tr g))) := by
  obtain ⟨hx, hb, hml, hown, hw, hK, -, hcn⟩ := id C
  obtain ⟨hm, hk⟩ := ms_fnd hq
  obtain ⟨k1, k2⟩ := ms_key hk hcn
  have ok := List.all_eq_true.mp tc_I_ok q hm
  unfold tc_I at ok
  cases hj : tb_mt q.2.2.1 with
  | none => rw [hj] at ok; cases ok
  | some mj =>
    rw [hj] at ok
    simp only [Bool.and_eq_true, tc_code, decide_eq_true_eq] at ok
    obtain ⟨⟨⟨⟨o1, o2⟩, o3⟩, o4⟩, o5⟩ := ok
    have hme := ms_meth hj o4
    have hroom := ms_rmR (R := R) (mc := h'.1.1 - h.1.1) (ms := h'.1.2 - h.1.2) hj o4 rfl hfr hlo
    have hpre : PreS s H (ms_Pc g As h) (As.map (ms_tr g)) := ⟨ms_blind g As h, fun U hU hW => ms_pre hK hR hU hW⟩
    have hstk : ((As.reverse ++ r).map (ms_tr g)) = (As.map (ms_tr g)).reverse ++ r.map (ms_tr g) := by simp
    have hrr := ms_rest g hr
    by_cases hn : q.2.2.2.2.1 = true
    · simp only [hn, if_true] at o1
      have hin : Jvm.Cond.methodLinkNest (tc_n q.1) (q.1 % 4096) mj.1 "NineSail" ∈ ms_nest := ms_nestI q hm hn hj
      have hlink := va_Nw.use (A := args) rfl (hK.2.1 _ hin)
      rw [k1, k2] at hlink
      refine ms_back (va_runSN (As := As.map (ms_tr g)) (rest := r.map (ms_tr g)) (Ts := ms_gt) ⟨hx, hb, hml, hown, hw⟩ (hM mj hj) ⟨⟨⟨rfl, rfl, hroom.1, hroom.2, pay_in hw (ms_good hj o4), List.mem_cons_self⟩, hw _ (ms_code hj o4), hw _ (ms_gw o3), hme.2.2.2, ms_par' o5, hlink⟩, hw _ (ms_gw o2), trivial⟩ hpre rfl (by rw [List.length_map]; exact hAs) hsz hstk (by show 2 * 0 + _ ≤ 8; omega) hd ⟨hc, hs⟩) hl kk
    · simp only [hn, if_false] at o1
      have hlink := hw _ (ms_gw o1)
      rw [k1, k2] at hlink
      refine ms_back (va_runS (As := As.map (ms_tr g)) (rest := r.map (ms_tr g)) (Ts := ms_gt) ⟨hx, hb, hml, hown, hw⟩ (hM mj hj) ⟨⟨rfl, rfl, hroom.1, hroom.2, pay_in hw (ms_good hj o4), List.mem_cons_self, hw _ (ms_code hj o4), hw _ (ms_gw o3), hme.2.2.2, ms_par' o5, hlink⟩, hw _ (ms_gw o2)⟩ hpre rfl (by rw [List.length_map]; exact hAs) hsz hstk (by show 2 * 0 + _ ≤ 8; omega) hd ⟨hc, hs⟩) hl kk
end MSC
