abbrev ms_G : Type := Nat × (Nat → Nat) × va_G × (FieldType → ClassId) × Heap × (Nat → Option mx_MC) × Value
abbrev ms_b (g : ms_G) : Nat := g.1
abbrev ms_ra (g : ms_G) : Nat → Nat := g.2.1
abbrev ms_D (g : ms_G) : va_G := g.2.2.1
abbrev ms_cA (g : ms_G) : FieldType → ClassId := g.2.2.2.1
abbrev ms_H0 (g : ms_G) : Heap := g.2.2.2.2.1
abbrev ms_rom (g : ms_G) : Nat → Option mx_MC := g.2.2.2.2.2.1
abbrev ms_fm (g : ms_G) : Value := g.2.2.2.2.2.2
def ms_ad (g : ms_G) (k : Nat) : Nat := if k < 17 then ms_ra g k else ms_b g + (k - 17)
def ms_tr (g : ms_G) (v : Value) : Value := match v with
  | .ref k => .ref (ms_ad g k)
  | .retAddr _ => ms_fm g
  | .int x => .int x
  | .long x => .long x
  | .float x => .float x
  | .double x => .double x
  | .null => .null
def ms_tys : List FieldType := [.int, .byte, .short, .float, .object "NineSail$Kind", .object "NineSail$Sheet", .object "NineSail$Boat", .object "NineSail$Text"]
def ms_tyl (g : ms_G) : List (ClassId × FieldType) := ms_tys.map (fun t => (ms_cA g t, t))
abbrev ms_A (g : ms_G) : Nat → Prop := fun q => ms_b g ≤ q
def ms_RO (g : ms_G) (a : Nat) (c : mx_MC) (U : State) : Prop := match c with
  | .inl (ci, fs) => ci = 13 ∧ va_O "java/lang/String" (ms_ra g a) (ms_A g) U (ms_H0 g) ∧ ∀ k v, k < 2 → fs[k]? = some v → va_OF "java/lang/String" (tc_sf k).1 (tc_sf k).2 (ms_tr g v) (ms_ra g a) (ms_A g) U (ms_H0 g)
  | .inr (ty, n, V) => va_T ty (ms_ra g a) n (fun j => ms_tr g (V j)) (ms_A g) U (ms_H0 g)
def ms_nest : List Jvm.Cond := [.fieldLinkNest "NineSail$Sea" 17 "NineSail" "FIRST_RULE" "[I" "NineSail", .methodLinkNest "NineSail" 21 ⟨"NineSail$Tape", "<init>", "()V"⟩ "NineSail", .methodLinkNest "NineSail" 83 ⟨"NineSail$Sheet", "<init>", "()V"⟩ "NineSail", .methodLinkNest "NineSail$Sea" 97 ⟨"NineSail", "within", "(II)I"⟩ "NineSail"]
def ms_K1 (g : ms_G) (U : State) : Prop :=
  va_K (ms_D g) tb_cl (ms_tyl g) U ∧ (∀ a c, a < 17 → ms_rom g a = some c → ms_RO g a c U) ∧ (∀ q ∈ tb_sv, va_Z q.1 q.2.1 q.2.2.1 (ms_tr g q.2.2.2) (ms_A g) U (ms_H0 g)) ∧ (∀ k, k < 17 → ms_ra g k < ms_b g) ∧ (ms_fm g = .null ∨ ∃ t, ms_fm g = .ref t) ∧ (ms_H0 g).size = ms_b g ∧ (∀ C ∈ tc_al, va_AO C U)
def ms_K2 (g : ms_G) (U : State) : Prop := (∀ w ∈ ms_nest, va_Nw w U) ∧ (∀ e ∈ tb_X, vk_R "NineSail$Tape" e.2.2.1 e.2.2.2.1 (ms_ad g e.2.2.2.2) U) ∧ ∀ e ∈ tb_ca, ∀ r : vw_C, tb_cl[e.1]? = some r → va_Nw (.castable r.1 "NineSail$Kind") U
def ms_K (g : ms_G) (U : State) : Prop := ms_K1 g U ∧ ms_K2 g U
theorem ms_RO.moved {g : ms_G} {a : Nat} {c : mx_MC} {u U : State} (hvm : u.vm.Alike U.vm) (h : ms_RO g a c u) : ms_RO g a c U := by
  match c, h with
  | .inl (ci, fs), h =>
    obtain ⟨h0, ⟨cell, h1, h2, h3, h4⟩, h5⟩ := h
    exact ⟨h0, ⟨cell, h1, h2, by rw [hvm.findClass]; exact h3, h4⟩, fun k v hk hv => (h5 k v hk hv).moved hvm⟩
  | .inr (ty, n, V), h => exact va_T.moved hvm h
theorem ms_AO_alike {C : String} {u U : State} (hvm : u.vm.Alike U.vm) (h : va_AO C u) : va_AO C U := va_AO.moved hvm h
theorem ms_K1.moved {g : ms_G} {u U : State} (hvm : u.vm.Alike U.vm) (h : ms_K1 g u) : ms_K1 g U := by
  obtain ⟨h1, h2, h3, h4, h5, h6, h7⟩ := h
  exact ⟨h1.moved hvm, fun a c ha hc => (h2 a c ha hc).moved hvm, fun q hq => (h3 q hq).moved hvm, h4, h5, h6, fun C hC => ms_AO_alike hvm (h7 C hC)⟩
theorem ms_K.warm {g : ms_G} {s U : State} (hW : s.WarmedH U.vm) (h : ms_K g s) : ms_K g U := by
  obtain ⟨h1, h2, h3, h4⟩ := h
  refine ⟨h1.moved hW.alike, fun w hw => ?_, fun e he => (h3 e he).warm hW, fun e he r hr => (h4 e he r hr).warmC hW⟩
  have hn := h2 w hw
  simp only [ms_nest, List.mem_cons, List.not_mem_nil, or_false] at hw
  rcases hw with rfl | rfl | rfl | rfl
  · exact hn.warmF hW
  · exact hn.warmM hW
  · exact hn.warmM hW
  · exact hn.warmM hW
theorem ms_K.same {g : ms_G} {u U : State} (hv : U.vm = u.vm) (h : ms_K g u) : ms_K g U := by
  obtain ⟨h1, h2, h3, h4⟩ := h
  refine ⟨h1.moved (by rw [hv]; exact Vm.Alike.refl _), fun w hw => ?_, fun e he => (h3 e he).same hv, fun e he r hr => va_Nw.same rfl hv.symm (h4 e he r hr)⟩
  have hn := h2 w hw
  simp only [ms_nest, List.mem_cons, List.not_mem_nil, or_false] at hw
  rcases hw with rfl | rfl | rfl | rfl <;> exact va_Nw.same rfl hv.symm hn
def ms_C (g : ms_G) (a : Nat) (c : mx_MC) (H : Heap) : Prop := match c with
  | .inl (ci, fs) => ∃ r : vw_C, tb_cl[ci]? = some r ∧ fs.length = r.2.2 ∧ t_OB (ms_ad g a) ((ms_D g).1 ci) r.2.2 ((ms_D g).2 ci) H (vp_V (fs.map (ms_tr g)))
  | .inr (ty, n, V) => ty ∈ ms_tys ∧ H[ms_ad g a]? = some (arrV (ms_cA g ty) n (fun j => ms_tr g (V j)))
def ms_R (g : ms_G) (h : mx_MH) (H : Heap) : Prop :=
  17 ≤ h.1.1 ∧ H.size = ms_b g + (h.1.1 - 17) ∧ (∀ q, q < ms_b g → H[q]? = (ms_H0 g)[q]?) ∧ (∀ a, a < 17 → h.2 a = ms_rom g a) ∧ ∀ a c, 17 ≤ a → h.2 a = some c → ms_C g a c H
theorem ms_C.kept {g : ms_G} {a : Nat} {c : mx_MC} {H H1 : Heap} (h : ms_C g a c H) (hq : H1[ms_ad g a]? = H[ms_ad g a]?) : ms_C g a c H1 := by
  match c, h with
  | .inl (ci, fs), h =>
    obtain ⟨r, h1, h2, h3⟩ := h
    exact ⟨r, h1, h2, h3.kept hq⟩
  | .inr (ty, n, V), h => exact ⟨h.1, hq.trans h.2⟩
theorem ms_C.lt {g : ms_G} {a : Nat} {c : mx_MC} {H : Heap} (h : ms_C g a c H) : ms_ad g a < H.size := by
  match c, h with
  | .inl (ci, fs), h =>
    obtain ⟨r, h1, h2, cell, h3, -⟩ := h
    exact (Array.getElem?_eq_some_iff.mp h3).1
  | .inr (ty, n, V), h => exact (Array.getElem?_eq_some_iff.mp h.2).1
theorem ms_ad_hi {g : ms_G} {a : Nat} (h : 17 ≤ a) : ms_ad g a = ms_b g + (a - 17) := by
  unfold ms_ad
  rw [if_neg (by omega)]
theorem ms_ad_lo {g : ms_G} {a : Nat} (h : a < 17) : ms_ad g a = ms_ra g a := by
  unfold ms_ad
  rw [if_pos h]
/-- a cell is written -/
theorem ms_R.set {g : ms_G} {h : mx_MH} {H H1 : Heap} {a : Nat} {c : mx_MC} (hR : ms_R g h H) (ha : 17 ≤ a) (hc : ms_C g a c H1) (hz : H1.size = H.size) (oq : ∀ q, q ≠ ms_ad g a → H1[q]? = H[q]?) : ms_R g (mx_set h a c) H1 := by
  obtain ⟨h1, h2, h3, h4, h5⟩ := hR
  have had := ms_ad_hi (g := g) ha
  refine ⟨h1, hz.trans h2, fun q hq => ?_, fun b hb => ?_, fun b c' hb hc' => ?_⟩
  · rw [oq q (by omega)]
    exact h3 q hq
  · show mx_up h.2 a (some c) b = _
    unfold mx_up
    rw [if_neg (by omega)]
    exact h4 b hb
  · have hc'' : mx_up h.2 a (some c) b = some c' := hc'
    unfold mx_up at hc''
    by_cases e : b = a
    · rw [if_pos e] at hc''
      cases hc''
      rw [e]
      exact hc
    · rw [if_neg e] at hc''
      refine (h5 b c' hb hc'').kept (oq _ ?_)
      rw [had, ms_ad_hi hb]
      omega
/-- a cell is made -/
theorem ms_R.new {g : ms_G} {h : mx_MH} {H H1 : Heap} {n : Nat} {c : mx_MC} (hR : ms_R g h H) (hc : ms_C g h.1.1 c H1) (hz : H1.size = H.size + 1) (oq : ∀ q, q < H.size → H1[q]? = H[q]?) : ms_R g (mx_new h n c) H1 := by
  obtain ⟨h1, h2, h3, h4, h5⟩ := hR
  refine ⟨Nat.le_succ_of_le h1, ?_, fun q hq => ?_, fun b hb => ?_, fun b c' hb hc' => ?_⟩
  · show H1.size = ms_b g + (h.1.1 + 1 - 17)
    omega
  · rw [oq q (by omega)]
    exact h3 q hq
  · show mx_up h.2 h.1.1 (some c) b = _
    unfold mx_up
    rw [if_neg (by omega)]
    exact h4 b hb
  · have hc'' : mx_up h.2 h.1.1 (some c) b = some c' := hc'
    unfold mx_up at hc''
    by_cases e : b = h.1.1
    · rw [if_pos e] at hc''
      cases hc''
      rw [e]
      exact hc
    · rw [if_neg e] at hc''
      have hk := h5 b c' hb hc''
      exact hk.kept (oq _ hk.lt)
theorem ms_R.top {g : ms_G} {h : mx_MH} {H : Heap} (hR : ms_R g h H) : H.size = ms_ad g h.1.1 := by
  rw [ms_ad_hi hR.1]
  exact hR.2.1
theorem mx_arr_eq {h : mx_MH} {a : Nat} {q : FieldType × Nat × (Nat → Value)} (e : mx_arr h a = some q) : h.2 a = some (.inr q) := by
  unfold mx_arr at e
  split at e
  · rename_i e1
    cases e
    exact e1
  · cases e
theorem mx_obj_eq {h : mx_MH} {a : Nat} {q : Nat × List Value} (e : mx_obj h a = some q) : h.2 a = some (.inl q) := by
  unfold mx_obj at e
  split at e
  · rename_i e1
    cases e
    exact e1
  · cases e
theorem ms_ty {g : ms_G} {U : State} (hK : ms_K g U) {ty : FieldType} (ht : ty ∈ ms_tys) : ArrOfT U (ms_cA g ty) ty ∧ va_RA U (ms_cA g ty) ty := by
  obtain ⟨i, hi⟩ := List.getElem?_of_mem ht
  exact hK.1.1.2 i (ms_cA g ty, ty) (by unfold ms_tyl; rw [List.getElem?_map, hi]; rfl)
/-- an array cell, as it is read -/
theorem ms_arr {g : ms_G} {s : State} {h : mx_MH} {H : Heap} (hK : ms_K g s) (hR : ms_R g h H) {a n : Nat} {ty : FieldType} {V : Nat → Value} (e : mx_arr h a = some (ty, n, V)) :
    ∃ cell : Cell, H[ms_ad g a]? = some cell ∧ s.isArrayOf cell ty ∧ cell.vm ≠ .unknown ∧ n ≤ cell.slots.size ∧ cell.slots.size.toInt32 = Int32.ofNat n ∧ ∀ j : Nat, j < n → cell.slots[j]? = some (ms_tr g (V j)) := by
  have e := mx_arr_eq e
  by_cases ha : a < 17
  · rw [hR.2.2.2.1 a ha] at e
    obtain ⟨cell, h1, h2, h3, h4, h5, h6, h7⟩ := hK.1.2.1 a _ ha e
    exact ⟨cell, by rw [ms_ad_lo ha, hR.2.2.1 _ (hK.1.2.2.2.1 a ha)]; exact h1, h2, h3, h4, h5, h6⟩
  · obtain ⟨ht, hc⟩ := hR.2.2.2.2 a _ (by omega) e
    refine ⟨_, hc, (ms_ty hK ht).1 n _, (fun q => by cases q), by rw [arrV_size]; exact Nat.le_refl _, by rw [arrV_size], fun j hj => arrV_read _ _ hj⟩
theorem mx_in_of {j : Int32} {n : Nat} (h : mx_in j n = true) : ¬ (j < 0 ∨ n ≤ j.toNatClampNeg) := by
  simpa [mx_in] using h
