theorem mx_call_ne {M pc1 pc' : Nat} {As : List Value} {ls ls' : mx_Lo} {r st' : List Value} {ef : mx_E} : mx_call M As pc1 ls r ≠ some (.inl (pc', ls', st', ef)) := by
  intro hs
  unfold mx_call at hs
  split at hs
  · split at hs <;> cases hs
  · cases hs
theorem ms_nV (oc idx pc : Nat) (ls : mx_Lo) (st : List Value) (h : mx_MH) {pc' : Nat} {ls' : mx_Lo} {st' : List Value} {ef : mx_E} : mx_iv oc idx pc ls st h ≠ some (.inl (pc', ls', st', ef)) := by
  intro hs
  unfold mx_iv at hs
  split at hs
  · split at hs
    · split at hs
      · split at hs
        · split at hs
          · exact mx_call_ne hs
          · cases hs
        · cases hs
      · cases hs
    · cases hs
  · cases hs
section MSN
variable {g : ms_G} {mi : tb_MI} {p : Program} {l : Launch} {e : Env} {R : Room} {s : State} {m : MethodId} {args : Array Value} {below : List Frame} {meth : Method} {c : Code} {H : Heap} {locs : List Loc} {cells slots : Nat} {Q : State → Prop}
variable {pc : Nat} {a : Array Slot} {rest : List Value} {h : mx_MH} {ls : mx_Lo} {st : List Value}
theorem ms_nS (C : ms_X g mi p s m args meth c) (hR : ms_R g h H) (hL : ms_L g mi.2.2.1 ls a) (hl : ∀ q ∈ locs, ms_b g ≤ q.base) (hfr : 2 ≤ R.frames) (hlo : 80 ≤ R.locals) {idx pc' : Nat} {ls' : mx_Lo} {st' : List Value} {ef : mx_E} (hce : cells + ms_dc ef ≤ R.cells) (hsl : slots + ms_ds ef ≤ R.slots) (hd : decode mi.2.1 pc = .ok (.invokestatic idx, 3)) (hs : mx_is mi.2.2.2.2 idx (pc + 3) ls st h = some (.inl (pc', ls', st', ef))) (kk : ms_kk g mi p l e R s m args below meth c cells slots Q h pc' ls' st' ef) : W p l e R s m args below meth c H locs cells slots Q (F0 m pc a (st.map (ms_tr g))) := by
  unfold mx_is at hs
  split at hs
  · rename_i q hq
    unfold mx_ac at hs
    split at hs
    · split at hs
      · rename_i t0 n0 f t1 n1 gg es ed
        split at hs
        · rename_i hh
          obtain ⟨rfl, ht, h1, h2, h3, h4, h5, h6, h7⟩ := hh
          obtain ⟨had, rfl, rfl, rfl, rfl⟩ := mx_put_inv hs
          exact ms_copy C hR hl hL.2.1 (by omega) (by omega) hq es ed had ht h1 h2 h3 h4 h5 h6 h7 hd (fun H1 l1 r1 r2 => kk H1 a l1 r1 hL r2)
        · cases hs
      · cases hs
    · cases hs
  · split at hs
    · rename_i q hq
      split at hs
      · split at hs
        · rename_i hr
          obtain ⟨rfl, rfl, rfl, rfl⟩ := mx_go_inv hs
          exact ms_cQ C hR hl hL.2.1 hfr hlo hq hr hce hsl hd (fun H1 l1 r1 r2 => kk H1 a l1 r1 hL r2)
        · cases hs
      · cases hs
    · split at hs
      · rename_i q hq
        unfold mx_math at hs
        split at hs
        · rename_i y x r e0
          split at hs
          · rename_i hr
            obtain ⟨rfl, rfl, rfl, rfl⟩ := mx_go_inv hs
            exact ms_math C hL.2.1 (by omega) (by omega) hce hsl hq (Or.inl ⟨e0, x, y, rfl, rfl⟩) hr hd (kk H a locs hR hL hl)
          · cases hs
        · rename_i y x r e0
          split at hs
          · rename_i hr
            obtain ⟨rfl, rfl, rfl, rfl⟩ := mx_go_inv hs
            exact ms_math C hL.2.1 (by omega) (by omega) hce hsl hq (Or.inr (Or.inl ⟨e0, x, y, rfl, rfl⟩)) hr hd (kk H a locs hR hL hl)
          · cases hs
        · rename_i x r e0
          split at hs
          · rename_i hr
            obtain ⟨rfl, rfl, rfl, rfl⟩ := mx_go_inv hs
            exact ms_math C hL.2.1 (by omega) (by omega) hce hsl hq (Or.inr (Or.inr ⟨e0, x, rfl, rfl⟩)) hr hd (kk H a locs hR hL hl)
          · cases hs
        · cases hs
      · split at hs
        · split at hs
          · exact absurd hs mx_call_ne
          · cases hs
        · cases hs
theorem ms_nP (C : ms_X g mi p s m args meth c) (hR : ms_R g h H) (hL : ms_L g mi.2.2.1 ls a) (hl : ∀ q ∈ locs, ms_b g ≤ q.base) (hfr : 2 ≤ R.frames) (hlo : 80 ≤ R.locals) {idx pc' : Nat} {ls' : mx_Lo} {st' : List Value} {ef : mx_E} (hd : decode mi.2.1 pc = .ok (.invokespecial idx, 3)) (hs : mx_ip mi.2.2.2.2 idx (pc + 3) ls st h = some (.inl (pc', ls', st', ef))) (kk : ms_kk g mi p l e R s m args below meth c cells slots Q h pc' ls' st' ef) : W p l e R s m args below meth c H locs cells slots Q (F0 m pc a (st.map (ms_tr g))) := by
  unfold mx_ip at hs
  split at hs
  · rename_i q hq
    split at hs
    · split at hs
      · rename_i hr
        obtain ⟨rfl, rfl, rfl, rfl⟩ := mx_go_inv hs
        exact ms_oinit C hL.2.1 (by omega) (by omega) hq hr hd (kk H a locs hR hL hl)
      · cases hs
    · cases hs
  · split at hs
    · split at hs
      · exact absurd hs mx_call_ne
      · cases hs
    · split at hs
      · split at hs
        · split at hs
          · split at hs
            · exact absurd hs mx_call_ne
            · cases hs
          · cases hs
        · cases hs
      · cases hs
set_option maxHeartbeats 4000000 in
theorem ms_next (C : ms_X g mi p s m args meth c) {i : Instr} {len : Nat} (hd : decode mi.2.1 pc = .ok (i, len)) (hlen : mx_len i len = true) {pc' : Nat} {ls' : mx_Lo} {st' : List Value} {ef : mx_E} (hs : mx_I mi.2.2.2.1 (mi.1.name == "<init>") mi.2.2.2.2 i pc ls st h = some (.inl (pc', ls', st', ef))) (hR : ms_R g h H) (hL : ms_L g mi.2.2.1 ls a) (hl : ∀ q ∈ locs, ms_b g ≤ q.base) (hfr : 2 ≤ R.frames) (hlo : 80 ≤ R.locals) (hce : cells + ms_dc ef ≤ R.cells) (hsl : slots + ms_ds ef ≤ R.slots)
    (kk : ms_kk g mi p l e R s m args below meth c cells slots Q h pc' ls' st' ef) : W p l e R s m args below meth c H locs cells slots Q (F0 m pc a (st.map (ms_tr g))) := by
  have hx := C.1
  have hb := C.2.1
  have hK := C.2.2.2.2.2.1
  cases i with
  | iconst n =>
    have hn := hlen; simp only [mx_len, beq_iff_eq] at hn; subst hn
    simp only [mx_I] at hs
    obtain ⟨rfl, rfl, rfl, rfl⟩ := mx_go_inv hs
    exact lv_iconst hx hb hd rfl (kk H a locs hR hL hl)
  | bipush n =>
    have hn := hlen; simp only [mx_len, beq_iff_eq] at hn; subst hn
    simp only [mx_I] at hs
    obtain ⟨rfl, rfl, rfl, rfl⟩ := mx_go_inv hs
    exact lv_bipush hx hb hd rfl (kk H a locs hR hL hl)
  | sipush n =>
    have hn := hlen; simp only [mx_len, beq_iff_eq] at hn; subst hn
    simp only [mx_I] at hs
    obtain ⟨rfl, rfl, rfl, rfl⟩ := mx_go_inv hs
    exact lv_sipush hx hb hd rfl (kk H a locs hR hL hl)
  | lconst n =>
    have hn := hlen; simp only [mx_len, beq_iff_eq] at hn; subst hn
    simp only [mx_I] at hs
    obtain ⟨rfl, rfl, rfl, rfl⟩ := mx_go_inv hs
    exact lv_lconst hx hb hd rfl (kk H a locs hR hL hl)
  | aconst_null =>
    have hn := hlen; simp only [mx_len, beq_iff_eq] at hn; subst hn
    simp only [mx_I] at hs
    obtain ⟨rfl, rfl, rfl, rfl⟩ := mx_go_inv hs
    exact lv_null hx hb hd (kk H a locs hR hL hl)
  | fconst n =>
    have hn := hlen; simp only [mx_len, beq_iff_eq] at hn; subst hn
    simp only [mx_I] at hs
    split at hs
    · rename_i hn2
      obtain ⟨rfl, rfl, rfl, rfl⟩ := mx_go_inv hs
      have hn3 : n = 0 := Fin.ext hn2
      subst hn3
      exact lv_fconst0 hx hb hd (kk H a locs hR hL hl)
    · cases hs
  | ldc idx =>
    have hn := hlen; simp only [mx_len, beq_iff_eq] at hn; subst hn
    simp only [mx_I] at hs
    split at hs
    · rename_i q hq
      obtain ⟨rfl, rfl, rfl, rfl⟩ := mx_go_inv hs
      exact ms_ldcS C hq hd (kk H a locs hR hL hl)
    · unfold mx_const at hs
      split at hs
      · rename_i q hq
        split at hs
        · rename_i hck
          obtain ⟨rfl, rfl, rfl, rfl⟩ := mx_go_inv hs
          exact ms_const C hq (Or.inl ⟨hd, rfl⟩) (fun _ x hx2 => by rw [hx2] at hck; cases hck) (kk H a locs hR hL hl)
        · cases hs
      · cases hs
  | ldc_w idx =>
    have hn := hlen; simp only [mx_len, beq_iff_eq] at hn; subst hn
    simp only [mx_I] at hs
    unfold mx_const at hs
    split at hs
    · rename_i q hq
      split at hs
      · rename_i hck
        obtain ⟨rfl, rfl, rfl, rfl⟩ := mx_go_inv hs
        have hv : ∃ x, q.2.2 = .int x := by cases hq2 : q.2.2 <;> first | exact ⟨_, rfl⟩ | (rw [hq2] at hck; cases hck)
        exact ms_const C hq (Or.inr (Or.inl ⟨hd, rfl, hv⟩)) (fun q => by cases q) (kk H a locs hR hL hl)
      · cases hs
    · cases hs
  | ldc2_w idx =>
    have hn := hlen; simp only [mx_len, beq_iff_eq] at hn; subst hn
    simp only [mx_I] at hs
    unfold mx_const at hs
    split at hs
    · rename_i q hq
      split at hs
      · rename_i hck
        obtain ⟨rfl, rfl, rfl, rfl⟩ := mx_go_inv hs
        have hv : ∃ x, q.2.2 = .long x := by cases hq2 : q.2.2 <;> first | exact ⟨_, rfl⟩ | (rw [hq2] at hck; cases hck)
        exact ms_const C hq (Or.inr (Or.inr ⟨hd, rfl, hv⟩)) (fun q => by cases q) (kk H a locs hR hL hl)
      · cases hs
    · cases hs
  | iload k =>
    have hn := hlen; simp only [mx_len, beq_iff_eq] at hn; subst hn
    simp only [mx_I] at hs
    obtain ⟨x, hv, rfl, rfl, rfl, rfl⟩ := ms_ldI hL hs
    exact lv_iload hx hb hd hv (kk H a locs hR hL hl)
  | iload_n k =>
    have hn := hlen; simp only [mx_len, beq_iff_eq] at hn; subst hn
    simp only [mx_I] at hs
    obtain ⟨x, hv, rfl, rfl, rfl, rfl⟩ := ms_ldI hL hs
    exact lv_iload_n hx hb hd rfl hv (kk H a locs hR hL hl)
  | aload k =>
    have hn := hlen; simp only [mx_len, beq_iff_eq] at hn; subst hn
    simp only [mx_I] at hs
    obtain ⟨rfl, rfl, rfl, ⟨x, hv, rfl⟩ | ⟨hv, rfl⟩⟩ := ms_ldA hL hs
    · exact lv_aload hx hb hd hv (kk H a locs hR hL hl)
    · exact lv_aloadN hx hb hd hv (kk H a locs hR hL hl)
  | aload_n k =>
    have hn := hlen; simp only [mx_len, beq_iff_eq] at hn; subst hn
    simp only [mx_I] at hs
    obtain ⟨rfl, rfl, rfl, ⟨x, hv, rfl⟩ | ⟨hv, rfl⟩⟩ := ms_ldA hL hs
    · exact lv_aload_n hx hb hd rfl hv (kk H a locs hR hL hl)
    · exact lv_aload_nN hx hb hd rfl hv (kk H a locs hR hL hl)
  | istore k =>
    have hn := hlen; simp only [mx_len, beq_iff_eq] at hn; subst hn
    simp only [mx_I] at hs
    split at hs
    · rename_i x r
      obtain ⟨hi, rfl, rfl, rfl, rfl⟩ := ms_sto hs
      exact lv_istore hx hb hd  hL.has (by rw [← hL.1]; exact hi) rfl (fun a2 h2 => kk H a2 locs hR (hL.set hK (v := .int x) rfl (by rw [← hL.1]; exact hi) h2) hl)
    · cases hs
  | istore_n k =>
    have hn := hlen; simp only [mx_len, beq_iff_eq] at hn; subst hn
    simp only [mx_I] at hs
    split at hs
    · rename_i x r
      obtain ⟨hi, rfl, rfl, rfl, rfl⟩ := ms_sto hs
      exact lv_istore_n hx hb hd rfl  hL.has (by rw [← hL.1]; exact hi) rfl (fun a2 h2 => kk H a2 locs hR (hL.set hK (v := .int x) rfl (by rw [← hL.1]; exact hi) h2) hl)
    · cases hs
  | astore k =>
    have hn := hlen; simp only [mx_len, beq_iff_eq] at hn; subst hn
    simp only [mx_I] at hs
    split at hs
    · rename_i x r
      obtain ⟨hi, rfl, rfl, rfl, rfl⟩ := ms_sto hs
      exact lv_astore hx hb hd  hL.has (by rw [← hL.1]; exact hi) rfl (fun a2 h2 => kk H a2 locs hR (hL.set hK (v := .ref x) rfl (by rw [← hL.1]; exact hi) h2) hl)
    · rename_i r
      obtain ⟨hi, rfl, rfl, rfl, rfl⟩ := ms_sto hs
      exact lv_astoreN hx hb hd  hL.has (by rw [← hL.1]; exact hi) rfl (fun a2 h2 => kk H a2 locs hR (hL.set hK (v := .null) rfl (by rw [← hL.1]; exact hi) h2) hl)
    · cases hs
  | astore_n k =>
    have hn := hlen; simp only [mx_len, beq_iff_eq] at hn; subst hn
    simp only [mx_I] at hs
    split at hs
    · rename_i x r
      obtain ⟨hi, rfl, rfl, rfl, rfl⟩ := ms_sto hs
      exact lv_astore_n hx hb hd rfl  hL.has (by rw [← hL.1]; exact hi) rfl (fun a2 h2 => kk H a2 locs hR (hL.set hK (v := .ref x) rfl (by rw [← hL.1]; exact hi) h2) hl)
    · rename_i r
      obtain ⟨hi, rfl, rfl, rfl, rfl⟩ := ms_sto hs
      exact lv_astore_nN hx hb hd rfl  hL.has (by rw [← hL.1]; exact hi) rfl (fun a2 h2 => kk H a2 locs hR (hL.set hK (v := .null) rfl (by rw [← hL.1]; exact hi) h2) hl)
    · cases hs
  | iinc k n =>
    have hn := hlen; simp only [mx_len, beq_iff_eq] at hn; subst hn
    simp only [mx_I] at hs
    split at hs
    · rename_i x hk0
      obtain ⟨hi, rfl, rfl, rfl, rfl⟩ := ms_sto hs
      obtain ⟨j, hj⟩ := List.getElem?_of_mem (ms_pl_mem (g := g) (ls := ls) (q := (k, .int x)) |>.mpr ⟨.int x, hk0, rfl⟩)
      exact lv_iinc hx hb hd hL.has hj rfl (by rw [← hL.1]; exact hi) rfl (fun a2 h2 => kk H a2 locs hR (hL.set hK (v := .int (x + Int32.ofInt n)) rfl (by rw [← hL.1]; exact hi) h2) hl)
    · cases hs
  | iadd =>
    have hn := hlen; simp only [mx_len, beq_iff_eq] at hn; subst hn
    simp only [mx_I] at hs
    split at hs
    · obtain ⟨rfl, rfl, rfl, rfl⟩ := mx_go_inv hs
      exact lv_iadd hx hb hd (kk H a locs hR hL hl)
    · cases hs
  | isub =>
    have hn := hlen; simp only [mx_len, beq_iff_eq] at hn; subst hn
    simp only [mx_I] at hs
    split at hs
    · obtain ⟨rfl, rfl, rfl, rfl⟩ := mx_go_inv hs
      exact lv_isub hx hb hd (kk H a locs hR hL hl)
    · cases hs
  | imul =>
    have hn := hlen; simp only [mx_len, beq_iff_eq] at hn; subst hn
    simp only [mx_I] at hs
    split at hs
    · obtain ⟨rfl, rfl, rfl, rfl⟩ := mx_go_inv hs
      exact lv_imul hx hb hd (kk H a locs hR hL hl)
    · cases hs
  | ineg =>
    have hn := hlen; simp only [mx_len, beq_iff_eq] at hn; subst hn
    simp only [mx_I] at hs
    split at hs
    · obtain ⟨rfl, rfl, rfl, rfl⟩ := mx_go_inv hs
      exact lv_ineg hx hb hd (kk H a locs hR hL hl)
    · cases hs
  | ishl =>
    have hn := hlen; simp only [mx_len, beq_iff_eq] at hn; subst hn
    simp only [mx_I] at hs
    split at hs
    · obtain ⟨rfl, rfl, rfl, rfl⟩ := mx_go_inv hs
      exact lv_ishl hx hb hd (kk H a locs hR hL hl)
    · cases hs
  | ishr =>
    have hn := hlen; simp only [mx_len, beq_iff_eq] at hn; subst hn
    simp only [mx_I] at hs
    split at hs
    · obtain ⟨rfl, rfl, rfl, rfl⟩ := mx_go_inv hs
      exact lv_ishr hx hb hd (kk H a locs hR hL hl)
    · cases hs
  | iand =>
    have hn := hlen; simp only [mx_len, beq_iff_eq] at hn; subst hn
    simp only [mx_I] at hs
    split at hs
    · obtain ⟨rfl, rfl, rfl, rfl⟩ := mx_go_inv hs
      exact lv_iand hx hb hd (kk H a locs hR hL hl)
    · cases hs
  | ior =>
    have hn := hlen; simp only [mx_len, beq_iff_eq] at hn; subst hn
    simp only [mx_I] at hs
    split at hs
    · obtain ⟨rfl, rfl, rfl, rfl⟩ := mx_go_inv hs
      exact lv_ior hx hb hd (kk H a locs hR hL hl)
    · cases hs
  | ladd =>
    have hn := hlen; simp only [mx_len, beq_iff_eq] at hn; subst hn
    simp only [mx_I] at hs
    split at hs
    · obtain ⟨rfl, rfl, rfl, rfl⟩ := mx_go_inv hs
      exact lv_ladd hx hb hd (kk H a locs hR hL hl)
    · cases hs
  | i2f =>
    have hn := hlen; simp only [mx_len, beq_iff_eq] at hn; subst hn
    simp only [mx_I] at hs
    split at hs
    · obtain ⟨rfl, rfl, rfl, rfl⟩ := mx_go_inv hs
      exact lv_i2f hx hb hd (kk H a locs hR hL hl)
    · cases hs
  | f2i =>
    have hn := hlen; simp only [mx_len, beq_iff_eq] at hn; subst hn
    simp only [mx_I] at hs
    split at hs
    · obtain ⟨rfl, rfl, rfl, rfl⟩ := mx_go_inv hs
      exact lv_f2i hx hb hd (kk H a locs hR hL hl)
    · cases hs
  | iushr =>
    have hn := hlen; simp only [mx_len, beq_iff_eq] at hn; subst hn
    simp only [mx_I] at hs
    split at hs
    · obtain ⟨rfl, rfl, rfl, rfl⟩ := mx_go_inv hs
      exact lv_iushr hx hb hd rfl (kk H a locs hR hL hl)
    · cases hs
  | i2l =>
    have hn := hlen; simp only [mx_len, beq_iff_eq] at hn; subst hn
    simp only [mx_I] at hs
    split at hs
    · obtain ⟨rfl, rfl, rfl, rfl⟩ := mx_go_inv hs
      exact lv_i2l hx hb hd rfl (kk H a locs hR hL hl)
    · cases hs
  | i2b =>
    have hn := hlen; simp only [mx_len, beq_iff_eq] at hn; subst hn
    simp only [mx_I] at hs
    split at hs
    · obtain ⟨rfl, rfl, rfl, rfl⟩ := mx_go_inv hs
      exact lv_i2b hx hb hd rfl (kk H a locs hR hL hl)
    · cases hs
  | i2s =>
    have hn := hlen; simp only [mx_len, beq_iff_eq] at hn; subst hn
    simp only [mx_I] at hs
    split at hs
    · obtain ⟨rfl, rfl, rfl, rfl⟩ := mx_go_inv hs
      exact lv_i2s hx hb hd rfl (kk H a locs hR hL hl)
    · cases hs
  | i2c =>
    have hn := hlen; simp only [mx_len, beq_iff_eq] at hn; subst hn
    simp only [mx_I] at hs
    split at hs
    · obtain ⟨rfl, rfl, rfl, rfl⟩ := mx_go_inv hs
      exact lv_i2c hx hb hd rfl (kk H a locs hR hL hl)
    · cases hs
  | lcmp =>
    have hn := hlen; simp only [mx_len, beq_iff_eq] at hn; subst hn
    simp only [mx_I] at hs
    split at hs
    · obtain ⟨rfl, rfl, rfl, rfl⟩ := mx_go_inv hs
      exact W.lcmp hx hb hd (kk H a locs hR hL hl)
    · cases hs
  | idiv =>
    have hn := hlen; simp only [mx_len, beq_iff_eq] at hn; subst hn
    simp only [mx_I] at hs
    split at hs
    · split at hs
      · cases hs
      · rename_i hne
        obtain ⟨rfl, rfl, rfl, rfl⟩ := mx_go_inv hs
        exact lv_idiv hx hb hd hne (kk H a locs hR hL hl)
    · cases hs
  | irem =>
    have hn := hlen; simp only [mx_len, beq_iff_eq] at hn; subst hn
    simp only [mx_I] at hs
    split at hs
    · split at hs
      · cases hs
      · rename_i hne
        obtain ⟨rfl, rfl, rfl, rfl⟩ := mx_go_inv hs
        exact lv_irem hx hb hd hne (kk H a locs hR hL hl)
    · cases hs
  | dup =>
    have hn := hlen; simp only [mx_len, beq_iff_eq] at hn; subst hn
    simp only [mx_I] at hs
    split at hs
    · split at hs
      · rename_i h1
        obtain ⟨rfl, rfl, rfl, rfl⟩ := mx_go_inv hs
        exact lv_dup hx hb hd (ms_c1 hK h1).2 (kk H a locs hR hL hl)
      · cases hs
    · cases hs
  | pop =>
    have hn := hlen; simp only [mx_len, beq_iff_eq] at hn; subst hn
    simp only [mx_I] at hs
    split at hs
    · split at hs
      · rename_i h1
        obtain ⟨rfl, rfl, rfl, rfl⟩ := mx_go_inv hs
        exact lv_pop hx hb hd (ms_c1 hK h1).2 (kk H a locs hR hL hl)
      · cases hs
    · cases hs
  | dup2 =>
    have hn := hlen; simp only [mx_len, beq_iff_eq] at hn; subst hn
    simp only [mx_I] at hs
    split at hs
    · split at hs
      · rename_i h1
        obtain ⟨rfl, rfl, rfl, rfl⟩ := mx_go_inv hs
        exact lv_dup2_11 hx hb hd (ms_c1 hK h1.1).2 (ms_c1 hK h1.2).2 (kk H a locs hR hL hl)
      · cases hs
    · cases hs
  | goto off =>
    have hn := hlen; simp only [mx_len, beq_iff_eq] at hn; subst hn
    simp only [mx_I] at hs
    obtain ⟨ht, rfl, rfl, rfl⟩ := mx_jmp_inv hs
    exact lv_goto hx hb hd ht (kk H a locs hR hL hl)
  | ifCond cd off =>
    have hn := hlen; simp only [mx_len, beq_iff_eq] at hn; subst hn
    simp only [mx_I] at hs
    split at hs
    · exact ms_if C hd (ms_brn C hR hL hl hs kk)
    · cases hs
  | if_icmp cd off =>
    have hn := hlen; simp only [mx_len, beq_iff_eq] at hn; subst hn
    simp only [mx_I] at hs
    split at hs
    · exact ms_icmp C hd (ms_brn C hR hL hl hs kk)
    · cases hs
  | ifnull off =>
    have hn := hlen; simp only [mx_len, beq_iff_eq] at hn; subst hn
    simp only [mx_I] at hs
    split at hs
    · obtain ⟨rfl, rfl, rfl, rfl⟩ := mx_go_inv hs
      exact lv_ifnull hx hb hd (kk H a locs hR hL hl)
    · obtain ⟨ht, rfl, rfl, rfl⟩ := mx_jmp_inv hs
      exact lv_ifnullN hx hb hd ht (kk H a locs hR hL hl)
    · cases hs
  | ifnonnull off =>
    have hn := hlen; simp only [mx_len, beq_iff_eq] at hn; subst hn
    simp only [mx_I] at hs
    split at hs
    · obtain ⟨ht, rfl, rfl, rfl⟩ := mx_jmp_inv hs
      exact lv_ifnonnull hx hb hd ht (kk H a locs hR hL hl)
    · obtain ⟨rfl, rfl, rfl, rfl⟩ := mx_go_inv hs
      exact lv_ifnonnullN hx hb hd (kk H a locs hR hL hl)
    · cases hs
  | tableswitch d lo hi offs =>
    simp only [mx_I] at hs
    split at hs
    · unfold mx_sw at hs
      split at hs
      · rename_i ho
        obtain ⟨ht, rfl, rfl, rfl⟩ := mx_jmp_inv hs
        exact lv_tableOut hx hb hd ho ht (kk H a locs hR hL hl)
      · rename_i ho
        split at hs
        · rename_i off hoff
          obtain ⟨ht, rfl, rfl, rfl⟩ := mx_jmp_inv hs
          exact lv_tableIn hx hb hd (by omega) (by omega) hoff ht (kk H a locs hR hL hl)
        · cases hs
    · cases hs
  | lookupswitch d ps =>
    simp only [mx_I] at hs
    split at hs
    · split at hs
      · rename_i hp
        obtain ⟨ht, rfl, rfl, rfl⟩ := mx_jmp_inv hs
        exact lv_lookup hx hb hd hp rfl ht (kk H a locs hR hL hl)
      · cases hs
    · cases hs
  | getfield idx =>
    have hn := hlen; simp only [mx_len, beq_iff_eq] at hn; subst hn
    simp only [mx_I] at hs
    unfold mx_gf at hs
    split at hs
    · split at hs
      · rename_i q ci fs hq ho
        split at hs
        · rename_i hci
          split at hs
          · rename_i v hv
            obtain ⟨rfl, rfl, rfl, rfl⟩ := mx_go_inv hs
            exact ms_getf C hR hq ho hci hv hd (kk H a locs hR hL hl)
          · cases hs
        · cases hs
      · cases hs
    · cases hs
  | putfield idx =>
    have hn := hlen; simp only [mx_len, beq_iff_eq] at hn; subst hn
    simp only [mx_I] at hs
    unfold mx_pf at hs
    split at hs
    · split at hs
      · rename_i q ci fs hq ho
        split at hs
        · rename_i hh
          obtain ⟨had, rfl, rfl, rfl, rfl⟩ := mx_put_inv hs
          exact ms_putf C hR hl hq ho had hh.1 hh.2.1 (fun z => by simpa using (hh.2.2.1 z).1) hh.2.2.2 hd (fun z => (hh.2.2.1 z).2) (fun H1 l1 r1 r2 => kk H1 a l1 r1 hL r2)
        · cases hs
      · cases hs
    · cases hs
  | getstatic idx =>
    have hn := hlen; simp only [mx_len, beq_iff_eq] at hn; subst hn
    simp only [mx_I] at hs
    split at hs
    · rename_i q hq
      split at hs
      · rename_i z hz
        obtain ⟨rfl, rfl, rfl, rfl⟩ := mx_go_inv hs
        exact ms_gets C hR hq hz hd (kk H a locs hR hL hl)
      · cases hs
    · cases hs
  | iaload =>
    have hn := hlen; simp only [mx_len, beq_iff_eq] at hn; subst hn
    simp only [mx_I] at hs
    unfold mx_ld at hs
    split at hs
    · split at hs
      · rename_i ty n V ea
        split at hs
        · rename_i hh
          obtain ⟨rfl, rfl, rfl, rfl⟩ := mx_go_inv hs
          rw [hh.1] at ea
          exact ms_iald C hR ea hh.2 hd (kk H a locs hR hL hl)
        · cases hs
      · cases hs
    · cases hs
  | baload =>
    have hn := hlen; simp only [mx_len, beq_iff_eq] at hn; subst hn
    simp only [mx_I] at hs
    unfold mx_ld at hs
    split at hs
    · split at hs
      · rename_i ty n V ea
        split at hs
        · rename_i hh
          obtain ⟨rfl, rfl, rfl, rfl⟩ := mx_go_inv hs
          rw [hh.1] at ea
          exact ms_bald C hR ea hh.2 hd (kk H a locs hR hL hl)
        · cases hs
      · cases hs
    · cases hs
  | saload =>
    have hn := hlen; simp only [mx_len, beq_iff_eq] at hn; subst hn
    simp only [mx_I] at hs
    unfold mx_ld at hs
    split at hs
    · split at hs
      · rename_i ty n V ea
        split at hs
        · rename_i hh
          obtain ⟨rfl, rfl, rfl, rfl⟩ := mx_go_inv hs
          rw [hh.1] at ea
          exact ms_sald C hR ea hh.2 hd (kk H a locs hR hL hl)
        · cases hs
      · cases hs
    · cases hs
  | faload =>
    have hn := hlen; simp only [mx_len, beq_iff_eq] at hn; subst hn
    simp only [mx_I] at hs
    unfold mx_ld at hs
    split at hs
    · split at hs
      · rename_i ty n V ea
        split at hs
        · rename_i hh
          obtain ⟨rfl, rfl, rfl, rfl⟩ := mx_go_inv hs
          rw [hh.1] at ea
          exact ms_fald C hR ea hh.2 hd (kk H a locs hR hL hl)
        · cases hs
      · cases hs
    · cases hs
  | aaload =>
    have hn := hlen; simp only [mx_len, beq_iff_eq] at hn; subst hn
    simp only [mx_I] at hs
    unfold mx_aa at hs
    split at hs
    · split at hs
      · rename_i K n V ea
        split at hs
        · rename_i hh
          obtain ⟨rfl, rfl, rfl, rfl⟩ := mx_go_inv hs
          exact ms_aald C hR ea hh hd (kk H a locs hR hL hl)
        · cases hs
      · cases hs
    · cases hs
  | iastore =>
    have hn := hlen; simp only [mx_len, beq_iff_eq] at hn; subst hn
    simp only [mx_I] at hs
    unfold mx_stI at hs
    split at hs
    · split at hs
      · rename_i ty n V ea
        split at hs
        · rename_i hh
          obtain ⟨had, rfl, rfl, rfl, rfl⟩ := mx_put_inv hs
          obtain ⟨rfl, hin⟩ := hh
          exact ms_iast C hR hl ea had hin hd (fun H1 l1 r1 r2 => kk H1 a l1 r1 hL r2)
        · cases hs
      · cases hs
    · cases hs
  | bastore =>
    have hn := hlen; simp only [mx_len, beq_iff_eq] at hn; subst hn
    simp only [mx_I] at hs
    unfold mx_stI at hs
    split at hs
    · split at hs
      · rename_i ty n V ea
        split at hs
        · rename_i hh
          obtain ⟨had, rfl, rfl, rfl, rfl⟩ := mx_put_inv hs
          obtain ⟨rfl, hin⟩ := hh
          exact ms_bast C hR hl ea had hin hd (fun H1 l1 r1 r2 => kk H1 a l1 r1 hL r2)
        · cases hs
      · cases hs
    · cases hs
  | sastore =>
    have hn := hlen; simp only [mx_len, beq_iff_eq] at hn; subst hn
    simp only [mx_I] at hs
    unfold mx_stI at hs
    split at hs
    · split at hs
      · rename_i ty n V ea
        split at hs
        · rename_i hh
          obtain ⟨had, rfl, rfl, rfl, rfl⟩ := mx_put_inv hs
          obtain ⟨rfl, hin⟩ := hh
          exact ms_sast C hR hl ea had hin hd (fun H1 l1 r1 r2 => kk H1 a l1 r1 hL r2)
        · cases hs
      · cases hs
    · cases hs
  | fastore =>
    have hn := hlen; simp only [mx_len, beq_iff_eq] at hn; subst hn
    simp only [mx_I] at hs
    unfold mx_stF at hs
    split at hs
    · split at hs
      · rename_i ty n V ea
        split at hs
        · rename_i hh
          obtain ⟨had, rfl, rfl, rfl, rfl⟩ := mx_put_inv hs
          obtain ⟨rfl, hin⟩ := hh
          exact ms_fast C hR hl ea had hin hd (fun H1 l1 r1 r2 => kk H1 a l1 r1 hL r2)
        · cases hs
      · cases hs
    · cases hs
  | aastore =>
    have hn := hlen; simp only [mx_len, beq_iff_eq] at hn; subst hn
    simp only [mx_I] at hs
    unfold mx_as at hs
    split at hs
    · split at hs
      · rename_i K n V ci fs ea ev
        split at hs
        · rename_i hh
          obtain ⟨had, rfl, rfl, rfl, rfl⟩ := mx_put_inv hs
          exact ms_aast C hR hl ea had ev hh.2.2 hh.2.1 hh.1 hd (fun H1 l1 r1 r2 => kk H1 a l1 r1 hL r2)
        · cases hs
      · cases hs
    · split at hs
      · rename_i K n V ea
        split at hs
        · rename_i hh
          obtain ⟨had, rfl, rfl, rfl, rfl⟩ := mx_put_inv hs
          exact ms_aasN C hR hl ea had hh hd (fun H1 l1 r1 r2 => kk H1 a l1 r1 hL r2)
        · cases hs
      · cases hs
    · cases hs
  | arraylength =>
    have hn := hlen; simp only [mx_len, beq_iff_eq] at hn; subst hn
    simp only [mx_I] at hs
    split at hs
    · split at hs
      · rename_i ty n V ea
        obtain ⟨rfl, rfl, rfl, rfl⟩ := mx_go_inv hs
        exact ms_alen C hR ea hd (kk H a locs hR hL hl)
      · cases hs
    · cases hs
  | newarray t =>
    have hn := hlen; simp only [mx_len, beq_iff_eq] at hn; subst hn
    simp only [mx_I] at hs
    unfold mx_newP at hs
    split at hs
    · split at hs
      · rename_i ty hty
        split at hs
        · rename_i hh
          cases hs
          exact ms_newP C hR hty hh.1 hh.2 hce hsl hd (fun H1 r1 => kk H1 a locs r1 hL hl)
        · cases hs
      · cases hs
    · cases hs
  | anewarray idx =>
    have hn := hlen; simp only [mx_len, beq_iff_eq] at hn; subst hn
    simp only [mx_I] at hs
    unfold mx_newA at hs
    split at hs
    · split at hs
      · rename_i q hq
        split at hs
        · rename_i hh
          cases hs
          exact ms_newA C hR hq hh.1 hh.2 hce hsl hd (fun H1 r1 => kk H1 a locs r1 hL hl)
        · cases hs
      · cases hs
    · cases hs
  | new idx =>
    have hn := hlen; simp only [mx_len, beq_iff_eq] at hn; subst hn
    simp only [mx_I] at hs
    unfold mx_newI at hs
    split at hs
    · rename_i q hq
      split at hs
      · rename_i n fs hdv
        cases hs
        exact ms_new C hR hq hdv hce hsl hd (fun H1 r1 => kk H1 a locs r1 hL hl)
      · cases hs
    · cases hs
  | invokestatic idx =>
    have hn := hlen; simp only [mx_len, beq_iff_eq] at hn; subst hn
    simp only [mx_I] at hs
    exact ms_nS C hR hL hl hfr hlo hce hsl hd hs kk
  | invokespecial idx =>
    have hn := hlen; simp only [mx_len, beq_iff_eq] at hn; subst hn
    simp only [mx_I] at hs
    exact ms_nP C hR hL hl hfr hlo hd hs kk
  | invokevirtual idx =>
    have hn := hlen; simp only [mx_len, beq_iff_eq] at hn; subst hn
    simp only [mx_I] at hs
    exact absurd hs (ms_nV _ _ _ _ _ _)
  | ireturn =>
    simp only [mx_I] at hs
    split at hs
    · split at hs <;> cases hs
    · cases hs
  | areturn =>
    simp only [mx_I] at hs
    split at hs
    · split at hs <;> cases hs
    · split at hs <;> cases hs
    · cases hs
  | return_ =>
    simp only [mx_I] at hs
    split at hs <;> cases hs
  | _ =>
    cases hs
end MSN
