theorem ms_step_inv {M pc : Nat} {ls : mx_Lo} {st : List Value} {h : mx_MH} {q : mx_SR} {mi : tb_MI} (hm : tb_mt M = some mi) (hs : mx_step M pc ls st h = some q) : ∃ i len, decode mi.2.1 pc = .ok (i, len) ∧ mx_len i len = true ∧ mx_I mi.2.2.2.1 (mi.1.name == "<init>") mi.2.2.2.2 i pc ls st h = some q := by
  unfold mx_step at hs
  rw [hm] at hs
  simp only at hs
  split at hs
  · cases hs
  · rename_i z hz
    split at hs
    · rename_i hl
      exact ⟨z.1, z.2, hz, hl, hs⟩
    · cases hs
theorem ms_done {mi : tb_MI} {pc : Nat} {i : Instr} {len : Nat} {ls : mx_Lo} {st : List Value} {h : mx_MH} {v : Option Value} (hl : mx_len i len = true) (hs : mx_I mi.2.2.2.1 (mi.1.name == "<init>") mi.2.2.2.2 i pc ls st h = some (.inr (.inr v))) : len = 1 ∧ ms_ret mi i v ∧ st = v.toList := by
  have hcn : ∀ {M pc1 : Nat} {As : List Value} {ls : mx_Lo} {r : List Value}, mx_call M As pc1 ls r ≠ some (.inr (.inr v)) := by
    intro M pc1 As ls r hs
    unfold mx_call at hs
    split at hs
    · split at hs <;> cases hs
    · cases hs
  rcases mx_I_nr hs with ⟨idx, rfl⟩ | ⟨idx, rfl⟩ | ⟨idx, rfl⟩ | rfl | rfl | rfl
  · exfalso
    simp only [mx_I] at hs
    unfold mx_iv at hs
    repeat' split at hs
    all_goals first | exact hcn hs | (cases hs; done)
  · exfalso
    simp only [mx_I] at hs
    unfold mx_is mx_ac mx_math at hs
    repeat' split at hs
    all_goals first | exact hcn hs | exact mx_go_nr hs | exact mx_put_nr hs | (cases hs; done)
  · exfalso
    simp only [mx_I] at hs
    unfold mx_ip at hs
    repeat' split at hs
    all_goals first | exact hcn hs | exact mx_go_nr hs | (cases hs; done)
  · simp only [mx_len, beq_iff_eq] at hl
    simp only [mx_I] at hs
    split at hs
    · rename_i v' ty hty
      split at hs
      · rename_i hn
        cases hs
        exact ⟨hl, Or.inl ⟨rfl, v', ty, rfl, hty, hn⟩, rfl⟩
      · cases hs
    · cases hs
  · simp only [mx_len, beq_iff_eq] at hl
    simp only [mx_I] at hs
    split at hs
    · rename_i v' n hty
      split at hs
      · rename_i hn
        cases hs
        exact ⟨hl, Or.inr (Or.inl ⟨rfl, v', _, rfl, hn, hty, Or.inl ⟨_, rfl⟩⟩), rfl⟩
      · cases hs
    · rename_i v' n hty
      split at hs
      · rename_i hn
        cases hs
        exact ⟨hl, Or.inr (Or.inl ⟨rfl, v', _, rfl, hn, hty, Or.inr ⟨_, rfl⟩⟩), rfl⟩
      · cases hs
    · cases hs
  · simp only [mx_len, beq_iff_eq] at hl
    simp only [mx_I] at hs
    split at hs
    · rename_i hty
      cases hs
      exact ⟨hl, Or.inr (Or.inr ⟨rfl, rfl, hty⟩), rfl⟩
    · cases hs
section MSF
variable {g : ms_G} {mi : tb_MI} {p : Program} {l : Launch} {e : Env} {R : Room} {s : State} {m : MethodId} {args : Array Value} {below : List Frame} {meth : Method} {c : Code} {H : Heap} {locs : List Loc} {cells slots : Nat} {Q : State → Prop}
variable {pc : Nat} {a : Array Slot} {rest : List Value} {h : mx_MH} {ls : mx_Lo} {st : List Value}
theorem ms_split (st : List Value) (n : Nat) {x : Value} {r : List Value} (hr : st.drop n = x :: r) : st = (st.take n).reverse.reverse ++ x :: r ∧ (st.take n).reverse.length = n := by
  rw [List.reverse_reverse]
  refine ⟨?_, ?_⟩
  · rw [← hr, List.take_append_drop]
  · rw [List.length_reverse, List.length_take]
    have : n < st.length := by
      rcases Nat.lt_or_ge n st.length with q | q
      · exact q
      · rw [List.drop_eq_nil_of_le q] at hr
        cases hr
    omega
/-- a call, whichever -/
theorem ms_calls (C : ms_X g mi p s m args meth c) {i : Instr} {len : Nat} (hd : decode mi.2.1 pc = .ok (i, len)) (hlen : mx_len i len = true) {M' pc' : Nat} {As : List Value} {ls' : mx_Lo} {st' : List Value} (hs : mx_I mi.2.2.2.1 (mi.1.name == "<init>") mi.2.2.2.2 i pc ls st h = some (.inr (.inl (M', As, pc', ls', st')))) (hR : ms_R g h H) (hL : ms_L g mi.2.2.1 ls a) (hl : ∀ q ∈ locs, ms_b g ≤ q.base) {d : Nat} (hfr : d + 3 ≤ R.frames) (hlo : 40 * (d + 3) ≤ R.locals) {v : Option Value} {h' : mx_MH}
    (hM : 0 < M' → As.all mx_c1 = true → (∃ mi, tb_mt M' = some mi ∧ As.length ≤ mi.2.2.1) → ms_Met l g (d + 1) M' As h v h') (hc : cells + (h'.1.1 - h.1.1) ≤ R.cells) (hsl : slots + (h'.1.2 - h.1.2) ≤ R.slots)
    (kk : ∀ (H1 : Heap) (locs1 : List Loc), ms_R g h' H1 → (∀ q ∈ locs1, ms_b g ≤ q.base) → W p l e R s m args below meth c H1 locs1 (cells + (h'.1.1 - h.1.1)) (slots + (h'.1.2 - h.1.2)) Q (F0 m pc' a ((v.toList ++ st').map (ms_tr g)))) (hls : ls' = ls → True) : ls' = ls ∧ W p l e R s m args below meth c H locs cells slots Q (F0 m pc a (st.map (ms_tr g))) := by
  have hvv : ∀ r : List Value, (v.toList ++ r).map (ms_tr g) = (v.map (ms_tr g)).toList ++ r.map (ms_tr g) := by
    intro r
    cases v <;> rfl
  rcases mx_I_nr hs with ⟨idx, rfl⟩ | ⟨idx, rfl⟩ | ⟨idx, rfl⟩ | rfl | rfl | rfl
  · simp only [mx_len, beq_iff_eq] at hlen
    subst hlen
    simp only [mx_I] at hs
    unfold mx_iv at hs
    split at hs
    · rename_i e0 he0
      split at hs
      · rename_i ad r hdr
        split at hs
        · rename_i ci fs ho
          split at hs
          · rename_i q hq
            split at hs
            · rename_i hne
              obtain ⟨rfl, rfl, rfl, rfl, rfl, c1, c2, c3, c4⟩ := mx_call_inv hs
              refine ⟨rfl, ?_⟩
              obtain ⟨es, el⟩ := ms_split st _ hdr
              rw [es]
              refine ms_cV C hR hl hL.2.1 hfr hlo ho hq (As := (st.take e0.2.2.2.2.1).reverse) (by rw [el, hne]) c2 (hM c1 c3 c4) hc hsl hd (fun H1 l1 r1 r2 => ?_)
              have := kk H1 l1 r1 r2
              rw [hvv] at this
              exact this
            · cases hs
          · cases hs
        · cases hs
      · cases hs
    · cases hs
  · simp only [mx_len, beq_iff_eq] at hlen
    subst hlen
    simp only [mx_I] at hs
    unfold mx_is at hs
    split at hs
    · exfalso
      unfold mx_ac at hs
      repeat' split at hs
      all_goals first | exact mx_put_nr hs | (cases hs; done)
    · split at hs
      · exfalso
        repeat' split at hs
        all_goals first | exact mx_go_nr hs | (cases hs; done)
      · split at hs
        · exfalso
          unfold mx_math at hs
          repeat' split at hs
          all_goals first | exact mx_go_nr hs | (cases hs; done)
        · split at hs
          · rename_i q hq
            split at hs
            · rename_i hle
              obtain ⟨rfl, rfl, rfl, rfl, rfl, c1, c2, c3, c4⟩ := mx_call_inv hs
              refine ⟨rfl, ?_⟩
              have es : st = (st.take q.2.2.2.1).reverse.reverse ++ st.drop q.2.2.2.1 := by rw [List.reverse_reverse, List.take_append_drop]
              rw [es]
              have hM2 := hM c1 c3 c4
              generalize hA : (st.take q.2.2.2.1).reverse = As at *
              generalize hD : st.drop q.2.2.2.1 = r at *
              refine ms_cS C hR hl hL.2.1 hfr hlo hq (As := As) (by rw [← hA, List.length_reverse, List.length_take]; omega) c2 hM2 hc hsl hd (fun H1 l1 r1 r2 => ?_)
              have := kk H1 l1 r1 r2
              rw [hvv] at this
              exact this
            · cases hs
          · cases hs
  · simp only [mx_len, beq_iff_eq] at hlen
    subst hlen
    simp only [mx_I] at hs
    unfold mx_ip at hs
    split at hs
    · exfalso
      repeat' split at hs
      all_goals first | exact mx_go_nr hs | (cases hs; done)
    · split at hs
      · rename_i q hq
        split at hs
        · rename_i ad r hdr
          obtain ⟨rfl, rfl, rfl, rfl, rfl, c1, c2, c3, c4⟩ := mx_call_inv hs
          refine ⟨rfl, ?_⟩
          obtain ⟨es, el⟩ := ms_split st _ hdr
          rw [es]
          refine ms_cK C hR hl hL.2.1 hfr hlo hq (As := (st.take q.2.2.2.1).reverse) el c2 (hM c1 c3 c4) hc hsl hd (fun H1 l1 r1 r2 => ?_)
          have := kk H1 l1 r1 r2
          rw [hvv] at this
          exact this
        · cases hs
      · split at hs
        · rename_i q hq
          split at hs
          · rename_i ad r hdr
            split at hs
            · rename_i ci fs ho
              split at hs
              · rename_i hh
                obtain ⟨rfl, rfl, rfl, rfl, rfl, c1, c2, c3, c4⟩ := mx_call_inv hs
                refine ⟨rfl, ?_⟩
                obtain ⟨es, el⟩ := ms_split st _ hdr
                rw [es]
                refine ms_cU C hR hl hL.2.1 hfr hlo ho hh.2 hq (As := (st.take q.2.2.2.1).reverse) el c2 (hM c1 c3 c4) hc hsl hd (fun H1 l1 r1 r2 => ?_)
                have := kk H1 l1 r1 r2
                rw [hvv] at this
                exact this
              · cases hs
            · cases hs
          · cases hs
        · cases hs
  · exfalso
    simp only [mx_I] at hs
    repeat' split at hs
    all_goals (cases hs; done)
  · exfalso
    simp only [mx_I] at hs
    repeat' split at hs
    all_goals (cases hs; done)
  · exfalso
    simp only [mx_I] at hs
    repeat' split at hs
    all_goals (cases hs; done)
end MSF
theorem ms_sound (l : Launch) (g : ms_G) : ∀ (n d M pc : Nat) (ls : mx_Lo) (st : List Value) (h : mx_MH) (v : Option Value) (h' : mx_MH), mx_ex n d M pc ls st h = some (v, h') → ms_Snd l g d M pc ls st h v h' := by
  intro n
  induction n with
  | zero => intro d M pc ls st h v h' he; simp [mx_ex] at he
  | succ n ih =>
    intro d M pc ls st h v h' he mi hm p e R s m args below meth c H locs cells slots Q a C hR hL hl hfr hlo hc hs hret
    rw [mx_ex] at he
    cases hst : mx_step M pc ls st h with
    | none => rw [hst] at he; simp at he
    | some q =>
      rw [hst] at he
      obtain ⟨i, len, hd, hlen, hI⟩ := ms_step_inv hm hst
      match q, he, hI with
      | .inl (pc', ls', st', ef), he, hI =>
        have g1 := mx_grow n d M pc' ls' st' (mx_ap ef h) (v, h') he
        have g2 := ms_ap_n ef h
        have e1 : cells + ms_dc ef + (h'.1.1 - (mx_ap ef h).1.1) = cells + (h'.1.1 - h.1.1) := by
          have := g1.1
          simp only at this
          omega
        have e2 : slots + ms_ds ef + (h'.1.2 - (mx_ap ef h).1.2) = slots + (h'.1.2 - h.1.2) := by
          have := g1.2
          simp only at this
          omega
        refine ms_next C hd hlen hI hR hL hl (by omega) (by omega) (by omega) (by omega) ?_
        intro H' a' locs' hR' hL' hl'
        refine ih d M pc' ls' st' (mx_ap ef h) v h' he mi hm p e R s m args below meth c H' locs' (cells + ms_dc ef) (slots + ms_ds ef) Q a' C hR' hL' hl' hfr hlo (by rw [e1]; exact hc) (by rw [e2]; exact hs) ?_
        intro pc2 a2 H2 locs2 i2 hd2 hr2 hR2 hl2
        rw [e1, e2]
        exact hret pc2 a2 H2 locs2 i2 hd2 hr2 hR2 hl2
      | .inr (.inr w), he, hI =>
        cases he
        obtain ⟨rfl, hr, rfl⟩ := ms_done hlen hI
        have e1 : v.toList.map (ms_tr g) = (v.map (ms_tr g)).toList := by cases v <;> rfl
        have := hret pc a H locs i hd hr hR hl
        rw [Nat.sub_self, Nat.sub_self, Nat.add_zero, Nat.add_zero, ← e1] at this
        exact this
      | .inr (.inl (M', As, pc', ls', st')), he, hI =>
        match d, he, hfr, hlo with
        | 0, he, _, _ => simp at he
        | d' + 1, he, hfr, hlo =>
          dsimp only at he
          cases hcx : mx_ex n d' M' 0 (mx_ent M' As) [] h with
          | none => rw [hcx] at he; simp at he
          | some z =>
            obtain ⟨v1, h1⟩ := z
            rw [hcx] at he
            simp only at he
            have ga := mx_grow n d' M' 0 _ _ h (v1, h1) hcx
            have gb := mx_grow n (d' + 1) M pc' ls' _ h1 (v, h') he
            simp only at ga gb
            have e1 : cells + (h1.1.1 - h.1.1) + (h'.1.1 - h1.1.1) = cells + (h'.1.1 - h.1.1) := by omega
            have e2 : slots + (h1.1.2 - h.1.2) + (h'.1.2 - h1.1.2) = slots + (h'.1.2 - h.1.2) := by omega
            have hls : ls' = ls := by
              have hk : ∀ {M pc1 : Nat} {A : List Value} {r : List Value}, mx_call M A pc1 ls r = some (.inr (.inl (M', As, pc', ls', st'))) → ls' = ls := fun hh => (mx_call_inv hh).2.2.2.1
              rcases mx_I_nr hI with ⟨idx, rfl⟩ | ⟨idx, rfl⟩ | ⟨idx, rfl⟩ | rfl | rfl | rfl
              · simp only [mx_I] at hI
                unfold mx_iv at hI
                repeat' split at hI
                all_goals first | exact hk hI | (cases hI; done)
              · simp only [mx_I] at hI
                unfold mx_is mx_ac mx_math at hI
                repeat' split at hI
                all_goals first | exact hk hI | exact absurd hI mx_go_nr | exact absurd hI mx_put_nr | (cases hI; done)
              · simp only [mx_I] at hI
                unfold mx_ip at hI
                repeat' split at hI
                all_goals first | exact hk hI | exact absurd hI mx_go_nr | (cases hI; done)
              all_goals
                simp only [mx_I] at hI
                repeat' split at hI
                all_goals (cases hI; done)
            subst hls
            refine (ms_calls C hd hlen hI hR hL hl (d := d') hfr hlo (v := v1) (h' := h1) (fun c1 c2 c3 => ms_metOf c1 c2 c3 (ih d' M' 0 (mx_ent M' As) [] h v1 h1 hcx)) (by omega) (by omega) ?_ (fun _ => trivial)).2
            intro H1 locs1 hR1 hl1
            refine ih (d' + 1) M pc' ls' (v1.toList ++ st') h1 v h' he mi hm p e R s m args below meth c H1 locs1 _ _ Q a C hR1 hL hl1 hfr hlo (by rw [e1]; exact hc) (by rw [e2]; exact hs) ?_
            intro pc2 a2 H2 locs2 i2 hd2 hr2 hR2 hl2
            rw [e1, e2]
            exact hret pc2 a2 H2 locs2 i2 hd2 hr2 hR2 hl2
