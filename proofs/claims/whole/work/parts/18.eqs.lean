theorem mr_step {M pc : Nat} {mi : tb_MI} {i : Instr} {len : Nat} (hm : tb_mt M = some mi) (hd : decode mi.2.1 pc = .ok (i, len)) (hl : mx_len i len = true) (ls : mx_Lo) (st : List Value) (h : mx_MH) : mx_step M pc ls st h = mx_I mi.2.2.2.1 (mi.1.name == "<init>") mi.2.2.2.2 i pc ls st h := by
  unfold mx_step
  rw [hm]
  simp only [hd, hl, if_true]
theorem mr_none {d M pc : Nat} {ls : mx_Lo} {st : List Value} {h : mx_MH} (hs : mx_step M pc ls st h = none) : mx_run d M pc ls st h = none := by
  apply Option.ext
  intro y
  rw [mx_run_iff]
  constructor
  · rintro ⟨n, hn⟩
    cases n with
    | zero => simp [mx_ex] at hn
    | succ n => rw [mx_ex, hs] at hn; cases hn
  · intro hn
    cases hn
section MR
variable {d M pc : Nat} {mi : tb_MI} {i : Instr} {len : Nat} {ls : mx_Lo} {st : List Value} {h : mx_MH}
theorem mr_go (hm : tb_mt M = some mi) (hd : decode mi.2.1 pc = .ok (i, len)) (hl : mx_len i len = true) {pc' : Nat} {ls' : mx_Lo} {st' : List Value} (hI : mx_I mi.2.2.2.1 (mi.1.name == "<init>") mi.2.2.2.2 i pc ls st h = mx_go pc' ls' st') : mx_run d M pc ls st h = mx_run d M pc' ls' st' h :=
  mx_run_next (e := .inl ()) ((mr_step hm hd hl ls st h).trans hI)
theorem mr_jmp (hm : tb_mt M = some mi) (hd : decode mi.2.1 pc = .ok (i, len)) (hl : mx_len i len = true) {pc' : Nat} {off : Int} {ls' : mx_Lo} {st' : List Value} (ht : (pc : Int) + off = (pc' : Int)) (hI : mx_I mi.2.2.2.1 (mi.1.name == "<init>") mi.2.2.2.2 i pc ls st h = mx_jmp pc off ls' st') : mx_run d M pc ls st h = mx_run d M pc' ls' st' h := by
  refine mr_go hm hd hl (hI.trans ?_)
  unfold mx_jmp
  rw [ht, if_pos (by omega)]
  rfl
theorem mr_br (hm : tb_mt M = some mi) (hd : decode mi.2.1 pc = .ok (i, len)) (hl : mx_len i len = true) {pc' : Nat} {off : Int} {b : Bool} {P : Prop} [Decidable P] {ls' : mx_Lo} {st' : List Value} (ht : (pc : Int) + off = (pc' : Int)) (hb : b = decide P) (hI : mx_I mi.2.2.2.1 (mi.1.name == "<init>") mi.2.2.2.2 i pc ls st h = mx_br b pc off ls' st') : mx_run d M pc ls st h = if P then mx_run d M pc' ls' st' h else mx_run d M (pc + 3) ls' st' h := by
  subst hb
  by_cases hP : P
  · rw [if_pos hP]
    refine mr_go hm hd hl (hI.trans ?_)
    unfold mx_br
    rw [ht, if_pos (by omega), if_pos (by simpa using hP)]
    rfl
  · rw [if_neg hP]
    refine mr_go hm hd hl (hI.trans ?_)
    unfold mx_br
    rw [ht, if_pos (by omega), if_neg (by simpa using hP)]
def mg_f (h : mx_MH) (a : Nat) (cis : List Nat) (k : Nat) : Option Value := match mx_obj h a with
  | some (ci, fs) => if cis.contains ci = true then fs[k]? else none
  | none => none
def mg_p (h : mx_MH) (a : Nat) (cis : List Nat) (k tc : Nat) (v : Value) : Option mx_MH := match mx_obj h a with
  | some (ci, fs) => if cis.contains ci = true ∧ mx_tcOk tc v = true ∧ k < fs.length ∧ 17 ≤ a then some (mx_set h a (.inl (ci, fs.set k v))) else none
  | none => none
def mg_ld (h : mx_MH) (a : Nat) (t : FieldType) (j : Int32) : Option Value := match mx_arr h a with
  | some (ty, n, V) => if ty = t ∧ mx_in j n = true then some (V j.toNatClampNeg) else none
  | none => none
def mg_aa (h : mx_MH) (a : Nat) (j : Int32) : Option Value := match mx_arr h a with
  | some (.object _, n, V) => if mx_in j n = true then some (V j.toNatClampNeg) else none
  | _ => none
def mg_st (h : mx_MH) (a : Nat) (t : FieldType) (j : Int32) (v : Value) : Option mx_MH := match mx_arr h a with
  | some (ty, n, V) => if ty = t ∧ mx_in j n = true ∧ 17 ≤ a then some (mx_set h a (.inr (ty, n, mx_up V j.toNatClampNeg v))) else none
  | none => none
def mg_as (h : mx_MH) (a : Nat) (j : Int32) (v : Nat) : Option mx_MH := match mx_arr h a, mx_obj h v with
  | some (.object C, n, V), some (ci, _) => if mx_in j n = true ∧ mx_cast ci C = true ∧ 17 ≤ v ∧ 17 ≤ a then some (mx_set h a (.inr (.object C, n, mx_up V j.toNatClampNeg (.ref v)))) else none
  | _, _ => none
def mg_aN (h : mx_MH) (a : Nat) (j : Int32) : Option mx_MH := match mx_arr h a with
  | some (.object C, n, V) => if mx_in j n = true ∧ 17 ≤ a then some (mx_set h a (.inr (.object C, n, mx_up V j.toNatClampNeg .null))) else none
  | _ => none
def mg_ln (h : mx_MH) (a : Nat) : Option Int32 := match mx_arr h a with
  | some (_, n, _) => some (Int32.ofNat n)
  | none => none
def mg_kd (h : mx_MH) (a : Nat) : Option Nat := (mx_obj h a).map (fun q => q.1)
def mg_cp (h : mx_MH) (sa da : Nat) (sp dp n : Int32) : Option mx_MH := match mx_arr h sa, mx_arr h da with
  | some (t0, n0, f), some (t1, n1, g) => if (t0 = t1 ∧ (t0 = .int ∨ t0 = .short ∨ t0 = .float) ∧ ¬ sp < 0 ∧ ¬ dp < 0 ∧ ¬ n < 0 ∧ sp.toNatClampNeg + n.toNatClampNeg ≤ n0 ∧ dp.toNatClampNeg + n.toNatClampNeg ≤ n1 ∧ (∀ i, i < n.toNatClampNeg → fits t0 (f (sp.toNatClampNeg + i)) = true)) ∧ 17 ≤ da then some (mx_set h da (.inr (t1, n1, mx_cpy f g sp.toNatClampNeg dp.toNatClampNeg n.toNatClampNeg))) else none
  | _, _ => none
theorem mr_getf (hm : tb_mt M = some mi) {idx : Nat} (hd : decode mi.2.1 pc = .ok (.getfield idx, 3)) {q : tb_FE} (hq : tb_F.find? (fun e => mx_k mi.2.2.2.2 idx e.1) = some q) {a : Nat} : mx_run d M pc ls (.ref a :: st) h = (mg_f h a q.2.2.2.1 q.2.2.1).bind (fun v => mx_run d M (pc + 3) ls (v :: st) h) := by
  have hI : mx_step M pc ls (.ref a :: st) h = mx_gf mi.2.2.2.2 idx (pc + 3) ls (.ref a :: st) h := mr_step hm hd rfl ls _ h
  unfold mx_gf at hI
  dsimp only at hI
  rw [hq] at hI
  unfold mg_f
  cases ho : mx_obj h a with
  | none => rw [ho] at hI; exact mr_none hI
  | some z =>
    obtain ⟨ci, fs⟩ := z
    rw [ho] at hI
    simp only at hI ⊢
    by_cases hc : q.2.2.2.1.contains ci = true
    · rw [if_pos hc] at hI ⊢
      cases hv : fs[q.2.2.1]? with
      | none => rw [hv] at hI; exact mr_none hI
      | some v => rw [hv] at hI; exact mx_run_next (e := .inl ()) hI
    · rw [if_neg hc] at hI ⊢
      exact mr_none hI
theorem mr_putf (hm : tb_mt M = some mi) {idx : Nat} (hd : decode mi.2.1 pc = .ok (.putfield idx, 3)) {q : tb_FE} (hq : tb_F.find? (fun e => mx_k mi.2.2.2.2 idx e.1) = some q) (hf : q.2.2.2.2.2 = true → (mi.1.name == "<init>") = true ∧ q.2.2.2.1.all (fun ci => mx_decl ci q.2.2.1 mi.2.2.2.2) = true) {a : Nat} {v : Value} : mx_run d M pc ls (v :: .ref a :: st) h = (mg_p h a q.2.2.2.1 q.2.2.1 q.2.2.2.2.1 v).bind (fun h' => mx_run d M (pc + 3) ls st h') := by
  have hI : mx_step M pc ls (v :: .ref a :: st) h = mx_pf (mi.1.name == "<init>") mi.2.2.2.2 idx (pc + 3) ls (v :: .ref a :: st) h := mr_step hm hd rfl ls _ h
  unfold mx_pf at hI
  dsimp only at hI
  rw [hq] at hI
  unfold mg_p
  cases ho : mx_obj h a with
  | none => rw [ho] at hI; exact mr_none hI
  | some z =>
    obtain ⟨ci, fs⟩ := z
    rw [ho] at hI
    simp only at hI ⊢
    by_cases hc : q.2.2.2.1.contains ci = true
    · have hff : q.2.2.2.2.2 = true → (mi.1.name == "<init>") = true ∧ mx_decl ci q.2.2.1 mi.2.2.2.2 = true := fun z => ⟨(hf z).1, List.all_eq_true.mp (hf z).2 ci (by simpa using hc)⟩
      unfold mx_put at hI
      by_cases h1 : mx_tcOk q.2.2.2.2.1 v = true ∧ q.2.2.1 < fs.length
      · rw [if_pos ⟨hc, h1.1, hff, h1.2⟩] at hI
        by_cases h2 : 17 ≤ a
        · rw [if_pos h2] at hI
          rw [if_pos ⟨hc, h1.1, h1.2, h2⟩]
          exact mx_run_next hI
        · rw [if_neg h2] at hI
          rw [if_neg (fun z => h2 z.2.2.2)]
          exact mr_none hI
      · rw [if_neg (fun z => h1 ⟨z.2.1, z.2.2.2⟩)] at hI
        rw [if_neg (fun z => h1 ⟨z.2.1, z.2.2.1⟩)]
        exact mr_none hI
    · rw [if_neg (fun z => hc z.1)] at hI
      rw [if_neg (fun z => hc z.1)]
      exact mr_none hI
theorem mr_ld {t : FieldType} (hm : tb_mt M = some mi) (hd : decode mi.2.1 pc = .ok (i, 1)) (hl : mx_len i 1 = true) {a : Nat} {j : Int32} (hI : mx_I mi.2.2.2.1 (mi.1.name == "<init>") mi.2.2.2.2 i pc ls (.int j :: .ref a :: st) h = mx_ld t (.int j :: .ref a :: st) pc ls h) : mx_run d M pc ls (.int j :: .ref a :: st) h = (mg_ld h a t j).bind (fun v => mx_run d M (pc + 1) ls (v :: st) h) := by
  have hI := (mr_step hm hd hl ls (.int j :: .ref a :: st) h).trans hI
  unfold mx_ld at hI
  dsimp only at hI
  unfold mg_ld
  cases ho : mx_arr h a with
  | none => rw [ho] at hI; exact mr_none hI
  | some z =>
    obtain ⟨ty, n, V⟩ := z
    rw [ho] at hI
    simp only at hI ⊢
    by_cases hc : ty = t ∧ mx_in j n = true
    · rw [if_pos hc] at hI ⊢
      exact mx_run_next (e := .inl ()) hI
    · rw [if_neg hc] at hI ⊢
      exact mr_none hI
theorem mr_aa (hm : tb_mt M = some mi) (hd : decode mi.2.1 pc = .ok (.aaload, 1)) {a : Nat} {j : Int32} : mx_run d M pc ls (.int j :: .ref a :: st) h = (mg_aa h a j).bind (fun v => mx_run d M (pc + 1) ls (v :: st) h) := by
  have hI : mx_step M pc ls (.int j :: .ref a :: st) h = mx_aa (.int j :: .ref a :: st) pc ls h := mr_step hm hd rfl ls _ h
  unfold mx_aa at hI
  dsimp only at hI
  unfold mg_aa
  cases ho : mx_arr h a with
  | none => rw [ho] at hI; exact mr_none hI
  | some z =>
    obtain ⟨ty, n, V⟩ := z
    rw [ho] at hI
    cases ty with
    | object C =>
      simp only at hI ⊢
      by_cases hc : mx_in j n = true
      · rw [if_pos hc] at hI ⊢
        exact mx_run_next (e := .inl ()) hI
      · rw [if_neg hc] at hI ⊢
        exact mr_none hI
    | _ => exact mr_none hI
theorem mr_stI {t : FieldType} (hm : tb_mt M = some mi) (hd : decode mi.2.1 pc = .ok (i, 1)) (hl : mx_len i 1 = true) {a : Nat} {j x : Int32} (hI : mx_I mi.2.2.2.1 (mi.1.name == "<init>") mi.2.2.2.2 i pc ls (.int x :: .int j :: .ref a :: st) h = mx_stI t (.int x :: .int j :: .ref a :: st) pc ls h) : mx_run d M pc ls (.int x :: .int j :: .ref a :: st) h = (mg_st h a t j (.int (mx_nar t x))).bind (fun h' => mx_run d M (pc + 1) ls st h') := by
  have hI := (mr_step hm hd hl ls (.int x :: .int j :: .ref a :: st) h).trans hI
  unfold mx_stI at hI
  dsimp only at hI
  unfold mg_st
  cases ho : mx_arr h a with
  | none => rw [ho] at hI; exact mr_none hI
  | some z =>
    obtain ⟨ty, n, V⟩ := z
    rw [ho] at hI
    unfold mx_put at hI
    simp only at hI ⊢
    by_cases hc : ty = t ∧ mx_in j n = true
    · rw [if_pos hc] at hI
      by_cases h2 : 17 ≤ a
      · rw [if_pos h2] at hI
        rw [if_pos ⟨hc.1, hc.2, h2⟩]
        exact mx_run_next hI
      · rw [if_neg h2] at hI
        rw [if_neg (fun z => h2 z.2.2)]
        exact mr_none hI
    · rw [if_neg hc] at hI
      rw [if_neg (fun z => hc ⟨z.1, z.2.1⟩)]
      exact mr_none hI
theorem mr_stF (hm : tb_mt M = some mi) (hd : decode mi.2.1 pc = .ok (.fastore, 1)) {a : Nat} {j : Int32} {x : UInt32} : mx_run d M pc ls (.float x :: .int j :: .ref a :: st) h = (mg_st h a .float j (.float x)).bind (fun h' => mx_run d M (pc + 1) ls st h') := by
  have hI : mx_step M pc ls (.float x :: .int j :: .ref a :: st) h = mx_stF (.float x :: .int j :: .ref a :: st) pc ls h := mr_step hm hd rfl ls _ h
  unfold mx_stF at hI
  dsimp only at hI
  unfold mg_st
  cases ho : mx_arr h a with
  | none => rw [ho] at hI; exact mr_none hI
  | some z =>
    obtain ⟨ty, n, V⟩ := z
    rw [ho] at hI
    unfold mx_put at hI
    simp only at hI ⊢
    by_cases hc : ty = .float ∧ mx_in j n = true
    · rw [if_pos hc] at hI
      by_cases h2 : 17 ≤ a
      · rw [if_pos h2] at hI
        rw [if_pos ⟨hc.1, hc.2, h2⟩]
        exact mx_run_next hI
      · rw [if_neg h2] at hI
        rw [if_neg (fun z => h2 z.2.2)]
        exact mr_none hI
    · rw [if_neg hc] at hI
      rw [if_neg (fun z => hc ⟨z.1, z.2.1⟩)]
      exact mr_none hI
theorem mr_as (hm : tb_mt M = some mi) (hd : decode mi.2.1 pc = .ok (.aastore, 1)) {a v : Nat} {j : Int32} : mx_run d M pc ls (.ref v :: .int j :: .ref a :: st) h = (mg_as h a j v).bind (fun h' => mx_run d M (pc + 1) ls st h') := by
  have hI : mx_step M pc ls (.ref v :: .int j :: .ref a :: st) h = mx_as (.ref v :: .int j :: .ref a :: st) pc ls h := mr_step hm hd rfl ls _ h
  unfold mx_as at hI
  dsimp only at hI
  unfold mg_as
  cases ho : mx_arr h a with
  | none => rw [ho] at hI; exact mr_none hI
  | some z =>
    obtain ⟨ty, n, V⟩ := z
    rw [ho] at hI
    cases ty with
    | object C =>
      cases hv : mx_obj h v with
      | none => rw [hv] at hI; exact mr_none hI
      | some y =>
        obtain ⟨ci, fs⟩ := y
        rw [hv] at hI
        unfold mx_put at hI
        simp only at hI ⊢
        by_cases hc : mx_in j n = true ∧ mx_cast ci C = true ∧ 17 ≤ v
        · rw [if_pos hc] at hI
          by_cases h2 : 17 ≤ a
          · rw [if_pos h2] at hI
            rw [if_pos ⟨hc.1, hc.2.1, hc.2.2, h2⟩]
            exact mx_run_next hI
          · rw [if_neg h2] at hI
            rw [if_neg (fun z => h2 z.2.2.2)]
            exact mr_none hI
        · rw [if_neg hc] at hI
          rw [if_neg (fun z => hc ⟨z.1, z.2.1, z.2.2.1⟩)]
          exact mr_none hI
    | _ => exact mr_none hI
theorem mr_aN (hm : tb_mt M = some mi) (hd : decode mi.2.1 pc = .ok (.aastore, 1)) {a : Nat} {j : Int32} : mx_run d M pc ls (.null :: .int j :: .ref a :: st) h = (mg_aN h a j).bind (fun h' => mx_run d M (pc + 1) ls st h') := by
  have hI : mx_step M pc ls (.null :: .int j :: .ref a :: st) h = mx_as (.null :: .int j :: .ref a :: st) pc ls h := mr_step hm hd rfl ls _ h
  unfold mx_as at hI
  dsimp only at hI
  unfold mg_aN
  cases ho : mx_arr h a with
  | none => rw [ho] at hI; exact mr_none hI
  | some z =>
    obtain ⟨ty, n, V⟩ := z
    rw [ho] at hI
    cases ty with
    | object C =>
      unfold mx_put at hI
      simp only at hI ⊢
      by_cases hc : mx_in j n = true
      · rw [if_pos hc] at hI
        by_cases h2 : 17 ≤ a
        · rw [if_pos h2] at hI
          rw [if_pos ⟨hc, h2⟩]
          exact mx_run_next hI
        · rw [if_neg h2] at hI
          rw [if_neg (fun z => h2 z.2)]
          exact mr_none hI
      · rw [if_neg hc] at hI
        rw [if_neg (fun z => hc z.1)]
        exact mr_none hI
    | _ => exact mr_none hI
theorem mr_ln (hm : tb_mt M = some mi) (hd : decode mi.2.1 pc = .ok (.arraylength, 1)) {a : Nat} : mx_run d M pc ls (.ref a :: st) h = (mg_ln h a).bind (fun n => mx_run d M (pc + 1) ls (.int n :: st) h) := by
  have hI := mr_step hm hd rfl ls (.ref a :: st) h
  simp only [mx_I] at hI
  unfold mg_ln
  cases ho : mx_arr h a with
  | none => rw [ho] at hI; exact mr_none hI
  | some z =>
    rw [ho] at hI
    exact mx_run_next (e := .inl ()) hI
theorem mr_newI (hm : tb_mt M = some mi) {idx : Nat} (hd : decode mi.2.1 pc = .ok (.new idx, 3)) {q : Nat × Nat × Nat × Nat × Nat} (hq : tb_N.find? (fun e => mx_k mi.2.2.2.2 idx e.1) = some q) {n : Nat} {fs : List Value} (hv : mx_dv q.2.2.1 = some (n, fs)) : mx_run d M pc ls st h = mx_run d M (pc + 3) ls (.ref h.1.1 :: st) (mx_new h n (.inl (q.2.2.1, fs))) := by
  have hI : mx_step M pc ls st h = mx_newI mi.2.2.2.2 idx (pc + 3) ls st h := mr_step hm hd rfl ls st h
  unfold mx_newI at hI
  rw [hq] at hI
  simp only [hv] at hI
  exact mx_run_next hI
theorem mr_newA (hm : tb_mt M = some mi) {idx : Nat} (hd : decode mi.2.1 pc = .ok (.anewarray idx, 3)) {q : Nat × Nat × String × Nat} (hq : tb_A.find? (fun e => mx_k mi.2.2.2.2 idx e.1) = some q) {n : Int32} : mx_run d M pc ls (.int n :: st) h = if ¬ n < 0 ∧ n.toNatClampNeg ≤ 100000 then mx_run d M (pc + 3) ls (.ref h.1.1 :: st) (mx_new h n.toNatClampNeg (.inr (.object q.2.2.1, n.toNatClampNeg, fun _ => .null))) else none := by
  have hI : mx_step M pc ls (.int n :: st) h = mx_newA mi.2.2.2.2 idx (pc + 3) ls (.int n :: st) h := mr_step hm hd rfl ls _ h
  unfold mx_newA at hI
  simp only [hq] at hI
  by_cases hc : ¬ n < 0 ∧ n.toNatClampNeg ≤ 100000
  · rw [if_pos hc] at hI ⊢
    exact mx_run_next hI
  · rw [if_neg hc] at hI ⊢
    exact mr_none hI
theorem mr_newP (hm : tb_mt M = some mi) {t : ArrayType} (hd : decode mi.2.1 pc = .ok (.newarray t, 2)) {ty : FieldType} (ht : mx_at t = some ty) {n : Int32} : mx_run d M pc ls (.int n :: st) h = if ¬ n < 0 ∧ n.toNatClampNeg ≤ 100000 then mx_run d M (pc + 2) ls (.ref h.1.1 :: st) (mx_new h n.toNatClampNeg (.inr (ty, n.toNatClampNeg, fun _ => defaultValue ty))) else none := by
  have hI : mx_step M pc ls (.int n :: st) h = mx_newP t (pc + 2) ls (.int n :: st) h := mr_step hm hd rfl ls _ h
  unfold mx_newP at hI
  simp only [ht] at hI
  by_cases hc : ¬ n < 0 ∧ n.toNatClampNeg ≤ 100000
  · rw [if_pos hc] at hI ⊢
    exact mx_run_next hI
  · rw [if_neg hc] at hI ⊢
    exact mr_none hI
theorem mr_call0 {M' : Nat} {As r : List Value} {pc1 : Nat} (hI : mx_step M pc ls st h = mx_call M' As pc1 ls r) {mj : tb_MI} (hj : tb_mt M' = some mj) (hc : 0 < M' ∧ r.length ≤ 4 ∧ As.all mx_c1 = true ∧ As.length ≤ mj.2.2.1) : mx_run (d + 1) M pc ls st h = (mx_run d M' 0 (As.map some ++ List.replicate (mj.2.2.1 - As.length) none) [] h).bind (fun y => mx_run (d + 1) M pc1 ls (y.1.toList ++ r) y.2) := by
  unfold mx_call at hI
  rw [hj] at hI
  simp only at hI
  rw [if_pos hc] at hI
  have he : mx_ent M' As = As.map some ++ List.replicate (mj.2.2.1 - As.length) none := by
    unfold mx_ent
    rw [hj]
    rfl
  rw [mx_run_call hI, he]
theorem mr_cS (hm : tb_mt M = some mi) {idx : Nat} (hd : decode mi.2.1 pc = .ok (.invokestatic idx, 3)) (h1 : tb_P.find? (fun e => mx_k mi.2.2.2.2 idx e.1) = none) (h2 : tb_Q.find? (fun e => mx_k mi.2.2.2.2 idx e.1) = none) (h3 : tb_Z.find? (fun e => mx_k mi.2.2.2.2 idx e.1) = none) {q : Nat × Nat × Nat × Nat × Bool × Nat × Nat × Nat} (hq : tb_I.find? (fun e => mx_k mi.2.2.2.2 idx e.1) = some q) {As r : List Value} (hs : q.2.2.2.1 ≤ st.length ∧ (st.take q.2.2.2.1).reverse = As ∧ st.drop q.2.2.2.1 = r) {mj : tb_MI} (hj : tb_mt q.2.2.1 = some mj) (hc : 0 < q.2.2.1 ∧ r.length ≤ 4 ∧ As.all mx_c1 = true ∧ As.length ≤ mj.2.2.1) : mx_run (d + 1) M pc ls st h = (mx_run d q.2.2.1 0 (As.map some ++ List.replicate (mj.2.2.1 - As.length) none) [] h).bind (fun y => mx_run (d + 1) M (pc + 3) ls (y.1.toList ++ r) y.2) := by
  have hI : mx_step M pc ls st h = mx_is mi.2.2.2.2 idx (pc + 3) ls st h := mr_step hm hd rfl ls st h
  unfold mx_is at hI
  simp only [h1, h2, h3, hq] at hI
  rw [if_pos hs.1, hs.2.1, hs.2.2] at hI
  exact mr_call0 hI hj hc
theorem mr_cV (hm : tb_mt M = some mi) {idx : Nat} (hd : decode mi.2.1 pc = .ok (.invokevirtual idx, 3)) {q0 : tb_VE} (h0 : tb_V.find? (fun e => mx_k mi.2.2.2.2 idx e.1) = some q0) {As r : List Value} {a : Nat} (hs : (st.take q0.2.2.2.2.1).reverse = As ∧ st.drop q0.2.2.2.2.1 = .ref a :: r) {ci : Nat} (hk : mg_kd h a = some ci) {q : tb_VE} (hq : tb_V.find? (fun e => mx_k mi.2.2.2.2 idx e.1 && e.2.1 == ci) = some q) (hn : q.2.2.2.2.1 = q0.2.2.2.2.1) {mj : tb_MI} (hj : tb_mt q.2.2.2.1 = some mj) (hc : 0 < q.2.2.2.1 ∧ r.length ≤ 4 ∧ (Value.ref a :: As).all mx_c1 = true ∧ (Value.ref a :: As).length ≤ mj.2.2.1) : mx_run (d + 1) M pc ls st h = (mx_run d q.2.2.2.1 0 ((Value.ref a :: As).map some ++ List.replicate (mj.2.2.1 - (Value.ref a :: As).length) none) [] h).bind (fun y => mx_run (d + 1) M (pc + 3) ls (y.1.toList ++ r) y.2) := by
  have hI : mx_step M pc ls st h = mx_iv mi.2.2.2.2 idx (pc + 3) ls st h := mr_step hm hd rfl ls st h
  unfold mx_iv at hI
  unfold mg_kd at hk
  cases ho : mx_obj h a with
  | none => rw [ho] at hk; cases hk
  | some z =>
    rw [ho] at hk
    simp only [Option.map_some, Option.some.injEq] at hk
    simp only [h0, hs.2, ho, hk, hq] at hI
    rw [if_pos hn, hs.1] at hI
    exact mr_call0 hI hj hc
theorem mr_cK (hm : tb_mt M = some mi) {idx : Nat} (hd : decode mi.2.1 pc = .ok (.invokespecial idx, 3)) (h1 : tb_O.find? (fun e => mx_k mi.2.2.2.2 idx e.1) = none) {q : Nat × Nat × Nat × Nat × Bool × Nat × Nat × Nat} (hq : tb_K.find? (fun e => mx_k mi.2.2.2.2 idx e.1) = some q) {As r : List Value} {a : Nat} (hs : (st.take q.2.2.2.1).reverse = As ∧ st.drop q.2.2.2.1 = .ref a :: r) {mj : tb_MI} (hj : tb_mt q.2.2.1 = some mj) (hc : 0 < q.2.2.1 ∧ r.length ≤ 4 ∧ (Value.ref a :: As).all mx_c1 = true ∧ (Value.ref a :: As).length ≤ mj.2.2.1) : mx_run (d + 1) M pc ls st h = (mx_run d q.2.2.1 0 ((Value.ref a :: As).map some ++ List.replicate (mj.2.2.1 - (Value.ref a :: As).length) none) [] h).bind (fun y => mx_run (d + 1) M (pc + 3) ls (y.1.toList ++ r) y.2) := by
  have hI : mx_step M pc ls st h = mx_ip mi.2.2.2.2 idx (pc + 3) ls st h := mr_step hm hd rfl ls st h
  unfold mx_ip at hI
  simp only [h1, hq, hs.2, hs.1] at hI
  exact mr_call0 hI hj hc
theorem mr_cU (hm : tb_mt M = some mi) {idx : Nat} (hd : decode mi.2.1 pc = .ok (.invokespecial idx, 3)) (h1 : tb_O.find? (fun e => mx_k mi.2.2.2.2 idx e.1) = none) (h2 : tb_K.find? (fun e => mx_k mi.2.2.2.2 idx e.1) = none) {q : Nat × Nat × Nat × Nat × Nat × Nat × Nat × Nat × Nat} (hq : tb_U.find? (fun e => mx_k mi.2.2.2.2 idx e.1) = some q) {As r : List Value} {a : Nat} (hs : (st.take q.2.2.2.1).reverse = As ∧ st.drop q.2.2.2.1 = .ref a :: r) {ci : Nat} (hk : mg_kd h a = some ci) (hci : ci < 13) (ha : 17 ≤ a) {mj : tb_MI} (hj : tb_mt q.2.2.1 = some mj) (hc : 0 < q.2.2.1 ∧ r.length ≤ 4 ∧ (Value.ref a :: As).all mx_c1 = true ∧ (Value.ref a :: As).length ≤ mj.2.2.1) : mx_run (d + 1) M pc ls st h = (mx_run d q.2.2.1 0 ((Value.ref a :: As).map some ++ List.replicate (mj.2.2.1 - (Value.ref a :: As).length) none) [] h).bind (fun y => mx_run (d + 1) M (pc + 3) ls (y.1.toList ++ r) y.2) := by
  have hI : mx_step M pc ls st h = mx_ip mi.2.2.2.2 idx (pc + 3) ls st h := mr_step hm hd rfl ls st h
  unfold mx_ip at hI
  unfold mg_kd at hk
  cases ho : mx_obj h a with
  | none => rw [ho] at hk; cases hk
  | some z =>
    rw [ho] at hk
    simp only [Option.map_some, Option.some.injEq] at hk
    simp only [h1, h2, hq, hs.2, hs.1, ho, hk] at hI
    rw [if_pos ⟨hci, ha⟩] at hI
    exact mr_call0 hI hj hc
theorem mr_oi (hm : tb_mt M = some mi) {idx : Nat} (hd : decode mi.2.1 pc = .ok (.invokespecial idx, 3)) {q : Nat × Nat} (hq : tb_O.find? (fun e => mx_k mi.2.2.2.2 idx e.1) = some q) {a : Nat} (hr : st.length ≤ 4) : mx_run d M pc ls (.ref a :: st) h = mx_run d M (pc + 3) ls st h := by
  have hI : mx_step M pc ls (.ref a :: st) h = mx_ip mi.2.2.2.2 idx (pc + 3) ls (.ref a :: st) h := mr_step hm hd rfl ls _ h
  unfold mx_ip at hI
  simp only [hq] at hI
  rw [if_pos hr] at hI
  exact mx_run_next (e := .inl ()) hI
theorem mr_isIn (hm : tb_mt M = some mi) {idx : Nat} (hd : decode mi.2.1 pc = .ok (.invokestatic idx, 3)) (h1 : tb_P.find? (fun e => mx_k mi.2.2.2.2 idx e.1) = none) {q : Nat × Nat × Nat × Nat × Nat × Nat} (hq : tb_Q.find? (fun e => mx_k mi.2.2.2.2 idx e.1) = some q) {x y z : Int64} (hr : st.length ≤ 4) : mx_run d M pc ls (.long z :: .long y :: .long x :: st) h = mx_run d M (pc + 3) ls (mx_bool (decide (y ≤ x) && decide (x ≤ z)) :: st) h := by
  have hI : mx_step M pc ls (.long z :: .long y :: .long x :: st) h = mx_is mi.2.2.2.2 idx (pc + 3) ls (.long z :: .long y :: .long x :: st) h := mr_step hm hd rfl ls _ h
  unfold mx_is at hI
  simp only [h1, hq] at hI
  rw [if_pos hr] at hI
  exact mx_run_next (e := .inl ()) hI
theorem mr_math (hm : tb_mt M = some mi) {idx : Nat} (hd : decode mi.2.1 pc = .ok (.invokestatic idx, 3)) (h1 : tb_P.find? (fun e => mx_k mi.2.2.2.2 idx e.1) = none) (h2 : tb_Q.find? (fun e => mx_k mi.2.2.2.2 idx e.1) = none) {q : Nat × Nat × Nat} (hq : tb_Z.find? (fun e => mx_k mi.2.2.2.2 idx e.1) = some q) {pc' : Nat} {ls' : mx_Lo} {st' : List Value} (hs : mx_math q.2.2 (pc + 3) ls st = mx_go pc' ls' st') : mx_run d M pc ls st h = mx_run d M pc' ls' st' h := by
  have hI : mx_step M pc ls st h = mx_is mi.2.2.2.2 idx (pc + 3) ls st h := mr_step hm hd rfl ls st h
  unfold mx_is at hI
  simp only [h1, h2, hq, hs] at hI
  exact mx_run_next (e := .inl ()) hI
theorem mr_cp (hm : tb_mt M = some mi) {idx : Nat} (hd : decode mi.2.1 pc = .ok (.invokestatic idx, 3)) {q : Nat × Nat} (hq : tb_P.find? (fun e => mx_k mi.2.2.2.2 idx e.1) = some q) {n dp sp : Int32} {da sa : Nat} (hr : st.length ≤ 4) : mx_run d M pc ls (.int n :: .int dp :: .ref da :: .int sp :: .ref sa :: st) h = (mg_cp h sa da sp dp n).bind (fun h' => mx_run d M (pc + 3) ls st h') := by
  have hI : mx_step M pc ls (.int n :: .int dp :: .ref da :: .int sp :: .ref sa :: st) h = mx_is mi.2.2.2.2 idx (pc + 3) ls (.int n :: .int dp :: .ref da :: .int sp :: .ref sa :: st) h := mr_step hm hd rfl ls _ h
  unfold mx_is at hI
  simp only [hq] at hI
  unfold mx_ac at hI
  unfold mg_cp
  cases ho : mx_arr h sa with
  | none => simp only [ho] at hI; exact mr_none hI
  | some z =>
    cases ho2 : mx_arr h da with
    | none => simp only [ho, ho2] at hI; exact mr_none hI
    | some y =>
      obtain ⟨t0, n0, f⟩ := z
      obtain ⟨t1, n1, g⟩ := y
      simp only [ho, ho2] at hI ⊢
      unfold mx_put at hI
      by_cases hc : t0 = t1 ∧ (t0 = .int ∨ t0 = .short ∨ t0 = .float) ∧ ¬ sp < 0 ∧ ¬ dp < 0 ∧ ¬ n < 0 ∧ sp.toNatClampNeg + n.toNatClampNeg ≤ n0 ∧ dp.toNatClampNeg + n.toNatClampNeg ≤ n1 ∧ (∀ i, i < n.toNatClampNeg → fits t0 (f (sp.toNatClampNeg + i)) = true)
      · rw [if_pos ⟨hc.1, hc.2.1, hc.2.2.1, hc.2.2.2.1, hc.2.2.2.2.1, hc.2.2.2.2.2.1, hc.2.2.2.2.2.2.1, hr, hc.2.2.2.2.2.2.2⟩] at hI
        by_cases h2 : 17 ≤ da
        · rw [if_pos h2] at hI
          rw [if_pos ⟨hc, h2⟩]
          exact mx_run_next hI
        · rw [if_neg h2] at hI
          rw [if_neg (fun z => h2 z.2)]
          exact mr_none hI
      · rw [if_neg (fun z => hc ⟨z.1, z.2.1, z.2.2.1, z.2.2.2.1, z.2.2.2.2.1, z.2.2.2.2.2.1, z.2.2.2.2.2.2.1, z.2.2.2.2.2.2.2.2⟩)] at hI
        rw [if_neg (fun z => hc z.1)]
        exact mr_none hI
theorem mr_ret (hm : tb_mt M = some mi) (hd : decode mi.2.1 pc = .ok (i, len)) (hl : mx_len i len = true) {v : Option Value} (hI : mx_I mi.2.2.2.1 (mi.1.name == "<init>") mi.2.2.2.2 i pc ls st h = some (.inr (.inr v))) : mx_run d M pc ls st h = some (v, h) := mx_run_done ((mr_step hm hd hl ls st h).trans hI)
end MR
