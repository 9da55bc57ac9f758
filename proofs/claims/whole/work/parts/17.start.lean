def sx_len : List Nat := [4, 3, 4, 3, 2, 2]
def sx_byt : List (List Int32) := [[112, 117, 108, 108], [102, 101, 101], [102, 105, 110, 101], [119, 104, 115], [119, 110], [99, 112]]
def sx_pix : List Nat := [81, 87, 89, 126, 128, 130]
def sx_rul : List (String × List Int32) := [("FIRST_RULE", [5, 0, 3, 4, 0]), ("LEAST_RULE", [0, 0, 1, 0, 0]), ("MOST_RULE", [9, 2, 99, 99, 100])]
def sx_tm (i : Nat) : Term := .string "NineSail$Tape" (sx_pix.getD i 0)
def sx_fl : List Jvm.Cond := flatC (Jvm.Cond.and given_1 narrow_1)
def sx_rv (i : Nat) : List Int32 := (sx_rul.getD i ("", [])).2
def sx_rom (L : Nat) (xs : Nat → Int32) (a : Nat) : Option mx_MC :=
  if a = 0 then some (.inr (.int, L, fun j => .int (xs j)))
  else if a < 4 then some (.inr (.int, 5, fun j => .int ((sx_rv (a - 1)).getD j 0)))
  else if a < 10 then some (.inl (13, [.ref (a + 6), .int 0]))
  else if a < 16 then some (.inr (.byte, sx_len.getD (a - 10) 0, fun j => .int ((sx_byt.getD (a - 10) []).getD j 0)))
  else none
theorem sx_k1 : (List.range 6).all (fun i => decide (Jvm.Cond.exactly (sx_tm i) "java/lang/String" ∈ sx_fl) && decide (Jvm.Cond.eq (.field (sx_tm i) "java/lang/String" "coder" "B") (.int 0) ∈ sx_fl) && decide (Jvm.Cond.arrayOf (.field (sx_tm i) "java/lang/String" "value" "[B") .byte ∈ sx_fl) && decide (Jvm.Cond.eq (.length (.field (sx_tm i) "java/lang/String" "value" "[B")) (.int (Int32.ofNat (sx_len.getD i 0))) ∈ sx_fl)) = true := by decide +kernel
theorem sx_k2 : (List.range 6).all (fun i => (List.range (sx_len.getD i 0)).all (fun j => decide (Jvm.Cond.eq (.elem (.field (sx_tm i) "java/lang/String" "value" "[B") (.int (Int32.ofNat j))) (.int ((sx_byt.getD i []).getD j 0)) ∈ sx_fl))) = true := by decide +kernel
theorem sx_k3 : (List.range 6).all (fun i => (List.range 6).all (fun j => i == j || decide (Jvm.Cond.not (Jvm.Cond.eq (sx_tm i) (sx_tm j)) ∈ sx_fl) || decide (Jvm.Cond.not (Jvm.Cond.eq (sx_tm j) (sx_tm i)) ∈ sx_fl))) = true := by decide +kernel
theorem sx_k4 : (List.range 3).all (fun i => decide (Jvm.Cond.arrayOf (.static "NineSail" (sx_rul.getD i ("", [])).1 "[I") .int ∈ sx_fl) && decide (Jvm.Cond.eq (.length (.static "NineSail" (sx_rul.getD i ("", [])).1 "[I")) (.int (Int32.ofNat 5)) ∈ sx_fl) && (List.range 5).all (fun j => decide (Jvm.Cond.eq (.elem (.static "NineSail" (sx_rul.getD i ("", [])).1 "[I") (.int (Int32.ofNat j))) (.int ((sx_rv i).getD j 0)) ∈ sx_fl)) && decide (Jvm.Cond.laysStatic "NineSail" (sx_rul.getD i ("", [])).1 "[I" ∈ lw_tbl)) = true := by decide +kernel
theorem sx_k5 : (decide (Jvm.Cond.eq (.static "java/lang/String" "COMPACT_STRINGS" "Z") (.int 1) ∈ sx_fl) && decide (Jvm.Cond.isRef (.static "jdk/internal/util/Preconditions" "SIOOBE_FORMATTER" "Ljava/util/function/BiFunction;") ∈ sx_fl)) = true := by decide +kernel
theorem sx_k6 : (decide (Jvm.Cond.laysStatic "java/lang/String" "COMPACT_STRINGS" "Z" ∈ lw_tbl) && decide (Jvm.Cond.laysStatic "jdk/internal/util/Preconditions" "SIOOBE_FORMATTER" "Ljava/util/function/BiFunction;" ∈ lw_tbl) && decide (Jvm.Cond.initialized "NineSail" ∈ lw_tbl) && decide (Jvm.Cond.initialized "java/lang/String" ∈ lw_tbl) && decide (Jvm.Cond.initialized "jdk/internal/util/Preconditions" ∈ lw_tbl)) = true := by decide +kernel
theorem sx_k7 : ms_nest.all (fun w => decide (w ∈ lw_tbl)) = true := by decide +kernel
theorem sx_k8 : tc_al.all (fun C => tb_A.any (fun e => e.2.2.1 == C)) = true := by decide +kernel
theorem sx_arr {args : Array Value} {s : State} (hts : ∀ w ∈ lw_tbl, w.before args s = true) {ty : FieldType} (ht : ty ∈ ms_tys) : ∃ (cA : ClassId), s.vm.findClass ("[" ++ ty.toString) = some cA ∧ ArrOfT s cA ty ∧ va_RA s cA ty := by
  have hp : ∀ e ∈ tb_B, ∃ (cA : ClassId), s.vm.findClass ("[" ++ e.1.toString) = some cA ∧ ArrOfT s cA e.1 := by
    intro e he
    have hw := (List.mem_filter.mp (ms_gw (List.all_eq_true.mp tc_B_ok e he))).1
    obtain ⟨c, k, comp, h1, h2, h3⟩ := Cond.arrayClass_spec (hts _ hw)
    exact ⟨c, h1, fun N z => ⟨(fun k h => by cases h), k, h2, comp, h3⟩⟩
  have ho : ∀ C ∈ tc_al, ∃ (cA : ClassId), s.vm.findClass ("[" ++ (FieldType.object C).toString) = some cA ∧ ArrOfT s cA (.object C) ∧ va_RA s cA (.object C) := by
    intro C hC
    have h := List.all_eq_true.mp sx_k8 C hC
    obtain ⟨e, he, hec⟩ := List.any_eq_true.mp h
    have hec : e.2.2.1 = C := by simpa using hec
    have ok := List.all_eq_true.mp tc_A_ok e he
    unfold tc_A at ok
    simp only [Bool.and_eq_true] at ok
    have hw := hts _ (ms_nw ok.1.2)
    rw [hec] at hw
    obtain ⟨comp, c, k, h1, h2, h3, h4, h5⟩ := Cond.arrayOver_spec hw
    exact ⟨c, h5, fun N z => ⟨(fun k h => by cases h), k, h3, comp, h4⟩, k, comp, h3, h4, h1, h5⟩
  simp only [ms_tys, List.mem_cons, List.not_mem_nil, or_false] at ht
  rcases ht with rfl | rfl | rfl | rfl | rfl | rfl | rfl | rfl
  · obtain ⟨cA, h1, h2⟩ := hp _ (List.mem_of_getElem? (i := 0) rfl)
    exact ⟨cA, h1, h2, h1⟩
  · obtain ⟨cA, h1, h2⟩ := hp _ (List.mem_of_getElem? (i := 1) rfl)
    exact ⟨cA, h1, h2, h1⟩
  · obtain ⟨cA, h1, h2⟩ := hp _ (List.mem_of_getElem? (i := 2) rfl)
    exact ⟨cA, h1, h2, h1⟩
  · obtain ⟨cA, h1, h2⟩ := hp _ (List.mem_of_getElem? (i := 3) rfl)
    exact ⟨cA, h1, h2, h1⟩
  · exact ho _ (List.mem_of_getElem? (i := 0) rfl)
  · exact ho _ (List.mem_of_getElem? (i := 1) rfl)
  · exact ho _ (List.mem_of_getElem? (i := 2) rfl)
  · exact ho _ (List.mem_of_getElem? (i := 3) rfl)
theorem sx_all {n : Nat} {p : Nat → Bool} (h : (List.range n).all p = true) {i : Nat} (hi : i < n) : p i = true := List.all_eq_true.mp h i (List.mem_range.mpr hi)
/-- the start: the model and the machine agree -/
theorem sx_K {p : Program} {s : State} {m : MethodId} {meth : Method} {c : Code} {b L : Nat} {xs : Nat → Int32} (hL : L ≤ 3072) (C0 : lw_At p s m meth c b L xs) : ∃ g : ms_G, ms_b g = s.heap.size ∧ ms_ra g 0 = b ∧ ms_rom g = sx_rom L xs ∧ ms_H0 g = s.heap ∧ ms_K g s := by
  obtain ⟨hx, hb, hr, hml, hown, hts, hX, hbl, hlocks, hgv⟩ := id C0
  have hfl : ∀ w ∈ sx_fl, w.before #[Value.ref b] s = true := flat_of_before _ hgv
  have hA : ∀ a : Nat, a < s.heap.size → ¬ (fun q : Nat => s.heap.size ≤ q) a := fun a h => Nat.not_le.mpr h
  have hgt : ∀ w ∈ ms_gt, w.before #[Value.ref b] s = true := fun w hw => hts w (List.mem_filter.mp hw).1
  have k1 := sx_k1
  -- classes
  have hcl : ∀ ci : Nat, ∃ q : ClassId × (Nat → Nat), ∀ r, tb_cl[ci]? = some r → u_Kn s r.1 r.2.1 r.2.2 q.1 q.2 := by
    intro ci
    cases hr2 : tb_cl[ci]? with
    | none => exact ⟨(0, fun _ => 0), fun r h => by cases h⟩
    | some r =>
      have hi := List.all_eq_true.mp tc_inst r (List.mem_of_getElem? hr2)
      simp only [Bool.and_eq_true, decide_eq_true_eq] at hi
      obtain ⟨cC, iS, hK⟩ := u_known hgt (ms_lays hgt hr2) (hts _ hi.1)
      exact ⟨(cC, iS), fun r' h => by cases h; exact hK⟩
  obtain ⟨D, hD⟩ := Classical.axiomOfChoice hcl
  have har : ∀ ty : FieldType, ∃ cA : ClassId, ty ∈ ms_tys → s.vm.findClass ("[" ++ ty.toString) = some cA ∧ ArrOfT s cA ty ∧ va_RA s cA ty := by
    intro ty
    by_cases ht : ty ∈ ms_tys
    · obtain ⟨cA, h⟩ := sx_arr hts ht
      exact ⟨cA, fun _ => h⟩
    · exact ⟨0, fun h => absurd h ht⟩
  obtain ⟨cA, hcA⟩ := Classical.axiomOfChoice har
  -- texts
  obtain ⟨adK, adV, hS, hev⟩ := vk_Sof (args := #[Value.ref b]) (s := s) (N := 6) (tm := sx_tm) (len := sx_len) (byt := sx_byt) (A := fun q : Nat => s.heap.size ≤ q)
    (fun i hi => by
      have : (List.range 6).all (fun i => decide (sx_len.getD i 0 < 2 ^ 31)) = true := by decide +kernel
      have h := sx_all this hi
      simpa using h)
    (fun i hi => by have h := sx_all sx_k1 hi; simp only [Bool.and_eq_true, decide_eq_true_eq] at h; exact hfl _ h.1.1.1)
    (fun i hi => by have h := sx_all sx_k1 hi; simp only [Bool.and_eq_true, decide_eq_true_eq] at h; exact hfl _ h.1.1.2)
    (fun i hi => by have h := sx_all sx_k1 hi; simp only [Bool.and_eq_true, decide_eq_true_eq] at h; exact hfl _ h.1.2)
    (fun i hi => by have h := sx_all sx_k1 hi; simp only [Bool.and_eq_true, decide_eq_true_eq] at h; exact hfl _ h.2)
    (fun i hi j hj => by have h := sx_all (sx_all sx_k2 hi) hj; simp only [decide_eq_true_eq] at h; exact hfl _ h)
    (fun i j hi hj hij => by
      have h := sx_all (sx_all sx_k3 hi) hj
      simp only [Bool.or_eq_true, beq_iff_eq, decide_eq_true_eq] at h
      rcases h with (h | h) | h
      · exact absurd h hij
      · exact Or.inl (hfl _ h)
      · exact Or.inr (hfl _ h)) hA
  -- rules
  have hru : ∀ i : Nat, ∃ t : Nat, i < 3 → va_Z "NineSail" (sx_rul.getD i ("", [])).1 "[I" (.ref t) (fun q : Nat => s.heap.size ≤ q) s s.heap ∧ va_T .int t 5 (fun j => .int ((sx_rv i).getD j 0)) (fun q : Nat => s.heap.size ≤ q) s s.heap := by
    intro i
    by_cases hi : i < 3
    · have h := sx_all sx_k4 hi
      simp only [Bool.and_eq_true, decide_eq_true_eq] at h
      have h6 := sx_k6
      simp only [Bool.and_eq_true, decide_eq_true_eq] at h6
      obtain ⟨t, ht, hT⟩ := va_Tof (args := #[Value.ref b]) (s := s) (f := fun j => .int ((sx_rv i).getD j 0)) (A := fun q : Nat => s.heap.size ≤ q) (N := 5) (by decide) (hfl _ h.1.1.1) (va_eqt (hfl _ h.1.1.2)) (fun j hj => va_eqt (by have h2 := sx_all h.1.2 hj; simp only [decide_eq_true_eq] at h2; exact hfl _ h2)) hA
      exact ⟨t, fun _ => ⟨va_Zref (hts _ h.2) (hts _ h6.1.1.2) ht hA, hT⟩⟩
    · exact ⟨0, fun h => absurd h hi⟩
  obtain ⟨rt, hrt⟩ := Classical.axiomOfChoice hru
  have h5 := sx_k5
  have h6 := sx_k6
  simp only [Bool.and_eq_true, decide_eq_true_eq] at h5 h6
  have hcs := va_Zof (A := fun q : Nat => s.heap.size ≤ q) (hts _ h6.1.1.1.1) (hts _ h6.1.2) (va_eqi (hfl _ h5.1)) hA
  have hfmx : ∃ fm : Value, (fm = .null ∨ ∃ t, fm = .ref t) ∧ va_Z "jdk/internal/util/Preconditions" "SIOOBE_FORMATTER" "Ljava/util/function/BiFunction;" fm (fun q : Nat => s.heap.size ≤ q) s s.heap := by
    rcases va_Zqof (A := fun q : Nat => s.heap.size ≤ q) (hts _ h6.1.1.1.2) (hts _ h6.2) (hfl _ h5.2) hA with h | ⟨t, h⟩
    · exact ⟨.null, Or.inl rfl, h⟩
    · exact ⟨.ref t, Or.inr ⟨t, rfl⟩, h⟩
  obtain ⟨fm, hfm, hfz⟩ := hfmx
  generalize hra : (fun a : Nat => if a = 0 then b else if a < 4 then rt (a - 1) else if a < 10 then adK (a - 4) else if a < 16 then adV (a - 10) else 0) = ra
  refine ⟨(s.heap.size, ra, (fun ci => (D ci).1, fun ci => (D ci).2), cA, s.heap, sx_rom L xs, fm), rfl, by rw [← hra]; rfl, rfl, rfl, ⟨⟨⟨fun ci r hr2 => hD ci r hr2, fun k q hq => ?_⟩, ?_, ?_, ?_, hfm, rfl, ?_⟩, ?_, ?_, ?_⟩⟩
  · unfold ms_tyl at hq
    rw [List.getElem?_map] at hq
    cases ht : ms_tys[k]? with
    | none => rw [ht] at hq; cases hq
    | some ty =>
      rw [ht] at hq
      simp only [Option.map_some, Option.some.injEq] at hq
      subst hq
      exact (hcA ty (List.mem_of_getElem? ht)).2
  · -- rom
    intro a cc ha hc
    have hc : sx_rom L xs a = some cc := hc
    have hrag : ∀ g : ms_G, ms_ra g = ra → True := fun _ _ => trivial
    unfold sx_rom at hc
    split at hc
    · rename_i h0
      cases hc
      subst h0
      obtain ⟨scr, x1, x2, x3, x4, x5⟩ := hX
      refine ⟨scr, ?_, x2, x3, by rw [x4]; exact Nat.le_refl _, by rw [x4], fun j hj => x5 j hj, ?_⟩
      · show s.heap[ra 0]? = some scr
        rw [← hra]
        exact x1
      · show ¬ s.heap.size ≤ ra 0
        rw [← hra]
        exact Nat.not_le.mpr hbl
    · split at hc
      · rename_i h0 h1
        cases hc
        have e1 : ra a = rt (a - 1) := by rw [← hra]; simp [h0, h1]
        show va_T .int (ra a) 5 _ _ s s.heap
        rw [e1]
        exact (hrt (a - 1) (by omega)).2
      · split at hc
        · rename_i h0 h1 h2
          cases hc
          have e1 : ra a = adK (a - 4) := by rw [← hra]; simp [h0, h1, h2]
          obtain ⟨z1, z2, z3, z4⟩ := hS.1 (a - 4) (by omega)
          refine ⟨rfl, ?_, fun k v hk hv => ?_⟩
          · show va_O "java/lang/String" (ra a) _ s s.heap
            rw [e1]
            exact z1
          · show va_OF "java/lang/String" _ _ _ (ra a) _ s s.heap
            rw [e1]
            match k, hk, hv with
            | 0, _, hv =>
              simp only [List.getElem?_cons_zero, Option.some.injEq] at hv
              subst hv
              have e2 : ms_ad (s.heap.size, ra, (fun ci => (D ci).1, fun ci => (D ci).2), cA, s.heap, sx_rom L xs, fm) (a + 6) = adV (a - 4) := by
                rw [ms_ad_lo (by omega)]
                show ra (a + 6) = _
                rw [← hra]
                have g0 : ¬ a + 6 = 0 := by omega
                have g1 : ¬ a + 6 < 4 := by omega
                have g2 : ¬ a + 6 < 10 := by omega
                have g3 : a + 6 < 16 := by omega
                have g4 : a + 6 - 10 = a - 4 := by omega
                simp [g0, g1, g2, g3, g4]
              show va_OF "java/lang/String" "value" "[B" (.ref (ms_ad _ (a + 6))) _ _ s s.heap
              rw [e2]
              exact z3
            | 1, _, hv =>
              simp only [List.getElem?_cons_succ, List.getElem?_cons_zero, Option.some.injEq] at hv
              subst hv
              exact z2
        · split at hc
          · rename_i h0 h1 h2 h3
            cases hc
            have e1 : ra a = adV (a - 10) := by rw [← hra]; simp [h0, h1, h2, h3]
            show va_T .byte (ra a) _ _ _ s s.heap
            rw [e1]
            exact (hS.1 (a - 10) (by omega)).2.2.2
          · cases hc
  · -- statics
    intro q hq
    simp only [tb_sv, List.mem_cons, List.not_mem_nil, or_false] at hq
    have ead : ∀ k, k < 3 → ms_ad (s.heap.size, ra, (fun ci => (D ci).1, fun ci => (D ci).2), cA, s.heap, sx_rom L xs, fm) (k + 1) = rt k := by
      intro k hk
      rw [ms_ad_lo (by omega)]
      show ra (k + 1) = _
      rw [← hra]
      have g1 : k + 1 < 4 := by omega
      simp [g1]
    rcases hq with rfl | rfl | rfl | rfl | rfl
    · show va_Z _ _ _ (.ref (ms_ad _ 1)) _ s s.heap
      rw [ead 0 (by omega)]
      exact (hrt 0 (by omega)).1
    · show va_Z _ _ _ (.ref (ms_ad _ 2)) _ s s.heap
      rw [ead 1 (by omega)]
      exact (hrt 1 (by omega)).1
    · show va_Z _ _ _ (.ref (ms_ad _ 3)) _ s s.heap
      rw [ead 2 (by omega)]
      exact (hrt 2 (by omega)).1
    · exact hcs
    · exact hfz
  · intro k hk
    show ra k < s.heap.size
    rw [← hra]
    show (if k = 0 then b else if k < 4 then rt (k - 1) else if k < 10 then adK (k - 4) else if k < 16 then adV (k - 10) else 0) < s.heap.size
    split
    · exact hbl
    · split
      · obtain ⟨cell, x1, -⟩ := (hrt (k - 1) (by omega)).2
        exact (Array.getElem?_eq_some_iff.mp x1).1
      · split
        · obtain ⟨⟨cell, x1, -⟩, -⟩ := hS.1 (k - 4) (by omega)
          exact (Array.getElem?_eq_some_iff.mp x1).1
        · split
          · obtain ⟨-, -, -, cell, x1, -⟩ := hS.1 (k - 10) (by omega)
            exact (Array.getElem?_eq_some_iff.mp x1).1
          · omega
  · intro C hC
    have h := List.all_eq_true.mp sx_k8 C hC
    obtain ⟨q, hq, hqc⟩ := List.any_eq_true.mp h
    have hqc : q.2.2.1 = C := by simpa using hqc
    have ok := List.all_eq_true.mp tc_A_ok q hq
    unfold tc_A at ok
    simp only [Bool.and_eq_true] at ok
    have hw := hts _ (ms_nw ok.1.2)
    rw [hqc] at hw
    exact va_AO.of hw
  · intro w hw
    have h := List.all_eq_true.mp sx_k7 w hw
    simp only [decide_eq_true_eq] at h
    have hb2 := hts w h
    simp only [ms_nest, List.mem_cons, List.not_mem_nil, or_false] at hw
    rcases hw with rfl | rfl | rfl | rfl <;> exact va_Nw.of rfl hb2
  · intro q hq
    have ok := List.all_eq_true.mp tc_X_ok q hq
    unfold tc_X at ok
    simp only [Bool.and_eq_true, decide_eq_true_eq] at ok
    have hsr := hts _ (ms_nw ok.1.1.2)
    have hix : ∀ q ∈ tb_X, ∃ i, i < 6 ∧ q.2.2.1 = sx_pix.getD i 0 ∧ q.2.2.2.2 = i + 4 := by
      have : tb_X.all (fun q => (List.range 6).any (fun i => decide (q.2.2.1 = sx_pix.getD i 0) && decide (q.2.2.2.2 = i + 4))) = true := by decide +kernel
      intro q hq
      obtain ⟨i, hi, h⟩ := List.any_eq_true.mp (List.all_eq_true.mp this q hq)
      simp only [Bool.and_eq_true, decide_eq_true_eq] at h
      exact ⟨i, List.mem_range.mp hi, h.1, h.2⟩
    obtain ⟨i, hi, e1, e2⟩ := hix q hq
    have e3 : ms_ad (s.heap.size, ra, (fun ci => (D ci).1, fun ci => (D ci).2), cA, s.heap, sx_rom L xs, fm) q.2.2.2.2 = adK i := by
      rw [e2, ms_ad_lo (by omega)]
      show ra (i + 4) = _
      rw [← hra]
      have g1 : ¬ i + 4 < 4 := by omega
      have g2 : i + 4 < 10 := by omega
      simp [g1, g2]
    rw [e3]
    have hevi := hev i hi
    unfold sx_tm at hevi
    rw [← e1] at hevi
    exact vk_R.of hsr hevi
  · intro q hq r hr2
    have ok := List.all_eq_true.mp tc_ca q hq
    unfold tc_caf at ok
    rw [hr2] at ok
    exact va_Nw.of rfl (hts _ (ms_nw ok))
theorem sx_start {p : Program} {e : Env} {s : State} {m : MethodId} {below : List Frame} {meth : Method} {c : Code} (l : Launch) {b L : Nat} {xs : Nat → Int32} (hL : L ≤ 3072) (C0 : lw_At p s m meth c b L xs)
    (hrun : ∃ h', mx_run 300 0 0 [some (.ref 0), none, none, none] [] ((17, 0), sx_rom L xs) = some (some (.int 1), h') ∧ h'.1.1 ≤ 600017 ∧ h'.1.2 ≤ 7302250) :
    W p l e room_1 s m #[Value.ref b] below meth c s.heap [] 0 0 (lw_Z below #[Value.ref b] s) (entryFrame m ([Value.ref b] : List Value).toArray 4) := by
  obtain ⟨g, g1, g2, g3, g4, hK⟩ := sx_K hL C0
  obtain ⟨h', hr, hn, hs⟩ := hrun
  obtain ⟨n, hex⟩ := (mx_run_iff _ _ _ _ _ _ _).mp hr
  have hS := ms_sound l g n 300 0 0 _ _ _ _ _ hex
  obtain ⟨hx, hb, hrt, hml, hown, hts, hX, hbl, hlocks, hgv⟩ := id C0
  have e0 : tb_mt 0 = some (⟨"NineSailLaw", "law", "([I)Z"⟩, code, 4, some .boolean, 20) := rfl
  have had : ms_tr g (.ref 0) = .ref b := by
    show Value.ref (ms_ad g 0) = _
    rw [ms_ad_lo (by omega), g2]
  have hent : [Value.ref b] = [Value.ref 0].map (ms_tr g) := by simp [had]
  rw [lg_entry_eq]
  have hC : ms_X g (⟨"NineSailLaw", "law", "([I)Z"⟩, code, 4, some .boolean, 20) p s m #[Value.ref b] meth c := ⟨hx, hb, hml, hown, fun w hw => hts w (List.mem_filter.mp hw).1, hK, fun q => absurd q (by decide), rfl⟩
  have hR : ms_R g ((17, 0), sx_rom L xs) s.heap := by
    refine ⟨Nat.le_refl _, by rw [g1]; rfl, fun q _ => by rw [g4], fun a _ => by rw [g3], fun a cc ha hc => ?_⟩
    exfalso
    have hc : sx_rom L xs a = some cc := hc
    unfold sx_rom at hc
    rw [if_neg (by omega), if_neg (by omega), if_neg (by omega), if_neg (by omega)] at hc
    cases hc
  have hLo := ms_entry hK e0 (As := [.ref 0]) rfl (by decide)
  rw [← hent] at hLo
  have hW := hS _ e0 p e room_1 s m #[Value.ref b] below meth c s.heap [] 0 0 (lw_Z below #[Value.ref b] s) _ hC hR hLo (fun q hq => by cases hq) (Nat.le_of_ble_eq_true rfl) (Nat.le_of_ble_eq_true rfl) (by show 0 + (h'.1.1 - 17) ≤ 600000; omega) (by show 0 + (h'.1.2 - 0) ≤ 7302250; omega) ?_
  · exact hW
  · intro pc' a' H' locs' i hd hret hR' hl'
    refine va_forget (fun q hq => by rw [← g1]; exact hl' q hq) ?_
    refine W.widen (k := 600000) (n := 7302250) (by show 0 + (h'.1.1 - 17) ≤ 600000; omega) (by show 0 + (h'.1.2 - 0) ≤ 7302250; omega) ?_
    rcases hret with ⟨rfl, x, ty, hv, hty, hn2⟩ | ⟨rfl, w, rt, hv, hw, -⟩ | ⟨rfl, hv, -⟩
    · exact lw_ret hx hb hrt hlocks hd
    · cases hv
      cases hw
    · cases hv
