/-- the first table stands well -/
theorem z_Inv : Inv (128, 11188) z_D := by
  refine ⟨⟨by decide, by decide, by decide⟩, ⟨0, 0, ⟨⟨rfl, rfl, rfl, rfl, rfl, rfl, rfl⟩, ?_, ?_, ?_, ?_, ?_⟩, ⟨rfl, by omega, rfl, by omega, ⟨0, rfl, by omega, fun z => absurd z (by omega), fun _ => rfl⟩, fun k hk => absurd hk (by omega), fun k hk => absurd hk (by omega)⟩, ?_, ⟨0, by omega, rfl⟩⟩, ⟨0, 0, Or.inl ⟨rfl, rfl⟩⟩, ⟨0, by omega, rfl, rfl, fun i hi => absurd hi (by omega)⟩, ?_, ?_, ⟨0, by omega, rfl, rfl, fun i hi => absurd hi (by omega)⟩⟩
  · intro i hi
    have : i = 0 ∨ i = 1 ∨ i = 2 ∨ i = 3 ∨ i = 4 := by omega
    rcases this with z | z | z | z | z <;> subst z <;> rfl
  · intro k hk
    exact absurd hk (by omega)
  · intro k hk
    have : k = 0 ∨ k = 1 ∨ k = 2 ∨ k = 3 ∨ k = 4 ∨ k = 5 ∨ k = 6 ∨ k = 7 ∨ k = 8 := by omega
    rcases this with z | z | z | z | z | z | z | z | z <;> subst z <;> exact Or.inr rfl
  · intro k hk
    have : k = 0 ∨ k = 1 ∨ k = 2 := by omega
    rcases this with z | z | z <;> subst z <;> rfl
  · intro t ht
    exact absurd ht (by omega)
  · intro t ht
    exact Or.inl rfl
  · intro k hk
    have : k = 0 ∨ k = 1 ∨ k = 2 ∨ k = 3 := by omega
    rcases this with z | z | z | z <;> subst z <;> exact ⟨rfl, Or.inl rfl, rfl, ⟨0, by omega, rfl⟩, fun i hi => ⟨rfl, fun z => absurd z (by decide), fun z => absurd z (by decide)⟩⟩
  · intro k hk
    have : k = 0 ∨ k = 1 ∨ k = 2 ∨ k = 3 ∨ k = 4 := by omega
    rcases this with z | z | z | z | z <;> subst z <;> exact ⟨rfl, Or.inl rfl⟩
/-- the law, from its start to its loop -/
theorem st_go (L : Nat) (xs : Nat → Int32) (d : Nat) : mx_run (d + 4) 0 0 [some (.ref 0), none, none, none] [] ((17, 0), sx_rom L xs) = mx_run (d + 4) 0 18 [some (.ref 0), some (.ref 17), some (.ref 109), some (.int (nI 0))] [] (hp (sx_rom L xs) (128, 11188) z_D) := by
  have n0 : mx_new ((17, 0), sx_rom L xs) 14 (.inl (11, [.null, .null, .null, .null, .int 0, .null, .null, .null, .null, .null, .null, .null, .null, .int 0])) = ((18, 14), xp L xs 18 (some (.inl (11, [.null, .null, .null, .null, .int 0, .null, .null, .null, .null, .null, .null, .null, .null, .int 0]))) none none none none) := by
    refine Prod.ext rfl ?_
    funext a
    show mx_up (sx_rom L xs) 17 _ a = xp L xs 18 (some (.inl (11, [.null, .null, .null, .null, .int 0, .null, .null, .null, .null, .null, .null, .null, .null, .int 0]))) none none none none a
    by_cases e : a = 17
    · subst e
      rw [up_s]
      rfl
    · rw [up_n _ _ _ _ e]
      unfold xp
      rw [if_neg e]
      have hn : 16 ≤ a → sx_rom L xs a = none := by
        intro h
        unfold sx_rom
        rw [if_neg (by omega), if_neg (by omega), if_neg (by omega), if_neg (by omega)]
      by_cases f : a < 17
      · rw [if_neg (by omega), if_neg (by omega), if_neg (by omega), if_neg (by omega), if_pos (by omega)]
        unfold xf
        rw [if_pos f]
      · rw [hn (by omega)]
        by_cases e2 : a = 18
        · rw [if_pos e2]
        · by_cases e3 : a = 23
          · rw [if_neg e2, if_pos e3]
          · by_cases e4 : a = 25
            · rw [if_neg e2, if_neg e3, if_pos e4]
            · by_cases e5 : a = 26
              · rw [if_neg e2, if_neg e3, if_neg e4, if_pos e5]
              · rw [if_neg e2, if_neg e3, if_neg e4, if_neg e5, if_neg (by omega)]
  have r0 := ni_all L xs d
  have n1 : mx_new ((109, 1145), fun a => if a < 109 then xf L xs a else none) 31 (.inl (12, [.null, .null, .null, .int 0, .null, .null, .null, .null, .null, .null, .null, .null, .null, .null, .int 0, .int 0, .int 0, .int 0, .int 0, .int 0, .int 0, .int 0, .int 0, .int 0, .int 0, .null, .null, .null, .null, .int 0, .null])) = ((110, 1176), xq L xs 110 (some (.inl (12, [.null, .null, .null, .int 0, .null, .null, .null, .null, .null, .null, .null, .null, .null, .null, .int 0, .int 0, .int 0, .int 0, .int 0, .int 0, .int 0, .int 0, .int 0, .int 0, .int 0, .null, .null, .null, .null, .int 0, .null]))) none none) := by
    refine Prod.ext rfl ?_
    funext a
    show mx_up (fun a => if a < 109 then xf L xs a else none) 109 _ a = xq L xs 110 (some (.inl (12, [.null, .null, .null, .int 0, .null, .null, .null, .null, .null, .null, .null, .null, .null, .null, .int 0, .int 0, .int 0, .int 0, .int 0, .int 0, .int 0, .int 0, .int 0, .int 0, .int 0, .null, .null, .null, .null, .int 0, .null]))) none none a
    by_cases e : a = 109
    · subst e
      rw [up_s]
      rfl
    · rw [up_n _ _ _ _ e]
      show (if a < 109 then xf L xs a else none) = _
      unfold xq
      rw [if_neg e]
      by_cases e2 : a = 110
      · rw [if_pos e2, if_neg (by omega)]
      · by_cases e3 : a = 113
        · rw [if_neg e2, if_pos e3, if_neg (by omega)]
        · rw [if_neg e2, if_neg e3]
          have h : (a < 110) = (a < 109) := propext (by omega)
          simp only [h]
  have r1 := mi_all L xs (d + 3)
  have r : mx_run (d + 4) 0 0 [some (.ref 0), none, none, none] [] ((17, 0), sx_rom L xs) = mx_run (d + 4) 0 18 [some (.ref 0), some (.ref 17), some (.ref 109), some (.int 0)] [] (hp (sx_rom L xs) (128, 11188) z_D) := by
    simp only [iq_0_0, iq_0_3, iq_0_4, iq_0_7, iq_0_8, iq_0_11, iq_0_12, iq_0_15, iq_0_16, iq_0_17, Option.bind_some, Option.toList, List.cons_append, List.nil_append, ↓reduceIte, nI_1, Int32.reduceLT, Int32.reduceLE, dv_1, dv_2, dv_3, dv_4, dv_6, dv_8, dv_10, dv_20, dv_100, dv_200, dv_500, he_11, n0, r0, n1, r1]
  exact r
theorem st_run (L : Nat) (xs : Nat → Int32) (hL : L ≤ 3072) : ∃ h', mx_run 300 0 0 [some (.ref 0), none, none, none] [] ((17, 0), sx_rom L xs) = some (some (.int 1), h') ∧ h'.1.1 ≤ 600017 ∧ h'.1.2 ≤ 7302250 := by
  obtain ⟨h', e1, e2, e3⟩ := lw_loop (d := 199) (L := L) (xs := xs) (fun d c D hI hc => ap_text hI hc) hL 512 0 (by omega) (by omega) (128, 11188) z_D z_Inv (by decide)
  have e2 : h'.1.1 ≤ 128 + 3 * 512 := e2
  have e3 : h'.1.2 ≤ 11188 + 300 * 512 := e3
  exact ⟨h', (st_go L xs 296).trans e1, by omega, by omega⟩
theorem whole_start {p : Program} {e : Env} {s : State} {m : MethodId} {below : List Frame} {meth : Method} {c : Code} (l : Launch) (hflags : l.flags = flags0) {b L : Nat} {xs : Nat → Int32} (hL : L ≤ 3072) (C0 : lw_At p s m meth c b L xs) : W p l e room_1 s m #[Value.ref b] below meth c s.heap [] 0 0 (lw_Z below #[Value.ref b] s) (entryFrame m ([Value.ref b] : List Value).toArray 4) := sx_start l hL C0 (st_run L xs hL)
