/-- the cells of a sea in the making: i boats -/
def sw (S i : Nat) (X : Nat → Option mx_MC) (b : Nat) : Option mx_MC := if b = S then some (.inl (5, [.ref (S + 1), .int 0, .int 0, .ref (S + 2), .int 0, .int 0, .int 0, .int 1, .ref (S + 3), .int 0, .ref (S + 4)])) else if b = S + 1 then some (.inr (.object "NineSail$Boat", 9, fun j => if j < i then .ref (S + 5 + j) else .null)) else if b = S + 2 then some (.inr (.int, 5, fun _ => .int 0)) else if b = S + 3 then some (.inr (.object "NineSail$Text", 14, fun _ => .null)) else if b = S + 4 then some (.inr (.int, 3, fun _ => .int 0)) else if S + 5 ≤ b ∧ b < S + 5 + i then some (c_bt 29) else X b
/-- a sea's cells -/
def sz (S : Nat) (X : Nat → Option mx_MC) (b : Nat) : Option mx_MC := if S ≤ b ∧ b < S + 14 then some (hz_se b (b - S) (z_se (b - S))) else X b
def sz_v (S m : Nat) : mx_MC := match m with
  | 0 => .inl (5, [.ref (S + 1), .int 0, .int 0, .ref (S + 2), .int 0, .int 0, .int 0, .int 1, .ref (S + 3), .int 0, .ref (S + 4)])
  | 1 => hz_bs (S + 1)
  | 2 => hz_ia 5 z_rul
  | 3 => hz_tx z_0
  | 4 => hz_ia 3 z_m3
  | _ => c_bt 29
theorem sz_c (S : Nat) : ∀ m, hz_se (S + m) m (z_se m) = sz_v S m
  | 0 => rfl
  | 1 => rfl
  | 2 => rfl
  | 3 => rfl
  | 4 => rfl
  | _ + 5 => rfl
section SE
variable (S q d : Nat) (X : Nat → Option mx_MC)
theorem sw_loop (hS : 17 ≤ S) : ∀ i t : Nat, t + i = 9 → mx_run (d + 1) 9 46 [some (.ref S), some (.ref 29), some (.int (nI t))] [] ((S + 5 + t, q + 7 * t), sw S t X) = mx_run (d + 1) 9 72 [some (.ref S), some (.ref 29), some (.int (nI 9))] [] ((S + 14, q + 63), sw S 9 X) := by
  intro i
  induction i with
  | zero =>
    intro t ht
    have e : t = 9 := by omega
    subst e
    rw [iq_9_46]
    have e1 : (nI 9 < 9) = False := eq_false (by decide)
    simp only [iq_9_0, iq_9_1, iq_9_4, iq_9_5, iq_9_7, iq_9_10, iq_9_13, iq_9_14, iq_9_17, iq_9_18, iq_9_20, iq_9_23, iq_9_24, iq_9_25, iq_9_28, iq_9_29, iq_9_31, iq_9_34, iq_9_37, iq_9_38, iq_9_39, iq_9_41, iq_9_44, iq_9_45, iq_9_47, iq_9_49, iq_9_52, iq_9_53, iq_9_56, iq_9_57, iq_9_60, iq_9_61, iq_9_61n, iq_9_62, iq_9_65, iq_9_65n, iq_9_66, iq_9_69, iq_9_75, iq_9_76, iq_9_77, iq_9_80, iq_9_81, iq_9_84, iq_9_85, iq_9_88, iq_9_89, iq_9_92, iq_9_93, iq_9_96, Option.bind_some, Option.toList, List.cons_append, List.nil_append, ↓reduceIte, nI_1, Int32.reduceLT, Int32.reduceLE, dv_1, dv_2, dv_3, dv_4, dv_6, dv_8, dv_10, dv_20, dv_100, dv_200, dv_500, e1]
  | succ i ih =>
    intro t ht
    have IH := ih (t + 1) (by omega)
    have e1 : (nI t < 9) = True := eq_true (nI_lt (b := 9) (by omega) (by omega))
    have g0 : mg_f ((S + 5 + t, q + 7 * t), sw S t X) S [5] 0 = some (.ref (S + 1)) := he_gf (by unfold sw; rw [if_pos rfl]) [5] 0 _ rfl rfl
    have n0 : mx_new ((S + 5 + t, q + 7 * t), sw S t X) 7 (.inl (0, [.null, .int 0, .int 0, .int 0, .int 0, .int 0, .int 0])) = ((S + 5 + t + 1, q + 7 * t + 7), mx_up (sw S t X) (S + 5 + t) (some (.inl (0, [.null, .int 0, .int 0, .int 0, .int 0, .int 0, .int 0])))) := rfl
    have b0 : mx_run d 10 0 [some (.ref (S + 5 + t)), some (.ref 29)] [] ((S + 5 + t + 1, q + 7 * t + 7), mx_up (sw S t X) (S + 5 + t) (some (.inl (0, [.null, .int 0, .int 0, .int 0, .int 0, .int 0, .int 0])))) = some (none, ((S + 5 + t + 1, q + 7 * t + 7), mx_up (sw S t X) (S + 5 + t) (some (c_bt 29)))) := by
      rw [in_boat d (S + 5 + t) 29 _ (by omega) (he_ob (up_s _ _ _))]
      unfold mx_set
      dsimp only
      rw [up_up]
    have a0 : mg_as ((S + 5 + t + 1, q + 7 * t + 7), mx_up (sw S t X) (S + 5 + t) (some (c_bt 29))) (S + 1) (nI t) (S + 5 + t) = some ((S + 5 + (t + 1), q + 7 * (t + 1)), sw S (t + 1) X) := by
      have h := he_as (k := S + 5 + t + 1) (q := q + 7 * t + 7) (a := S + 1) (v := S + 5 + t) (ci := 0) (n := 9) (j := t) (X := mx_up (sw S t X) (S + 5 + t) (some (c_bt 29))) (C := "NineSail$Boat") (V := fun j => if j < t then .ref (S + 5 + j) else .null) (fs := [.ref 29, .int 1, .int 0, .int 0, .int 0, .int 0, .int 1]) (by rw [up_n _ _ _ _ (by omega)]; unfold sw; rw [if_neg (by omega), if_pos rfl]) (up_s _ _ _) (by omega) (by omega) rfl (by omega) (by omega)
      rw [h]
      refine congrArg some (Prod.ext (Prod.ext (by dsimp only; omega) (by dsimp only; omega)) ?_)
      funext b
      show mx_up (mx_up (sw S t X) (S + 5 + t) _) (S + 1) _ b = sw S (t + 1) X b
      by_cases e2 : b = S + 1
      · subst e2
        rw [up_s]
        unfold sw
        rw [if_neg (by omega), if_pos rfl]
        refine congrArg (fun z : Nat → Value => (some (.inr (.object "NineSail$Boat", 9, z)) : Option mx_MC)) (funext fun j => ?_)
        unfold mx_up
        by_cases e3 : j = t
        · rw [if_pos e3, if_pos (by omega), e3]
        · rw [if_neg e3]
          show (if j < t then Value.ref (S + 5 + j) else .null) = _
          by_cases e4 : j < t
          · rw [if_pos e4, if_pos (by omega)]
          · rw [if_neg e4, if_neg (by omega)]
      · rw [up_n _ _ _ _ e2]
        by_cases e3 : b = S + 5 + t
        · subst e3
          rw [up_s]
          unfold sw
          rw [if_neg (by omega), if_neg (by omega), if_neg (by omega), if_neg (by omega), if_neg (by omega), if_pos (by omega)]
        · rw [up_n _ _ _ _ e3]
          unfold sw
          have h : (S + 5 ≤ b ∧ b < S + 5 + (t + 1)) = (S + 5 ≤ b ∧ b < S + 5 + t) := propext (by omega)
          simp only [h, if_neg e2]
    rw [← IH, iq_9_46]
    simp only [iq_9_0, iq_9_1, iq_9_4, iq_9_5, iq_9_7, iq_9_10, iq_9_13, iq_9_14, iq_9_17, iq_9_18, iq_9_20, iq_9_23, iq_9_24, iq_9_25, iq_9_28, iq_9_29, iq_9_31, iq_9_34, iq_9_37, iq_9_38, iq_9_39, iq_9_41, iq_9_44, iq_9_45, iq_9_47, iq_9_49, iq_9_52, iq_9_53, iq_9_56, iq_9_57, iq_9_60, iq_9_61, iq_9_61n, iq_9_62, iq_9_65, iq_9_65n, iq_9_66, iq_9_69, iq_9_75, iq_9_76, iq_9_77, iq_9_80, iq_9_81, iq_9_84, iq_9_85, iq_9_88, iq_9_89, iq_9_92, iq_9_93, iq_9_96, Option.bind_some, Option.toList, List.cons_append, List.nil_append, ↓reduceIte, nI_1, Int32.reduceLT, Int32.reduceLE, dv_1, dv_2, dv_3, dv_4, dv_6, dv_8, dv_10, dv_20, dv_100, dv_200, dv_500, e1, g0, he_11, n0, b0, a0]
set_option maxRecDepth 20000 in
theorem in_sea (hS : 17 ≤ S) (h1 : X 1 = sx_rom 0 (fun _ => 0) 1) (h0 : X S = some (.inl (5, [.null, .int 0, .int 0, .null, .int 0, .int 0, .int 0, .int 0, .null, .int 0, .null]))) : mx_run (d + 1) 9 0 [some (.ref S), some (.ref 29), none] [] ((S + 1, q), X) = some (none, ((S + 14, q + 94), sz S X)) := by
  have hr1 : X 1 = some (.inr (.int, 5, fun j => .int ((sx_rv 0).getD j 0))) := h1
  have l1 : mg_ln ((S + 2, q + 9), mx_up (mx_up X (S + 1) (some (.inr (.object "NineSail$Boat", 9, fun _ => .null)))) S (some (.inl (5, [.ref (S + 1), .int 0, .int 0, .null, .int 0, .int 0, .int 0, .int 0, .null, .int 0, .null])))) 1 = some 5 := he_ln (by rw [up_n _ _ _ _ (by omega), up_n _ _ _ _ (by omega)]; exact hr1)
  have n0 : mx_new ((S + 1, q), X) 9 (.inr (.object "NineSail$Boat", 9, fun _ => .null)) = ((S + 2, q + 9), mx_up (X) (S + 1) (some (.inr (.object "NineSail$Boat", 9, fun _ => .null)))) := rfl
  have p0 : mg_p ((S + 2, q + 9), mx_up (X) (S + 1) (some (.inr (.object "NineSail$Boat", 9, fun _ => .null)))) S [5] 0 2 (.ref (S + 1)) = some ((S + 2, q + 9), mx_up (mx_up (X) (S + 1) (some (.inr (.object "NineSail$Boat", 9, fun _ => .null)))) S (some (.inl (5, [.ref (S + 1), .int 0, .int 0, .null, .int 0, .int 0, .int 0, .int 0, .null, .int 0, .null])))) := by
    rw [he_pf (ci := 5) (fs := [.null, .int 0, .int 0, .null, .int 0, .int 0, .int 0, .int 0, .null, .int 0, .null]) (by rw [up_n _ _ _ _ (by omega)]; exact h0) hS [5] 0 2 _ rfl rfl (by show 0 < 11; omega)]
    rfl
  have n1 : mx_new ((S + 2, q + 9), mx_up (mx_up (X) (S + 1) (some (.inr (.object "NineSail$Boat", 9, fun _ => .null)))) S (some (.inl (5, [.ref (S + 1), .int 0, .int 0, .null, .int 0, .int 0, .int 0, .int 0, .null, .int 0, .null])))) 5 (.inr (.int, 5, fun _ => defaultValue .int)) = ((S + 3, q + 14), mx_up (mx_up (mx_up (X) (S + 1) (some (.inr (.object "NineSail$Boat", 9, fun _ => .null)))) S (some (.inl (5, [.ref (S + 1), .int 0, .int 0, .null, .int 0, .int 0, .int 0, .int 0, .null, .int 0, .null])))) (S + 2) (some (.inr (.int, 5, fun _ => defaultValue .int)))) := rfl
  have p1 : mg_p ((S + 3, q + 14), mx_up (mx_up (mx_up (X) (S + 1) (some (.inr (.object "NineSail$Boat", 9, fun _ => .null)))) S (some (.inl (5, [.ref (S + 1), .int 0, .int 0, .null, .int 0, .int 0, .int 0, .int 0, .null, .int 0, .null])))) (S + 2) (some (.inr (.int, 5, fun _ => defaultValue .int)))) S [5] 3 2 (.ref (S + 2)) = some ((S + 3, q + 14), mx_up (mx_up (mx_up (X) (S + 1) (some (.inr (.object "NineSail$Boat", 9, fun _ => .null)))) (S + 2) (some (.inr (.int, 5, fun _ => defaultValue .int)))) S (some (.inl (5, [.ref (S + 1), .int 0, .int 0, .ref (S + 2), .int 0, .int 0, .int 0, .int 0, .null, .int 0, .null])))) := by
    rw [he_pf (ci := 5) (fs := [.ref (S + 1), .int 0, .int 0, .null, .int 0, .int 0, .int 0, .int 0, .null, .int 0, .null]) (by rw [up_n _ _ _ _ (by omega), up_s]) hS [5] 3 2 _ rfl rfl (by show 3 < 11; omega)]
    rw [up_cm _ S _ _ _ (by omega), up_up]
    rfl
  have p2 : mg_p ((S + 3, q + 14), mx_up (mx_up (mx_up (X) (S + 1) (some (.inr (.object "NineSail$Boat", 9, fun _ => .null)))) (S + 2) (some (.inr (.int, 5, fun _ => defaultValue .int)))) S (some (.inl (5, [.ref (S + 1), .int 0, .int 0, .ref (S + 2), .int 0, .int 0, .int 0, .int 0, .null, .int 0, .null])))) S [5] 7 0 (.int 1) = some ((S + 3, q + 14), mx_up (mx_up (mx_up (X) (S + 1) (some (.inr (.object "NineSail$Boat", 9, fun _ => .null)))) (S + 2) (some (.inr (.int, 5, fun _ => defaultValue .int)))) S (some (.inl (5, [.ref (S + 1), .int 0, .int 0, .ref (S + 2), .int 0, .int 0, .int 0, .int 1, .null, .int 0, .null])))) := by
    rw [he_pf (up_s _ _ _) hS [5] 7 0 (.int 1) rfl rfl (by show 7 < 11; omega)]
    first | rfl | (rw [up_up]; rfl)
  have n3 : mx_new ((S + 3, q + 14), mx_up (mx_up (mx_up (X) (S + 1) (some (.inr (.object "NineSail$Boat", 9, fun _ => .null)))) (S + 2) (some (.inr (.int, 5, fun _ => defaultValue .int)))) S (some (.inl (5, [.ref (S + 1), .int 0, .int 0, .ref (S + 2), .int 0, .int 0, .int 0, .int 1, .null, .int 0, .null])))) 14 (.inr (.object "NineSail$Text", 14, fun _ => .null)) = ((S + 4, q + 28), mx_up (mx_up (mx_up (mx_up (X) (S + 1) (some (.inr (.object "NineSail$Boat", 9, fun _ => .null)))) (S + 2) (some (.inr (.int, 5, fun _ => defaultValue .int)))) S (some (.inl (5, [.ref (S + 1), .int 0, .int 0, .ref (S + 2), .int 0, .int 0, .int 0, .int 1, .null, .int 0, .null])))) (S + 3) (some (.inr (.object "NineSail$Text", 14, fun _ => .null)))) := rfl
  have p3 : mg_p ((S + 4, q + 28), mx_up (mx_up (mx_up (mx_up (X) (S + 1) (some (.inr (.object "NineSail$Boat", 9, fun _ => .null)))) (S + 2) (some (.inr (.int, 5, fun _ => defaultValue .int)))) S (some (.inl (5, [.ref (S + 1), .int 0, .int 0, .ref (S + 2), .int 0, .int 0, .int 0, .int 1, .null, .int 0, .null])))) (S + 3) (some (.inr (.object "NineSail$Text", 14, fun _ => .null)))) S [5] 8 2 (.ref (S + 3)) = some ((S + 4, q + 28), mx_up (mx_up (mx_up (mx_up (X) (S + 1) (some (.inr (.object "NineSail$Boat", 9, fun _ => .null)))) (S + 2) (some (.inr (.int, 5, fun _ => defaultValue .int)))) (S + 3) (some (.inr (.object "NineSail$Text", 14, fun _ => .null)))) S (some (.inl (5, [.ref (S + 1), .int 0, .int 0, .ref (S + 2), .int 0, .int 0, .int 0, .int 1, .ref (S + 3), .int 0, .null])))) := by
    rw [he_pf (ci := 5) (fs := [.ref (S + 1), .int 0, .int 0, .ref (S + 2), .int 0, .int 0, .int 0, .int 1, .null, .int 0, .null]) (by rw [up_n _ _ _ _ (by omega), up_s]) hS [5] 8 2 _ rfl rfl (by show 8 < 11; omega)]
    rw [up_cm _ S _ _ _ (by omega), up_up]
    rfl
  have n4 : mx_new ((S + 4, q + 28), mx_up (mx_up (mx_up (mx_up (X) (S + 1) (some (.inr (.object "NineSail$Boat", 9, fun _ => .null)))) (S + 2) (some (.inr (.int, 5, fun _ => defaultValue .int)))) (S + 3) (some (.inr (.object "NineSail$Text", 14, fun _ => .null)))) S (some (.inl (5, [.ref (S + 1), .int 0, .int 0, .ref (S + 2), .int 0, .int 0, .int 0, .int 1, .ref (S + 3), .int 0, .null])))) 3 (.inr (.int, 3, fun _ => defaultValue .int)) = ((S + 5, q + 31), mx_up (mx_up (mx_up (mx_up (mx_up (X) (S + 1) (some (.inr (.object "NineSail$Boat", 9, fun _ => .null)))) (S + 2) (some (.inr (.int, 5, fun _ => defaultValue .int)))) (S + 3) (some (.inr (.object "NineSail$Text", 14, fun _ => .null)))) S (some (.inl (5, [.ref (S + 1), .int 0, .int 0, .ref (S + 2), .int 0, .int 0, .int 0, .int 1, .ref (S + 3), .int 0, .null])))) (S + 4) (some (.inr (.int, 3, fun _ => defaultValue .int)))) := rfl
  have p4 : mg_p ((S + 5, q + 31), mx_up (mx_up (mx_up (mx_up (mx_up (X) (S + 1) (some (.inr (.object "NineSail$Boat", 9, fun _ => .null)))) (S + 2) (some (.inr (.int, 5, fun _ => defaultValue .int)))) (S + 3) (some (.inr (.object "NineSail$Text", 14, fun _ => .null)))) S (some (.inl (5, [.ref (S + 1), .int 0, .int 0, .ref (S + 2), .int 0, .int 0, .int 0, .int 1, .ref (S + 3), .int 0, .null])))) (S + 4) (some (.inr (.int, 3, fun _ => defaultValue .int)))) S [5] 10 2 (.ref (S + 4)) = some ((S + 5, q + 31), mx_up (mx_up (mx_up (mx_up (mx_up (X) (S + 1) (some (.inr (.object "NineSail$Boat", 9, fun _ => .null)))) (S + 2) (some (.inr (.int, 5, fun _ => defaultValue .int)))) (S + 3) (some (.inr (.object "NineSail$Text", 14, fun _ => .null)))) (S + 4) (some (.inr (.int, 3, fun _ => defaultValue .int)))) S (some (.inl (5, [.ref (S + 1), .int 0, .int 0, .ref (S + 2), .int 0, .int 0, .int 0, .int 1, .ref (S + 3), .int 0, .ref (S + 4)])))) := by
    rw [he_pf (ci := 5) (fs := [.ref (S + 1), .int 0, .int 0, .ref (S + 2), .int 0, .int 0, .int 0, .int 1, .ref (S + 3), .int 0, .null]) (by rw [up_n _ _ _ _ (by omega), up_s]) hS [5] 10 2 _ rfl rfl (by show 10 < 11; omega)]
    rw [up_cm _ S _ _ _ (by omega), up_up]
    rfl
  have sw0 : mx_up (mx_up (mx_up (mx_up (mx_up (X) (S + 1) (some (.inr (.object "NineSail$Boat", 9, fun _ => .null)))) (S + 2) (some (.inr (.int, 5, fun _ => defaultValue .int)))) (S + 3) (some (.inr (.object "NineSail$Text", 14, fun _ => .null)))) (S + 4) (some (.inr (.int, 3, fun _ => defaultValue .int)))) S (some (.inl (5, [.ref (S + 1), .int 0, .int 0, .ref (S + 2), .int 0, .int 0, .int 0, .int 1, .ref (S + 3), .int 0, .ref (S + 4)]))) = sw S 0 X := by
    funext b
    unfold sw mx_up
    by_cases e0 : b = S
    · rw [if_pos e0, if_pos e0]
    · rw [if_neg e0, if_neg e0]
      by_cases e1 : b = S + 1
      · rw [if_neg (by omega), if_neg (by omega), if_neg (by omega), if_pos e1, if_pos e1]
        rfl
      · by_cases e2 : b = S + 2
        · rw [if_neg (by omega), if_neg (by omega), if_pos e2, if_neg e1, if_pos e2]
          rfl
        · by_cases e3 : b = S + 3
          · rw [if_neg (by omega), if_pos e3, if_neg e1, if_neg e2, if_pos e3]
          · by_cases e4 : b = S + 4
            · rw [if_pos e4, if_neg e1, if_neg e2, if_neg e3, if_pos e4]
              rfl
            · rw [if_neg e4, if_neg e3, if_neg e2, if_neg e1, if_neg e1, if_neg e2, if_neg e3, if_neg e4, if_neg (by omega)]
  have lp := sw_loop S (q + 31) d X hS 9 0 (by omega)
  rw [← sw0] at lp
  have lp : mx_run (d + 1) 9 46 [some (.ref S), some (.ref 29), some (.int 0)] [] ((S + 5, q + 31), mx_up (mx_up (mx_up (mx_up (mx_up (X) (S + 1) (some (.inr (.object "NineSail$Boat", 9, fun _ => .null)))) (S + 2) (some (.inr (.int, 5, fun _ => defaultValue .int)))) (S + 3) (some (.inr (.object "NineSail$Text", 14, fun _ => .null)))) (S + 4) (some (.inr (.int, 3, fun _ => defaultValue .int)))) S (some (.inl (5, [.ref (S + 1), .int 0, .int 0, .ref (S + 2), .int 0, .int 0, .int 0, .int 1, .ref (S + 3), .int 0, .ref (S + 4)])))) = _ := lp
  have k9 : (¬ (9 : Int32) < 0 ∧ (9 : Nat) ≤ 100000) = True := by decide
  have c9 : (9 : Int32).toNatClampNeg = 9 := by decide
  have k5 : (¬ (5 : Int32) < 0 ∧ (5 : Nat) ≤ 100000) = True := by decide
  have c5 : (5 : Int32).toNatClampNeg = 5 := by decide
  have k14 : (¬ (14 : Int32) < 0 ∧ (14 : Nat) ≤ 100000) = True := by decide
  have c14 : (14 : Int32).toNatClampNeg = 14 := by decide
  have k3 : (¬ (3 : Int32) < 0 ∧ (3 : Nat) ≤ 100000) = True := by decide
  have c3 : (3 : Int32).toNatClampNeg = 3 := by decide
  have w1 : sw S 9 X 1 = some (.inr (.int, 5, fun j => .int ((sx_rv 0).getD j 0))) := by
    unfold sw
    rw [if_neg (by omega), if_neg (by omega), if_neg (by omega), if_neg (by omega), if_neg (by omega), if_neg (by omega)]
    exact hr1
  have wS : sw S 9 X S = some (.inl (5, [.ref (S + 1), .int 0, .int 0, .ref (S + 2), .int 0, .int 0, .int 0, .int 1, .ref (S + 3), .int 0, .ref (S + 4)])) := by
    unfold sw
    rw [if_pos rfl]
  have w2 : sw S 9 X (S + 2) = some (.inr (.int, 5, fun _ => .int 0)) := by
    unfold sw
    rw [if_neg (by omega), if_neg (by omega), if_pos rfl]
  have w4 : sw S 9 X (S + 4) = some (.inr (.int, 3, fun _ => .int 0)) := by
    unfold sw
    rw [if_neg (by omega), if_neg (by omega), if_neg (by omega), if_neg (by omega), if_pos rfl]
  have gl : mg_ln ((S + 14, q + 31 + 63), sw S 9 X) 1 = some 5 := he_ln w1
  have g3 : mg_f ((S + 14, q + 31 + 63), sw S 9 X) S [5] 3 = some (.ref (S + 2)) := he_gf wS [5] 3 _ rfl rfl
  obtain ⟨Y, hY⟩ : ∃ Y, Y = mx_up (sw S 9 X) (S + 2) (some (.inr (.int, 5, mx_cpy (fun j => .int ((sx_rv 0).getD j 0)) (fun _ => .int 0) 0 0 5))) := ⟨_, rfl⟩
  have cp : mg_cp ((S + 14, q + 31 + 63), sw S 9 X) 1 (S + 2) 0 0 5 = some ((S + 14, q + 31 + 63), Y) := by
    unfold mg_cp mx_arr
    dsimp only
    rw [w1, w2]
    dsimp only
    rw [show (0 : Int32).toNatClampNeg = 0 by decide, c5]
    rw [if_pos ⟨⟨rfl, Or.inl rfl, by decide, by decide, by decide, by omega, by omega, fun i _ => rfl⟩, by omega⟩, hY]
    rfl
  have y4 : Y (S + 4) = some (.inr (.int, 3, fun _ => .int 0)) := by rw [hY, up_n _ _ _ _ (by omega)]; exact w4
  have yS : Y S = some (.inl (5, [.ref (S + 1), .int 0, .int 0, .ref (S + 2), .int 0, .int 0, .int 0, .int 1, .ref (S + 3), .int 0, .ref (S + 4)])) := by rw [hY, up_n _ _ _ _ (by omega)]; exact wS
  have gA : mg_f ((S + 14, q + 31 + 63), Y) S [5] 10 = some (.ref (S + 4)) := he_gf yS [5] 10 _ rfl rfl
  have fl : mg_ln ((S + 14, q + 31 + 63), Y) (S + 4) = some 3 := he_ln y4
  have s0 : mg_st ((S + 14, q + 31 + 63), Y) (S + 4) .int 0 (.int (-1)) = some ((S + 14, q + 31 + 63), mx_up Y (S + 4) (some (.inr (.int, 3, mx_up (fun _ => .int 0) 0 (.int (-1)))))) := he_st (j := 0) (-1) y4 (by omega) (by omega) (by omega)
  have s1 : mg_st ((S + 14, q + 31 + 63), mx_up Y (S + 4) (some (.inr (.int, 3, mx_up (fun _ => .int 0) 0 (.int (-1)))))) (S + 4) .int 1 (.int (-1)) = some ((S + 14, q + 31 + 63), mx_up Y (S + 4) (some (.inr (.int, 3, mx_up (mx_up (fun _ => .int 0) 0 (.int (-1))) 1 (.int (-1)))))) := by
    rw [show (1 : Int32) = nI 1 from rfl, he_st (j := 1) (-(nI 1)) (up_s _ _ _) (by omega) (by omega) (by omega), up_up]
  have s2 : mg_st ((S + 14, q + 31 + 63), mx_up Y (S + 4) (some (.inr (.int, 3, mx_up (mx_up (fun _ => .int 0) 0 (.int (-1))) 1 (.int (-1)))))) (S + 4) .int 2 (.int (-1)) = some ((S + 14, q + 31 + 63), mx_up Y (S + 4) (some (.inr (.int, 3, mx_up (mx_up (mx_up (fun _ => .int 0) 0 (.int (-1))) 1 (.int (-1))) 2 (.int (-1)))))) := by
    rw [show (2 : Int32) = nI 2 from rfl, he_st (j := 2) (-1) (up_s _ _ _) (by omega) (by omega) (by omega), up_up]
  have fi : mx_run d 11 0 [some (.ref (S + 4)), some (.int (-1)), none, none] [] ((S + 14, q + 31 + 63), Y) = some (none, ((S + 14, q + 31 + 63), mx_up Y (S + 4) (some (.inr (.int, 3, mx_up (mx_up (mx_up (fun _ => .int 0) 0 (.int (-1))) 1 (.int (-1))) 2 (.int (-1))))))) := by
    simp only [iq_11_0, iq_11_1, iq_11_2, iq_11_3, iq_11_4, iq_11_6, iq_11_7, iq_11_10, iq_11_11, iq_11_12, iq_11_13, iq_11_14, iq_11_17, iq_11_20, Option.bind_some, fl]
    rw [iq_11_5]
    simp only [iq_11_0, iq_11_1, iq_11_2, iq_11_3, iq_11_4, iq_11_6, iq_11_7, iq_11_10, iq_11_11, iq_11_12, iq_11_13, iq_11_14, iq_11_17, iq_11_20, Option.bind_some, ↓reduceIte, Int32.reduceLT, s0, Int32.reduceAdd]
    rw [iq_11_5]
    simp only [iq_11_0, iq_11_1, iq_11_2, iq_11_3, iq_11_4, iq_11_6, iq_11_7, iq_11_10, iq_11_11, iq_11_12, iq_11_13, iq_11_14, iq_11_17, iq_11_20, Option.bind_some, ↓reduceIte, Int32.reduceLT, s1, Int32.reduceAdd]
    rw [iq_11_5]
    simp only [iq_11_0, iq_11_1, iq_11_2, iq_11_3, iq_11_4, iq_11_6, iq_11_7, iq_11_10, iq_11_11, iq_11_12, iq_11_13, iq_11_14, iq_11_17, iq_11_20, Option.bind_some, ↓reduceIte, Int32.reduceLT, s2, Int32.reduceAdd]
    rw [iq_11_5]
    simp only [iq_11_0, iq_11_1, iq_11_2, iq_11_3, iq_11_4, iq_11_6, iq_11_7, iq_11_10, iq_11_11, iq_11_12, iq_11_13, iq_11_14, iq_11_17, iq_11_20, Option.bind_some, ↓reduceIte, Int32.reduceLT]
  have fin : mx_up Y (S + 4) (some (.inr (.int, 3, mx_up (mx_up (mx_up (fun _ => .int 0) 0 (.int (-1))) 1 (.int (-1))) 2 (.int (-1))))) = sz S X := by
    funext b
    unfold sz
    by_cases hb : S ≤ b ∧ b < S + 14
    · obtain ⟨m, hm, rfl⟩ : ∃ m, m < 14 ∧ b = S + m := ⟨b - S, by omega, by omega⟩
      rw [if_pos hb, show S + m - S = m by omega, sz_c S m, hY]
      match m, hm with
      | 0, _ =>
        rw [up_n _ _ _ _ (by omega), up_n _ _ _ _ (by omega)]
        exact wS
      | 1, _ =>
        rw [up_n _ _ _ _ (by omega), up_n _ _ _ _ (by omega)]
        unfold sw
        rw [if_neg (by omega), if_pos rfl]
        rfl
      | 2, _ =>
        rw [up_n _ _ _ _ (by omega), up_s]
        show _ = some (hz_ia 5 z_rul)
        unfold hz_ia
        refine congrArg (fun z : Nat → Value => (some (.inr (.int, 5, z)) : Option mx_MC)) (funext fun j => ?_)
        unfold mx_cpy z_rul
        by_cases q0 : j = 0
        · subst q0; rfl
        · by_cases q1 : j = 1
          · subst q1; rfl
          · by_cases q2 : j = 2
            · subst q2; rfl
            · by_cases q3 : j = 3
              · subst q3; rfl
              · by_cases q4 : j = 4
                · subst q4; rfl
                · rw [if_neg (by omega), if_neg q0, if_neg q2, if_neg q3]
      | 3, _ =>
        rw [up_n _ _ _ _ (by omega), up_n _ _ _ _ (by omega)]
        unfold sw
        rw [if_neg (by omega), if_neg (by omega), if_neg (by omega), if_pos rfl]
        rfl
      | 4, _ =>
        rw [up_s]
        show _ = some (hz_ia 3 z_m3)
        unfold hz_ia
        refine congrArg (fun z : Nat → Value => (some (.inr (.int, 3, z)) : Option mx_MC)) (funext fun j => ?_)
        unfold z_m3 mx_up
        by_cases q0 : j = 0
        · subst q0; rfl
        · by_cases q1 : j = 1
          · subst q1; rfl
          · by_cases q2 : j = 2
            · subst q2; rfl
            · rw [if_neg q2, if_neg q1, if_neg q0, if_neg (by omega)]
      | n + 5, hn =>
        rw [up_n _ _ _ _ (by omega), up_n _ _ _ _ (by omega)]
        unfold sw
        rw [if_neg (by omega), if_neg (by omega), if_neg (by omega), if_neg (by omega), if_neg (by omega), if_pos (by omega)]
        rfl
    · rw [if_neg hb, hY, up_n _ _ _ _ (by omega), up_n _ _ _ _ (by omega)]
      unfold sw
      rw [if_neg (by omega), if_neg (by omega), if_neg (by omega), if_neg (by omega), if_neg (by omega), if_neg (by omega)]
  rw [fin] at fi
  simp only [iq_9_0, iq_9_1, iq_9_4, iq_9_5, iq_9_7, iq_9_10, iq_9_13, iq_9_14, iq_9_17, iq_9_18, iq_9_20, iq_9_23, iq_9_24, iq_9_25, iq_9_28, iq_9_29, iq_9_31, iq_9_34, iq_9_37, iq_9_38, iq_9_39, iq_9_41, iq_9_44, iq_9_45, iq_9_47, iq_9_49, iq_9_52, iq_9_53, iq_9_56, iq_9_57, iq_9_60, iq_9_61, iq_9_61n, iq_9_62, iq_9_65, iq_9_65n, iq_9_66, iq_9_69, iq_9_75, iq_9_76, iq_9_77, iq_9_80, iq_9_81, iq_9_84, iq_9_85, iq_9_88, iq_9_89, iq_9_92, iq_9_93, iq_9_96, Option.bind_some, Option.toList, List.cons_append, List.nil_append, ↓reduceIte, nI_1, Int32.reduceLT, Int32.reduceLE, dv_1, dv_2, dv_3, dv_4, dv_6, dv_8, dv_10, dv_20, dv_100, dv_200, dv_500, he_11, k9, c9, k5, c5, k14, c14, k3, c3, l1, n0, p0, n1, p1, p2, n3, p3, n4, p4]
  rw [lp]
  simp only [iq_9_72, iq_9_75, iq_9_76, iq_9_77, iq_9_80, iq_9_81, iq_9_84, iq_9_85, iq_9_88, iq_9_89, iq_9_92, iq_9_93, iq_9_96, Option.bind_some, Option.toList, List.cons_append, List.nil_append, ↓reduceIte, nI_1, Int32.reduceLT, Int32.reduceLE, dv_1, dv_2, dv_3, dv_4, dv_6, dv_8, dv_10, dv_20, dv_100, dv_200, dv_500, gl, g3, cp, gA, fi]
  try rfl
end SE
