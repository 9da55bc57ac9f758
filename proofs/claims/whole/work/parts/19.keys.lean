section MRB
variable {d M pc : Nat} {mi : tb_MI} {i : Instr} {len : Nat} {ls : mx_Lo} {st : List Value} {h : mx_MH}
theorem mr_ic (hm : tb_mt M = some mi) {n : Int} {v : Int32} (hd : decode mi.2.1 pc = .ok (.iconst n, 1)) (hv : Int32.ofInt n = v) : mx_run d M pc ls st h = mx_run d M (pc + 1) ls (.int v :: st) h := by
  subst hv
  exact mr_go hm hd rfl rfl
theorem mr_bip (hm : tb_mt M = some mi) {n : Int} {v : Int32} (hd : decode mi.2.1 pc = .ok (.bipush n, 2)) (hv : (Int8.ofInt n).toInt32 = v) : mx_run d M pc ls st h = mx_run d M (pc + 2) ls (.int v :: st) h := by
  subst hv
  exact mr_go hm hd rfl rfl
theorem mr_sip (hm : tb_mt M = some mi) {n : Int} {v : Int32} (hd : decode mi.2.1 pc = .ok (.sipush n, 3)) (hv : (Int16.ofInt n).toInt32 = v) : mx_run d M pc ls st h = mx_run d M (pc + 3) ls (.int v :: st) h := by
  subst hv
  exact mr_go hm hd rfl rfl
theorem mr_sto (hm : tb_mt M = some mi) (hd : decode mi.2.1 pc = .ok (i, len)) (hl : mx_len i len = true) {k pc' : Nat} {v : Value} {r : List Value} {ls' : mx_Lo} (hI : mx_I mi.2.2.2.1 (mi.1.name == "<init>") mi.2.2.2.2 i pc ls st h = mx_store k pc' v ls r) (hk : k < ls.length) (hs : ls.set k (some v) = ls') : mx_run d M pc ls st h = mx_run d M pc' ls' r h := by
  subst hs
  refine mr_go hm hd hl (hI.trans ?_)
  unfold mx_store
  rw [if_pos hk]
theorem mr_inc (hm : tb_mt M = some mi) {k : Nat} {n : Int} (hd : decode mi.2.1 pc = .ok (.iinc k n, 3)) {c x : Int32} (hc : Int32.ofInt n = c) (hx : ls[k]? = some (some (.int x))) (hk : k < ls.length) {ls' : mx_Lo} (hs : ls.set k (some (.int (x + c))) = ls') : mx_run d M pc ls st h = mx_run d M (pc + 3) ls' st h := by
  subst hc
  refine mr_sto hm hd rfl ?_ hk hs
  simp only [mx_I, hx]
theorem mr_div (hm : tb_mt M = some mi) (hd : decode mi.2.1 pc = .ok (.idiv, 1)) {x y : Int32} : mx_run d M pc ls (.int y :: .int x :: st) h = if y = 0 then none else mx_run d M (pc + 1) ls (.int (x / y) :: st) h := by
  have hI := mr_step hm hd rfl ls (.int y :: .int x :: st) h
  simp only [mx_I] at hI
  by_cases hy : y = 0
  · rw [if_pos hy] at hI ⊢
    exact mr_none hI
  · rw [if_neg hy] at hI ⊢
    exact mx_run_next (e := .inl ()) hI
theorem mr_rem (hm : tb_mt M = some mi) (hd : decode mi.2.1 pc = .ok (.irem, 1)) {x y : Int32} : mx_run d M pc ls (.int y :: .int x :: st) h = if y = 0 then none else mx_run d M (pc + 1) ls (.int (x - x / y * y) :: st) h := by
  have hI := mr_step hm hd rfl ls (.int y :: .int x :: st) h
  simp only [mx_I] at hI
  by_cases hy : y = 0
  · rw [if_pos hy] at hI ⊢
    exact mr_none hI
  · rw [if_neg hy] at hI ⊢
    exact mx_run_next (e := .inl ()) hI
theorem mr_brn (hm : tb_mt M = some mi) (hd : decode mi.2.1 pc = .ok (i, len)) (hl : mx_len i len = true) {pc' : Nat} {off : Int} {x y : Int32} {b : Bool} {ls' : mx_Lo} {st' : List Value} (ht : (pc : Int) + off = (pc' : Int)) (hb : b = decide (x ≠ y)) (hI : mx_I mi.2.2.2.1 (mi.1.name == "<init>") mi.2.2.2.2 i pc ls st h = mx_br b pc off ls' st') : mx_run d M pc ls st h = if x = y then mx_run d M (pc + 3) ls' st' h else mx_run d M pc' ls' st' h := by
  rw [mr_br hm hd hl ht hb hI]
  by_cases hxy : x = y
  · rw [if_pos hxy, if_neg (fun z => z hxy)]
  · rw [if_neg hxy, if_pos hxy]
theorem mr_brg (hm : tb_mt M = some mi) (hd : decode mi.2.1 pc = .ok (i, len)) (hl : mx_len i len = true) {pc' : Nat} {off : Int} {x y : Int32} {b : Bool} {ls' : mx_Lo} {st' : List Value} (ht : (pc : Int) + off = (pc' : Int)) (hb : b = decide (y ≤ x)) (hI : mx_I mi.2.2.2.1 (mi.1.name == "<init>") mi.2.2.2.2 i pc ls st h = mx_br b pc off ls' st') : mx_run d M pc ls st h = if x < y then mx_run d M (pc + 3) ls' st' h else mx_run d M pc' ls' st' h := by
  rw [mr_br hm hd hl ht hb hI]
  by_cases hxy : x < y
  · rw [if_pos hxy, if_neg (Int32.not_le.mpr hxy)]
  · rw [if_neg hxy, if_pos (Int32.not_lt.mp hxy)]
theorem mr_brl (hm : tb_mt M = some mi) (hd : decode mi.2.1 pc = .ok (i, len)) (hl : mx_len i len = true) {pc' : Nat} {off : Int} {x y : Int32} {b : Bool} {ls' : mx_Lo} {st' : List Value} (ht : (pc : Int) + off = (pc' : Int)) (hb : b = decide (x ≤ y)) (hI : mx_I mi.2.2.2.1 (mi.1.name == "<init>") mi.2.2.2.2 i pc ls st h = mx_br b pc off ls' st') : mx_run d M pc ls st h = if y < x then mx_run d M (pc + 3) ls' st' h else mx_run d M pc' ls' st' h := by
  rw [mr_br hm hd hl ht hb hI]
  by_cases hxy : y < x
  · rw [if_pos hxy, if_neg (Int32.not_le.mpr hxy)]
  · rw [if_neg hxy, if_pos (Int32.not_lt.mp hxy)]
theorem mr_swo {pc : Nat} {d lo hi : Int} {offs : Array Int} {x : Int32} {ls : mx_Lo} {r : List Value} (h0 : (0 : Int) ≤ (pc : Int) + d) (hx : x.toInt < lo ∨ hi < x.toInt) : mx_sw pc d lo hi offs x ls r = some (.inl (((pc : Int) + d).toNat, ls, r, .inl ())) := by
  unfold mx_sw
  rw [if_pos hx]
  unfold mx_jmp
  rw [if_pos h0]
  rfl
theorem mr_retb (hm : tb_mt M = some mi) (hd : decode mi.2.1 pc = .ok (.ireturn, 1)) {ty : FieldType} (hr : mi.2.2.2.1 = some ty) {v : Int32} (hn : narrow ty (.int v) = .int v) : mx_run d M pc ls [.int v] h = some (some (.int v), h) := by
  refine mr_ret hm hd rfl ?_
  simp only [mx_I, hr]
  rw [if_pos hn]
theorem mr_bool {x y z : Int64} : mx_bool (decide (y ≤ x) && decide (x ≤ z)) = .int (if y ≤ x ∧ x ≤ z then 1 else 0) := by
  unfold mx_bool
  by_cases h1 : y ≤ x <;> by_cases h2 : x ≤ z <;> simp [h1, h2]
end MRB
theorem fq_45067 : tb_F.find? (fun e => mx_k 11 11 e.1) = some (45067, 309, 0, [11], 2, true) := by decide +kernel
theorem fq_45071 : tb_F.find? (fun e => mx_k 11 15 e.1) = some (45071, 314, 5, [11], 2, true) := by decide +kernel
theorem fq_45078 : tb_F.find? (fun e => mx_k 11 22 e.1) = some (45078, 315, 6, [11], 2, true) := by decide +kernel
theorem fq_45084 : tb_F.find? (fun e => mx_k 11 28 e.1) = some (45084, 316, 7, [11], 2, true) := by decide +kernel
theorem fq_45088 : tb_F.find? (fun e => mx_k 11 32 e.1) = some (45088, 317, 8, [11], 2, true) := by decide +kernel
theorem fq_45093 : tb_F.find? (fun e => mx_k 11 37 e.1) = some (45093, 318, 9, [11], 2, true) := by decide +kernel
theorem fq_45097 : tb_F.find? (fun e => mx_k 11 41 e.1) = some (45097, 319, 10, [11], 2, true) := by decide +kernel
theorem fq_45100 : tb_F.find? (fun e => mx_k 11 44 e.1) = some (45100, 320, 11, [11], 2, true) := by decide +kernel
theorem fq_45103 : tb_F.find? (fun e => mx_k 11 47 e.1) = some (45103, 321, 12, [11], 2, true) := by decide +kernel
theorem fq_45129 : tb_F.find? (fun e => mx_k 11 73 e.1) = some (45129, 310, 1, [11], 2, true) := by decide +kernel
theorem fq_45133 : tb_F.find? (fun e => mx_k 11 77 e.1) = some (45133, 311, 2, [11], 2, true) := by decide +kernel
theorem fq_45136 : tb_F.find? (fun e => mx_k 11 80 e.1) = some (45136, 312, 3, [11], 2, true) := by decide +kernel
theorem fq_45152 : tb_F.find? (fun e => mx_k 11 96 e.1) = some (45152, 242, 1, [5], 0, false) := by decide +kernel
theorem fq_45164 : tb_F.find? (fun e => mx_k 11 108 e.1) = some (45164, 241, 0, [5], 2, true) := by decide +kernel
theorem fq_45167 : tb_F.find? (fun e => mx_k 11 111 e.1) = some (45167, 200, 0, [0], 2, false) := by decide +kernel
theorem fq_45171 : tb_F.find? (fun e => mx_k 11 115 e.1) = some (45171, 131, 0, [1, 2, 3, 4, 7, 9], 0, true) := by decide +kernel
theorem fq_45174 : tb_F.find? (fun e => mx_k 11 118 e.1) = some (45174, 203, 1, [0], 0, false) := by decide +kernel
theorem fq_45177 : tb_F.find? (fun e => mx_k 11 121 e.1) = some (45177, 206, 2, [0], 0, false) := by decide +kernel
theorem fq_45180 : tb_F.find? (fun e => mx_k 11 124 e.1) = some (45180, 209, 3, [0], 0, false) := by decide +kernel
theorem fq_45183 : tb_F.find? (fun e => mx_k 11 127 e.1) = some (45183, 211, 4, [0], 0, false) := by decide +kernel
theorem fq_45186 : tb_F.find? (fun e => mx_k 11 130 e.1) = some (45186, 217, 6, [0], 1, false) := by decide +kernel
theorem fq_45190 : tb_F.find? (fun e => mx_k 11 134 e.1) = some (45190, 214, 5, [0], 0, false) := by decide +kernel
theorem fq_45212 : tb_F.find? (fun e => mx_k 11 156 e.1) = some (45212, 245, 2, [5], 0, false) := by decide +kernel
theorem fq_45225 : tb_F.find? (fun e => mx_k 11 169 e.1) = some (45225, 247, 3, [5], 2, true) := by decide +kernel
theorem fq_45237 : tb_F.find? (fun e => mx_k 11 181 e.1) = some (45237, 255, 7, [5], 0, false) := by decide +kernel
theorem fq_45246 : tb_F.find? (fun e => mx_k 11 190 e.1) = some (45246, 253, 6, [5], 0, false) := by decide +kernel
theorem fq_45255 : tb_F.find? (fun e => mx_k 11 199 e.1) = some (45255, 249, 4, [5], 0, false) := by decide +kernel
theorem fq_45258 : tb_F.find? (fun e => mx_k 11 202 e.1) = some (45258, 251, 5, [5], 0, false) := by decide +kernel
theorem fq_45309 : tb_F.find? (fun e => mx_k 11 253 e.1) = some (45309, 88, 1, [8], 0, false) := by decide +kernel
theorem fq_45318 : tb_F.find? (fun e => mx_k 11 262 e.1) = some (45318, 93, 5, [8], 0, false) := by decide +kernel
theorem fq_45321 : tb_F.find? (fun e => mx_k 11 265 e.1) = some (45321, 259, 9, [5], 0, false) := by decide +kernel
theorem fq_45332 : tb_F.find? (fun e => mx_k 11 276 e.1) = some (45332, 257, 8, [5], 2, true) := by decide +kernel
theorem fq_45336 : tb_F.find? (fun e => mx_k 11 280 e.1) = some (45336, 937, 0, [10], 0, true) := by decide +kernel
theorem fq_45339 : tb_F.find? (fun e => mx_k 11 283 e.1) = some (45339, 939, 1, [10], 0, true) := by decide +kernel
theorem fq_45342 : tb_F.find? (fun e => mx_k 11 286 e.1) = some (45342, 261, 10, [5], 2, true) := by decide +kernel
theorem fq_45355 : tb_F.find? (fun e => mx_k 11 299 e.1) = some (45355, 291, 0, [6], 0, false) := by decide +kernel
theorem fq_45363 : tb_F.find? (fun e => mx_k 11 307 e.1) = some (45363, 294, 1, [6], 0, false) := by decide +kernel
theorem fq_45396 : tb_F.find? (fun e => mx_k 11 340 e.1) = some (45396, 322, 13, [11], 0, false) := by decide +kernel
theorem fq_45399 : tb_F.find? (fun e => mx_k 11 343 e.1) = some (45399, 313, 4, [11], 1, false) := by decide +kernel
theorem fq_9 : tb_F.find? (fun e => mx_k 0 9 e.1) = some (9, 202, 1, [0], 0, false) := by decide +kernel
theorem fq_15 : tb_F.find? (fun e => mx_k 0 15 e.1) = some (15, 216, 6, [0], 1, false) := by decide +kernel
theorem fq_19 : tb_F.find? (fun e => mx_k 0 19 e.1) = some (19, 199, 0, [0], 2, false) := by decide +kernel
theorem fq_23 : tb_F.find? (fun e => mx_k 0 23 e.1) = some (23, 205, 2, [0], 0, false) := by decide +kernel
theorem fq_26 : tb_F.find? (fun e => mx_k 0 26 e.1) = some (26, 208, 3, [0], 0, false) := by decide +kernel
theorem fq_29 : tb_F.find? (fun e => mx_k 0 29 e.1) = some (29, 210, 4, [0], 0, false) := by decide +kernel
theorem fq_32 : tb_F.find? (fun e => mx_k 0 32 e.1) = some (32, 213, 5, [0], 0, false) := by decide +kernel
theorem fq_4103 : tb_F.find? (fun e => mx_k 1 7 e.1) = some (4103, 130, 0, [1, 2, 3, 4, 7, 9], 0, true) := by decide +kernel
theorem fq_4109 : tb_F.find? (fun e => mx_k 1 13 e.1) = some (4109, 132, 1, [1, 2, 3, 4, 7, 9], 2, true) := by decide +kernel
theorem fq_20491 : tb_F.find? (fun e => mx_k 5 11 e.1) = some (20491, 240, 0, [5], 2, true) := by decide +kernel
theorem fq_20501 : tb_F.find? (fun e => mx_k 5 21 e.1) = some (20501, 246, 3, [5], 2, true) := by decide +kernel
theorem fq_20504 : tb_F.find? (fun e => mx_k 5 24 e.1) = some (20504, 254, 7, [5], 0, false) := by decide +kernel
theorem fq_20510 : tb_F.find? (fun e => mx_k 5 30 e.1) = some (20510, 256, 8, [5], 2, true) := by decide +kernel
theorem fq_20514 : tb_F.find? (fun e => mx_k 5 34 e.1) = some (20514, 260, 10, [5], 2, true) := by decide +kernel
theorem fq_20536 : tb_F.find? (fun e => mx_k 5 56 e.1) = some (20536, 243, 1, [5], 0, false) := by decide +kernel
theorem fq_20539 : tb_F.find? (fun e => mx_k 5 59 e.1) = some (20539, 244, 2, [5], 0, false) := by decide +kernel
theorem fq_20542 : tb_F.find? (fun e => mx_k 5 62 e.1) = some (20542, 248, 4, [5], 0, false) := by decide +kernel
theorem fq_20545 : tb_F.find? (fun e => mx_k 5 65 e.1) = some (20545, 250, 5, [5], 0, false) := by decide +kernel
theorem fq_20548 : tb_F.find? (fun e => mx_k 5 68 e.1) = some (20548, 252, 6, [5], 0, false) := by decide +kernel
theorem fq_20551 : tb_F.find? (fun e => mx_k 5 71 e.1) = some (20551, 258, 9, [5], 0, false) := by decide +kernel
theorem fq_20559 : tb_F.find? (fun e => mx_k 5 79 e.1) = some (20559, 936, 0, [10], 0, true) := by decide +kernel
theorem fq_20566 : tb_F.find? (fun e => mx_k 5 86 e.1) = some (20566, 204, 1, [0], 0, false) := by decide +kernel
theorem fq_20573 : tb_F.find? (fun e => mx_k 5 93 e.1) = some (20573, 201, 0, [0], 2, false) := by decide +kernel
theorem fq_20591 : tb_F.find? (fun e => mx_k 5 111 e.1) = some (20591, 218, 6, [0], 1, false) := by decide +kernel
theorem fq_20636 : tb_F.find? (fun e => mx_k 5 156 e.1) = some (20636, 215, 5, [0], 0, false) := by decide +kernel
theorem fq_20645 : tb_F.find? (fun e => mx_k 5 165 e.1) = some (20645, 212, 4, [0], 0, false) := by decide +kernel
theorem fq_20657 : tb_F.find? (fun e => mx_k 5 177 e.1) = some (20657, 207, 2, [0], 0, false) := by decide +kernel
theorem fq_20663 : tb_F.find? (fun e => mx_k 5 183 e.1) = some (20663, 293, 1, [6], 0, false) := by decide +kernel
theorem fq_24585 : tb_F.find? (fun e => mx_k 6 9 e.1) = some (24585, 290, 0, [6], 0, false) := by decide +kernel
theorem fq_24591 : tb_F.find? (fun e => mx_k 6 15 e.1) = some (24591, 295, 2, [6], 2, true) := by decide +kernel
theorem fq_24595 : tb_F.find? (fun e => mx_k 6 19 e.1) = some (24595, 296, 3, [6], 2, true) := by decide +kernel
theorem fq_24599 : tb_F.find? (fun e => mx_k 6 23 e.1) = some (24599, 292, 1, [6], 0, false) := by decide +kernel
theorem fq_32777 : tb_F.find? (fun e => mx_k 8 9 e.1) = some (32777, 86, 0, [8], 2, true) := by decide +kernel
theorem fq_32783 : tb_F.find? (fun e => mx_k 8 15 e.1) = some (32783, 96, 8, [8], 2, true) := by decide +kernel
theorem fq_32787 : tb_F.find? (fun e => mx_k 8 19 e.1) = some (32787, 87, 1, [8], 0, false) := by decide +kernel
theorem fq_32791 : tb_F.find? (fun e => mx_k 8 23 e.1) = some (32791, 92, 5, [8], 0, false) := by decide +kernel
theorem fq_32794 : tb_F.find? (fun e => mx_k 8 26 e.1) = some (32794, 95, 7, [8], 0, false) := by decide +kernel
theorem fq_32797 : tb_F.find? (fun e => mx_k 8 29 e.1) = some (32797, 97, 9, [8], 0, false) := by decide +kernel
theorem fq_32800 : tb_F.find? (fun e => mx_k 8 32 e.1) = some (32800, 89, 2, [8], 0, false) := by decide +kernel
theorem fq_32803 : tb_F.find? (fun e => mx_k 8 35 e.1) = some (32803, 91, 4, [8], 0, false) := by decide +kernel
theorem fq_32816 : tb_F.find? (fun e => mx_k 8 48 e.1) = some (32816, 90, 3, [8], 0, false) := by decide +kernel
theorem fq_32821 : tb_F.find? (fun e => mx_k 8 53 e.1) = some (32821, 94, 6, [8], 0, false) := by decide +kernel
theorem fq_40967 : tb_F.find? (fun e => mx_k 10 7 e.1) = some (40967, 935, 0, [10], 0, true) := by decide +kernel
theorem fq_40973 : tb_F.find? (fun e => mx_k 10 13 e.1) = some (40973, 938, 1, [10], 0, true) := by decide +kernel
theorem fq_40976 : tb_F.find? (fun e => mx_k 10 16 e.1) = some (40976, 940, 2, [10], 2, true) := by decide +kernel
theorem fq_40986 : tb_F.find? (fun e => mx_k 10 26 e.1) = some (40986, 941, 3, [10], 2, true) := by decide +kernel
theorem fq_49159 : tb_F.find? (fun e => mx_k 12 7 e.1) = some (49159, 1072, 0, [12], 2, true) := by decide +kernel
theorem fq_49165 : tb_F.find? (fun e => mx_k 12 13 e.1) = some (49165, 1073, 1, [12], 2, true) := by decide +kernel
theorem fq_49168 : tb_F.find? (fun e => mx_k 12 16 e.1) = some (49168, 1074, 2, [12], 2, true) := by decide +kernel
theorem fq_49171 : tb_F.find? (fun e => mx_k 12 19 e.1) = some (49171, 1076, 4, [12], 2, true) := by decide +kernel
theorem fq_49174 : tb_F.find? (fun e => mx_k 12 22 e.1) = some (49174, 1077, 5, [12], 2, true) := by decide +kernel
theorem fq_49177 : tb_F.find? (fun e => mx_k 12 25 e.1) = some (49177, 1078, 6, [12], 2, true) := by decide +kernel
theorem fq_49180 : tb_F.find? (fun e => mx_k 12 28 e.1) = some (49180, 1079, 7, [12], 2, true) := by decide +kernel
theorem fq_49183 : tb_F.find? (fun e => mx_k 12 31 e.1) = some (49183, 1080, 8, [12], 2, true) := by decide +kernel
theorem fq_49186 : tb_F.find? (fun e => mx_k 12 34 e.1) = some (49186, 1081, 9, [12], 2, true) := by decide +kernel
theorem fq_49189 : tb_F.find? (fun e => mx_k 12 37 e.1) = some (49189, 1082, 10, [12], 2, true) := by decide +kernel
theorem fq_49192 : tb_F.find? (fun e => mx_k 12 40 e.1) = some (49192, 1083, 11, [12], 2, true) := by decide +kernel
theorem fq_49195 : tb_F.find? (fun e => mx_k 12 43 e.1) = some (49195, 1084, 12, [12], 2, true) := by decide +kernel
theorem fq_49198 : tb_F.find? (fun e => mx_k 12 46 e.1) = some (49198, 1085, 13, [12], 2, true) := by decide +kernel
theorem fq_49201 : tb_F.find? (fun e => mx_k 12 49 e.1) = some (49201, 1097, 25, [12], 2, true) := by decide +kernel
theorem fq_49204 : tb_F.find? (fun e => mx_k 12 52 e.1) = some (49204, 1098, 26, [12], 2, true) := by decide +kernel
theorem fq_49207 : tb_F.find? (fun e => mx_k 12 55 e.1) = some (49207, 1099, 27, [12], 2, true) := by decide +kernel
theorem fq_49210 : tb_F.find? (fun e => mx_k 12 58 e.1) = some (49210, 1100, 28, [12], 2, true) := by decide +kernel
theorem fq_49213 : tb_F.find? (fun e => mx_k 12 61 e.1) = some (49213, 1102, 30, [12], 2, true) := by decide +kernel
theorem fq_49340 : tb_F.find? (fun e => mx_k 12 188 e.1) = some (49340, 1086, 14, [12], 0, false) := by decide +kernel
theorem fq_49352 : tb_F.find? (fun e => mx_k 12 200 e.1) = some (49352, 1088, 16, [12], 0, false) := by decide +kernel
theorem fq_49355 : tb_F.find? (fun e => mx_k 12 203 e.1) = some (49355, 1089, 17, [12], 0, false) := by decide +kernel
theorem fq_49358 : tb_F.find? (fun e => mx_k 12 206 e.1) = some (49358, 1087, 15, [12], 0, false) := by decide +kernel
theorem fq_49364 : tb_F.find? (fun e => mx_k 12 212 e.1) = some (49364, 1091, 19, [12], 0, false) := by decide +kernel
theorem fq_49370 : tb_F.find? (fun e => mx_k 12 218 e.1) = some (49370, 1090, 18, [12], 0, false) := by decide +kernel
theorem fq_49377 : tb_F.find? (fun e => mx_k 12 225 e.1) = some (49377, 1095, 23, [12], 0, false) := by decide +kernel
theorem fq_49380 : tb_F.find? (fun e => mx_k 12 228 e.1) = some (49380, 1094, 22, [12], 0, false) := by decide +kernel
theorem fq_49408 : tb_F.find? (fun e => mx_k 12 256 e.1) = some (49408, 1096, 24, [12], 0, false) := by decide +kernel
theorem fq_49414 : tb_F.find? (fun e => mx_k 12 262 e.1) = some (49414, 1093, 21, [12], 0, false) := by decide +kernel
theorem fq_49417 : tb_F.find? (fun e => mx_k 12 265 e.1) = some (49417, 1092, 20, [12], 0, false) := by decide +kernel
theorem fq_49460 : tb_F.find? (fun e => mx_k 12 308 e.1) = some (49460, 1101, 29, [12], 0, false) := by decide +kernel
theorem fq_49465 : tb_F.find? (fun e => mx_k 12 313 e.1) = some (49465, 1075, 3, [12], 1, false) := by decide +kernel
theorem fq_53257 : tb_F.find? (fun e => mx_k 13 9 e.1) = some (53257, 1566, 0, [13], 2, true) := by decide +kernel
theorem fq_53263 : tb_F.find? (fun e => mx_k 13 15 e.1) = some (53263, 1567, 1, [13], 3, true) := by decide +kernel
theorem iqI_45141 : tb_I.find? (fun e => mx_k 11 85 e.1) = some (45141, 356, 14, 1, false, 357, 49, 358) := rfl
theorem iqI_45145 : tb_I.find? (fun e => mx_k 11 89 e.1) = some (45145, 359, 15, 1, false, 360, 49, 361) := rfl
theorem iqI_45148 : tb_I.find? (fun e => mx_k 11 92 e.1) = some (45148, 362, 16, 1, false, 363, 49, 364) := rfl
theorem iqI_45279 : tb_I.find? (fun e => mx_k 11 223 e.1) = some (45279, 654, 82, 1, false, 655, 49, 656) := rfl
theorem iqI_45288 : tb_I.find? (fun e => mx_k 11 232 e.1) = some (45288, 678, 88, 1, false, 679, 49, 680) := rfl
theorem iqI_45372 : tb_I.find? (fun e => mx_k 11 316 e.1) = some (45372, 998, 25, 2, false, 399, 49, 400) := rfl
theorem iqI_45383 : tb_I.find? (fun e => mx_k 11 327 e.1) = some (45383, 1021, 161, 1, false, 1022, 49, 1023) := rfl
theorem iqI_20526 : tb_I.find? (fun e => mx_k 5 46 e.1) = some (20526, 237, 11, 2, false, 238, 60, 239) := rfl
theorem iqI_20577 : tb_I.find? (fun e => mx_k 5 97 e.1) = some (20577, 398, 25, 2, true, 399, 49, 400) := rfl
theorem iqI_32824 : tb_I.find? (fun e => mx_k 8 56 e.1) = some (32824, 918, 145, 2, false, 919, 60, 920) := rfl
theorem iqI_32837 : tb_I.find? (fun e => mx_k 8 69 e.1) = some (32837, 744, 103, 1, false, 745, 50, 746) := rfl
theorem iqI_40989 : tb_I.find? (fun e => mx_k 10 29 e.1) = some (40989, 395, 24, 3, false, 396, 63, 397) := rfl
theorem iqI_49241 : tb_I.find? (fun e => mx_k 12 89 e.1) = some (49241, 1202, 181, 2, false, 1203, 62, 1204) := rfl
theorem iqI_49267 : tb_I.find? (fun e => mx_k 12 115 e.1) = some (49267, 1236, 190, 2, false, 1237, 62, 1238) := rfl
theorem iqI_49282 : tb_I.find? (fun e => mx_k 12 130 e.1) = some (49282, 1270, 198, 1, false, 1271, 62, 1272) := rfl
theorem iqI_49291 : tb_I.find? (fun e => mx_k 12 139 e.1) = some (49291, 1291, 203, 2, false, 1292, 62, 1293) := rfl
theorem iqI_49333 : tb_I.find? (fun e => mx_k 12 181 e.1) = some (49333, 1356, 219, 1, false, 1357, 62, 1358) := rfl
theorem iqI_49411 : tb_I.find? (fun e => mx_k 12 259 e.1) = some (49411, 1454, 242, 2, false, 1455, 62, 1456) := rfl
theorem iqI_49437 : tb_I.find? (fun e => mx_k 12 285 e.1) = some (49437, 1217, 185, 3, false, 1218, 62, 1219) := rfl
theorem iqI_49441 : tb_I.find? (fun e => mx_k 12 289 e.1) = some (49441, 1478, 248, 1, false, 1479, 62, 1480) := rfl
theorem iqI_49453 : tb_I.find? (fun e => mx_k 12 301 e.1) = some (49453, 1503, 253, 2, false, 1504, 62, 1505) := rfl
theorem iqI_49456 : tb_I.find? (fun e => mx_k 12 304 e.1) = some (49456, 1514, 256, 1, false, 1515, 62, 1516) := rfl
theorem iqI_53743 : tb_I.find? (fun e => mx_k 13 495 e.1) = some (53743, 774, 110, 2, false, 775, 66, 776) := rfl
theorem iqI_53746 : tb_I.find? (fun e => mx_k 13 498 e.1) = some (53746, 785, 113, 2, false, 786, 68, 787) := rfl
theorem iqI_53885 : tb_I.find? (fun e => mx_k 13 637 e.1) = some (53885, 858, 129, 4, false, 859, 66, 860) := rfl
theorem iqI_53888 : tb_I.find? (fun e => mx_k 13 640 e.1) = some (53888, 869, 132, 4, false, 870, 68, 871) := rfl
theorem iqI_54307 : tb_I.find? (fun e => mx_k 13 1059 e.1) = some (54307, 782, 112, 3, false, 783, 67, 784) := rfl
theorem iqI_54310 : tb_I.find? (fun e => mx_k 13 1062 e.1) = some (54310, 884, 136, 4, false, 885, 67, 886) := rfl
theorem iqI_57353 : tb_I.find? (fun e => mx_k 14 9 e.1) = some (57353, 777, 111, 2, false, 778, 65, 779) := rfl
theorem iqI_57432 : tb_I.find? (fun e => mx_k 14 88 e.1) = some (57432, 861, 130, 1, false, 862, 66, 863) := rfl
theorem iqI_57439 : tb_I.find? (fun e => mx_k 14 95 e.1) = some (57439, 866, 131, 4, false, 867, 66, 868) := rfl
theorem iqI_73776 : tb_I.find? (fun e => mx_k 18 48 e.1) = some (73776, 791, 115, 1, false, 792, 68, 793) := rfl
theorem iqI_73795 : tb_I.find? (fun e => mx_k 18 67 e.1) = some (73795, 788, 114, 2, false, 789, 68, 790) := rfl
theorem iqI_73799 : tb_I.find? (fun e => mx_k 18 71 e.1) = some (73799, 795, 116, 2, false, 796, 68, 797) := rfl
theorem iqI_73824 : tb_I.find? (fun e => mx_k 18 96 e.1) = some (73824, 878, 134, 3, false, 879, 68, 880) := rfl
theorem iqI_73885 : tb_I.find? (fun e => mx_k 18 157 e.1) = some (73885, 896, 140, 1, false, 897, 69, 898) := rfl
theorem iqI_73889 : tb_I.find? (fun e => mx_k 18 161 e.1) = some (73889, 900, 141, 1, false, 901, 69, 902) := rfl
theorem iqI_73892 : tb_I.find? (fun e => mx_k 18 164 e.1) = some (73892, 893, 139, 1, false, 894, 69, 895) := rfl
theorem iqI_73956 : tb_I.find? (fun e => mx_k 18 228 e.1) = some (73956, 875, 133, 4, false, 876, 68, 877) := rfl
theorem iqI_73960 : tb_I.find? (fun e => mx_k 18 232 e.1) = some (73960, 890, 138, 4, false, 891, 68, 892) := rfl
theorem iqI_73969 : tb_I.find? (fun e => mx_k 18 241 e.1) = some (73969, 881, 135, 3, false, 882, 65, 883) := rfl
theorem iqI_73972 : tb_I.find? (fun e => mx_k 18 244 e.1) = some (73972, 887, 137, 4, false, 888, 68, 889) := rfl
theorem iqI_74142 : tb_I.find? (fun e => mx_k 18 414 e.1) = some (74142, 794, 111, 2, false, 778, 65, 779) := rfl
set_option maxRecDepth 20000 in
theorem iqV_45157 : tb_V.find? (fun e => mx_k 11 101 e.1) = some (45157, 5, 367, 17, 3, false, 369, 368, 57, 370, 0, 0, 0, 0) := rfl
set_option maxRecDepth 20000 in
theorem iqV_45157_5 : tb_V.find? (fun e => mx_k 11 101 e.1 && e.2.1 == 5) = some (45157, 5, 367, 17, 3, false, 369, 368, 57, 370, 0, 0, 0, 0) := rfl
set_option maxRecDepth 20000 in
theorem iqV_45161 : tb_V.find? (fun e => mx_k 11 105 e.1) = some (45161, 5, 379, 20, 1, false, 381, 380, 57, 382, 0, 0, 0, 0) := rfl
set_option maxRecDepth 20000 in
theorem iqV_45161_5 : tb_V.find? (fun e => mx_k 11 105 e.1 && e.2.1 == 5) = some (45161, 5, 379, 20, 1, false, 381, 380, 57, 382, 0, 0, 0, 0) := rfl
set_option maxRecDepth 20000 in
theorem iqV_45193 : tb_V.find? (fun e => mx_k 11 137 e.1) = some (45193, 5, 383, 21, 1, false, 385, 384, 57, 386, 0, 0, 0, 0) := rfl
set_option maxRecDepth 20000 in
theorem iqV_45193_5 : tb_V.find? (fun e => mx_k 11 137 e.1 && e.2.1 == 5) = some (45193, 5, 383, 21, 1, false, 385, 384, 57, 386, 0, 0, 0, 0) := rfl
set_option maxRecDepth 20000 in
theorem iqV_45197 : tb_V.find? (fun e => mx_k 11 141 e.1) = some (45197, 1, 429, 35, 1, true, 431, 430, 51, 446, 432, 430, 446, 35) := rfl
set_option maxRecDepth 20000 in
theorem iqV_45197_1 : tb_V.find? (fun e => mx_k 11 141 e.1 && e.2.1 == 1) = some (45197, 1, 429, 35, 1, true, 431, 430, 51, 446, 432, 430, 446, 35) := rfl
set_option maxRecDepth 20000 in
theorem iqV_45197_2 : tb_V.find? (fun e => mx_k 11 141 e.1 && e.2.1 == 2) = some (45197, 2, 429, 32, 1, true, 433, 434, 52, 435, 432, 430, 446, 35) := rfl
set_option maxRecDepth 20000 in
theorem iqV_45197_3 : tb_V.find? (fun e => mx_k 11 141 e.1 && e.2.1 == 3) = some (45197, 3, 429, 33, 1, true, 437, 438, 55, 439, 432, 430, 446, 35) := rfl
set_option maxRecDepth 20000 in
theorem iqV_45197_4 : tb_V.find? (fun e => mx_k 11 141 e.1 && e.2.1 == 4) = some (45197, 4, 429, 32, 1, true, 443, 434, 52, 435, 432, 430, 446, 35) := rfl
set_option maxRecDepth 20000 in
theorem iqV_45197_7 : tb_V.find? (fun e => mx_k 11 141 e.1 && e.2.1 == 7) = some (45197, 7, 429, 34, 1, true, 444, 441, 53, 442, 432, 430, 446, 35) := rfl
set_option maxRecDepth 20000 in
theorem iqV_45197_9 : tb_V.find? (fun e => mx_k 11 141 e.1 && e.2.1 == 9) = some (45197, 9, 429, 35, 1, true, 445, 430, 51, 446, 432, 430, 446, 35) := rfl
set_option maxRecDepth 20000 in
theorem iqV_45201 : tb_V.find? (fun e => mx_k 11 145 e.1) = some (45201, 1, 447, 39, 0, true, 449, 448, 51, 463, 450, 448, 463, 39) := rfl
set_option maxRecDepth 20000 in
theorem iqV_45201_1 : tb_V.find? (fun e => mx_k 11 145 e.1 && e.2.1 == 1) = some (45201, 1, 447, 39, 0, true, 449, 448, 51, 463, 450, 448, 463, 39) := rfl
set_option maxRecDepth 20000 in
theorem iqV_45201_2 : tb_V.find? (fun e => mx_k 11 145 e.1 && e.2.1 == 2) = some (45201, 2, 447, 36, 0, true, 451, 452, 54, 453, 450, 448, 463, 39) := rfl
set_option maxRecDepth 20000 in
theorem iqV_45201_3 : tb_V.find? (fun e => mx_k 11 145 e.1 && e.2.1 == 3) = some (45201, 3, 447, 38, 0, true, 457, 458, 55, 459, 450, 448, 463, 39) := rfl
set_option maxRecDepth 20000 in
theorem iqV_45201_4 : tb_V.find? (fun e => mx_k 11 145 e.1 && e.2.1 == 4) = some (45201, 4, 447, 37, 0, true, 460, 455, 52, 456, 450, 448, 463, 39) := rfl
set_option maxRecDepth 20000 in
theorem iqV_45201_7 : tb_V.find? (fun e => mx_k 11 145 e.1 && e.2.1 == 7) = some (45201, 7, 447, 39, 0, true, 461, 448, 51, 463, 450, 448, 463, 39) := rfl
set_option maxRecDepth 20000 in
theorem iqV_45201_9 : tb_V.find? (fun e => mx_k 11 145 e.1 && e.2.1 == 9) = some (45201, 9, 447, 39, 0, true, 462, 448, 51, 463, 450, 448, 463, 39) := rfl
set_option maxRecDepth 20000 in
theorem iqV_45205 : tb_V.find? (fun e => mx_k 11 149 e.1) = some (45205, 1, 464, 45, 1, true, 466, 465, 51, 485, 467, 465, 485, 45) := rfl
set_option maxRecDepth 20000 in
theorem iqV_45205_1 : tb_V.find? (fun e => mx_k 11 149 e.1 && e.2.1 == 1) = some (45205, 1, 464, 45, 1, true, 466, 465, 51, 485, 467, 465, 485, 45) := rfl
set_option maxRecDepth 20000 in
theorem iqV_45205_2 : tb_V.find? (fun e => mx_k 11 149 e.1 && e.2.1 == 2) = some (45205, 2, 464, 40, 1, true, 468, 469, 54, 470, 467, 465, 485, 45) := rfl
set_option maxRecDepth 20000 in
theorem iqV_45205_3 : tb_V.find? (fun e => mx_k 11 149 e.1 && e.2.1 == 3) = some (45205, 3, 464, 42, 1, true, 474, 475, 55, 476, 467, 465, 485, 45) := rfl
set_option maxRecDepth 20000 in
theorem iqV_45205_4 : tb_V.find? (fun e => mx_k 11 149 e.1 && e.2.1 == 4) = some (45205, 4, 464, 41, 1, true, 480, 472, 52, 473, 467, 465, 485, 45) := rfl
set_option maxRecDepth 20000 in
theorem iqV_45205_7 : tb_V.find? (fun e => mx_k 11 149 e.1 && e.2.1 == 7) = some (45205, 7, 464, 43, 1, true, 481, 478, 53, 479, 467, 465, 485, 45) := rfl
set_option maxRecDepth 20000 in
theorem iqV_45205_9 : tb_V.find? (fun e => mx_k 11 149 e.1 && e.2.1 == 9) = some (45205, 9, 464, 44, 1, true, 482, 483, 56, 484, 467, 465, 485, 45) := rfl
set_option maxRecDepth 20000 in
theorem iqV_45208 : tb_V.find? (fun e => mx_k 11 152 e.1) = some (45208, 1, 490, 47, 1, true, 492, 491, 51, 499, 493, 491, 499, 47) := rfl
set_option maxRecDepth 20000 in
theorem iqV_45208_1 : tb_V.find? (fun e => mx_k 11 152 e.1 && e.2.1 == 1) = some (45208, 1, 490, 47, 1, true, 492, 491, 51, 499, 493, 491, 499, 47) := rfl
set_option maxRecDepth 20000 in
theorem iqV_45208_2 : tb_V.find? (fun e => mx_k 11 152 e.1 && e.2.1 == 2) = some (45208, 2, 490, 47, 1, true, 494, 491, 51, 499, 493, 491, 499, 47) := rfl
set_option maxRecDepth 20000 in
theorem iqV_45208_3 : tb_V.find? (fun e => mx_k 11 152 e.1 && e.2.1 == 3) = some (45208, 3, 490, 47, 1, true, 495, 491, 51, 499, 493, 491, 499, 47) := rfl
set_option maxRecDepth 20000 in
theorem iqV_45208_4 : tb_V.find? (fun e => mx_k 11 152 e.1 && e.2.1 == 4) = some (45208, 4, 490, 47, 1, true, 496, 491, 51, 499, 493, 491, 499, 47) := rfl
set_option maxRecDepth 20000 in
theorem iqV_45208_7 : tb_V.find? (fun e => mx_k 11 152 e.1 && e.2.1 == 7) = some (45208, 7, 490, 47, 1, true, 497, 491, 51, 499, 493, 491, 499, 47) := rfl
set_option maxRecDepth 20000 in
theorem iqV_45208_9 : tb_V.find? (fun e => mx_k 11 152 e.1 && e.2.1 == 9) = some (45208, 9, 490, 47, 1, true, 498, 491, 51, 499, 493, 491, 499, 47) := rfl
set_option maxRecDepth 20000 in
theorem iqV_45215 : tb_V.find? (fun e => mx_k 11 159 e.1) = some (45215, 5, 517, 52, 1, false, 519, 518, 57, 520, 0, 0, 0, 0) := rfl
set_option maxRecDepth 20000 in
theorem iqV_45215_5 : tb_V.find? (fun e => mx_k 11 159 e.1 && e.2.1 == 5) = some (45215, 5, 517, 52, 1, false, 519, 518, 57, 520, 0, 0, 0, 0) := rfl
set_option maxRecDepth 20000 in
theorem iqV_45234 : tb_V.find? (fun e => mx_k 11 178 e.1) = some (45234, 5, 533, 55, 0, false, 535, 534, 57, 536, 0, 0, 0, 0) := rfl
set_option maxRecDepth 20000 in
theorem iqV_45234_5 : tb_V.find? (fun e => mx_k 11 178 e.1 && e.2.1 == 5) = some (45234, 5, 533, 55, 0, false, 535, 534, 57, 536, 0, 0, 0, 0) := rfl
set_option maxRecDepth 20000 in
theorem iqV_45240 : tb_V.find? (fun e => mx_k 11 184 e.1) = some (45240, 5, 546, 58, 0, false, 548, 547, 57, 549, 0, 0, 0, 0) := rfl
set_option maxRecDepth 20000 in
theorem iqV_45240_5 : tb_V.find? (fun e => mx_k 11 184 e.1 && e.2.1 == 5) = some (45240, 5, 546, 58, 0, false, 548, 547, 57, 549, 0, 0, 0, 0) := rfl
set_option maxRecDepth 20000 in
theorem iqV_45243 : tb_V.find? (fun e => mx_k 11 187 e.1) = some (45243, 5, 558, 60, 0, false, 560, 559, 57, 561, 0, 0, 0, 0) := rfl
set_option maxRecDepth 20000 in
theorem iqV_45243_5 : tb_V.find? (fun e => mx_k 11 187 e.1 && e.2.1 == 5) = some (45243, 5, 558, 60, 0, false, 560, 559, 57, 561, 0, 0, 0, 0) := rfl
set_option maxRecDepth 20000 in
theorem iqV_45249 : tb_V.find? (fun e => mx_k 11 193 e.1) = some (45249, 5, 562, 61, 1, false, 564, 563, 57, 565, 0, 0, 0, 0) := rfl
set_option maxRecDepth 20000 in
theorem iqV_45249_5 : tb_V.find? (fun e => mx_k 11 193 e.1 && e.2.1 == 5) = some (45249, 5, 562, 61, 1, false, 564, 563, 57, 565, 0, 0, 0, 0) := rfl
set_option maxRecDepth 20000 in
theorem iqV_45252 : tb_V.find? (fun e => mx_k 11 196 e.1) = some (45252, 5, 615, 73, 0, false, 617, 616, 57, 618, 0, 0, 0, 0) := rfl
set_option maxRecDepth 20000 in
theorem iqV_45252_5 : tb_V.find? (fun e => mx_k 11 196 e.1 && e.2.1 == 5) = some (45252, 5, 615, 73, 0, false, 617, 616, 57, 618, 0, 0, 0, 0) := rfl
set_option maxRecDepth 20000 in
theorem iqV_45261 : tb_V.find? (fun e => mx_k 11 205 e.1) = some (45261, 5, 619, 74, 0, false, 621, 620, 57, 622, 0, 0, 0, 0) := rfl
set_option maxRecDepth 20000 in
theorem iqV_45261_5 : tb_V.find? (fun e => mx_k 11 205 e.1 && e.2.1 == 5) = some (45261, 5, 619, 74, 0, false, 621, 620, 57, 622, 0, 0, 0, 0) := rfl
set_option maxRecDepth 20000 in
theorem iqV_45264 : tb_V.find? (fun e => mx_k 11 208 e.1) = some (45264, 5, 623, 75, 0, false, 625, 624, 57, 626, 0, 0, 0, 0) := rfl
set_option maxRecDepth 20000 in
theorem iqV_45264_5 : tb_V.find? (fun e => mx_k 11 208 e.1 && e.2.1 == 5) = some (45264, 5, 623, 75, 0, false, 625, 624, 57, 626, 0, 0, 0, 0) := rfl
set_option maxRecDepth 20000 in
theorem iqV_45267 : tb_V.find? (fun e => mx_k 11 211 e.1) = some (45267, 5, 631, 77, 1, false, 633, 632, 57, 634, 0, 0, 0, 0) := rfl
set_option maxRecDepth 20000 in
theorem iqV_45267_5 : tb_V.find? (fun e => mx_k 11 211 e.1 && e.2.1 == 5) = some (45267, 5, 631, 77, 1, false, 633, 632, 57, 634, 0, 0, 0, 0) := rfl
set_option maxRecDepth 20000 in
theorem iqV_45271 : tb_V.find? (fun e => mx_k 11 215 e.1) = some (45271, 5, 643, 80, 0, false, 645, 644, 57, 646, 0, 0, 0, 0) := rfl
set_option maxRecDepth 20000 in
theorem iqV_45271_5 : tb_V.find? (fun e => mx_k 11 215 e.1 && e.2.1 == 5) = some (45271, 5, 643, 80, 0, false, 645, 644, 57, 646, 0, 0, 0, 0) := rfl
set_option maxRecDepth 20000 in
theorem iqV_45275 : tb_V.find? (fun e => mx_k 11 219 e.1) = some (45275, 5, 648, 62, 0, false, 568, 567, 57, 569, 0, 0, 0, 0) := rfl
set_option maxRecDepth 20000 in
theorem iqV_45275_5 : tb_V.find? (fun e => mx_k 11 219 e.1 && e.2.1 == 5) = some (45275, 5, 648, 62, 0, false, 568, 567, 57, 569, 0, 0, 0, 0) := rfl
set_option maxRecDepth 20000 in
theorem iqV_45282 : tb_V.find? (fun e => mx_k 11 226 e.1) = some (45282, 5, 661, 69, 0, false, 601, 600, 57, 602, 0, 0, 0, 0) := rfl
set_option maxRecDepth 20000 in
theorem iqV_45282_5 : tb_V.find? (fun e => mx_k 11 226 e.1 && e.2.1 == 5) = some (45282, 5, 661, 69, 0, false, 601, 600, 57, 602, 0, 0, 0, 0) := rfl
set_option maxRecDepth 20000 in
theorem iqV_45285 : tb_V.find? (fun e => mx_k 11 229 e.1) = some (45285, 0, 666, 85, 0, false, 668, 667, 58, 669, 0, 0, 0, 0) := rfl
set_option maxRecDepth 20000 in
theorem iqV_45285_0 : tb_V.find? (fun e => mx_k 11 229 e.1 && e.2.1 == 0) = some (45285, 0, 666, 85, 0, false, 668, 667, 58, 669, 0, 0, 0, 0) := rfl
set_option maxRecDepth 20000 in
theorem iqV_45291 : tb_V.find? (fun e => mx_k 11 235 e.1) = some (45291, 6, 681, 89, 0, false, 683, 682, 61, 684, 0, 0, 0, 0) := rfl
set_option maxRecDepth 20000 in
theorem iqV_45291_6 : tb_V.find? (fun e => mx_k 11 235 e.1 && e.2.1 == 6) = some (45291, 6, 681, 89, 0, false, 683, 682, 61, 684, 0, 0, 0, 0) := rfl
set_option maxRecDepth 20000 in
theorem iqV_45295 : tb_V.find? (fun e => mx_k 11 239 e.1) = some (45295, 5, 686, 90, 1, false, 688, 687, 57, 689, 0, 0, 0, 0) := rfl
set_option maxRecDepth 20000 in
theorem iqV_45295_5 : tb_V.find? (fun e => mx_k 11 239 e.1 && e.2.1 == 5) = some (45295, 5, 686, 90, 1, false, 688, 687, 57, 689, 0, 0, 0, 0) := rfl
set_option maxRecDepth 20000 in
theorem iqV_45299 : tb_V.find? (fun e => mx_k 11 243 e.1) = some (45299, 5, 710, 22, 1, false, 389, 388, 57, 390, 0, 0, 0, 0) := rfl
set_option maxRecDepth 20000 in
theorem iqV_45299_5 : tb_V.find? (fun e => mx_k 11 243 e.1 && e.2.1 == 5) = some (45299, 5, 710, 22, 1, false, 389, 388, 57, 390, 0, 0, 0, 0) := rfl
set_option maxRecDepth 20000 in
theorem iqV_45303 : tb_V.find? (fun e => mx_k 11 247 e.1) = some (45303, 10, 711, 23, 3, false, 393, 392, 63, 394, 0, 0, 0, 0) := rfl
set_option maxRecDepth 20000 in
theorem iqV_45303_10 : tb_V.find? (fun e => mx_k 11 247 e.1 && e.2.1 == 10) = some (45303, 10, 711, 23, 3, false, 393, 392, 63, 394, 0, 0, 0, 0) := rfl
set_option maxRecDepth 20000 in
theorem iqV_45312 : tb_V.find? (fun e => mx_k 11 256 e.1) = some (45312, 8, 720, 97, 1, false, 722, 721, 50, 723, 0, 0, 0, 0) := rfl
set_option maxRecDepth 20000 in
theorem iqV_45312_8 : tb_V.find? (fun e => mx_k 11 256 e.1 && e.2.1 == 8) = some (45312, 8, 720, 97, 1, false, 722, 721, 50, 723, 0, 0, 0, 0) := rfl
set_option maxRecDepth 20000 in
theorem iqV_45315 : tb_V.find? (fun e => mx_k 11 259 e.1) = some (45315, 8, 732, 100, 0, false, 734, 733, 50, 735, 0, 0, 0, 0) := rfl
set_option maxRecDepth 20000 in
theorem iqV_45315_8 : tb_V.find? (fun e => mx_k 11 259 e.1 && e.2.1 == 8) = some (45315, 8, 732, 100, 0, false, 734, 733, 50, 735, 0, 0, 0, 0) := rfl
set_option maxRecDepth 20000 in
theorem iqV_45324 : tb_V.find? (fun e => mx_k 11 268 e.1) = some (45324, 8, 912, 144, 0, false, 914, 913, 50, 915, 0, 0, 0, 0) := rfl
set_option maxRecDepth 20000 in
theorem iqV_45324_8 : tb_V.find? (fun e => mx_k 11 268 e.1 && e.2.1 == 8) = some (45324, 8, 912, 144, 0, false, 914, 913, 50, 915, 0, 0, 0, 0) := rfl
set_option maxRecDepth 20000 in
theorem iqV_45328 : tb_V.find? (fun e => mx_k 11 272 e.1) = some (45328, 5, 951, 147, 1, false, 953, 952, 57, 954, 0, 0, 0, 0) := rfl
set_option maxRecDepth 20000 in
theorem iqV_45328_5 : tb_V.find? (fun e => mx_k 11 272 e.1 && e.2.1 == 5) = some (45328, 5, 951, 147, 1, false, 953, 952, 57, 954, 0, 0, 0, 0) := rfl
set_option maxRecDepth 20000 in
theorem iqV_45345 : tb_V.find? (fun e => mx_k 11 289 e.1) = some (45345, 6, 967, 151, 0, false, 969, 968, 61, 970, 0, 0, 0, 0) := rfl
set_option maxRecDepth 20000 in
theorem iqV_45345_6 : tb_V.find? (fun e => mx_k 11 289 e.1 && e.2.1 == 6) = some (45345, 6, 967, 151, 0, false, 969, 968, 61, 970, 0, 0, 0, 0) := rfl
set_option maxRecDepth 20000 in
theorem iqV_45349 : tb_V.find? (fun e => mx_k 11 293 e.1) = some (45349, 6, 972, 152, 2, false, 974, 973, 61, 975, 0, 0, 0, 0) := rfl
set_option maxRecDepth 20000 in
theorem iqV_45349_6 : tb_V.find? (fun e => mx_k 11 293 e.1 && e.2.1 == 6) = some (45349, 6, 972, 152, 2, false, 974, 973, 61, 975, 0, 0, 0, 0) := rfl
set_option maxRecDepth 20000 in
theorem iqV_45353 : tb_V.find? (fun e => mx_k 11 297 e.1) = some (45353, 6, 982, 92, 1, false, 696, 695, 61, 697, 0, 0, 0, 0) := rfl
set_option maxRecDepth 20000 in
theorem iqV_45353_6 : tb_V.find? (fun e => mx_k 11 297 e.1 && e.2.1 == 6) = some (45353, 6, 982, 92, 1, false, 696, 695, 61, 697, 0, 0, 0, 0) := rfl
set_option maxRecDepth 20000 in
theorem iqV_45360 : tb_V.find? (fun e => mx_k 11 304 e.1) = some (45360, 6, 986, 154, 2, false, 988, 987, 61, 989, 0, 0, 0, 0) := rfl
set_option maxRecDepth 20000 in
theorem iqV_45360_6 : tb_V.find? (fun e => mx_k 11 304 e.1 && e.2.1 == 6) = some (45360, 6, 986, 154, 2, false, 988, 987, 61, 989, 0, 0, 0, 0) := rfl
set_option maxRecDepth 20000 in
theorem iqV_45366 : tb_V.find? (fun e => mx_k 11 310 e.1) = some (45366, 6, 996, 91, 1, false, 692, 691, 61, 693, 0, 0, 0, 0) := rfl
set_option maxRecDepth 20000 in
theorem iqV_45366_6 : tb_V.find? (fun e => mx_k 11 310 e.1 && e.2.1 == 6) = some (45366, 6, 996, 91, 1, false, 692, 691, 61, 693, 0, 0, 0, 0) := rfl
set_option maxRecDepth 20000 in
theorem iqV_45369 : tb_V.find? (fun e => mx_k 11 313 e.1) = some (45369, 6, 997, 93, 1, false, 701, 700, 61, 702, 0, 0, 0, 0) := rfl
set_option maxRecDepth 20000 in
theorem iqV_45369_6 : tb_V.find? (fun e => mx_k 11 313 e.1 && e.2.1 == 6) = some (45369, 6, 997, 93, 1, false, 701, 700, 61, 702, 0, 0, 0, 0) := rfl
set_option maxRecDepth 20000 in
theorem iqV_45375 : tb_V.find? (fun e => mx_k 11 319 e.1) = some (45375, 6, 1007, 158, 2, false, 1009, 1008, 61, 1010, 0, 0, 0, 0) := rfl
set_option maxRecDepth 20000 in
theorem iqV_45375_6 : tb_V.find? (fun e => mx_k 11 319 e.1 && e.2.1 == 6) = some (45375, 6, 1007, 158, 2, false, 1009, 1008, 61, 1010, 0, 0, 0, 0) := rfl
set_option maxRecDepth 20000 in
theorem iqV_45379 : tb_V.find? (fun e => mx_k 11 323 e.1) = some (45379, 6, 1011, 159, 4, false, 1013, 1012, 61, 1014, 0, 0, 0, 0) := rfl
set_option maxRecDepth 20000 in
theorem iqV_45379_6 : tb_V.find? (fun e => mx_k 11 323 e.1 && e.2.1 == 6) = some (45379, 6, 1011, 159, 4, false, 1013, 1012, 61, 1014, 0, 0, 0, 0) := rfl
set_option maxRecDepth 20000 in
theorem iqV_45386 : tb_V.find? (fun e => mx_k 11 330 e.1) = some (45386, 0, 1024, 78, 1, false, 637, 636, 58, 638, 0, 0, 0, 0) := rfl
set_option maxRecDepth 20000 in
theorem iqV_45386_0 : tb_V.find? (fun e => mx_k 11 330 e.1 && e.2.1 == 0) = some (45386, 0, 1024, 78, 1, false, 637, 636, 58, 638, 0, 0, 0, 0) := rfl
set_option maxRecDepth 20000 in
theorem iqV_45389 : tb_V.find? (fun e => mx_k 11 333 e.1) = some (45389, 6, 1025, 162, 1, false, 1027, 1026, 61, 1028, 0, 0, 0, 0) := rfl
set_option maxRecDepth 20000 in
theorem iqV_45389_6 : tb_V.find? (fun e => mx_k 11 333 e.1 && e.2.1 == 6) = some (45389, 6, 1025, 162, 1, false, 1027, 1026, 61, 1028, 0, 0, 0, 0) := rfl
set_option maxRecDepth 20000 in
theorem iqV_45392 : tb_V.find? (fun e => mx_k 11 336 e.1) = some (45392, 11, 1033, 164, 2, false, 6, 1035, 49, 1036, 0, 0, 0, 0) := rfl
set_option maxRecDepth 20000 in
theorem iqV_45392_11 : tb_V.find? (fun e => mx_k 11 336 e.1 && e.2.1 == 11) = some (45392, 11, 1033, 164, 2, false, 6, 1035, 49, 1036, 0, 0, 0, 0) := rfl
set_option maxRecDepth 20000 in
theorem iqV_20532 : tb_V.find? (fun e => mx_k 5 52 e.1) = some (20532, 0, 635, 78, 1, false, 637, 636, 58, 638, 0, 0, 0, 0) := rfl
set_option maxRecDepth 20000 in
theorem iqV_20532_0 : tb_V.find? (fun e => mx_k 5 52 e.1 && e.2.1 == 0) = some (20532, 0, 635, 78, 1, false, 637, 636, 58, 638, 0, 0, 0, 0) := rfl
set_option maxRecDepth 20000 in
theorem iqV_20554 : tb_V.find? (fun e => mx_k 5 74 e.1) = some (20554, 0, 371, 18, 3, false, 373, 372, 58, 374, 0, 0, 0, 0) := rfl
set_option maxRecDepth 20000 in
theorem iqV_20554_0 : tb_V.find? (fun e => mx_k 5 74 e.1 && e.2.1 == 0) = some (20554, 0, 371, 18, 3, false, 373, 372, 58, 374, 0, 0, 0, 0) := rfl
set_option maxRecDepth 20000 in
theorem iqV_20562 : tb_V.find? (fun e => mx_k 5 82 e.1) = some (20562, 5, 387, 22, 1, false, 389, 388, 57, 390, 0, 0, 0, 0) := rfl
set_option maxRecDepth 20000 in
theorem iqV_20562_5 : tb_V.find? (fun e => mx_k 5 82 e.1 && e.2.1 == 5) = some (20562, 5, 387, 22, 1, false, 389, 388, 57, 390, 0, 0, 0, 0) := rfl
set_option maxRecDepth 20000 in
theorem iqV_20569 : tb_V.find? (fun e => mx_k 5 89 e.1) = some (20569, 10, 391, 23, 3, false, 393, 392, 63, 394, 0, 0, 0, 0) := rfl
set_option maxRecDepth 20000 in
theorem iqV_20569_10 : tb_V.find? (fun e => mx_k 5 89 e.1 && e.2.1 == 10) = some (20569, 10, 391, 23, 3, false, 393, 392, 63, 394, 0, 0, 0, 0) := rfl
set_option maxRecDepth 20000 in
theorem iqV_20581 : tb_V.find? (fun e => mx_k 5 101 e.1) = some (20581, 1, 407, 31, 1, true, 409, 408, 51, 428, 410, 408, 428, 31) := rfl
set_option maxRecDepth 20000 in
theorem iqV_20581_1 : tb_V.find? (fun e => mx_k 5 101 e.1 && e.2.1 == 1) = some (20581, 1, 407, 31, 1, true, 409, 408, 51, 428, 410, 408, 428, 31) := rfl
set_option maxRecDepth 20000 in
theorem iqV_20581_2 : tb_V.find? (fun e => mx_k 5 101 e.1 && e.2.1 == 2) = some (20581, 2, 407, 26, 1, true, 411, 412, 54, 413, 410, 408, 428, 31) := rfl
set_option maxRecDepth 20000 in
theorem iqV_20581_3 : tb_V.find? (fun e => mx_k 5 101 e.1 && e.2.1 == 3) = some (20581, 3, 407, 28, 1, true, 417, 418, 55, 419, 410, 408, 428, 31) := rfl
set_option maxRecDepth 20000 in
theorem iqV_20581_4 : tb_V.find? (fun e => mx_k 5 101 e.1 && e.2.1 == 4) = some (20581, 4, 407, 27, 1, true, 423, 415, 52, 416, 410, 408, 428, 31) := rfl
set_option maxRecDepth 20000 in
theorem iqV_20581_7 : tb_V.find? (fun e => mx_k 5 101 e.1 && e.2.1 == 7) = some (20581, 7, 407, 29, 1, true, 424, 421, 53, 422, 410, 408, 428, 31) := rfl
set_option maxRecDepth 20000 in
theorem iqV_20581_9 : tb_V.find? (fun e => mx_k 5 101 e.1 && e.2.1 == 9) = some (20581, 9, 407, 30, 1, true, 425, 426, 56, 427, 410, 408, 428, 31) := rfl
set_option maxRecDepth 20000 in
theorem iqV_20587 : tb_V.find? (fun e => mx_k 5 107 e.1) = some (20587, 5, 550, 20, 1, false, 381, 380, 57, 382, 0, 0, 0, 0) := rfl
set_option maxRecDepth 20000 in
theorem iqV_20587_5 : tb_V.find? (fun e => mx_k 5 107 e.1 && e.2.1 == 5) = some (20587, 5, 550, 20, 1, false, 381, 380, 57, 382, 0, 0, 0, 0) := rfl
set_option maxRecDepth 20000 in
theorem iqV_20595 : tb_V.find? (fun e => mx_k 5 115 e.1) = some (20595, 1, 551, 35, 1, true, 431, 430, 51, 446, 432, 430, 446, 35) := rfl
set_option maxRecDepth 20000 in
theorem iqV_20595_1 : tb_V.find? (fun e => mx_k 5 115 e.1 && e.2.1 == 1) = some (20595, 1, 551, 35, 1, true, 431, 430, 51, 446, 432, 430, 446, 35) := rfl
set_option maxRecDepth 20000 in
theorem iqV_20595_2 : tb_V.find? (fun e => mx_k 5 115 e.1 && e.2.1 == 2) = some (20595, 2, 551, 32, 1, true, 433, 434, 52, 435, 432, 430, 446, 35) := rfl
set_option maxRecDepth 20000 in
theorem iqV_20595_3 : tb_V.find? (fun e => mx_k 5 115 e.1 && e.2.1 == 3) = some (20595, 3, 551, 33, 1, true, 437, 438, 55, 439, 432, 430, 446, 35) := rfl
set_option maxRecDepth 20000 in
theorem iqV_20595_4 : tb_V.find? (fun e => mx_k 5 115 e.1 && e.2.1 == 4) = some (20595, 4, 551, 32, 1, true, 443, 434, 52, 435, 432, 430, 446, 35) := rfl
set_option maxRecDepth 20000 in
theorem iqV_20595_7 : tb_V.find? (fun e => mx_k 5 115 e.1 && e.2.1 == 7) = some (20595, 7, 551, 34, 1, true, 444, 441, 53, 442, 432, 430, 446, 35) := rfl
set_option maxRecDepth 20000 in
theorem iqV_20595_9 : tb_V.find? (fun e => mx_k 5 115 e.1 && e.2.1 == 9) = some (20595, 9, 551, 35, 1, true, 445, 430, 51, 446, 432, 430, 446, 35) := rfl
set_option maxRecDepth 20000 in
theorem iqV_20598 : tb_V.find? (fun e => mx_k 5 118 e.1) = some (20598, 5, 552, 21, 1, false, 385, 384, 57, 386, 0, 0, 0, 0) := rfl
set_option maxRecDepth 20000 in
theorem iqV_20598_5 : tb_V.find? (fun e => mx_k 5 118 e.1 && e.2.1 == 5) = some (20598, 5, 552, 21, 1, false, 385, 384, 57, 386, 0, 0, 0, 0) := rfl
set_option maxRecDepth 20000 in
theorem iqV_20607 : tb_V.find? (fun e => mx_k 5 127 e.1) = some (20607, 5, 566, 62, 0, false, 568, 567, 57, 569, 0, 0, 0, 0) := rfl
set_option maxRecDepth 20000 in
theorem iqV_20607_5 : tb_V.find? (fun e => mx_k 5 127 e.1 && e.2.1 == 5) = some (20607, 5, 566, 62, 0, false, 568, 567, 57, 569, 0, 0, 0, 0) := rfl
set_option maxRecDepth 20000 in
theorem iqV_20610 : tb_V.find? (fun e => mx_k 5 130 e.1) = some (20610, 5, 570, 55, 0, false, 535, 534, 57, 536, 0, 0, 0, 0) := rfl
set_option maxRecDepth 20000 in
theorem iqV_20610_5 : tb_V.find? (fun e => mx_k 5 130 e.1 && e.2.1 == 5) = some (20610, 5, 570, 55, 0, false, 535, 534, 57, 536, 0, 0, 0, 0) := rfl
set_option maxRecDepth 20000 in
theorem iqV_20614 : tb_V.find? (fun e => mx_k 5 134 e.1) = some (20614, 5, 571, 63, 0, false, 573, 572, 57, 574, 0, 0, 0, 0) := rfl
set_option maxRecDepth 20000 in
theorem iqV_20614_5 : tb_V.find? (fun e => mx_k 5 134 e.1 && e.2.1 == 5) = some (20614, 5, 571, 63, 0, false, 573, 572, 57, 574, 0, 0, 0, 0) := rfl
set_option maxRecDepth 20000 in
theorem iqV_20617 : tb_V.find? (fun e => mx_k 5 137 e.1) = some (20617, 5, 580, 58, 0, false, 548, 547, 57, 549, 0, 0, 0, 0) := rfl
set_option maxRecDepth 20000 in
theorem iqV_20617_5 : tb_V.find? (fun e => mx_k 5 137 e.1 && e.2.1 == 5) = some (20617, 5, 580, 58, 0, false, 548, 547, 57, 549, 0, 0, 0, 0) := rfl
set_option maxRecDepth 20000 in
theorem iqV_20620 : tb_V.find? (fun e => mx_k 5 140 e.1) = some (20620, 5, 581, 65, 1, false, 583, 582, 57, 584, 0, 0, 0, 0) := rfl
set_option maxRecDepth 20000 in
theorem iqV_20620_5 : tb_V.find? (fun e => mx_k 5 140 e.1 && e.2.1 == 5) = some (20620, 5, 581, 65, 1, false, 583, 582, 57, 584, 0, 0, 0, 0) := rfl
set_option maxRecDepth 20000 in
theorem iqV_20624 : tb_V.find? (fun e => mx_k 5 144 e.1) = some (20624, 5, 591, 67, 0, false, 593, 592, 57, 594, 0, 0, 0, 0) := rfl
set_option maxRecDepth 20000 in
theorem iqV_20624_5 : tb_V.find? (fun e => mx_k 5 144 e.1 && e.2.1 == 5) = some (20624, 5, 591, 67, 0, false, 593, 592, 57, 594, 0, 0, 0, 0) := rfl
set_option maxRecDepth 20000 in
theorem iqV_20627 : tb_V.find? (fun e => mx_k 5 147 e.1) = some (20627, 5, 595, 68, 0, false, 597, 596, 57, 598, 0, 0, 0, 0) := rfl
set_option maxRecDepth 20000 in
theorem iqV_20627_5 : tb_V.find? (fun e => mx_k 5 147 e.1 && e.2.1 == 5) = some (20627, 5, 595, 68, 0, false, 597, 596, 57, 598, 0, 0, 0, 0) := rfl
set_option maxRecDepth 20000 in
theorem iqV_20630 : tb_V.find? (fun e => mx_k 5 150 e.1) = some (20630, 5, 575, 64, 0, false, 577, 576, 57, 578, 0, 0, 0, 0) := rfl
set_option maxRecDepth 20000 in
theorem iqV_20630_5 : tb_V.find? (fun e => mx_k 5 150 e.1 && e.2.1 == 5) = some (20630, 5, 575, 64, 0, false, 577, 576, 57, 578, 0, 0, 0, 0) := rfl
set_option maxRecDepth 20000 in
theorem iqV_20633 : tb_V.find? (fun e => mx_k 5 153 e.1) = some (20633, 5, 579, 52, 1, false, 519, 518, 57, 520, 0, 0, 0, 0) := rfl
set_option maxRecDepth 20000 in
theorem iqV_20633_5 : tb_V.find? (fun e => mx_k 5 153 e.1 && e.2.1 == 5) = some (20633, 5, 579, 52, 1, false, 519, 518, 57, 520, 0, 0, 0, 0) := rfl
set_option maxRecDepth 20000 in
theorem iqV_20639 : tb_V.find? (fun e => mx_k 5 159 e.1) = some (20639, 1, 585, 39, 0, true, 449, 448, 51, 463, 450, 448, 463, 39) := rfl
set_option maxRecDepth 20000 in
theorem iqV_20639_1 : tb_V.find? (fun e => mx_k 5 159 e.1 && e.2.1 == 1) = some (20639, 1, 585, 39, 0, true, 449, 448, 51, 463, 450, 448, 463, 39) := rfl
set_option maxRecDepth 20000 in
theorem iqV_20639_2 : tb_V.find? (fun e => mx_k 5 159 e.1 && e.2.1 == 2) = some (20639, 2, 585, 36, 0, true, 451, 452, 54, 453, 450, 448, 463, 39) := rfl
set_option maxRecDepth 20000 in
theorem iqV_20639_3 : tb_V.find? (fun e => mx_k 5 159 e.1 && e.2.1 == 3) = some (20639, 3, 585, 38, 0, true, 457, 458, 55, 459, 450, 448, 463, 39) := rfl
set_option maxRecDepth 20000 in
theorem iqV_20639_4 : tb_V.find? (fun e => mx_k 5 159 e.1 && e.2.1 == 4) = some (20639, 4, 585, 37, 0, true, 460, 455, 52, 456, 450, 448, 463, 39) := rfl
set_option maxRecDepth 20000 in
theorem iqV_20639_7 : tb_V.find? (fun e => mx_k 5 159 e.1 && e.2.1 == 7) = some (20639, 7, 585, 39, 0, true, 461, 448, 51, 463, 450, 448, 463, 39) := rfl
set_option maxRecDepth 20000 in
theorem iqV_20639_9 : tb_V.find? (fun e => mx_k 5 159 e.1 && e.2.1 == 9) = some (20639, 9, 585, 39, 0, true, 462, 448, 51, 463, 450, 448, 463, 39) := rfl
set_option maxRecDepth 20000 in
theorem iqV_20642 : tb_V.find? (fun e => mx_k 5 162 e.1) = some (20642, 0, 586, 66, 1, false, 588, 587, 58, 589, 0, 0, 0, 0) := rfl
set_option maxRecDepth 20000 in
theorem iqV_20642_0 : tb_V.find? (fun e => mx_k 5 162 e.1 && e.2.1 == 0) = some (20642, 0, 586, 66, 1, false, 588, 587, 58, 589, 0, 0, 0, 0) := rfl
set_option maxRecDepth 20000 in
theorem iqV_20648 : tb_V.find? (fun e => mx_k 5 168 e.1) = some (20648, 5, 599, 69, 0, false, 601, 600, 57, 602, 0, 0, 0, 0) := rfl
set_option maxRecDepth 20000 in
theorem iqV_20648_5 : tb_V.find? (fun e => mx_k 5 168 e.1 && e.2.1 == 5) = some (20648, 5, 599, 69, 0, false, 601, 600, 57, 602, 0, 0, 0, 0) := rfl
set_option maxRecDepth 20000 in
theorem iqV_20651 : tb_V.find? (fun e => mx_k 5 171 e.1) = some (20651, 5, 603, 70, 0, false, 605, 604, 57, 606, 0, 0, 0, 0) := rfl
set_option maxRecDepth 20000 in
theorem iqV_20651_5 : tb_V.find? (fun e => mx_k 5 171 e.1 && e.2.1 == 5) = some (20651, 5, 603, 70, 0, false, 605, 604, 57, 606, 0, 0, 0, 0) := rfl
set_option maxRecDepth 20000 in
theorem iqV_20654 : tb_V.find? (fun e => mx_k 5 174 e.1) = some (20654, 0, 607, 71, 0, false, 609, 608, 58, 610, 0, 0, 0, 0) := rfl
set_option maxRecDepth 20000 in
theorem iqV_20654_0 : tb_V.find? (fun e => mx_k 5 174 e.1 && e.2.1 == 0) = some (20654, 0, 607, 71, 0, false, 609, 608, 58, 610, 0, 0, 0, 0) := rfl
set_option maxRecDepth 20000 in
theorem iqV_20660 : tb_V.find? (fun e => mx_k 5 180 e.1) = some (20660, 5, 647, 75, 0, false, 625, 624, 57, 626, 0, 0, 0, 0) := rfl
set_option maxRecDepth 20000 in
theorem iqV_20660_5 : tb_V.find? (fun e => mx_k 5 180 e.1 && e.2.1 == 5) = some (20660, 5, 647, 75, 0, false, 625, 624, 57, 626, 0, 0, 0, 0) := rfl
set_option maxRecDepth 20000 in
theorem iqV_20668 : tb_V.find? (fun e => mx_k 5 188 e.1) = some (20668, 6, 690, 91, 1, false, 692, 691, 61, 693, 0, 0, 0, 0) := rfl
set_option maxRecDepth 20000 in
theorem iqV_20668_6 : tb_V.find? (fun e => mx_k 5 188 e.1 && e.2.1 == 6) = some (20668, 6, 690, 91, 1, false, 692, 691, 61, 693, 0, 0, 0, 0) := rfl
set_option maxRecDepth 20000 in
theorem iqV_20671 : tb_V.find? (fun e => mx_k 5 191 e.1) = some (20671, 6, 699, 93, 1, false, 701, 700, 61, 702, 0, 0, 0, 0) := rfl
set_option maxRecDepth 20000 in
theorem iqV_20671_6 : tb_V.find? (fun e => mx_k 5 191 e.1 && e.2.1 == 6) = some (20671, 6, 699, 93, 1, false, 701, 700, 61, 702, 0, 0, 0, 0) := rfl
set_option maxRecDepth 20000 in
theorem iqV_24611 : tb_V.find? (fun e => mx_k 6 35 e.1) = some (24611, 6, 694, 92, 1, false, 696, 695, 61, 697, 0, 0, 0, 0) := rfl
set_option maxRecDepth 20000 in
theorem iqV_24611_6 : tb_V.find? (fun e => mx_k 6 35 e.1 && e.2.1 == 6) = some (24611, 6, 694, 92, 1, false, 696, 695, 61, 697, 0, 0, 0, 0) := rfl
set_option maxRecDepth 20000 in
theorem iqV_24618 : tb_V.find? (fun e => mx_k 6 42 e.1) = some (24618, 6, 1015, 158, 2, false, 1009, 1008, 61, 1010, 0, 0, 0, 0) := rfl
set_option maxRecDepth 20000 in
theorem iqV_24618_6 : tb_V.find? (fun e => mx_k 6 42 e.1 && e.2.1 == 6) = some (24618, 6, 1015, 158, 2, false, 1009, 1008, 61, 1010, 0, 0, 0, 0) := rfl
set_option maxRecDepth 20000 in
theorem iqV_32806 : tb_V.find? (fun e => mx_k 8 38 e.1) = some (32806, 8, 736, 101, 0, false, 738, 737, 50, 739, 0, 0, 0, 0) := rfl
set_option maxRecDepth 20000 in
theorem iqV_32806_8 : tb_V.find? (fun e => mx_k 8 38 e.1 && e.2.1 == 8) = some (32806, 8, 736, 101, 0, false, 738, 737, 50, 739, 0, 0, 0, 0) := rfl
set_option maxRecDepth 20000 in
theorem iqV_32809 : tb_V.find? (fun e => mx_k 8 41 e.1) = some (32809, 8, 747, 104, 0, false, 749, 748, 50, 750, 0, 0, 0, 0) := rfl
set_option maxRecDepth 20000 in
theorem iqV_32809_8 : tb_V.find? (fun e => mx_k 8 41 e.1 && e.2.1 == 8) = some (32809, 8, 747, 104, 0, false, 749, 748, 50, 750, 0, 0, 0, 0) := rfl
set_option maxRecDepth 20000 in
theorem iqV_32812 : tb_V.find? (fun e => mx_k 8 44 e.1) = some (32812, 8, 806, 117, 2, false, 0, 808, 50, 809, 0, 0, 0, 0) := rfl
set_option maxRecDepth 20000 in
theorem iqV_32812_8 : tb_V.find? (fun e => mx_k 8 44 e.1 && e.2.1 == 8) = some (32812, 8, 806, 117, 2, false, 0, 808, 50, 809, 0, 0, 0, 0) := rfl
set_option maxRecDepth 20000 in
theorem iqV_32833 : tb_V.find? (fun e => mx_k 8 65 e.1) = some (32833, 8, 740, 102, 1, false, 742, 741, 50, 743, 0, 0, 0, 0) := rfl
set_option maxRecDepth 20000 in
theorem iqV_32833_8 : tb_V.find? (fun e => mx_k 8 65 e.1 && e.2.1 == 8) = some (32833, 8, 740, 102, 1, false, 742, 741, 50, 743, 0, 0, 0, 0) := rfl
set_option maxRecDepth 20000 in
theorem iqV_32840 : tb_V.find? (fun e => mx_k 8 72 e.1) = some (32840, 13, 756, 106, 0, false, 758, 757, 65, 759, 0, 0, 0, 0) := rfl
set_option maxRecDepth 20000 in
theorem iqV_32840_13 : tb_V.find? (fun e => mx_k 8 72 e.1 && e.2.1 == 13) = some (32840, 13, 756, 106, 0, false, 758, 757, 65, 759, 0, 0, 0, 0) := rfl
set_option maxRecDepth 20000 in
theorem iqV_32845 : tb_V.find? (fun e => mx_k 8 77 e.1) = some (32845, 13, 766, 108, 1, false, 768, 767, 65, 769, 0, 0, 0, 0) := rfl
set_option maxRecDepth 20000 in
theorem iqV_32845_13 : tb_V.find? (fun e => mx_k 8 77 e.1 && e.2.1 == 13) = some (32845, 13, 766, 108, 1, false, 768, 767, 65, 769, 0, 0, 0, 0) := rfl
set_option maxRecDepth 20000 in
theorem iqV_32851 : tb_V.find? (fun e => mx_k 8 83 e.1) = some (32851, 8, 752, 105, 1, false, 754, 753, 50, 755, 0, 0, 0, 0) := rfl
set_option maxRecDepth 20000 in
theorem iqV_32851_8 : tb_V.find? (fun e => mx_k 8 83 e.1 && e.2.1 == 8) = some (32851, 8, 752, 105, 1, false, 754, 753, 50, 755, 0, 0, 0, 0) := rfl
set_option maxRecDepth 20000 in
theorem iqV_32859 : tb_V.find? (fun e => mx_k 8 91 e.1) = some (32859, 8, 810, 118, 2, false, 1, 812, 50, 813, 0, 0, 0, 0) := rfl
set_option maxRecDepth 20000 in
theorem iqV_32859_8 : tb_V.find? (fun e => mx_k 8 91 e.1 && e.2.1 == 8) = some (32859, 8, 810, 118, 2, false, 1, 812, 50, 813, 0, 0, 0, 0) := rfl
set_option maxRecDepth 20000 in
theorem iqV_32862 : tb_V.find? (fun e => mx_k 8 94 e.1) = some (32862, 8, 904, 142, 1, false, 906, 905, 50, 907, 0, 0, 0, 0) := rfl
set_option maxRecDepth 20000 in
theorem iqV_32862_8 : tb_V.find? (fun e => mx_k 8 94 e.1 && e.2.1 == 8) = some (32862, 8, 904, 142, 1, false, 906, 905, 50, 907, 0, 0, 0, 0) := rfl
set_option maxRecDepth 20000 in
theorem iqV_32866 : tb_V.find? (fun e => mx_k 8 98 e.1) = some (32866, 8, 838, 125, 1, false, 840, 839, 50, 841, 0, 0, 0, 0) := rfl
set_option maxRecDepth 20000 in
theorem iqV_32866_8 : tb_V.find? (fun e => mx_k 8 98 e.1 && e.2.1 == 8) = some (32866, 8, 838, 125, 1, false, 840, 839, 50, 841, 0, 0, 0, 0) := rfl
set_option maxRecDepth 20000 in
theorem iqV_32870 : tb_V.find? (fun e => mx_k 8 102 e.1) = some (32870, 8, 814, 119, 2, false, 2, 816, 50, 817, 0, 0, 0, 0) := rfl
set_option maxRecDepth 20000 in
theorem iqV_32870_8 : tb_V.find? (fun e => mx_k 8 102 e.1 && e.2.1 == 8) = some (32870, 8, 814, 119, 2, false, 2, 816, 50, 817, 0, 0, 0, 0) := rfl
set_option maxRecDepth 20000 in
theorem iqV_32873 : tb_V.find? (fun e => mx_k 8 105 e.1) = some (32873, 8, 818, 120, 2, false, 3, 820, 50, 821, 0, 0, 0, 0) := rfl
set_option maxRecDepth 20000 in
theorem iqV_32873_8 : tb_V.find? (fun e => mx_k 8 105 e.1 && e.2.1 == 8) = some (32873, 8, 818, 120, 2, false, 3, 820, 50, 821, 0, 0, 0, 0) := rfl
set_option maxRecDepth 20000 in
theorem iqV_32876 : tb_V.find? (fun e => mx_k 8 108 e.1) = some (32876, 8, 822, 121, 2, false, 4, 824, 50, 825, 0, 0, 0, 0) := rfl
set_option maxRecDepth 20000 in
theorem iqV_32876_8 : tb_V.find? (fun e => mx_k 8 108 e.1 && e.2.1 == 8) = some (32876, 8, 822, 121, 2, false, 4, 824, 50, 825, 0, 0, 0, 0) := rfl
set_option maxRecDepth 20000 in
theorem iqV_32879 : tb_V.find? (fun e => mx_k 8 111 e.1) = some (32879, 8, 826, 122, 2, false, 5, 828, 50, 829, 0, 0, 0, 0) := rfl
set_option maxRecDepth 20000 in
theorem iqV_32879_8 : tb_V.find? (fun e => mx_k 8 111 e.1 && e.2.1 == 8) = some (32879, 8, 826, 122, 2, false, 5, 828, 50, 829, 0, 0, 0, 0) := rfl
set_option maxRecDepth 20000 in
theorem iqV_32882 : tb_V.find? (fun e => mx_k 8 114 e.1) = some (32882, 8, 830, 123, 0, false, 832, 831, 50, 833, 0, 0, 0, 0) := rfl
set_option maxRecDepth 20000 in
theorem iqV_32882_8 : tb_V.find? (fun e => mx_k 8 114 e.1 && e.2.1 == 8) = some (32882, 8, 830, 123, 0, false, 832, 831, 50, 833, 0, 0, 0, 0) := rfl
set_option maxRecDepth 20000 in
theorem iqV_32885 : tb_V.find? (fun e => mx_k 8 117 e.1) = some (32885, 8, 834, 124, 1, false, 836, 835, 50, 837, 0, 0, 0, 0) := rfl
set_option maxRecDepth 20000 in
theorem iqV_32885_8 : tb_V.find? (fun e => mx_k 8 117 e.1 && e.2.1 == 8) = some (32885, 8, 834, 124, 1, false, 836, 835, 50, 837, 0, 0, 0, 0) := rfl
set_option maxRecDepth 20000 in
theorem iqV_32888 : tb_V.find? (fun e => mx_k 8 120 e.1) = some (32888, 8, 842, 126, 0, false, 844, 843, 50, 845, 0, 0, 0, 0) := rfl
set_option maxRecDepth 20000 in
theorem iqV_32888_8 : tb_V.find? (fun e => mx_k 8 120 e.1 && e.2.1 == 8) = some (32888, 8, 842, 126, 0, false, 844, 843, 50, 845, 0, 0, 0, 0) := rfl
set_option maxRecDepth 20000 in
theorem iqV_32891 : tb_V.find? (fun e => mx_k 8 123 e.1) = some (32891, 8, 908, 143, 0, false, 910, 909, 50, 911, 0, 0, 0, 0) := rfl
set_option maxRecDepth 20000 in
theorem iqV_32891_8 : tb_V.find? (fun e => mx_k 8 123 e.1 && e.2.1 == 8) = some (32891, 8, 908, 143, 0, false, 910, 909, 50, 911, 0, 0, 0, 0) := rfl
set_option maxRecDepth 20000 in
theorem iqV_32900 : tb_V.find? (fun e => mx_k 8 132 e.1) = some (32900, 13, 849, 127, 1, false, 851, 850, 65, 852, 0, 0, 0, 0) := rfl
set_option maxRecDepth 20000 in
theorem iqV_32900_13 : tb_V.find? (fun e => mx_k 8 132 e.1 && e.2.1 == 13) = some (32900, 13, 849, 127, 1, false, 851, 850, 65, 852, 0, 0, 0, 0) := rfl
set_option maxRecDepth 20000 in
theorem iqV_81933 : tb_V.find? (fun e => mx_k 20 13 e.1) = some (81933, 11, 352, 13, 3, false, 354, 353, 49, 355, 0, 0, 0, 0) := rfl
set_option maxRecDepth 20000 in
theorem iqV_81933_11 : tb_V.find? (fun e => mx_k 20 13 e.1 && e.2.1 == 11) = some (81933, 11, 352, 13, 3, false, 354, 353, 49, 355, 0, 0, 0, 0) := rfl
set_option maxRecDepth 20000 in
theorem iqV_81937 : tb_V.find? (fun e => mx_k 20 17 e.1) = some (81937, 12, 1166, 173, 3, false, 1168, 1167, 62, 1169, 0, 0, 0, 0) := rfl
set_option maxRecDepth 20000 in
theorem iqV_81937_12 : tb_V.find? (fun e => mx_k 20 17 e.1 && e.2.1 == 12) = some (81937, 12, 1166, 173, 3, false, 1168, 1167, 62, 1169, 0, 0, 0, 0) := rfl
set_option maxRecDepth 20000 in
theorem iqV_81938 : tb_V.find? (fun e => mx_k 20 18 e.1) = some (81938, 11, 375, 19, 2, false, 377, 376, 49, 378, 0, 0, 0, 0) := rfl
set_option maxRecDepth 20000 in
theorem iqV_81938_11 : tb_V.find? (fun e => mx_k 20 18 e.1 && e.2.1 == 11) = some (81938, 11, 375, 19, 2, false, 377, 376, 49, 378, 0, 0, 0, 0) := rfl
set_option maxRecDepth 20000 in
theorem iqV_81942 : tb_V.find? (fun e => mx_k 20 22 e.1) = some (81942, 12, 1186, 177, 2, false, 1188, 1187, 62, 1189, 0, 0, 0, 0) := rfl
set_option maxRecDepth 20000 in
theorem iqV_81942_12 : tb_V.find? (fun e => mx_k 20 22 e.1 && e.2.1 == 12) = some (81942, 12, 1186, 177, 2, false, 1188, 1187, 62, 1189, 0, 0, 0, 0) := rfl
set_option maxRecDepth 20000 in
theorem iqV_81943 : tb_V.find? (fun e => mx_k 20 23 e.1) = some (81943, 11, 486, 46, 2, false, 488, 487, 49, 489, 0, 0, 0, 0) := rfl
set_option maxRecDepth 20000 in
theorem iqV_81943_11 : tb_V.find? (fun e => mx_k 20 23 e.1 && e.2.1 == 11) = some (81943, 11, 486, 46, 2, false, 488, 487, 49, 489, 0, 0, 0, 0) := rfl
set_option maxRecDepth 20000 in
theorem iqV_81946 : tb_V.find? (fun e => mx_k 20 26 e.1) = some (81946, 12, 1232, 189, 2, false, 1234, 1233, 62, 1235, 0, 0, 0, 0) := rfl
set_option maxRecDepth 20000 in
theorem iqV_81946_12 : tb_V.find? (fun e => mx_k 20 26 e.1 && e.2.1 == 12) = some (81946, 12, 1232, 189, 2, false, 1234, 1233, 62, 1235, 0, 0, 0, 0) := rfl
set_option maxRecDepth 20000 in
theorem iqV_81947 : tb_V.find? (fun e => mx_k 20 27 e.1) = some (81947, 11, 501, 48, 2, false, 503, 502, 49, 504, 0, 0, 0, 0) := rfl
set_option maxRecDepth 20000 in
theorem iqV_81947_11 : tb_V.find? (fun e => mx_k 20 27 e.1 && e.2.1 == 11) = some (81947, 11, 501, 48, 2, false, 503, 502, 49, 504, 0, 0, 0, 0) := rfl
set_option maxRecDepth 20000 in
theorem iqV_81950 : tb_V.find? (fun e => mx_k 20 30 e.1) = some (81950, 12, 1240, 191, 2, false, 1242, 1241, 62, 1243, 0, 0, 0, 0) := rfl
set_option maxRecDepth 20000 in
theorem iqV_81950_12 : tb_V.find? (fun e => mx_k 20 30 e.1 && e.2.1 == 12) = some (81950, 12, 1240, 191, 2, false, 1242, 1241, 62, 1243, 0, 0, 0, 0) := rfl
set_option maxRecDepth 20000 in
theorem iqV_81951 : tb_V.find? (fun e => mx_k 20 31 e.1) = some (81951, 11, 505, 49, 3, false, 507, 506, 49, 508, 0, 0, 0, 0) := rfl
set_option maxRecDepth 20000 in
theorem iqV_81951_11 : tb_V.find? (fun e => mx_k 20 31 e.1 && e.2.1 == 11) = some (81951, 11, 505, 49, 3, false, 507, 506, 49, 508, 0, 0, 0, 0) := rfl
set_option maxRecDepth 20000 in
theorem iqV_81954 : tb_V.find? (fun e => mx_k 20 34 e.1) = some (81954, 12, 1248, 193, 3, false, 1250, 1249, 62, 1251, 0, 0, 0, 0) := rfl
set_option maxRecDepth 20000 in
theorem iqV_81954_12 : tb_V.find? (fun e => mx_k 20 34 e.1 && e.2.1 == 12) = some (81954, 12, 1248, 193, 3, false, 1250, 1249, 62, 1251, 0, 0, 0, 0) := rfl
set_option maxRecDepth 20000 in
theorem iqV_81955 : tb_V.find? (fun e => mx_k 20 35 e.1) = some (81955, 11, 509, 50, 2, false, 511, 510, 49, 512, 0, 0, 0, 0) := rfl
set_option maxRecDepth 20000 in
theorem iqV_81955_11 : tb_V.find? (fun e => mx_k 20 35 e.1 && e.2.1 == 11) = some (81955, 11, 509, 50, 2, false, 511, 510, 49, 512, 0, 0, 0, 0) := rfl
set_option maxRecDepth 20000 in
theorem iqV_81958 : tb_V.find? (fun e => mx_k 20 38 e.1) = some (81958, 12, 1253, 194, 2, false, 1255, 1254, 62, 1256, 0, 0, 0, 0) := rfl
set_option maxRecDepth 20000 in
theorem iqV_81958_12 : tb_V.find? (fun e => mx_k 20 38 e.1 && e.2.1 == 12) = some (81958, 12, 1253, 194, 2, false, 1255, 1254, 62, 1256, 0, 0, 0, 0) := rfl
set_option maxRecDepth 20000 in
theorem iqV_81959 : tb_V.find? (fun e => mx_k 20 39 e.1) = some (81959, 11, 513, 51, 1, false, 515, 514, 49, 516, 0, 0, 0, 0) := rfl
set_option maxRecDepth 20000 in
theorem iqV_81959_11 : tb_V.find? (fun e => mx_k 20 39 e.1 && e.2.1 == 11) = some (81959, 11, 513, 51, 1, false, 515, 514, 49, 516, 0, 0, 0, 0) := rfl
set_option maxRecDepth 20000 in
theorem iqV_81963 : tb_V.find? (fun e => mx_k 20 43 e.1) = some (81963, 12, 1257, 195, 1, false, 1259, 1258, 62, 1260, 0, 0, 0, 0) := rfl
set_option maxRecDepth 20000 in
theorem iqV_81963_12 : tb_V.find? (fun e => mx_k 20 43 e.1 && e.2.1 == 12) = some (81963, 12, 1257, 195, 1, false, 1259, 1258, 62, 1260, 0, 0, 0, 0) := rfl
set_option maxRecDepth 20000 in
theorem iqV_81964 : tb_V.find? (fun e => mx_k 20 44 e.1) = some (81964, 11, 521, 53, 2, false, 523, 522, 49, 524, 0, 0, 0, 0) := rfl
set_option maxRecDepth 20000 in
theorem iqV_81964_11 : tb_V.find? (fun e => mx_k 20 44 e.1 && e.2.1 == 11) = some (81964, 11, 521, 53, 2, false, 523, 522, 49, 524, 0, 0, 0, 0) := rfl
set_option maxRecDepth 20000 in
theorem iqV_81967 : tb_V.find? (fun e => mx_k 20 47 e.1) = some (81967, 12, 1265, 197, 2, false, 1267, 1266, 62, 1268, 0, 0, 0, 0) := rfl
set_option maxRecDepth 20000 in
theorem iqV_81967_12 : tb_V.find? (fun e => mx_k 20 47 e.1 && e.2.1 == 12) = some (81967, 12, 1265, 197, 2, false, 1267, 1266, 62, 1268, 0, 0, 0, 0) := rfl
set_option maxRecDepth 20000 in
theorem iqV_81968 : tb_V.find? (fun e => mx_k 20 48 e.1) = some (81968, 11, 529, 54, 1, false, 531, 530, 49, 532, 0, 0, 0, 0) := rfl
set_option maxRecDepth 20000 in
theorem iqV_81968_11 : tb_V.find? (fun e => mx_k 20 48 e.1 && e.2.1 == 11) = some (81968, 11, 529, 54, 1, false, 531, 530, 49, 532, 0, 0, 0, 0) := rfl
set_option maxRecDepth 20000 in
theorem iqV_81971 : tb_V.find? (fun e => mx_k 20 51 e.1) = some (81971, 12, 1273, 199, 1, false, 1275, 1274, 62, 1276, 0, 0, 0, 0) := rfl
set_option maxRecDepth 20000 in
theorem iqV_81971_12 : tb_V.find? (fun e => mx_k 20 51 e.1 && e.2.1 == 12) = some (81971, 12, 1273, 199, 1, false, 1275, 1274, 62, 1276, 0, 0, 0, 0) := rfl
set_option maxRecDepth 20000 in
theorem iqV_81972 : tb_V.find? (fun e => mx_k 20 52 e.1) = some (81972, 11, 538, 56, 1, false, 540, 539, 49, 541, 0, 0, 0, 0) := rfl
set_option maxRecDepth 20000 in
theorem iqV_81972_11 : tb_V.find? (fun e => mx_k 20 52 e.1 && e.2.1 == 11) = some (81972, 11, 538, 56, 1, false, 540, 539, 49, 541, 0, 0, 0, 0) := rfl
set_option maxRecDepth 20000 in
theorem iqV_81975 : tb_V.find? (fun e => mx_k 20 55 e.1) = some (81975, 12, 1283, 201, 1, false, 1285, 1284, 62, 1286, 0, 0, 0, 0) := rfl
set_option maxRecDepth 20000 in
theorem iqV_81975_12 : tb_V.find? (fun e => mx_k 20 55 e.1 && e.2.1 == 12) = some (81975, 12, 1283, 201, 1, false, 1285, 1284, 62, 1286, 0, 0, 0, 0) := rfl
set_option maxRecDepth 20000 in
theorem iqV_81976 : tb_V.find? (fun e => mx_k 20 56 e.1) = some (81976, 11, 542, 57, 0, false, 544, 543, 49, 545, 0, 0, 0, 0) := rfl
set_option maxRecDepth 20000 in
theorem iqV_81976_11 : tb_V.find? (fun e => mx_k 20 56 e.1 && e.2.1 == 11) = some (81976, 11, 542, 57, 0, false, 544, 543, 49, 545, 0, 0, 0, 0) := rfl
set_option maxRecDepth 20000 in
theorem iqV_81980 : tb_V.find? (fun e => mx_k 20 60 e.1) = some (81980, 12, 1287, 202, 0, false, 1289, 1288, 62, 1290, 0, 0, 0, 0) := rfl
set_option maxRecDepth 20000 in
theorem iqV_81980_12 : tb_V.find? (fun e => mx_k 20 60 e.1 && e.2.1 == 12) = some (81980, 12, 1287, 202, 0, false, 1289, 1288, 62, 1290, 0, 0, 0, 0) := rfl
set_option maxRecDepth 20000 in
theorem iqV_81981 : tb_V.find? (fun e => mx_k 20 61 e.1) = some (81981, 11, 554, 59, 1, false, 556, 555, 49, 557, 0, 0, 0, 0) := rfl
set_option maxRecDepth 20000 in
theorem iqV_81981_11 : tb_V.find? (fun e => mx_k 20 61 e.1 && e.2.1 == 11) = some (81981, 11, 554, 59, 1, false, 556, 555, 49, 557, 0, 0, 0, 0) := rfl
set_option maxRecDepth 20000 in
theorem iqV_81984 : tb_V.find? (fun e => mx_k 20 64 e.1) = some (81984, 12, 1294, 204, 1, false, 1296, 1295, 62, 1297, 0, 0, 0, 0) := rfl
set_option maxRecDepth 20000 in
theorem iqV_81984_12 : tb_V.find? (fun e => mx_k 20 64 e.1 && e.2.1 == 12) = some (81984, 12, 1294, 204, 1, false, 1296, 1295, 62, 1297, 0, 0, 0, 0) := rfl
set_option maxRecDepth 20000 in
theorem iqV_81985 : tb_V.find? (fun e => mx_k 20 65 e.1) = some (81985, 11, 611, 72, 1, false, 613, 612, 49, 614, 0, 0, 0, 0) := rfl
set_option maxRecDepth 20000 in
theorem iqV_81985_11 : tb_V.find? (fun e => mx_k 20 65 e.1 && e.2.1 == 11) = some (81985, 11, 611, 72, 1, false, 613, 612, 49, 614, 0, 0, 0, 0) := rfl
set_option maxRecDepth 20000 in
theorem iqV_81988 : tb_V.find? (fun e => mx_k 20 68 e.1) = some (81988, 12, 1324, 211, 1, false, 1326, 1325, 62, 1327, 0, 0, 0, 0) := rfl
set_option maxRecDepth 20000 in
theorem iqV_81988_12 : tb_V.find? (fun e => mx_k 20 68 e.1 && e.2.1 == 12) = some (81988, 12, 1324, 211, 1, false, 1326, 1325, 62, 1327, 0, 0, 0, 0) := rfl
set_option maxRecDepth 20000 in
theorem iqV_81989 : tb_V.find? (fun e => mx_k 20 69 e.1) = some (81989, 11, 627, 76, 2, false, 629, 628, 49, 630, 0, 0, 0, 0) := rfl
set_option maxRecDepth 20000 in
theorem iqV_81989_11 : tb_V.find? (fun e => mx_k 20 69 e.1 && e.2.1 == 11) = some (81989, 11, 627, 76, 2, false, 629, 628, 49, 630, 0, 0, 0, 0) := rfl
set_option maxRecDepth 20000 in
theorem iqV_81992 : tb_V.find? (fun e => mx_k 20 72 e.1) = some (81992, 12, 1336, 214, 2, false, 1338, 1337, 62, 1339, 0, 0, 0, 0) := rfl
set_option maxRecDepth 20000 in
theorem iqV_81992_12 : tb_V.find? (fun e => mx_k 20 72 e.1 && e.2.1 == 12) = some (81992, 12, 1336, 214, 2, false, 1338, 1337, 62, 1339, 0, 0, 0, 0) := rfl
set_option maxRecDepth 20000 in
theorem iqV_81993 : tb_V.find? (fun e => mx_k 20 73 e.1) = some (81993, 11, 639, 79, 0, false, 641, 640, 49, 642, 0, 0, 0, 0) := rfl
set_option maxRecDepth 20000 in
theorem iqV_81993_11 : tb_V.find? (fun e => mx_k 20 73 e.1 && e.2.1 == 11) = some (81993, 11, 639, 79, 0, false, 641, 640, 49, 642, 0, 0, 0, 0) := rfl
set_option maxRecDepth 20000 in
theorem iqV_81996 : tb_V.find? (fun e => mx_k 20 76 e.1) = some (81996, 12, 1352, 218, 0, false, 1354, 1353, 62, 1355, 0, 0, 0, 0) := rfl
set_option maxRecDepth 20000 in
theorem iqV_81996_12 : tb_V.find? (fun e => mx_k 20 76 e.1 && e.2.1 == 12) = some (81996, 12, 1352, 218, 0, false, 1354, 1353, 62, 1355, 0, 0, 0, 0) := rfl
set_option maxRecDepth 20000 in
theorem iqV_81997 : tb_V.find? (fun e => mx_k 20 77 e.1) = some (81997, 11, 650, 81, 2, false, 652, 651, 49, 653, 0, 0, 0, 0) := rfl
set_option maxRecDepth 20000 in
theorem iqV_81997_11 : tb_V.find? (fun e => mx_k 20 77 e.1 && e.2.1 == 11) = some (81997, 11, 650, 81, 2, false, 652, 651, 49, 653, 0, 0, 0, 0) := rfl
set_option maxRecDepth 20000 in
theorem iqV_82000 : tb_V.find? (fun e => mx_k 20 80 e.1) = some (82000, 12, 1360, 220, 2, false, 1362, 1361, 62, 1363, 0, 0, 0, 0) := rfl
set_option maxRecDepth 20000 in
theorem iqV_82000_12 : tb_V.find? (fun e => mx_k 20 80 e.1 && e.2.1 == 12) = some (82000, 12, 1360, 220, 2, false, 1362, 1361, 62, 1363, 0, 0, 0, 0) := rfl
set_option maxRecDepth 20000 in
theorem iqV_82001 : tb_V.find? (fun e => mx_k 20 81 e.1) = some (82001, 11, 657, 83, 2, false, 659, 658, 49, 660, 0, 0, 0, 0) := rfl
set_option maxRecDepth 20000 in
theorem iqV_82001_11 : tb_V.find? (fun e => mx_k 20 81 e.1 && e.2.1 == 11) = some (82001, 11, 657, 83, 2, false, 659, 658, 49, 660, 0, 0, 0, 0) := rfl
set_option maxRecDepth 20000 in
theorem iqV_82004 : tb_V.find? (fun e => mx_k 20 84 e.1) = some (82004, 12, 1365, 221, 2, false, 1367, 1366, 62, 1368, 0, 0, 0, 0) := rfl
set_option maxRecDepth 20000 in
theorem iqV_82004_12 : tb_V.find? (fun e => mx_k 20 84 e.1 && e.2.1 == 12) = some (82004, 12, 1365, 221, 2, false, 1367, 1366, 62, 1368, 0, 0, 0, 0) := rfl
set_option maxRecDepth 20000 in
theorem iqV_82005 : tb_V.find? (fun e => mx_k 20 85 e.1) = some (82005, 11, 662, 84, 1, false, 664, 663, 49, 665, 0, 0, 0, 0) := rfl
set_option maxRecDepth 20000 in
theorem iqV_82005_11 : tb_V.find? (fun e => mx_k 20 85 e.1 && e.2.1 == 11) = some (82005, 11, 662, 84, 1, false, 664, 663, 49, 665, 0, 0, 0, 0) := rfl
set_option maxRecDepth 20000 in
theorem iqV_82008 : tb_V.find? (fun e => mx_k 20 88 e.1) = some (82008, 12, 1370, 222, 1, false, 1372, 1371, 62, 1373, 0, 0, 0, 0) := rfl
set_option maxRecDepth 20000 in
theorem iqV_82008_12 : tb_V.find? (fun e => mx_k 20 88 e.1 && e.2.1 == 12) = some (82008, 12, 1370, 222, 1, false, 1372, 1371, 62, 1373, 0, 0, 0, 0) := rfl
set_option maxRecDepth 20000 in
theorem iqV_82009 : tb_V.find? (fun e => mx_k 20 89 e.1) = some (82009, 11, 670, 86, 2, false, 672, 671, 49, 673, 0, 0, 0, 0) := rfl
set_option maxRecDepth 20000 in
theorem iqV_82009_11 : tb_V.find? (fun e => mx_k 20 89 e.1 && e.2.1 == 11) = some (82009, 11, 670, 86, 2, false, 672, 671, 49, 673, 0, 0, 0, 0) := rfl
set_option maxRecDepth 20000 in
theorem iqV_82012 : tb_V.find? (fun e => mx_k 20 92 e.1) = some (82012, 12, 1374, 223, 2, false, 1376, 1375, 62, 1377, 0, 0, 0, 0) := rfl
set_option maxRecDepth 20000 in
theorem iqV_82012_12 : tb_V.find? (fun e => mx_k 20 92 e.1 && e.2.1 == 12) = some (82012, 12, 1374, 223, 2, false, 1376, 1375, 62, 1377, 0, 0, 0, 0) := rfl
set_option maxRecDepth 20000 in
theorem iqV_82013 : tb_V.find? (fun e => mx_k 20 93 e.1) = some (82013, 11, 674, 87, 3, false, 676, 675, 49, 677, 0, 0, 0, 0) := rfl
set_option maxRecDepth 20000 in
theorem iqV_82013_11 : tb_V.find? (fun e => mx_k 20 93 e.1 && e.2.1 == 11) = some (82013, 11, 674, 87, 3, false, 676, 675, 49, 677, 0, 0, 0, 0) := rfl
set_option maxRecDepth 20000 in
theorem iqV_82016 : tb_V.find? (fun e => mx_k 20 96 e.1) = some (82016, 12, 1499, 252, 3, false, 1501, 1500, 62, 1502, 0, 0, 0, 0) := rfl
set_option maxRecDepth 20000 in
theorem iqV_82016_12 : tb_V.find? (fun e => mx_k 20 96 e.1 && e.2.1 == 12) = some (82016, 12, 1499, 252, 3, false, 1501, 1500, 62, 1502, 0, 0, 0, 0) := rfl
set_option maxRecDepth 20000 in
theorem iqV_82017 : tb_V.find? (fun e => mx_k 20 97 e.1) = some (82017, 11, 706, 94, 0, false, 708, 707, 49, 709, 0, 0, 0, 0) := rfl
set_option maxRecDepth 20000 in
theorem iqV_82017_11 : tb_V.find? (fun e => mx_k 20 97 e.1 && e.2.1 == 11) = some (82017, 11, 706, 94, 0, false, 708, 707, 49, 709, 0, 0, 0, 0) := rfl
set_option maxRecDepth 20000 in
theorem iqV_82020 : tb_V.find? (fun e => mx_k 20 100 e.1) = some (82020, 12, 1378, 224, 0, false, 1380, 1379, 62, 1381, 0, 0, 0, 0) := rfl
set_option maxRecDepth 20000 in
theorem iqV_82020_12 : tb_V.find? (fun e => mx_k 20 100 e.1 && e.2.1 == 12) = some (82020, 12, 1378, 224, 0, false, 1380, 1379, 62, 1381, 0, 0, 0, 0) := rfl
set_option maxRecDepth 20000 in
theorem iqV_82021 : tb_V.find? (fun e => mx_k 20 101 e.1) = some (82021, 11, 712, 95, 1, false, 714, 713, 49, 715, 0, 0, 0, 0) := rfl
set_option maxRecDepth 20000 in
theorem iqV_82021_11 : tb_V.find? (fun e => mx_k 20 101 e.1 && e.2.1 == 11) = some (82021, 11, 712, 95, 1, false, 714, 713, 49, 715, 0, 0, 0, 0) := rfl
set_option maxRecDepth 20000 in
theorem iqV_82024 : tb_V.find? (fun e => mx_k 20 104 e.1) = some (82024, 12, 1382, 225, 1, false, 1384, 1383, 62, 1385, 0, 0, 0, 0) := rfl
set_option maxRecDepth 20000 in
theorem iqV_82024_12 : tb_V.find? (fun e => mx_k 20 104 e.1 && e.2.1 == 12) = some (82024, 12, 1382, 225, 1, false, 1384, 1383, 62, 1385, 0, 0, 0, 0) := rfl
set_option maxRecDepth 20000 in
theorem iqV_82025 : tb_V.find? (fun e => mx_k 20 105 e.1) = some (82025, 11, 716, 96, 3, false, 718, 717, 49, 719, 0, 0, 0, 0) := rfl
set_option maxRecDepth 20000 in
theorem iqV_82025_11 : tb_V.find? (fun e => mx_k 20 105 e.1 && e.2.1 == 11) = some (82025, 11, 716, 96, 3, false, 718, 717, 49, 719, 0, 0, 0, 0) := rfl
set_option maxRecDepth 20000 in
theorem iqV_82028 : tb_V.find? (fun e => mx_k 20 108 e.1) = some (82028, 12, 1386, 226, 3, false, 1388, 1387, 62, 1389, 0, 0, 0, 0) := rfl
set_option maxRecDepth 20000 in
theorem iqV_82028_12 : tb_V.find? (fun e => mx_k 20 108 e.1 && e.2.1 == 12) = some (82028, 12, 1386, 226, 3, false, 1388, 1387, 62, 1389, 0, 0, 0, 0) := rfl
set_option maxRecDepth 20000 in
theorem iqV_82029 : tb_V.find? (fun e => mx_k 20 109 e.1) = some (82029, 11, 724, 98, 1, false, 726, 725, 49, 727, 0, 0, 0, 0) := rfl
set_option maxRecDepth 20000 in
theorem iqV_82029_11 : tb_V.find? (fun e => mx_k 20 109 e.1 && e.2.1 == 11) = some (82029, 11, 724, 98, 1, false, 726, 725, 49, 727, 0, 0, 0, 0) := rfl
set_option maxRecDepth 20000 in
theorem iqV_82032 : tb_V.find? (fun e => mx_k 20 112 e.1) = some (82032, 12, 1390, 227, 1, false, 1392, 1391, 62, 1393, 0, 0, 0, 0) := rfl
set_option maxRecDepth 20000 in
theorem iqV_82032_12 : tb_V.find? (fun e => mx_k 20 112 e.1 && e.2.1 == 12) = some (82032, 12, 1390, 227, 1, false, 1392, 1391, 62, 1393, 0, 0, 0, 0) := rfl
set_option maxRecDepth 20000 in
theorem iqV_82033 : tb_V.find? (fun e => mx_k 20 113 e.1) = some (82033, 11, 728, 99, 0, false, 730, 729, 49, 731, 0, 0, 0, 0) := rfl
set_option maxRecDepth 20000 in
theorem iqV_82033_11 : tb_V.find? (fun e => mx_k 20 113 e.1 && e.2.1 == 11) = some (82033, 11, 728, 99, 0, false, 730, 729, 49, 731, 0, 0, 0, 0) := rfl
set_option maxRecDepth 20000 in
theorem iqV_82036 : tb_V.find? (fun e => mx_k 20 116 e.1) = some (82036, 12, 1394, 228, 0, false, 1396, 1395, 62, 1397, 0, 0, 0, 0) := rfl
set_option maxRecDepth 20000 in
theorem iqV_82036_12 : tb_V.find? (fun e => mx_k 20 116 e.1 && e.2.1 == 12) = some (82036, 12, 1394, 228, 0, false, 1396, 1395, 62, 1397, 0, 0, 0, 0) := rfl
set_option maxRecDepth 20000 in
theorem iqV_82037 : tb_V.find? (fun e => mx_k 20 117 e.1) = some (82037, 11, 955, 148, 2, false, 957, 956, 49, 958, 0, 0, 0, 0) := rfl
set_option maxRecDepth 20000 in
theorem iqV_82037_11 : tb_V.find? (fun e => mx_k 20 117 e.1 && e.2.1 == 11) = some (82037, 11, 955, 148, 2, false, 957, 956, 49, 958, 0, 0, 0, 0) := rfl
set_option maxRecDepth 20000 in
theorem iqV_82040 : tb_V.find? (fun e => mx_k 20 120 e.1) = some (82040, 12, 1461, 244, 2, false, 1463, 1462, 62, 1464, 0, 0, 0, 0) := rfl
set_option maxRecDepth 20000 in
theorem iqV_82040_12 : tb_V.find? (fun e => mx_k 20 120 e.1 && e.2.1 == 12) = some (82040, 12, 1461, 244, 2, false, 1463, 1462, 62, 1464, 0, 0, 0, 0) := rfl
set_option maxRecDepth 20000 in
theorem iqV_82041 : tb_V.find? (fun e => mx_k 20 121 e.1) = some (82041, 11, 959, 149, 1, false, 961, 960, 49, 962, 0, 0, 0, 0) := rfl
set_option maxRecDepth 20000 in
theorem iqV_82041_11 : tb_V.find? (fun e => mx_k 20 121 e.1 && e.2.1 == 11) = some (82041, 11, 959, 149, 1, false, 961, 960, 49, 962, 0, 0, 0, 0) := rfl
set_option maxRecDepth 20000 in
theorem iqV_82044 : tb_V.find? (fun e => mx_k 20 124 e.1) = some (82044, 12, 1469, 246, 1, false, 1471, 1470, 62, 1472, 0, 0, 0, 0) := rfl
set_option maxRecDepth 20000 in
theorem iqV_82044_12 : tb_V.find? (fun e => mx_k 20 124 e.1 && e.2.1 == 12) = some (82044, 12, 1469, 246, 1, false, 1471, 1470, 62, 1472, 0, 0, 0, 0) := rfl
set_option maxRecDepth 20000 in
theorem iqV_82045 : tb_V.find? (fun e => mx_k 20 125 e.1) = some (82045, 11, 963, 150, 3, false, 965, 964, 49, 966, 0, 0, 0, 0) := rfl
set_option maxRecDepth 20000 in
theorem iqV_82045_11 : tb_V.find? (fun e => mx_k 20 125 e.1 && e.2.1 == 11) = some (82045, 11, 963, 150, 3, false, 965, 964, 49, 966, 0, 0, 0, 0) := rfl
set_option maxRecDepth 20000 in
theorem iqV_82048 : tb_V.find? (fun e => mx_k 20 128 e.1) = some (82048, 12, 1474, 247, 3, false, 1476, 1475, 62, 1477, 0, 0, 0, 0) := rfl
set_option maxRecDepth 20000 in
theorem iqV_82048_12 : tb_V.find? (fun e => mx_k 20 128 e.1 && e.2.1 == 12) = some (82048, 12, 1474, 247, 3, false, 1476, 1475, 62, 1477, 0, 0, 0, 0) := rfl
set_option maxRecDepth 20000 in
theorem iqV_82049 : tb_V.find? (fun e => mx_k 20 129 e.1) = some (82049, 11, 978, 153, 3, false, 980, 979, 49, 981, 0, 0, 0, 0) := rfl
set_option maxRecDepth 20000 in
theorem iqV_82049_11 : tb_V.find? (fun e => mx_k 20 129 e.1 && e.2.1 == 11) = some (82049, 11, 978, 153, 3, false, 980, 979, 49, 981, 0, 0, 0, 0) := rfl
set_option maxRecDepth 20000 in
theorem iqV_82052 : tb_V.find? (fun e => mx_k 20 132 e.1) = some (82052, 12, 1483, 249, 3, false, 1485, 1484, 62, 1486, 0, 0, 0, 0) := rfl
set_option maxRecDepth 20000 in
theorem iqV_82052_12 : tb_V.find? (fun e => mx_k 20 132 e.1 && e.2.1 == 12) = some (82052, 12, 1483, 249, 3, false, 1485, 1484, 62, 1486, 0, 0, 0, 0) := rfl
set_option maxRecDepth 20000 in
theorem iqV_82053 : tb_V.find? (fun e => mx_k 20 133 e.1) = some (82053, 11, 992, 155, 1, false, 994, 993, 49, 995, 0, 0, 0, 0) := rfl
set_option maxRecDepth 20000 in
theorem iqV_82053_11 : tb_V.find? (fun e => mx_k 20 133 e.1 && e.2.1 == 11) = some (82053, 11, 992, 155, 1, false, 994, 993, 49, 995, 0, 0, 0, 0) := rfl
set_option maxRecDepth 20000 in
theorem iqV_82056 : tb_V.find? (fun e => mx_k 20 136 e.1) = some (82056, 12, 1491, 250, 1, false, 1493, 1492, 62, 1494, 0, 0, 0, 0) := rfl
set_option maxRecDepth 20000 in
theorem iqV_82056_12 : tb_V.find? (fun e => mx_k 20 136 e.1 && e.2.1 == 12) = some (82056, 12, 1491, 250, 1, false, 1493, 1492, 62, 1494, 0, 0, 0, 0) := rfl
set_option maxRecDepth 20000 in
theorem iqV_82057 : tb_V.find? (fun e => mx_k 20 137 e.1) = some (82057, 11, 999, 156, 1, false, 1001, 1000, 49, 1002, 0, 0, 0, 0) := rfl
set_option maxRecDepth 20000 in
theorem iqV_82057_11 : tb_V.find? (fun e => mx_k 20 137 e.1 && e.2.1 == 11) = some (82057, 11, 999, 156, 1, false, 1001, 1000, 49, 1002, 0, 0, 0, 0) := rfl
set_option maxRecDepth 20000 in
theorem iqV_82060 : tb_V.find? (fun e => mx_k 20 140 e.1) = some (82060, 12, 1495, 251, 1, false, 1497, 1496, 62, 1498, 0, 0, 0, 0) := rfl
set_option maxRecDepth 20000 in
theorem iqV_82060_12 : tb_V.find? (fun e => mx_k 20 140 e.1 && e.2.1 == 12) = some (82060, 12, 1495, 251, 1, false, 1497, 1496, 62, 1498, 0, 0, 0, 0) := rfl
set_option maxRecDepth 20000 in
theorem iqV_82061 : tb_V.find? (fun e => mx_k 20 141 e.1) = some (82061, 11, 1003, 157, 5, false, 1005, 1004, 49, 1006, 0, 0, 0, 0) := rfl
set_option maxRecDepth 20000 in
theorem iqV_82061_11 : tb_V.find? (fun e => mx_k 20 141 e.1 && e.2.1 == 11) = some (82061, 11, 1003, 157, 5, false, 1005, 1004, 49, 1006, 0, 0, 0, 0) := rfl
set_option maxRecDepth 20000 in
theorem iqV_82065 : tb_V.find? (fun e => mx_k 20 145 e.1) = some (82065, 12, 1506, 254, 5, false, 1508, 1507, 62, 1509, 0, 0, 0, 0) := rfl
set_option maxRecDepth 20000 in
theorem iqV_82065_12 : tb_V.find? (fun e => mx_k 20 145 e.1 && e.2.1 == 12) = some (82065, 12, 1506, 254, 5, false, 1508, 1507, 62, 1509, 0, 0, 0, 0) := rfl
set_option maxRecDepth 20000 in
theorem iqV_82066 : tb_V.find? (fun e => mx_k 20 146 e.1) = some (82066, 11, 1017, 160, 3, false, 1019, 1018, 49, 1020, 0, 0, 0, 0) := rfl
set_option maxRecDepth 20000 in
theorem iqV_82066_11 : tb_V.find? (fun e => mx_k 20 146 e.1 && e.2.1 == 11) = some (82066, 11, 1017, 160, 3, false, 1019, 1018, 49, 1020, 0, 0, 0, 0) := rfl
set_option maxRecDepth 20000 in
theorem iqV_82069 : tb_V.find? (fun e => mx_k 20 149 e.1) = some (82069, 12, 1510, 255, 3, false, 1512, 1511, 62, 1513, 0, 0, 0, 0) := rfl
set_option maxRecDepth 20000 in
theorem iqV_82069_12 : tb_V.find? (fun e => mx_k 20 149 e.1 && e.2.1 == 12) = some (82069, 12, 1510, 255, 3, false, 1512, 1511, 62, 1513, 0, 0, 0, 0) := rfl
set_option maxRecDepth 20000 in
theorem iqV_82070 : tb_V.find? (fun e => mx_k 20 150 e.1) = some (82070, 11, 1029, 163, 2, false, 1031, 1030, 49, 1032, 0, 0, 0, 0) := rfl
set_option maxRecDepth 20000 in
theorem iqV_82070_11 : tb_V.find? (fun e => mx_k 20 150 e.1 && e.2.1 == 11) = some (82070, 11, 1029, 163, 2, false, 1031, 1030, 49, 1032, 0, 0, 0, 0) := rfl
set_option maxRecDepth 20000 in
theorem iqV_82073 : tb_V.find? (fun e => mx_k 20 153 e.1) = some (82073, 12, 1517, 257, 2, false, 1519, 1518, 62, 1520, 0, 0, 0, 0) := rfl
set_option maxRecDepth 20000 in
theorem iqV_82073_12 : tb_V.find? (fun e => mx_k 20 153 e.1 && e.2.1 == 12) = some (82073, 12, 1517, 257, 2, false, 1519, 1518, 62, 1520, 0, 0, 0, 0) := rfl
set_option maxRecDepth 20000 in
theorem iqV_82074 : tb_V.find? (fun e => mx_k 20 154 e.1) = some (82074, 11, 1037, 165, 2, false, 1039, 1038, 49, 1040, 0, 0, 0, 0) := rfl
set_option maxRecDepth 20000 in
theorem iqV_82074_11 : tb_V.find? (fun e => mx_k 20 154 e.1 && e.2.1 == 11) = some (82074, 11, 1037, 165, 2, false, 1039, 1038, 49, 1040, 0, 0, 0, 0) := rfl
set_option maxRecDepth 20000 in
theorem iqV_82077 : tb_V.find? (fun e => mx_k 20 157 e.1) = some (82077, 12, 1521, 258, 2, false, 1523, 1522, 62, 1524, 0, 0, 0, 0) := rfl
set_option maxRecDepth 20000 in
theorem iqV_82077_12 : tb_V.find? (fun e => mx_k 20 157 e.1 && e.2.1 == 12) = some (82077, 12, 1521, 258, 2, false, 1523, 1522, 62, 1524, 0, 0, 0, 0) := rfl
set_option maxRecDepth 20000 in
theorem iqV_82078 : tb_V.find? (fun e => mx_k 20 158 e.1) = some (82078, 11, 1041, 166, 2, false, 1043, 1042, 49, 1044, 0, 0, 0, 0) := rfl
set_option maxRecDepth 20000 in
theorem iqV_82078_11 : tb_V.find? (fun e => mx_k 20 158 e.1 && e.2.1 == 11) = some (82078, 11, 1041, 166, 2, false, 1043, 1042, 49, 1044, 0, 0, 0, 0) := rfl
set_option maxRecDepth 20000 in
theorem iqV_82081 : tb_V.find? (fun e => mx_k 20 161 e.1) = some (82081, 12, 1525, 259, 2, false, 1527, 1526, 62, 1528, 0, 0, 0, 0) := rfl
set_option maxRecDepth 20000 in
theorem iqV_82081_12 : tb_V.find? (fun e => mx_k 20 161 e.1 && e.2.1 == 12) = some (82081, 12, 1525, 259, 2, false, 1527, 1526, 62, 1528, 0, 0, 0, 0) := rfl
set_option maxRecDepth 20000 in
theorem iqV_82082 : tb_V.find? (fun e => mx_k 20 162 e.1) = some (82082, 11, 1046, 167, 1, false, 1048, 1047, 49, 1049, 0, 0, 0, 0) := rfl
set_option maxRecDepth 20000 in
theorem iqV_82082_11 : tb_V.find? (fun e => mx_k 20 162 e.1 && e.2.1 == 11) = some (82082, 11, 1046, 167, 1, false, 1048, 1047, 49, 1049, 0, 0, 0, 0) := rfl
set_option maxRecDepth 20000 in
theorem iqV_82085 : tb_V.find? (fun e => mx_k 20 165 e.1) = some (82085, 12, 1530, 260, 1, false, 1532, 1531, 62, 1533, 0, 0, 0, 0) := rfl
set_option maxRecDepth 20000 in
theorem iqV_82085_12 : tb_V.find? (fun e => mx_k 20 165 e.1 && e.2.1 == 12) = some (82085, 12, 1530, 260, 1, false, 1532, 1531, 62, 1533, 0, 0, 0, 0) := rfl
set_option maxRecDepth 20000 in
theorem iqV_82086 : tb_V.find? (fun e => mx_k 20 166 e.1) = some (82086, 11, 1050, 168, 1, false, 1052, 1051, 49, 1053, 0, 0, 0, 0) := rfl
set_option maxRecDepth 20000 in
theorem iqV_82086_11 : tb_V.find? (fun e => mx_k 20 166 e.1 && e.2.1 == 11) = some (82086, 11, 1050, 168, 1, false, 1052, 1051, 49, 1053, 0, 0, 0, 0) := rfl
set_option maxRecDepth 20000 in
theorem iqV_82089 : tb_V.find? (fun e => mx_k 20 169 e.1) = some (82089, 12, 1534, 261, 1, false, 1536, 1535, 62, 1537, 0, 0, 0, 0) := rfl
set_option maxRecDepth 20000 in
theorem iqV_82089_12 : tb_V.find? (fun e => mx_k 20 169 e.1 && e.2.1 == 12) = some (82089, 12, 1534, 261, 1, false, 1536, 1535, 62, 1537, 0, 0, 0, 0) := rfl
set_option maxRecDepth 20000 in
theorem iqV_82090 : tb_V.find? (fun e => mx_k 20 170 e.1) = some (82090, 11, 1054, 169, 0, false, 1056, 1055, 49, 1057, 0, 0, 0, 0) := rfl
set_option maxRecDepth 20000 in
theorem iqV_82090_11 : tb_V.find? (fun e => mx_k 20 170 e.1 && e.2.1 == 11) = some (82090, 11, 1054, 169, 0, false, 1056, 1055, 49, 1057, 0, 0, 0, 0) := rfl
set_option maxRecDepth 20000 in
theorem iqV_82093 : tb_V.find? (fun e => mx_k 20 173 e.1) = some (82093, 12, 1543, 263, 0, false, 1545, 1544, 62, 1546, 0, 0, 0, 0) := rfl
set_option maxRecDepth 20000 in
theorem iqV_82093_12 : tb_V.find? (fun e => mx_k 20 173 e.1 && e.2.1 == 12) = some (82093, 12, 1543, 263, 0, false, 1545, 1544, 62, 1546, 0, 0, 0, 0) := rfl
set_option maxRecDepth 20000 in
theorem iqV_82094 : tb_V.find? (fun e => mx_k 20 174 e.1) = some (82094, 11, 1058, 170, 0, false, 1060, 1059, 49, 1061, 0, 0, 0, 0) := rfl
set_option maxRecDepth 20000 in
theorem iqV_82094_11 : tb_V.find? (fun e => mx_k 20 174 e.1 && e.2.1 == 11) = some (82094, 11, 1058, 170, 0, false, 1060, 1059, 49, 1061, 0, 0, 0, 0) := rfl
set_option maxRecDepth 20000 in
theorem iqV_82097 : tb_V.find? (fun e => mx_k 20 177 e.1) = some (82097, 12, 1547, 264, 0, false, 1549, 1548, 62, 1550, 0, 0, 0, 0) := rfl
set_option maxRecDepth 20000 in
theorem iqV_82097_12 : tb_V.find? (fun e => mx_k 20 177 e.1 && e.2.1 == 12) = some (82097, 12, 1547, 264, 0, false, 1549, 1548, 62, 1550, 0, 0, 0, 0) := rfl
set_option maxRecDepth 20000 in
theorem iqV_82098 : tb_V.find? (fun e => mx_k 20 178 e.1) = some (82098, 11, 1062, 171, 1, false, 1064, 1063, 49, 1065, 0, 0, 0, 0) := rfl
set_option maxRecDepth 20000 in
theorem iqV_82098_11 : tb_V.find? (fun e => mx_k 20 178 e.1 && e.2.1 == 11) = some (82098, 11, 1062, 171, 1, false, 1064, 1063, 49, 1065, 0, 0, 0, 0) := rfl
set_option maxRecDepth 20000 in
theorem iqV_82101 : tb_V.find? (fun e => mx_k 20 181 e.1) = some (82101, 12, 1551, 265, 1, false, 1553, 1552, 62, 1554, 0, 0, 0, 0) := rfl
set_option maxRecDepth 20000 in
theorem iqV_82101_12 : tb_V.find? (fun e => mx_k 20 181 e.1 && e.2.1 == 12) = some (82101, 12, 1551, 265, 1, false, 1553, 1552, 62, 1554, 0, 0, 0, 0) := rfl
set_option maxRecDepth 20000 in
theorem iqV_49222 : tb_V.find? (fun e => mx_k 12 70 e.1) = some (49222, 12, 1182, 176, 3, false, 8, 1184, 62, 1185, 0, 0, 0, 0) := rfl
set_option maxRecDepth 20000 in
theorem iqV_49222_12 : tb_V.find? (fun e => mx_k 12 70 e.1 && e.2.1 == 12) = some (49222, 12, 1182, 176, 3, false, 8, 1184, 62, 1185, 0, 0, 0, 0) := rfl
set_option maxRecDepth 20000 in
theorem iqV_49234 : tb_V.find? (fun e => mx_k 12 82 e.1) = some (49234, 12, 1178, 175, 3, false, 7, 1180, 62, 1181, 0, 0, 0, 0) := rfl
set_option maxRecDepth 20000 in
theorem iqV_49234_12 : tb_V.find? (fun e => mx_k 12 82 e.1 && e.2.1 == 12) = some (49234, 12, 1178, 175, 3, false, 7, 1180, 62, 1181, 0, 0, 0, 0) := rfl
set_option maxRecDepth 20000 in
theorem iqV_49237 : tb_V.find? (fun e => mx_k 12 85 e.1) = some (49237, 12, 1194, 179, 2, false, 10, 1196, 62, 1197, 0, 0, 0, 0) := rfl
set_option maxRecDepth 20000 in
theorem iqV_49237_12 : tb_V.find? (fun e => mx_k 12 85 e.1 && e.2.1 == 12) = some (49237, 12, 1194, 179, 2, false, 10, 1196, 62, 1197, 0, 0, 0, 0) := rfl
set_option maxRecDepth 20000 in
theorem iqV_49244 : tb_V.find? (fun e => mx_k 12 92 e.1) = some (49244, 12, 1205, 182, 1, false, 12, 1207, 62, 1208, 0, 0, 0, 0) := rfl
set_option maxRecDepth 20000 in
theorem iqV_49244_12 : tb_V.find? (fun e => mx_k 12 92 e.1 && e.2.1 == 12) = some (49244, 12, 1205, 182, 1, false, 12, 1207, 62, 1208, 0, 0, 0, 0) := rfl
set_option maxRecDepth 20000 in
theorem iqV_49248 : tb_V.find? (fun e => mx_k 12 96 e.1) = some (49248, 12, 1213, 184, 1, false, 14, 1215, 62, 1216, 0, 0, 0, 0) := rfl
set_option maxRecDepth 20000 in
theorem iqV_49248_12 : tb_V.find? (fun e => mx_k 12 96 e.1 && e.2.1 == 12) = some (49248, 12, 1213, 184, 1, false, 14, 1215, 62, 1216, 0, 0, 0, 0) := rfl
set_option maxRecDepth 20000 in
theorem iqV_49251 : tb_V.find? (fun e => mx_k 12 99 e.1) = some (49251, 12, 1190, 178, 1, false, 9, 1192, 62, 1193, 0, 0, 0, 0) := rfl
set_option maxRecDepth 20000 in
theorem iqV_49251_12 : tb_V.find? (fun e => mx_k 12 99 e.1 && e.2.1 == 12) = some (49251, 12, 1190, 178, 1, false, 9, 1192, 62, 1193, 0, 0, 0, 0) := rfl
set_option maxRecDepth 20000 in
theorem iqV_49255 : tb_V.find? (fun e => mx_k 12 103 e.1) = some (49255, 12, 1198, 180, 1, false, 11, 1200, 62, 1201, 0, 0, 0, 0) := rfl
set_option maxRecDepth 20000 in
theorem iqV_49255_12 : tb_V.find? (fun e => mx_k 12 103 e.1 && e.2.1 == 12) = some (49255, 12, 1198, 180, 1, false, 11, 1200, 62, 1201, 0, 0, 0, 0) := rfl
set_option maxRecDepth 20000 in
theorem iqV_49258 : tb_V.find? (fun e => mx_k 12 106 e.1) = some (49258, 12, 1220, 186, 1, false, 15, 1222, 62, 1223, 0, 0, 0, 0) := rfl
set_option maxRecDepth 20000 in
theorem iqV_49258_12 : tb_V.find? (fun e => mx_k 12 106 e.1 && e.2.1 == 12) = some (49258, 12, 1220, 186, 1, false, 15, 1222, 62, 1223, 0, 0, 0, 0) := rfl
set_option maxRecDepth 20000 in
theorem iqV_49261 : tb_V.find? (fun e => mx_k 12 109 e.1) = some (49261, 12, 1224, 187, 1, false, 16, 1226, 62, 1227, 0, 0, 0, 0) := rfl
set_option maxRecDepth 20000 in
theorem iqV_49261_12 : tb_V.find? (fun e => mx_k 12 109 e.1 && e.2.1 == 12) = some (49261, 12, 1224, 187, 1, false, 16, 1226, 62, 1227, 0, 0, 0, 0) := rfl
set_option maxRecDepth 20000 in
theorem iqV_49264 : tb_V.find? (fun e => mx_k 12 112 e.1) = some (49264, 12, 1228, 188, 1, false, 17, 1230, 62, 1231, 0, 0, 0, 0) := rfl
set_option maxRecDepth 20000 in
theorem iqV_49264_12 : tb_V.find? (fun e => mx_k 12 112 e.1 && e.2.1 == 12) = some (49264, 12, 1228, 188, 1, false, 17, 1230, 62, 1231, 0, 0, 0, 0) := rfl
set_option maxRecDepth 20000 in
theorem iqV_49272 : tb_V.find? (fun e => mx_k 12 120 e.1) = some (49272, 12, 1244, 192, 2, false, 18, 1246, 62, 1247, 0, 0, 0, 0) := rfl
set_option maxRecDepth 20000 in
theorem iqV_49272_12 : tb_V.find? (fun e => mx_k 12 120 e.1 && e.2.1 == 12) = some (49272, 12, 1244, 192, 2, false, 18, 1246, 62, 1247, 0, 0, 0, 0) := rfl
set_option maxRecDepth 20000 in
theorem iqV_49277 : tb_V.find? (fun e => mx_k 12 125 e.1) = some (49277, 12, 1261, 196, 1, false, 19, 1263, 62, 1264, 0, 0, 0, 0) := rfl
set_option maxRecDepth 20000 in
theorem iqV_49277_12 : tb_V.find? (fun e => mx_k 12 125 e.1 && e.2.1 == 12) = some (49277, 12, 1261, 196, 1, false, 19, 1263, 62, 1264, 0, 0, 0, 0) := rfl
set_option maxRecDepth 20000 in
theorem iqV_49287 : tb_V.find? (fun e => mx_k 12 135 e.1) = some (49287, 12, 1278, 200, 0, false, 20, 1280, 62, 1281, 0, 0, 0, 0) := rfl
set_option maxRecDepth 20000 in
theorem iqV_49287_12 : tb_V.find? (fun e => mx_k 12 135 e.1 && e.2.1 == 12) = some (49287, 12, 1278, 200, 0, false, 20, 1280, 62, 1281, 0, 0, 0, 0) := rfl
set_option maxRecDepth 20000 in
theorem iqV_49294 : tb_V.find? (fun e => mx_k 12 142 e.1) = some (49294, 12, 1320, 210, 1, false, 26, 1322, 62, 1323, 0, 0, 0, 0) := rfl
set_option maxRecDepth 20000 in
theorem iqV_49294_12 : tb_V.find? (fun e => mx_k 12 142 e.1 && e.2.1 == 12) = some (49294, 12, 1320, 210, 1, false, 26, 1322, 62, 1323, 0, 0, 0, 0) := rfl
set_option maxRecDepth 20000 in
theorem iqV_49297 : tb_V.find? (fun e => mx_k 12 145 e.1) = some (49297, 12, 1307, 207, 0, false, 23, 1309, 62, 1310, 0, 0, 0, 0) := rfl
set_option maxRecDepth 20000 in
theorem iqV_49297_12 : tb_V.find? (fun e => mx_k 12 145 e.1 && e.2.1 == 12) = some (49297, 12, 1307, 207, 0, false, 23, 1309, 62, 1310, 0, 0, 0, 0) := rfl
set_option maxRecDepth 20000 in
theorem iqV_49300 : tb_V.find? (fun e => mx_k 12 148 e.1) = some (49300, 12, 1311, 202, 0, false, 1289, 1288, 62, 1290, 0, 0, 0, 0) := rfl
set_option maxRecDepth 20000 in
theorem iqV_49300_12 : tb_V.find? (fun e => mx_k 12 148 e.1 && e.2.1 == 12) = some (49300, 12, 1311, 202, 0, false, 1289, 1288, 62, 1290, 0, 0, 0, 0) := rfl
set_option maxRecDepth 20000 in
theorem iqV_49303 : tb_V.find? (fun e => mx_k 12 151 e.1) = some (49303, 12, 1312, 208, 0, false, 24, 1314, 62, 1315, 0, 0, 0, 0) := rfl
set_option maxRecDepth 20000 in
theorem iqV_49303_12 : tb_V.find? (fun e => mx_k 12 151 e.1 && e.2.1 == 12) = some (49303, 12, 1312, 208, 0, false, 24, 1314, 62, 1315, 0, 0, 0, 0) := rfl
set_option maxRecDepth 20000 in
theorem iqV_49306 : tb_V.find? (fun e => mx_k 12 154 e.1) = some (49306, 12, 1316, 209, 0, false, 25, 1318, 62, 1319, 0, 0, 0, 0) := rfl
set_option maxRecDepth 20000 in
theorem iqV_49306_12 : tb_V.find? (fun e => mx_k 12 154 e.1 && e.2.1 == 12) = some (49306, 12, 1316, 209, 0, false, 25, 1318, 62, 1319, 0, 0, 0, 0) := rfl
set_option maxRecDepth 20000 in
theorem iqV_49309 : tb_V.find? (fun e => mx_k 12 157 e.1) = some (49309, 12, 1303, 206, 0, false, 22, 1305, 62, 1306, 0, 0, 0, 0) := rfl
set_option maxRecDepth 20000 in
theorem iqV_49309_12 : tb_V.find? (fun e => mx_k 12 157 e.1 && e.2.1 == 12) = some (49309, 12, 1303, 206, 0, false, 22, 1305, 62, 1306, 0, 0, 0, 0) := rfl
set_option maxRecDepth 20000 in
theorem iqV_49314 : tb_V.find? (fun e => mx_k 12 162 e.1) = some (49314, 12, 1299, 205, 1, false, 21, 1301, 62, 1302, 0, 0, 0, 0) := rfl
set_option maxRecDepth 20000 in
theorem iqV_49314_12 : tb_V.find? (fun e => mx_k 12 162 e.1 && e.2.1 == 12) = some (49314, 12, 1299, 205, 1, false, 21, 1301, 62, 1302, 0, 0, 0, 0) := rfl
set_option maxRecDepth 20000 in
theorem iqV_49317 : tb_V.find? (fun e => mx_k 12 165 e.1) = some (49317, 12, 1328, 212, 0, false, 27, 1330, 62, 1331, 0, 0, 0, 0) := rfl
set_option maxRecDepth 20000 in
theorem iqV_49317_12 : tb_V.find? (fun e => mx_k 12 165 e.1 && e.2.1 == 12) = some (49317, 12, 1328, 212, 0, false, 27, 1330, 62, 1331, 0, 0, 0, 0) := rfl
set_option maxRecDepth 20000 in
theorem iqV_49320 : tb_V.find? (fun e => mx_k 12 168 e.1) = some (49320, 12, 1332, 213, 0, false, 28, 1334, 62, 1335, 0, 0, 0, 0) := rfl
set_option maxRecDepth 20000 in
theorem iqV_49320_12 : tb_V.find? (fun e => mx_k 12 168 e.1 && e.2.1 == 12) = some (49320, 12, 1332, 213, 0, false, 28, 1334, 62, 1335, 0, 0, 0, 0) := rfl
set_option maxRecDepth 20000 in
theorem iqV_49323 : tb_V.find? (fun e => mx_k 12 171 e.1) = some (49323, 12, 1340, 215, 0, false, 29, 1342, 62, 1343, 0, 0, 0, 0) := rfl
set_option maxRecDepth 20000 in
theorem iqV_49323_12 : tb_V.find? (fun e => mx_k 12 171 e.1 && e.2.1 == 12) = some (49323, 12, 1340, 215, 0, false, 29, 1342, 62, 1343, 0, 0, 0, 0) := rfl
set_option maxRecDepth 20000 in
theorem iqV_49326 : tb_V.find? (fun e => mx_k 12 174 e.1) = some (49326, 12, 1344, 216, 1, false, 30, 1346, 62, 1347, 0, 0, 0, 0) := rfl
set_option maxRecDepth 20000 in
theorem iqV_49326_12 : tb_V.find? (fun e => mx_k 12 174 e.1 && e.2.1 == 12) = some (49326, 12, 1344, 216, 1, false, 30, 1346, 62, 1347, 0, 0, 0, 0) := rfl
set_option maxRecDepth 20000 in
theorem iqV_49330 : tb_V.find? (fun e => mx_k 12 178 e.1) = some (49330, 12, 1348, 217, 0, false, 31, 1350, 62, 1351, 0, 0, 0, 0) := rfl
set_option maxRecDepth 20000 in
theorem iqV_49330_12 : tb_V.find? (fun e => mx_k 12 178 e.1 && e.2.1 == 12) = some (49330, 12, 1348, 217, 0, false, 31, 1350, 62, 1351, 0, 0, 0, 0) := rfl
set_option maxRecDepth 20000 in
theorem iqV_49361 : tb_V.find? (fun e => mx_k 12 209 e.1) = some (49361, 12, 1406, 231, 1, false, 34, 1408, 62, 1409, 0, 0, 0, 0) := rfl
set_option maxRecDepth 20000 in
theorem iqV_49361_12 : tb_V.find? (fun e => mx_k 12 209 e.1 && e.2.1 == 12) = some (49361, 12, 1406, 231, 1, false, 34, 1408, 62, 1409, 0, 0, 0, 0) := rfl
set_option maxRecDepth 20000 in
theorem iqV_49367 : tb_V.find? (fun e => mx_k 12 215 e.1) = some (49367, 12, 1412, 232, 1, false, 35, 1414, 62, 1415, 0, 0, 0, 0) := rfl
set_option maxRecDepth 20000 in
theorem iqV_49367_12 : tb_V.find? (fun e => mx_k 12 215 e.1 && e.2.1 == 12) = some (49367, 12, 1412, 232, 1, false, 35, 1414, 62, 1415, 0, 0, 0, 0) := rfl
set_option maxRecDepth 20000 in
theorem iqV_49373 : tb_V.find? (fun e => mx_k 12 221 e.1) = some (49373, 12, 1422, 234, 4, false, 37, 1424, 62, 1425, 0, 0, 0, 0) := rfl
set_option maxRecDepth 20000 in
theorem iqV_49373_12 : tb_V.find? (fun e => mx_k 12 221 e.1 && e.2.1 == 12) = some (49373, 12, 1422, 234, 4, false, 37, 1424, 62, 1425, 0, 0, 0, 0) := rfl
set_option maxRecDepth 20000 in
theorem iqV_49383 : tb_V.find? (fun e => mx_k 12 231 e.1) = some (49383, 12, 1430, 236, 1, false, 39, 1432, 62, 1433, 0, 0, 0, 0) := rfl
set_option maxRecDepth 20000 in
theorem iqV_49383_12 : tb_V.find? (fun e => mx_k 12 231 e.1 && e.2.1 == 12) = some (49383, 12, 1430, 236, 1, false, 39, 1432, 62, 1433, 0, 0, 0, 0) := rfl
set_option maxRecDepth 20000 in
theorem iqV_49386 : tb_V.find? (fun e => mx_k 12 234 e.1) = some (49386, 12, 1457, 243, 1, false, 45, 1459, 62, 1460, 0, 0, 0, 0) := rfl
set_option maxRecDepth 20000 in
theorem iqV_49386_12 : tb_V.find? (fun e => mx_k 12 234 e.1 && e.2.1 == 12) = some (49386, 12, 1457, 243, 1, false, 45, 1459, 62, 1460, 0, 0, 0, 0) := rfl
set_option maxRecDepth 20000 in
theorem iqV_49389 : tb_V.find? (fun e => mx_k 12 237 e.1) = some (49389, 12, 1402, 230, 0, false, 33, 1404, 62, 1405, 0, 0, 0, 0) := rfl
set_option maxRecDepth 20000 in
theorem iqV_49389_12 : tb_V.find? (fun e => mx_k 12 237 e.1 && e.2.1 == 12) = some (49389, 12, 1402, 230, 0, false, 33, 1404, 62, 1405, 0, 0, 0, 0) := rfl
set_option maxRecDepth 20000 in
theorem iqV_49392 : tb_V.find? (fun e => mx_k 12 240 e.1) = some (49392, 12, 1450, 241, 2, false, 44, 1452, 62, 1453, 0, 0, 0, 0) := rfl
set_option maxRecDepth 20000 in
theorem iqV_49392_12 : tb_V.find? (fun e => mx_k 12 240 e.1 && e.2.1 == 12) = some (49392, 12, 1450, 241, 2, false, 44, 1452, 62, 1453, 0, 0, 0, 0) := rfl
set_option maxRecDepth 20000 in
theorem iqV_49396 : tb_V.find? (fun e => mx_k 12 244 e.1) = some (49396, 12, 1434, 237, 1, false, 40, 1436, 62, 1437, 0, 0, 0, 0) := rfl
set_option maxRecDepth 20000 in
theorem iqV_49396_12 : tb_V.find? (fun e => mx_k 12 244 e.1 && e.2.1 == 12) = some (49396, 12, 1434, 237, 1, false, 40, 1436, 62, 1437, 0, 0, 0, 0) := rfl
set_option maxRecDepth 20000 in
theorem iqV_49399 : tb_V.find? (fun e => mx_k 12 247 e.1) = some (49399, 12, 1438, 238, 1, false, 41, 1440, 62, 1441, 0, 0, 0, 0) := rfl
set_option maxRecDepth 20000 in
theorem iqV_49399_12 : tb_V.find? (fun e => mx_k 12 247 e.1 && e.2.1 == 12) = some (49399, 12, 1438, 238, 1, false, 41, 1440, 62, 1441, 0, 0, 0, 0) := rfl
set_option maxRecDepth 20000 in
theorem iqV_49402 : tb_V.find? (fun e => mx_k 12 250 e.1) = some (49402, 12, 1442, 239, 1, false, 42, 1444, 62, 1445, 0, 0, 0, 0) := rfl
set_option maxRecDepth 20000 in
theorem iqV_49402_12 : tb_V.find? (fun e => mx_k 12 250 e.1 && e.2.1 == 12) = some (49402, 12, 1442, 239, 1, false, 42, 1444, 62, 1445, 0, 0, 0, 0) := rfl
set_option maxRecDepth 20000 in
theorem iqV_49405 : tb_V.find? (fun e => mx_k 12 253 e.1) = some (49405, 12, 1446, 240, 1, false, 43, 1448, 62, 1449, 0, 0, 0, 0) := rfl
set_option maxRecDepth 20000 in
theorem iqV_49405_12 : tb_V.find? (fun e => mx_k 12 253 e.1 && e.2.1 == 12) = some (49405, 12, 1446, 240, 1, false, 43, 1448, 62, 1449, 0, 0, 0, 0) := rfl
set_option maxRecDepth 20000 in
theorem iqV_49420 : tb_V.find? (fun e => mx_k 12 268 e.1) = some (49420, 12, 1426, 235, 1, false, 38, 1428, 62, 1429, 0, 0, 0, 0) := rfl
set_option maxRecDepth 20000 in
theorem iqV_49420_12 : tb_V.find? (fun e => mx_k 12 268 e.1 && e.2.1 == 12) = some (49420, 12, 1426, 235, 1, false, 38, 1428, 62, 1429, 0, 0, 0, 0) := rfl
set_option maxRecDepth 20000 in
theorem iqV_49423 : tb_V.find? (fun e => mx_k 12 271 e.1) = some (49423, 12, 1209, 183, 1, false, 13, 1211, 62, 1212, 0, 0, 0, 0) := rfl
set_option maxRecDepth 20000 in
theorem iqV_49423_12 : tb_V.find? (fun e => mx_k 12 271 e.1 && e.2.1 == 12) = some (49423, 12, 1209, 183, 1, false, 13, 1211, 62, 1212, 0, 0, 0, 0) := rfl
set_option maxRecDepth 20000 in
theorem iqV_49426 : tb_V.find? (fun e => mx_k 12 274 e.1) = some (49426, 12, 1418, 233, 0, false, 36, 1420, 62, 1421, 0, 0, 0, 0) := rfl
set_option maxRecDepth 20000 in
theorem iqV_49426_12 : tb_V.find? (fun e => mx_k 12 274 e.1 && e.2.1 == 12) = some (49426, 12, 1418, 233, 0, false, 36, 1420, 62, 1421, 0, 0, 0, 0) := rfl
set_option maxRecDepth 20000 in
theorem iqV_49429 : tb_V.find? (fun e => mx_k 12 277 e.1) = some (49429, 12, 1398, 229, 0, false, 32, 1400, 62, 1401, 0, 0, 0, 0) := rfl
set_option maxRecDepth 20000 in
theorem iqV_49429_12 : tb_V.find? (fun e => mx_k 12 277 e.1 && e.2.1 == 12) = some (49429, 12, 1398, 229, 0, false, 32, 1400, 62, 1401, 0, 0, 0, 0) := rfl
set_option maxRecDepth 20000 in
theorem iqV_49432 : tb_V.find? (fun e => mx_k 12 280 e.1) = some (49432, 12, 1465, 245, 1, false, 46, 1467, 62, 1468, 0, 0, 0, 0) := rfl
set_option maxRecDepth 20000 in
theorem iqV_49432_12 : tb_V.find? (fun e => mx_k 12 280 e.1 && e.2.1 == 12) = some (49432, 12, 1465, 245, 1, false, 46, 1467, 62, 1468, 0, 0, 0, 0) := rfl
set_option maxRecDepth 20000 in
theorem iqV_49469 : tb_V.find? (fun e => mx_k 12 317 e.1) = some (49469, 12, 1539, 262, 2, false, 47, 1541, 62, 1542, 0, 0, 0, 0) := rfl
set_option maxRecDepth 20000 in
theorem iqV_49469_12 : tb_V.find? (fun e => mx_k 12 317 e.1 && e.2.1 == 12) = some (49469, 12, 1539, 262, 2, false, 47, 1541, 62, 1542, 0, 0, 0, 0) := rfl
set_option maxRecDepth 20000 in
theorem iqV_53583 : tb_V.find? (fun e => mx_k 13 335 e.1) = some (53583, 13, 760, 107, 0, false, 762, 761, 65, 763, 0, 0, 0, 0) := rfl
set_option maxRecDepth 20000 in
theorem iqV_53583_13 : tb_V.find? (fun e => mx_k 13 335 e.1 && e.2.1 == 13) = some (53583, 13, 760, 107, 0, false, 762, 761, 65, 763, 0, 0, 0, 0) := rfl
set_option maxRecDepth 20000 in
theorem iqV_53740 : tb_V.find? (fun e => mx_k 13 492 e.1) = some (53740, 13, 770, 109, 0, false, 772, 771, 65, 773, 0, 0, 0, 0) := rfl
set_option maxRecDepth 20000 in
theorem iqV_53740_13 : tb_V.find? (fun e => mx_k 13 492 e.1 && e.2.1 == 13) = some (53740, 13, 770, 109, 0, false, 772, 771, 65, 773, 0, 0, 0, 0) := rfl
set_option maxRecDepth 20000 in
theorem iqV_53753 : tb_V.find? (fun e => mx_k 13 505 e.1) = some (53753, 13, 857, 106, 0, false, 758, 757, 65, 759, 0, 0, 0, 0) := rfl
set_option maxRecDepth 20000 in
theorem iqV_53753_13 : tb_V.find? (fun e => mx_k 13 505 e.1 && e.2.1 == 13) = some (53753, 13, 857, 106, 0, false, 758, 757, 65, 759, 0, 0, 0, 0) := rfl
set_option maxRecDepth 20000 in
theorem iqV_53881 : tb_V.find? (fun e => mx_k 13 633 e.1) = some (53881, 13, 853, 128, 2, false, 855, 854, 65, 856, 0, 0, 0, 0) := rfl
set_option maxRecDepth 20000 in
theorem iqV_53881_13 : tb_V.find? (fun e => mx_k 13 633 e.1 && e.2.1 == 13) = some (53881, 13, 853, 128, 2, false, 855, 854, 65, 856, 0, 0, 0, 0) := rfl
