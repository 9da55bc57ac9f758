section MRB
variable {d M pc : Nat} {mi : tb_MI} {i : Instr} {len : Nat} {ls : mx_Lo} {st : List Value} {h : mx_MH}
theorem mr_ic (hm : tb_mt M = some mi) {n : Int} {v : Int32} (hd : decode mi.2.1 pc = .ok (.iconst n, 1)) (hv : Int32.ofInt n = v) : mx_run d M pc ls st h = mx_run d M (pc + 1) ls (.int v :: st) h := by
  subst hv
  exact mr_go hm hd rfl rfl
theorem mr_bip (hm : tb_mt M = some mi) {n : Int} {v : Int32} (hd : decode mi.2.1 pc = .ok (.bipush n, 2)) (hv : (Int8.ofInt n).toInt32 = v) : mx_run d M pc ls st h = mx_run d M (pc + 2) ls (.int v :: st) h := by
  subst hv
  exact mr_go hm hd rfl rfl
theorem mr_sip (hm : tb_mt M = some mi) {n : Int} {v : Int32} (hd : decode mi.2.1 pc = .ok (.sipush n, 3)) (hv : (Int16.ofInt n).toInt32 = v) : mx_run d M pc ls st h = mx_run d M (pc + 3) ls (.int v :: st) h := by
  subst hv
  exact mr_go hm hd rfl rfl
theorem mr_sto (hm : tb_mt M = some mi) (hd : decode mi.2.1 pc = .ok (i, len)) (hl : mx_len i len = true) {k pc' : Nat} {v : Value} {r : List Value} {ls' : mx_Lo} (hI : mx_I mi.2.2.2.1 (mi.1.name == "<init>") mi.2.2.2.2 i pc ls st h = mx_store k pc' v ls r) (hk : k < ls.length) (hs : ls.set k (some v) = ls') : mx_run d M pc ls st h = mx_run d M pc' ls' r h := by
  subst hs
  refine mr_go hm hd hl (hI.trans ?_)
  unfold mx_store
  rw [if_pos hk]
theorem mr_inc (hm : tb_mt M = some mi) {k : Nat} {n : Int} (hd : decode mi.2.1 pc = .ok (.iinc k n, 3)) {c x : Int32} (hc : Int32.ofInt n = c) (hx : ls[k]? = some (some (.int x))) (hk : k < ls.length) {ls' : mx_Lo} (hs : ls.set k (some (.int (x + c))) = ls') : mx_run d M pc ls st h = mx_run d M (pc + 3) ls' st h := by
  subst hc
  refine mr_sto hm hd rfl ?_ hk hs
  simp only [mx_I, hx]
theorem mr_div (hm : tb_mt M = some mi) (hd : decode mi.2.1 pc = .ok (.idiv, 1)) {x y : Int32} : mx_run d M pc ls (.int y :: .int x :: st) h = if y = 0 then none else mx_run d M (pc + 1) ls (.int (x / y) :: st) h := by
  have hI := mr_step hm hd rfl ls (.int y :: .int x :: st) h
  simp only [mx_I] at hI
  by_cases hy : y = 0
  · rw [if_pos hy] at hI ⊢
    exact mr_none hI
  · rw [if_neg hy] at hI ⊢
    exact mx_run_next (e := .inl ()) hI
theorem mr_rem (hm : tb_mt M = some mi) (hd : decode mi.2.1 pc = .ok (.irem, 1)) {x y : Int32} : mx_run d M pc ls (.int y :: .int x :: st) h = if y = 0 then none else mx_run d M (pc + 1) ls (.int (x - x / y * y) :: st) h := by
  have hI := mr_step hm hd rfl ls (.int y :: .int x :: st) h
  simp only [mx_I] at hI
  by_cases hy : y = 0
  · rw [if_pos hy] at hI ⊢
    exact mr_none hI
  · rw [if_neg hy] at hI ⊢
    exact mx_run_next (e := .inl ()) hI
theorem mr_brn (hm : tb_mt M = some mi) (hd : decode mi.2.1 pc = .ok (i, len)) (hl : mx_len i len = true) {pc' : Nat} {off : Int} {x y : Int32} {b : Bool} {ls' : mx_Lo} {st' : List Value} (ht : (pc : Int) + off = (pc' : Int)) (hb : b = decide (x ≠ y)) (hI : mx_I mi.2.2.2.1 (mi.1.name == "<init>") mi.2.2.2.2 i pc ls st h = mx_br b pc off ls' st') : mx_run d M pc ls st h = if x = y then mx_run d M (pc + 3) ls' st' h else mx_run d M pc' ls' st' h := by
  rw [mr_br hm hd hl ht hb hI]
  by_cases hxy : x = y
  · rw [if_pos hxy, if_neg (fun z => z hxy)]
  · rw [if_neg hxy, if_pos hxy]
theorem mr_brg (hm : tb_mt M = some mi) (hd : decode mi.2.1 pc = .ok (i, len)) (hl : mx_len i len = true) {pc' : Nat} {off : Int} {x y : Int32} {b : Bool} {ls' : mx_Lo} {st' : List Value} (ht : (pc : Int) + off = (pc' : Int)) (hb : b = decide (y ≤ x)) (hI : mx_I mi.2.2.2.1 (mi.1.name == "<init>") mi.2.2.2.2 i pc ls st h = mx_br b pc off ls' st') : mx_run d M pc ls st h = if x < y then mx_run d M (pc + 3) ls' st' h else mx_run d M pc' ls' st' h := by
  rw [mr_br hm hd hl ht hb hI]
  by_cases hxy : x < y
  · rw [if_pos hxy, if_neg (Int32.not_le.mpr hxy)]
  · rw [if_neg hxy, if_pos (Int32.not_lt.mp hxy)]
theorem mr_brl (hm : tb_mt M = some mi) (hd : decode mi.2.1 pc = .ok (i, len)) (hl : mx_len i len = true) {pc' : Nat} {off : Int} {x y : Int32} {b : Bool} {ls' : mx_Lo} {st' : List Value} (ht : (pc : Int) + off = (pc' : Int)) (hb : b = decide (x ≤ y)) (hI : mx_I mi.2.2.2.1 (mi.1.name == "<init>") mi.2.2.2.2 i pc ls st h = mx_br b pc off ls' st') : mx_run d M pc ls st h = if y < x then mx_run d M (pc + 3) ls' st' h else mx_run d M pc' ls' st' h := by
  rw [mr_br hm hd hl ht hb hI]
  by_cases hxy : y < x
  · rw [if_pos hxy, if_neg (Int32.not_le.mpr hxy)]
  · rw [if_neg hxy, if_pos (Int32.not_lt.mp hxy)]
theorem mr_swo {pc : Nat} {d lo hi : Int} {offs : Array Int} {x : Int32} {ls : mx_Lo} {r : List Value} (h0 : (0 : Int) ≤ (pc : Int) + d) (hx : x.toInt < lo ∨ hi < x.toInt) : mx_sw pc d lo hi offs x ls r = some (.inl (((pc : Int) + d).toNat, ls, r, .inl ())) := by
  unfold mx_sw
  rw [if_pos hx]
  unfold mx_jmp
  rw [if_pos h0]
  rfl
theorem mr_retb (hm : tb_mt M = some mi) (hd : decode mi.2.1 pc = .ok (.ireturn, 1)) {ty : FieldType} (hr : mi.2.2.2.1 = some ty) {v : Int32} (hn : narrow ty (.int v) = .int v) : mx_run d M pc ls [.int v] h = some (some (.int v), h) := by
  refine mr_ret hm hd rfl ?_
  simp only [mx_I, hr]
  rw [if_pos hn]
theorem mr_bool {x y z : Int64} : mx_bool (decide (y ≤ x) && decide (x ≤ z)) = .int (if y ≤ x ∧ x ≤ z then 1 else 0) := by
  unfold mx_bool
  by_cases h1 : y ≤ x <;> by_cases h2 : x ≤ z <;> simp [h1, h2]
end MRB
theorem fq_45067 : tb_F.find? (fun e => mx_k 11 11 e.1) = some (45067, 309, 0, [11], 2, true) := by decide +kernel
theorem fq_45071 : tb_F.find? (fun e => mx_k 11 15 e.1) = some (45071, 314, 5, [11], 2, true) := by decide +kernel
theorem fq_45078 : tb_F.find? (fun e => mx_k 11 22 e.1) = some (45078, 315, 6, [11], 2, true) := by decide +kernel
theorem fq_45084 : tb_F.find? (fun e => mx_k 11 28 e.1) = some (45084, 316, 7, [11], 2, true) := by decide +kernel
theorem fq_45088 : tb_F.find? (fun e => mx_k 11 32 e.1) = some (45088, 317, 8, [11], 2, true) := by decide +kernel
theorem fq_45093 : tb_F.find? (fun e => mx_k 11 37 e.1) = some (45093, 318, 9, [11], 2, true) := by decide +kernel
theorem fq_45097 : tb_F.find? (fun e => mx_k 11 41 e.1) = some (45097, 319, 10, [11], 2, true) := by decide +kernel
theorem fq_45100 : tb_F.find? (fun e => mx_k 11 44 e.1) = some (45100, 320, 11, [11], 2, true) := by decide +kernel
theorem fq_45103 : tb_F.find? (fun e => mx_k 11 47 e.1) = some (45103, 321, 12, [11], 2, true) := by decide +kernel
theorem fq_45129 : tb_F.find? (fun e => mx_k 11 73 e.1) = some (45129, 310, 1, [11], 2, true) := by decide +kernel
theorem fq_45133 : tb_F.find? (fun e => mx_k 11 77 e.1) = some (45133, 311, 2, [11], 2, true) := by decide +kernel
theorem fq_45136 : tb_F.find? (fun e => mx_k 11 80 e.1) = some (45136, 312, 3, [11], 2, true) := by decide +kernel
theorem fq_45152 : tb_F.find? (fun e => mx_k 11 96 e.1) = some (45152, 242, 1, [5], 0, false) := by decide +kernel
theorem fq_45164 : tb_F.find? (fun e => mx_k 11 108 e.1) = some (45164, 241, 0, [5], 2, true) := by decide +kernel
theorem fq_45167 : tb_F.find? (fun e => mx_k 11 111 e.1) = some (45167, 200, 0, [0], 2, false) := by decide +kernel
theorem fq_45171 : tb_F.find? (fun e => mx_k 11 115 e.1) = some (45171, 131, 0, [1, 2, 3, 4, 7, 9], 0, true) := by decide +kernel
theorem fq_45174 : tb_F.find? (fun e => mx_k 11 118 e.1) = some (45174, 203, 1, [0], 0, false) := by decide +kernel
theorem fq_45177 : tb_F.find? (fun e => mx_k 11 121 e.1) = some (45177, 206, 2, [0], 0, false) := by decide +kernel
theorem fq_45180 : tb_F.find? (fun e => mx_k 11 124 e.1) = some (45180, 209, 3, [0], 0, false) := by decide +kernel
theorem fq_45183 : tb_F.find? (fun e => mx_k 11 127 e.1) = some (45183, 211, 4, [0], 0, false) := by decide +kernel
theorem fq_45186 : tb_F.find? (fun e => mx_k 11 130 e.1) = some (45186, 217, 6, [0], 1, false) := by decide +kernel
theorem fq_45190 : tb_F.find? (fun e => mx_k 11 134 e.1) = some (45190, 214, 5, [0], 0, false) := by decide +kernel
theorem fq_45212 : tb_F.find? (fun e => mx_k 11 156 e.1) = some (45212, 245, 2, [5], 0, false) := by decide +kernel
theorem fq_45225 : tb_F.find? (fun e => mx_k 11 169 e.1) = some (45225, 247, 3, [5], 2, true) := by decide +kernel
theorem fq_45237 : tb_F.find? (fun e => mx_k 11 181 e.1) = some (45237, 255, 7, [5], 0, false) := by decide +kernel
theorem fq_45246 : tb_F.find? (fun e => mx_k 11 190 e.1) = some (45246, 253, 6, [5], 0, false) := by decide +kernel
theorem fq_45255 : tb_F.find? (fun e => mx_k 11 199 e.1) = some (45255, 249, 4, [5], 0, false) := by decide +kernel
theorem fq_45258 : tb_F.find? (fun e => mx_k 11 202 e.1) = some (45258, 251, 5, [5], 0, false) := by decide +kernel
theorem fq_45312 : tb_F.find? (fun e => mx_k 11 256 e.1) = some (45312, 88, 1, [8], 0, false) := by decide +kernel
theorem fq_45321 : tb_F.find? (fun e => mx_k 11 265 e.1) = some (45321, 93, 5, [8], 0, false) := by decide +kernel
theorem fq_45324 : tb_F.find? (fun e => mx_k 11 268 e.1) = some (45324, 259, 9, [5], 0, false) := by decide +kernel
theorem fq_45335 : tb_F.find? (fun e => mx_k 11 279 e.1) = some (45335, 257, 8, [5], 2, true) := by decide +kernel
theorem fq_45339 : tb_F.find? (fun e => mx_k 11 283 e.1) = some (45339, 938, 0, [10], 0, true) := by decide +kernel
theorem fq_45342 : tb_F.find? (fun e => mx_k 11 286 e.1) = some (45342, 940, 1, [10], 0, true) := by decide +kernel
theorem fq_45345 : tb_F.find? (fun e => mx_k 11 289 e.1) = some (45345, 261, 10, [5], 2, true) := by decide +kernel
theorem fq_45358 : tb_F.find? (fun e => mx_k 11 302 e.1) = some (45358, 291, 0, [6], 0, false) := by decide +kernel
theorem fq_45366 : tb_F.find? (fun e => mx_k 11 310 e.1) = some (45366, 294, 1, [6], 0, false) := by decide +kernel
theorem fq_45399 : tb_F.find? (fun e => mx_k 11 343 e.1) = some (45399, 322, 13, [11], 0, false) := by decide +kernel
theorem fq_45402 : tb_F.find? (fun e => mx_k 11 346 e.1) = some (45402, 313, 4, [11], 1, false) := by decide +kernel
theorem fq_9 : tb_F.find? (fun e => mx_k 0 9 e.1) = some (9, 202, 1, [0], 0, false) := by decide +kernel
theorem fq_15 : tb_F.find? (fun e => mx_k 0 15 e.1) = some (15, 216, 6, [0], 1, false) := by decide +kernel
theorem fq_19 : tb_F.find? (fun e => mx_k 0 19 e.1) = some (19, 199, 0, [0], 2, false) := by decide +kernel
theorem fq_23 : tb_F.find? (fun e => mx_k 0 23 e.1) = some (23, 205, 2, [0], 0, false) := by decide +kernel
theorem fq_26 : tb_F.find? (fun e => mx_k 0 26 e.1) = some (26, 208, 3, [0], 0, false) := by decide +kernel
theorem fq_29 : tb_F.find? (fun e => mx_k 0 29 e.1) = some (29, 210, 4, [0], 0, false) := by decide +kernel
theorem fq_32 : tb_F.find? (fun e => mx_k 0 32 e.1) = some (32, 213, 5, [0], 0, false) := by decide +kernel
theorem fq_4103 : tb_F.find? (fun e => mx_k 1 7 e.1) = some (4103, 130, 0, [1, 2, 3, 4, 7, 9], 0, true) := by decide +kernel
theorem fq_4109 : tb_F.find? (fun e => mx_k 1 13 e.1) = some (4109, 132, 1, [1, 2, 3, 4, 7, 9], 2, true) := by decide +kernel
theorem fq_20491 : tb_F.find? (fun e => mx_k 5 11 e.1) = some (20491, 240, 0, [5], 2, true) := by decide +kernel
theorem fq_20501 : tb_F.find? (fun e => mx_k 5 21 e.1) = some (20501, 246, 3, [5], 2, true) := by decide +kernel
theorem fq_20504 : tb_F.find? (fun e => mx_k 5 24 e.1) = some (20504, 254, 7, [5], 0, false) := by decide +kernel
theorem fq_20510 : tb_F.find? (fun e => mx_k 5 30 e.1) = some (20510, 256, 8, [5], 2, true) := by decide +kernel
theorem fq_20514 : tb_F.find? (fun e => mx_k 5 34 e.1) = some (20514, 260, 10, [5], 2, true) := by decide +kernel
theorem fq_20536 : tb_F.find? (fun e => mx_k 5 56 e.1) = some (20536, 243, 1, [5], 0, false) := by decide +kernel
theorem fq_20539 : tb_F.find? (fun e => mx_k 5 59 e.1) = some (20539, 244, 2, [5], 0, false) := by decide +kernel
theorem fq_20542 : tb_F.find? (fun e => mx_k 5 62 e.1) = some (20542, 248, 4, [5], 0, false) := by decide +kernel
theorem fq_20545 : tb_F.find? (fun e => mx_k 5 65 e.1) = some (20545, 250, 5, [5], 0, false) := by decide +kernel
theorem fq_20548 : tb_F.find? (fun e => mx_k 5 68 e.1) = some (20548, 252, 6, [5], 0, false) := by decide +kernel
theorem fq_20551 : tb_F.find? (fun e => mx_k 5 71 e.1) = some (20551, 258, 9, [5], 0, false) := by decide +kernel
theorem fq_20559 : tb_F.find? (fun e => mx_k 5 79 e.1) = some (20559, 937, 0, [10], 0, true) := by decide +kernel
theorem fq_20566 : tb_F.find? (fun e => mx_k 5 86 e.1) = some (20566, 204, 1, [0], 0, false) := by decide +kernel
theorem fq_20573 : tb_F.find? (fun e => mx_k 5 93 e.1) = some (20573, 201, 0, [0], 2, false) := by decide +kernel
theorem fq_20591 : tb_F.find? (fun e => mx_k 5 111 e.1) = some (20591, 218, 6, [0], 1, false) := by decide +kernel
theorem fq_20636 : tb_F.find? (fun e => mx_k 5 156 e.1) = some (20636, 215, 5, [0], 0, false) := by decide +kernel
theorem fq_20645 : tb_F.find? (fun e => mx_k 5 165 e.1) = some (20645, 212, 4, [0], 0, false) := by decide +kernel
theorem fq_20657 : tb_F.find? (fun e => mx_k 5 177 e.1) = some (20657, 207, 2, [0], 0, false) := by decide +kernel
theorem fq_20663 : tb_F.find? (fun e => mx_k 5 183 e.1) = some (20663, 293, 1, [6], 0, false) := by decide +kernel
theorem fq_24585 : tb_F.find? (fun e => mx_k 6 9 e.1) = some (24585, 290, 0, [6], 0, false) := by decide +kernel
theorem fq_24591 : tb_F.find? (fun e => mx_k 6 15 e.1) = some (24591, 295, 2, [6], 2, true) := by decide +kernel
theorem fq_24595 : tb_F.find? (fun e => mx_k 6 19 e.1) = some (24595, 296, 3, [6], 2, true) := by decide +kernel
theorem fq_24599 : tb_F.find? (fun e => mx_k 6 23 e.1) = some (24599, 292, 1, [6], 0, false) := by decide +kernel
theorem fq_32777 : tb_F.find? (fun e => mx_k 8 9 e.1) = some (32777, 86, 0, [8], 2, true) := by decide +kernel
theorem fq_32783 : tb_F.find? (fun e => mx_k 8 15 e.1) = some (32783, 96, 8, [8], 2, true) := by decide +kernel
theorem fq_32787 : tb_F.find? (fun e => mx_k 8 19 e.1) = some (32787, 87, 1, [8], 0, false) := by decide +kernel
theorem fq_32791 : tb_F.find? (fun e => mx_k 8 23 e.1) = some (32791, 92, 5, [8], 0, false) := by decide +kernel
theorem fq_32794 : tb_F.find? (fun e => mx_k 8 26 e.1) = some (32794, 95, 7, [8], 0, false) := by decide +kernel
theorem fq_32797 : tb_F.find? (fun e => mx_k 8 29 e.1) = some (32797, 97, 9, [8], 0, false) := by decide +kernel
theorem fq_32800 : tb_F.find? (fun e => mx_k 8 32 e.1) = some (32800, 89, 2, [8], 0, false) := by decide +kernel
theorem fq_32803 : tb_F.find? (fun e => mx_k 8 35 e.1) = some (32803, 91, 4, [8], 0, false) := by decide +kernel
theorem fq_32816 : tb_F.find? (fun e => mx_k 8 48 e.1) = some (32816, 90, 3, [8], 0, false) := by decide +kernel
theorem fq_32821 : tb_F.find? (fun e => mx_k 8 53 e.1) = some (32821, 94, 6, [8], 0, false) := by decide +kernel
theorem fq_40967 : tb_F.find? (fun e => mx_k 10 7 e.1) = some (40967, 936, 0, [10], 0, true) := by decide +kernel
theorem fq_40973 : tb_F.find? (fun e => mx_k 10 13 e.1) = some (40973, 939, 1, [10], 0, true) := by decide +kernel
theorem fq_40976 : tb_F.find? (fun e => mx_k 10 16 e.1) = some (40976, 941, 2, [10], 2, true) := by decide +kernel
theorem fq_40986 : tb_F.find? (fun e => mx_k 10 26 e.1) = some (40986, 942, 3, [10], 2, true) := by decide +kernel
theorem fq_49159 : tb_F.find? (fun e => mx_k 12 7 e.1) = some (49159, 1073, 0, [12], 2, true) := by decide +kernel
theorem fq_49165 : tb_F.find? (fun e => mx_k 12 13 e.1) = some (49165, 1074, 1, [12], 2, true) := by decide +kernel
theorem fq_49168 : tb_F.find? (fun e => mx_k 12 16 e.1) = some (49168, 1075, 2, [12], 2, true) := by decide +kernel
theorem fq_49171 : tb_F.find? (fun e => mx_k 12 19 e.1) = some (49171, 1077, 4, [12], 2, true) := by decide +kernel
theorem fq_49174 : tb_F.find? (fun e => mx_k 12 22 e.1) = some (49174, 1078, 5, [12], 2, true) := by decide +kernel
theorem fq_49177 : tb_F.find? (fun e => mx_k 12 25 e.1) = some (49177, 1079, 6, [12], 2, true) := by decide +kernel
theorem fq_49180 : tb_F.find? (fun e => mx_k 12 28 e.1) = some (49180, 1080, 7, [12], 2, true) := by decide +kernel
theorem fq_49183 : tb_F.find? (fun e => mx_k 12 31 e.1) = some (49183, 1081, 8, [12], 2, true) := by decide +kernel
theorem fq_49186 : tb_F.find? (fun e => mx_k 12 34 e.1) = some (49186, 1082, 9, [12], 2, true) := by decide +kernel
theorem fq_49189 : tb_F.find? (fun e => mx_k 12 37 e.1) = some (49189, 1083, 10, [12], 2, true) := by decide +kernel
theorem fq_49192 : tb_F.find? (fun e => mx_k 12 40 e.1) = some (49192, 1084, 11, [12], 2, true) := by decide +kernel
theorem fq_49195 : tb_F.find? (fun e => mx_k 12 43 e.1) = some (49195, 1085, 12, [12], 2, true) := by decide +kernel
theorem fq_49198 : tb_F.find? (fun e => mx_k 12 46 e.1) = some (49198, 1086, 13, [12], 2, true) := by decide +kernel
theorem fq_49201 : tb_F.find? (fun e => mx_k 12 49 e.1) = some (49201, 1098, 25, [12], 2, true) := by decide +kernel
theorem fq_49204 : tb_F.find? (fun e => mx_k 12 52 e.1) = some (49204, 1099, 26, [12], 2, true) := by decide +kernel
theorem fq_49207 : tb_F.find? (fun e => mx_k 12 55 e.1) = some (49207, 1100, 27, [12], 2, true) := by decide +kernel
theorem fq_49210 : tb_F.find? (fun e => mx_k 12 58 e.1) = some (49210, 1101, 28, [12], 2, true) := by decide +kernel
theorem fq_49213 : tb_F.find? (fun e => mx_k 12 61 e.1) = some (49213, 1103, 30, [12], 2, true) := by decide +kernel
theorem fq_49340 : tb_F.find? (fun e => mx_k 12 188 e.1) = some (49340, 1087, 14, [12], 0, false) := by decide +kernel
theorem fq_49352 : tb_F.find? (fun e => mx_k 12 200 e.1) = some (49352, 1089, 16, [12], 0, false) := by decide +kernel
theorem fq_49355 : tb_F.find? (fun e => mx_k 12 203 e.1) = some (49355, 1090, 17, [12], 0, false) := by decide +kernel
theorem fq_49358 : tb_F.find? (fun e => mx_k 12 206 e.1) = some (49358, 1088, 15, [12], 0, false) := by decide +kernel
theorem fq_49364 : tb_F.find? (fun e => mx_k 12 212 e.1) = some (49364, 1092, 19, [12], 0, false) := by decide +kernel
theorem fq_49370 : tb_F.find? (fun e => mx_k 12 218 e.1) = some (49370, 1091, 18, [12], 0, false) := by decide +kernel
theorem fq_49377 : tb_F.find? (fun e => mx_k 12 225 e.1) = some (49377, 1096, 23, [12], 0, false) := by decide +kernel
theorem fq_49380 : tb_F.find? (fun e => mx_k 12 228 e.1) = some (49380, 1095, 22, [12], 0, false) := by decide +kernel
theorem fq_49408 : tb_F.find? (fun e => mx_k 12 256 e.1) = some (49408, 1097, 24, [12], 0, false) := by decide +kernel
theorem fq_49414 : tb_F.find? (fun e => mx_k 12 262 e.1) = some (49414, 1094, 21, [12], 0, false) := by decide +kernel
theorem fq_49417 : tb_F.find? (fun e => mx_k 12 265 e.1) = some (49417, 1093, 20, [12], 0, false) := by decide +kernel
theorem fq_49460 : tb_F.find? (fun e => mx_k 12 308 e.1) = some (49460, 1102, 29, [12], 0, false) := by decide +kernel
theorem fq_49465 : tb_F.find? (fun e => mx_k 12 313 e.1) = some (49465, 1076, 3, [12], 1, false) := by decide +kernel
theorem fq_53257 : tb_F.find? (fun e => mx_k 13 9 e.1) = some (53257, 1567, 0, [13], 2, true) := by decide +kernel
theorem fq_53263 : tb_F.find? (fun e => mx_k 13 15 e.1) = some (53263, 1568, 1, [13], 3, true) := by decide +kernel
theorem iqI_45141 : tb_I.find? (fun e => mx_k 11 85 e.1) = some (45141, 356, 14, 1, false, 357, 49, 358) := rfl
theorem iqI_45145 : tb_I.find? (fun e => mx_k 11 89 e.1) = some (45145, 359, 15, 1, false, 360, 49, 361) := rfl
theorem iqI_45148 : tb_I.find? (fun e => mx_k 11 92 e.1) = some (45148, 362, 16, 1, false, 363, 49, 364) := rfl
theorem iqI_45279 : tb_I.find? (fun e => mx_k 11 223 e.1) = some (45279, 654, 82, 1, false, 655, 49, 656) := rfl
theorem iqI_45288 : tb_I.find? (fun e => mx_k 11 232 e.1) = some (45288, 678, 88, 1, false, 679, 49, 680) := rfl
theorem iqI_45375 : tb_I.find? (fun e => mx_k 11 319 e.1) = some (45375, 999, 25, 2, false, 399, 49, 400) := rfl
theorem iqI_45386 : tb_I.find? (fun e => mx_k 11 330 e.1) = some (45386, 1022, 161, 1, false, 1023, 49, 1024) := rfl
theorem iqI_20526 : tb_I.find? (fun e => mx_k 5 46 e.1) = some (20526, 237, 11, 2, false, 238, 60, 239) := rfl
theorem iqI_20577 : tb_I.find? (fun e => mx_k 5 97 e.1) = some (20577, 398, 25, 2, true, 399, 49, 400) := rfl
theorem iqI_32824 : tb_I.find? (fun e => mx_k 8 56 e.1) = some (32824, 919, 145, 2, false, 920, 60, 921) := rfl
theorem iqI_32837 : tb_I.find? (fun e => mx_k 8 69 e.1) = some (32837, 745, 103, 1, false, 746, 50, 747) := rfl
theorem iqI_40989 : tb_I.find? (fun e => mx_k 10 29 e.1) = some (40989, 395, 24, 3, false, 396, 63, 397) := rfl
theorem iqI_49241 : tb_I.find? (fun e => mx_k 12 89 e.1) = some (49241, 1203, 181, 2, false, 1204, 62, 1205) := rfl
theorem iqI_49267 : tb_I.find? (fun e => mx_k 12 115 e.1) = some (49267, 1237, 190, 2, false, 1238, 62, 1239) := rfl
theorem iqI_49282 : tb_I.find? (fun e => mx_k 12 130 e.1) = some (49282, 1271, 198, 1, false, 1272, 62, 1273) := rfl
theorem iqI_49291 : tb_I.find? (fun e => mx_k 12 139 e.1) = some (49291, 1292, 203, 2, false, 1293, 62, 1294) := rfl
theorem iqI_49333 : tb_I.find? (fun e => mx_k 12 181 e.1) = some (49333, 1357, 219, 1, false, 1358, 62, 1359) := rfl
theorem iqI_49411 : tb_I.find? (fun e => mx_k 12 259 e.1) = some (49411, 1455, 242, 2, false, 1456, 62, 1457) := rfl
theorem iqI_49437 : tb_I.find? (fun e => mx_k 12 285 e.1) = some (49437, 1218, 185, 3, false, 1219, 62, 1220) := rfl
theorem iqI_49441 : tb_I.find? (fun e => mx_k 12 289 e.1) = some (49441, 1479, 248, 1, false, 1480, 62, 1481) := rfl
theorem iqI_49453 : tb_I.find? (fun e => mx_k 12 301 e.1) = some (49453, 1504, 253, 2, false, 1505, 62, 1506) := rfl
theorem iqI_49456 : tb_I.find? (fun e => mx_k 12 304 e.1) = some (49456, 1515, 256, 1, false, 1516, 62, 1517) := rfl
theorem iqI_53743 : tb_I.find? (fun e => mx_k 13 495 e.1) = some (53743, 775, 110, 2, false, 776, 66, 777) := rfl
theorem iqI_53746 : tb_I.find? (fun e => mx_k 13 498 e.1) = some (53746, 786, 113, 2, false, 787, 68, 788) := rfl
theorem iqI_53885 : tb_I.find? (fun e => mx_k 13 637 e.1) = some (53885, 859, 129, 4, false, 860, 66, 861) := rfl
theorem iqI_53888 : tb_I.find? (fun e => mx_k 13 640 e.1) = some (53888, 870, 132, 4, false, 871, 68, 872) := rfl
theorem iqI_54307 : tb_I.find? (fun e => mx_k 13 1059 e.1) = some (54307, 783, 112, 3, false, 784, 67, 785) := rfl
theorem iqI_54310 : tb_I.find? (fun e => mx_k 13 1062 e.1) = some (54310, 885, 136, 4, false, 886, 67, 887) := rfl
theorem iqI_57353 : tb_I.find? (fun e => mx_k 14 9 e.1) = some (57353, 778, 111, 2, false, 779, 65, 780) := rfl
theorem iqI_57432 : tb_I.find? (fun e => mx_k 14 88 e.1) = some (57432, 862, 130, 1, false, 863, 66, 864) := rfl
theorem iqI_57439 : tb_I.find? (fun e => mx_k 14 95 e.1) = some (57439, 867, 131, 4, false, 868, 66, 869) := rfl
theorem iqI_73776 : tb_I.find? (fun e => mx_k 18 48 e.1) = some (73776, 792, 115, 1, false, 793, 68, 794) := rfl
theorem iqI_73795 : tb_I.find? (fun e => mx_k 18 67 e.1) = some (73795, 789, 114, 2, false, 790, 68, 791) := rfl
theorem iqI_73799 : tb_I.find? (fun e => mx_k 18 71 e.1) = some (73799, 796, 116, 2, false, 797, 68, 798) := rfl
theorem iqI_73824 : tb_I.find? (fun e => mx_k 18 96 e.1) = some (73824, 879, 134, 3, false, 880, 68, 881) := rfl
theorem iqI_73885 : tb_I.find? (fun e => mx_k 18 157 e.1) = some (73885, 897, 140, 1, false, 898, 69, 899) := rfl
theorem iqI_73889 : tb_I.find? (fun e => mx_k 18 161 e.1) = some (73889, 901, 141, 1, false, 902, 69, 903) := rfl
theorem iqI_73892 : tb_I.find? (fun e => mx_k 18 164 e.1) = some (73892, 894, 139, 1, false, 895, 69, 896) := rfl
theorem iqI_73956 : tb_I.find? (fun e => mx_k 18 228 e.1) = some (73956, 876, 133, 4, false, 877, 68, 878) := rfl
theorem iqI_73960 : tb_I.find? (fun e => mx_k 18 232 e.1) = some (73960, 891, 138, 4, false, 892, 68, 893) := rfl
theorem iqI_73969 : tb_I.find? (fun e => mx_k 18 241 e.1) = some (73969, 882, 135, 3, false, 883, 65, 884) := rfl
theorem iqI_73972 : tb_I.find? (fun e => mx_k 18 244 e.1) = some (73972, 888, 137, 4, false, 889, 68, 890) := rfl
theorem iqI_74142 : tb_I.find? (fun e => mx_k 18 414 e.1) = some (74142, 795, 111, 2, false, 779, 65, 780) := rfl
set_option maxRecDepth 20000 in
theorem iqV_45157 : tb_V.find? (fun e => mx_k 11 101 e.1) = some (45157, 5, 367, 17, 3, false, 369, 368, 57, 370, 0, 0, 0, 0) := rfl
set_option maxRecDepth 20000 in
theorem iqV_45157_5 : tb_V.find? (fun e => mx_k 11 101 e.1 && e.2.1 == 5) = some (45157, 5, 367, 17, 3, false, 369, 368, 57, 370, 0, 0, 0, 0) := rfl
set_option maxRecDepth 20000 in
theorem iqV_45161 : tb_V.find? (fun e => mx_k 11 105 e.1) = some (45161, 5, 379, 20, 1, false, 381, 380, 57, 382, 0, 0, 0, 0) := rfl
set_option maxRecDepth 20000 in
theorem iqV_45161_5 : tb_V.find? (fun e => mx_k 11 105 e.1 && e.2.1 == 5) = some (45161, 5, 379, 20, 1, false, 381, 380, 57, 382, 0, 0, 0, 0) := rfl
set_option maxRecDepth 20000 in
theorem iqV_45193 : tb_V.find? (fun e => mx_k 11 137 e.1) = some (45193, 5, 383, 21, 1, false, 385, 384, 57, 386, 0, 0, 0, 0) := rfl
set_option maxRecDepth 20000 in
theorem iqV_45193_5 : tb_V.find? (fun e => mx_k 11 137 e.1 && e.2.1 == 5) = some (45193, 5, 383, 21, 1, false, 385, 384, 57, 386, 0, 0, 0, 0) := rfl
set_option maxRecDepth 20000 in
theorem iqV_45197 : tb_V.find? (fun e => mx_k 11 141 e.1) = some (45197, 1, 429, 35, 1, true, 431, 430, 51, 446, 432, 430, 446, 35) := rfl
set_option maxRecDepth 20000 in
theorem iqV_45197_1 : tb_V.find? (fun e => mx_k 11 141 e.1 && e.2.1 == 1) = some (45197, 1, 429, 35, 1, true, 431, 430, 51, 446, 432, 430, 446, 35) := rfl
set_option maxRecDepth 20000 in
theorem iqV_45197_2 : tb_V.find? (fun e => mx_k 11 141 e.1 && e.2.1 == 2) = some (45197, 2, 429, 32, 1, true, 433, 434, 52, 435, 432, 430, 446, 35) := rfl
set_option maxRecDepth 20000 in
theorem iqV_45197_3 : tb_V.find? (fun e => mx_k 11 141 e.1 && e.2.1 == 3) = some (45197, 3, 429, 33, 1, true, 437, 438, 55, 439, 432, 430, 446, 35) := rfl
set_option maxRecDepth 20000 in
theorem iqV_45197_4 : tb_V.find? (fun e => mx_k 11 141 e.1 && e.2.1 == 4) = some (45197, 4, 429, 32, 1, true, 443, 434, 52, 435, 432, 430, 446, 35) := rfl
set_option maxRecDepth 20000 in
theorem iqV_45197_7 : tb_V.find? (fun e => mx_k 11 141 e.1 && e.2.1 == 7) = some (45197, 7, 429, 34, 1, true, 444, 441, 53, 442, 432, 430, 446, 35) := rfl
set_option maxRecDepth 20000 in
theorem iqV_45197_9 : tb_V.find? (fun e => mx_k 11 141 e.1 && e.2.1 == 9) = some (45197, 9, 429, 35, 1, true, 445, 430, 51, 446, 432, 430, 446, 35) := rfl
set_option maxRecDepth 20000 in
theorem iqV_45201 : tb_V.find? (fun e => mx_k 11 145 e.1) = some (45201, 1, 447, 39, 0, true, 449, 448, 51, 463, 450, 448, 463, 39) := rfl
set_option maxRecDepth 20000 in
theorem iqV_45201_1 : tb_V.find? (fun e => mx_k 11 145 e.1 && e.2.1 == 1) = some (45201, 1, 447, 39, 0, true, 449, 448, 51, 463, 450, 448, 463, 39) := rfl
set_option maxRecDepth 20000 in
theorem iqV_45201_2 : tb_V.find? (fun e => mx_k 11 145 e.1 && e.2.1 == 2) = some (45201, 2, 447, 36, 0, true, 451, 452, 54, 453, 450, 448, 463, 39) := rfl
set_option maxRecDepth 20000 in
theorem iqV_45201_3 : tb_V.find? (fun e => mx_k 11 145 e.1 && e.2.1 == 3) = some (45201, 3, 447, 38, 0, true, 457, 458, 55, 459, 450, 448, 463, 39) := rfl
set_option maxRecDepth 20000 in
theorem iqV_45201_4 : tb_V.find? (fun e => mx_k 11 145 e.1 && e.2.1 == 4) = some (45201, 4, 447, 37, 0, true, 460, 455, 52, 456, 450, 448, 463, 39) := rfl
set_option maxRecDepth 20000 in
theorem iqV_45201_7 : tb_V.find? (fun e => mx_k 11 145 e.1 && e.2.1 == 7) = some (45201, 7, 447, 39, 0, true, 461, 448, 51, 463, 450, 448, 463, 39) := rfl
set_option maxRecDepth 20000 in
theorem iqV_45201_9 : tb_V.find? (fun e => mx_k 11 145 e.1 && e.2.1 == 9) = some (45201, 9, 447, 39, 0, true, 462, 448, 51, 463, 450, 448, 463, 39) := rfl
set_option maxRecDepth 20000 in
theorem iqV_45205 : tb_V.find? (fun e => mx_k 11 149 e.1) = some (45205, 1, 464, 45, 1, true, 466, 465, 51, 485, 467, 465, 485, 45) := rfl
set_option maxRecDepth 20000 in
theorem iqV_45205_1 : tb_V.find? (fun e => mx_k 11 149 e.1 && e.2.1 == 1) = some (45205, 1, 464, 45, 1, true, 466, 465, 51, 485, 467, 465, 485, 45) := rfl
set_option maxRecDepth 20000 in
theorem iqV_45205_2 : tb_V.find? (fun e => mx_k 11 149 e.1 && e.2.1 == 2) = some (45205, 2, 464, 40, 1, true, 468, 469, 54, 470, 467, 465, 485, 45) := rfl
set_option maxRecDepth 20000 in
theorem iqV_45205_3 : tb_V.find? (fun e => mx_k 11 149 e.1 && e.2.1 == 3) = some (45205, 3, 464, 42, 1, true, 474, 475, 55, 476, 467, 465, 485, 45) := rfl
set_option maxRecDepth 20000 in
theorem iqV_45205_4 : tb_V.find? (fun e => mx_k 11 149 e.1 && e.2.1 == 4) = some (45205, 4, 464, 41, 1, true, 480, 472, 52, 473, 467, 465, 485, 45) := rfl
set_option maxRecDepth 20000 in
theorem iqV_45205_7 : tb_V.find? (fun e => mx_k 11 149 e.1 && e.2.1 == 7) = some (45205, 7, 464, 43, 1, true, 481, 478, 53, 479, 467, 465, 485, 45) := rfl
set_option maxRecDepth 20000 in
theorem iqV_45205_9 : tb_V.find? (fun e => mx_k 11 149 e.1 && e.2.1 == 9) = some (45205, 9, 464, 44, 1, true, 482, 483, 56, 484, 467, 465, 485, 45) := rfl
set_option maxRecDepth 20000 in
theorem iqV_45208 : tb_V.find? (fun e => mx_k 11 152 e.1) = some (45208, 1, 490, 47, 1, true, 492, 491, 51, 499, 493, 491, 499, 47) := rfl
set_option maxRecDepth 20000 in
theorem iqV_45208_1 : tb_V.find? (fun e => mx_k 11 152 e.1 && e.2.1 == 1) = some (45208, 1, 490, 47, 1, true, 492, 491, 51, 499, 493, 491, 499, 47) := rfl
set_option maxRecDepth 20000 in
theorem iqV_45208_2 : tb_V.find? (fun e => mx_k 11 152 e.1 && e.2.1 == 2) = some (45208, 2, 490, 47, 1, true, 494, 491, 51, 499, 493, 491, 499, 47) := rfl
set_option maxRecDepth 20000 in
theorem iqV_45208_3 : tb_V.find? (fun e => mx_k 11 152 e.1 && e.2.1 == 3) = some (45208, 3, 490, 47, 1, true, 495, 491, 51, 499, 493, 491, 499, 47) := rfl
set_option maxRecDepth 20000 in
theorem iqV_45208_4 : tb_V.find? (fun e => mx_k 11 152 e.1 && e.2.1 == 4) = some (45208, 4, 490, 47, 1, true, 496, 491, 51, 499, 493, 491, 499, 47) := rfl
set_option maxRecDepth 20000 in
theorem iqV_45208_7 : tb_V.find? (fun e => mx_k 11 152 e.1 && e.2.1 == 7) = some (45208, 7, 490, 47, 1, true, 497, 491, 51, 499, 493, 491, 499, 47) := rfl
set_option maxRecDepth 20000 in
theorem iqV_45208_9 : tb_V.find? (fun e => mx_k 11 152 e.1 && e.2.1 == 9) = some (45208, 9, 490, 47, 1, true, 498, 491, 51, 499, 493, 491, 499, 47) := rfl
set_option maxRecDepth 20000 in
theorem iqV_45215 : tb_V.find? (fun e => mx_k 11 159 e.1) = some (45215, 5, 517, 52, 1, false, 519, 518, 57, 520, 0, 0, 0, 0) := rfl
set_option maxRecDepth 20000 in
theorem iqV_45215_5 : tb_V.find? (fun e => mx_k 11 159 e.1 && e.2.1 == 5) = some (45215, 5, 517, 52, 1, false, 519, 518, 57, 520, 0, 0, 0, 0) := rfl
set_option maxRecDepth 20000 in
theorem iqV_45234 : tb_V.find? (fun e => mx_k 11 178 e.1) = some (45234, 5, 533, 55, 0, false, 535, 534, 57, 536, 0, 0, 0, 0) := rfl
set_option maxRecDepth 20000 in
theorem iqV_45234_5 : tb_V.find? (fun e => mx_k 11 178 e.1 && e.2.1 == 5) = some (45234, 5, 533, 55, 0, false, 535, 534, 57, 536, 0, 0, 0, 0) := rfl
set_option maxRecDepth 20000 in
theorem iqV_45240 : tb_V.find? (fun e => mx_k 11 184 e.1) = some (45240, 5, 546, 58, 0, false, 548, 547, 57, 549, 0, 0, 0, 0) := rfl
set_option maxRecDepth 20000 in
theorem iqV_45240_5 : tb_V.find? (fun e => mx_k 11 184 e.1 && e.2.1 == 5) = some (45240, 5, 546, 58, 0, false, 548, 547, 57, 549, 0, 0, 0, 0) := rfl
set_option maxRecDepth 20000 in
theorem iqV_45243 : tb_V.find? (fun e => mx_k 11 187 e.1) = some (45243, 5, 558, 60, 0, false, 560, 559, 57, 561, 0, 0, 0, 0) := rfl
set_option maxRecDepth 20000 in
theorem iqV_45243_5 : tb_V.find? (fun e => mx_k 11 187 e.1 && e.2.1 == 5) = some (45243, 5, 558, 60, 0, false, 560, 559, 57, 561, 0, 0, 0, 0) := rfl
set_option maxRecDepth 20000 in
theorem iqV_45249 : tb_V.find? (fun e => mx_k 11 193 e.1) = some (45249, 5, 562, 61, 1, false, 564, 563, 57, 565, 0, 0, 0, 0) := rfl
set_option maxRecDepth 20000 in
theorem iqV_45249_5 : tb_V.find? (fun e => mx_k 11 193 e.1 && e.2.1 == 5) = some (45249, 5, 562, 61, 1, false, 564, 563, 57, 565, 0, 0, 0, 0) := rfl
set_option maxRecDepth 20000 in
theorem iqV_45252 : tb_V.find? (fun e => mx_k 11 196 e.1) = some (45252, 5, 615, 73, 0, false, 617, 616, 57, 618, 0, 0, 0, 0) := rfl
set_option maxRecDepth 20000 in
theorem iqV_45252_5 : tb_V.find? (fun e => mx_k 11 196 e.1 && e.2.1 == 5) = some (45252, 5, 615, 73, 0, false, 617, 616, 57, 618, 0, 0, 0, 0) := rfl
set_option maxRecDepth 20000 in
theorem iqV_45261 : tb_V.find? (fun e => mx_k 11 205 e.1) = some (45261, 5, 619, 74, 0, false, 621, 620, 57, 622, 0, 0, 0, 0) := rfl
set_option maxRecDepth 20000 in
theorem iqV_45261_5 : tb_V.find? (fun e => mx_k 11 205 e.1 && e.2.1 == 5) = some (45261, 5, 619, 74, 0, false, 621, 620, 57, 622, 0, 0, 0, 0) := rfl
set_option maxRecDepth 20000 in
theorem iqV_45264 : tb_V.find? (fun e => mx_k 11 208 e.1) = some (45264, 5, 623, 75, 0, false, 625, 624, 57, 626, 0, 0, 0, 0) := rfl
set_option maxRecDepth 20000 in
theorem iqV_45264_5 : tb_V.find? (fun e => mx_k 11 208 e.1 && e.2.1 == 5) = some (45264, 5, 623, 75, 0, false, 625, 624, 57, 626, 0, 0, 0, 0) := rfl
set_option maxRecDepth 20000 in
theorem iqV_45267 : tb_V.find? (fun e => mx_k 11 211 e.1) = some (45267, 5, 631, 77, 1, false, 633, 632, 57, 634, 0, 0, 0, 0) := rfl
set_option maxRecDepth 20000 in
theorem iqV_45267_5 : tb_V.find? (fun e => mx_k 11 211 e.1 && e.2.1 == 5) = some (45267, 5, 631, 77, 1, false, 633, 632, 57, 634, 0, 0, 0, 0) := rfl
set_option maxRecDepth 20000 in
theorem iqV_45271 : tb_V.find? (fun e => mx_k 11 215 e.1) = some (45271, 5, 643, 80, 0, false, 645, 644, 57, 646, 0, 0, 0, 0) := rfl
set_option maxRecDepth 20000 in
theorem iqV_45271_5 : tb_V.find? (fun e => mx_k 11 215 e.1 && e.2.1 == 5) = some (45271, 5, 643, 80, 0, false, 645, 644, 57, 646, 0, 0, 0, 0) := rfl
set_option maxRecDepth 20000 in
theorem iqV_45275 : tb_V.find? (fun e => mx_k 11 219 e.1) = some (45275, 5, 648, 62, 0, false, 568, 567, 57, 569, 0, 0, 0, 0) := rfl
set_option maxRecDepth 20000 in
theorem iqV_45275_5 : tb_V.find? (fun e => mx_k 11 219 e.1 && e.2.1 == 5) = some (45275, 5, 648, 62, 0, false, 568, 567, 57, 569, 0, 0, 0, 0) := rfl
set_option maxRecDepth 20000 in
theorem iqV_45282 : tb_V.find? (fun e => mx_k 11 226 e.1) = some (45282, 5, 661, 69, 0, false, 601, 600, 57, 602, 0, 0, 0, 0) := rfl
set_option maxRecDepth 20000 in
theorem iqV_45282_5 : tb_V.find? (fun e => mx_k 11 226 e.1 && e.2.1 == 5) = some (45282, 5, 661, 69, 0, false, 601, 600, 57, 602, 0, 0, 0, 0) := rfl
set_option maxRecDepth 20000 in
theorem iqV_45285 : tb_V.find? (fun e => mx_k 11 229 e.1) = some (45285, 0, 666, 85, 0, false, 668, 667, 58, 669, 0, 0, 0, 0) := rfl
set_option maxRecDepth 20000 in
theorem iqV_45285_0 : tb_V.find? (fun e => mx_k 11 229 e.1 && e.2.1 == 0) = some (45285, 0, 666, 85, 0, false, 668, 667, 58, 669, 0, 0, 0, 0) := rfl
set_option maxRecDepth 20000 in
theorem iqV_45291 : tb_V.find? (fun e => mx_k 11 235 e.1) = some (45291, 6, 681, 89, 0, false, 683, 682, 61, 684, 0, 0, 0, 0) := rfl
set_option maxRecDepth 20000 in
theorem iqV_45291_6 : tb_V.find? (fun e => mx_k 11 235 e.1 && e.2.1 == 6) = some (45291, 6, 681, 89, 0, false, 683, 682, 61, 684, 0, 0, 0, 0) := rfl
set_option maxRecDepth 20000 in
theorem iqV_45298 : tb_V.find? (fun e => mx_k 11 242 e.1) = some (45298, 5, 687, 90, 1, false, 689, 688, 57, 690, 0, 0, 0, 0) := rfl
set_option maxRecDepth 20000 in
theorem iqV_45298_5 : tb_V.find? (fun e => mx_k 11 242 e.1 && e.2.1 == 5) = some (45298, 5, 687, 90, 1, false, 689, 688, 57, 690, 0, 0, 0, 0) := rfl
set_option maxRecDepth 20000 in
theorem iqV_45302 : tb_V.find? (fun e => mx_k 11 246 e.1) = some (45302, 5, 711, 22, 1, false, 389, 388, 57, 390, 0, 0, 0, 0) := rfl
set_option maxRecDepth 20000 in
theorem iqV_45302_5 : tb_V.find? (fun e => mx_k 11 246 e.1 && e.2.1 == 5) = some (45302, 5, 711, 22, 1, false, 389, 388, 57, 390, 0, 0, 0, 0) := rfl
set_option maxRecDepth 20000 in
theorem iqV_45306 : tb_V.find? (fun e => mx_k 11 250 e.1) = some (45306, 10, 712, 23, 3, false, 393, 392, 63, 394, 0, 0, 0, 0) := rfl
set_option maxRecDepth 20000 in
theorem iqV_45306_10 : tb_V.find? (fun e => mx_k 11 250 e.1 && e.2.1 == 10) = some (45306, 10, 712, 23, 3, false, 393, 392, 63, 394, 0, 0, 0, 0) := rfl
set_option maxRecDepth 20000 in
theorem iqV_45315 : tb_V.find? (fun e => mx_k 11 259 e.1) = some (45315, 8, 721, 97, 1, false, 723, 722, 50, 724, 0, 0, 0, 0) := rfl
set_option maxRecDepth 20000 in
theorem iqV_45315_8 : tb_V.find? (fun e => mx_k 11 259 e.1 && e.2.1 == 8) = some (45315, 8, 721, 97, 1, false, 723, 722, 50, 724, 0, 0, 0, 0) := rfl
set_option maxRecDepth 20000 in
theorem iqV_45318 : tb_V.find? (fun e => mx_k 11 262 e.1) = some (45318, 8, 733, 100, 0, false, 735, 734, 50, 736, 0, 0, 0, 0) := rfl
set_option maxRecDepth 20000 in
theorem iqV_45318_8 : tb_V.find? (fun e => mx_k 11 262 e.1 && e.2.1 == 8) = some (45318, 8, 733, 100, 0, false, 735, 734, 50, 736, 0, 0, 0, 0) := rfl
set_option maxRecDepth 20000 in
theorem iqV_45327 : tb_V.find? (fun e => mx_k 11 271 e.1) = some (45327, 8, 913, 144, 0, false, 915, 914, 50, 916, 0, 0, 0, 0) := rfl
set_option maxRecDepth 20000 in
theorem iqV_45327_8 : tb_V.find? (fun e => mx_k 11 271 e.1 && e.2.1 == 8) = some (45327, 8, 913, 144, 0, false, 915, 914, 50, 916, 0, 0, 0, 0) := rfl
set_option maxRecDepth 20000 in
theorem iqV_45331 : tb_V.find? (fun e => mx_k 11 275 e.1) = some (45331, 5, 952, 147, 1, false, 954, 953, 57, 955, 0, 0, 0, 0) := rfl
set_option maxRecDepth 20000 in
theorem iqV_45331_5 : tb_V.find? (fun e => mx_k 11 275 e.1 && e.2.1 == 5) = some (45331, 5, 952, 147, 1, false, 954, 953, 57, 955, 0, 0, 0, 0) := rfl
set_option maxRecDepth 20000 in
theorem iqV_45348 : tb_V.find? (fun e => mx_k 11 292 e.1) = some (45348, 6, 968, 151, 0, false, 970, 969, 61, 971, 0, 0, 0, 0) := rfl
set_option maxRecDepth 20000 in
theorem iqV_45348_6 : tb_V.find? (fun e => mx_k 11 292 e.1 && e.2.1 == 6) = some (45348, 6, 968, 151, 0, false, 970, 969, 61, 971, 0, 0, 0, 0) := rfl
set_option maxRecDepth 20000 in
theorem iqV_45352 : tb_V.find? (fun e => mx_k 11 296 e.1) = some (45352, 6, 973, 152, 2, false, 975, 974, 61, 976, 0, 0, 0, 0) := rfl
set_option maxRecDepth 20000 in
theorem iqV_45352_6 : tb_V.find? (fun e => mx_k 11 296 e.1 && e.2.1 == 6) = some (45352, 6, 973, 152, 2, false, 975, 974, 61, 976, 0, 0, 0, 0) := rfl
set_option maxRecDepth 20000 in
theorem iqV_45356 : tb_V.find? (fun e => mx_k 11 300 e.1) = some (45356, 6, 983, 92, 1, false, 697, 696, 61, 698, 0, 0, 0, 0) := rfl
set_option maxRecDepth 20000 in
theorem iqV_45356_6 : tb_V.find? (fun e => mx_k 11 300 e.1 && e.2.1 == 6) = some (45356, 6, 983, 92, 1, false, 697, 696, 61, 698, 0, 0, 0, 0) := rfl
set_option maxRecDepth 20000 in
theorem iqV_45363 : tb_V.find? (fun e => mx_k 11 307 e.1) = some (45363, 6, 987, 154, 2, false, 989, 988, 61, 990, 0, 0, 0, 0) := rfl
set_option maxRecDepth 20000 in
theorem iqV_45363_6 : tb_V.find? (fun e => mx_k 11 307 e.1 && e.2.1 == 6) = some (45363, 6, 987, 154, 2, false, 989, 988, 61, 990, 0, 0, 0, 0) := rfl
set_option maxRecDepth 20000 in
theorem iqV_45369 : tb_V.find? (fun e => mx_k 11 313 e.1) = some (45369, 6, 997, 91, 1, false, 693, 692, 61, 694, 0, 0, 0, 0) := rfl
set_option maxRecDepth 20000 in
theorem iqV_45369_6 : tb_V.find? (fun e => mx_k 11 313 e.1 && e.2.1 == 6) = some (45369, 6, 997, 91, 1, false, 693, 692, 61, 694, 0, 0, 0, 0) := rfl
set_option maxRecDepth 20000 in
theorem iqV_45372 : tb_V.find? (fun e => mx_k 11 316 e.1) = some (45372, 6, 998, 93, 1, false, 702, 701, 61, 703, 0, 0, 0, 0) := rfl
set_option maxRecDepth 20000 in
theorem iqV_45372_6 : tb_V.find? (fun e => mx_k 11 316 e.1 && e.2.1 == 6) = some (45372, 6, 998, 93, 1, false, 702, 701, 61, 703, 0, 0, 0, 0) := rfl
set_option maxRecDepth 20000 in
theorem iqV_45378 : tb_V.find? (fun e => mx_k 11 322 e.1) = some (45378, 6, 1008, 158, 2, false, 1010, 1009, 61, 1011, 0, 0, 0, 0) := rfl
set_option maxRecDepth 20000 in
theorem iqV_45378_6 : tb_V.find? (fun e => mx_k 11 322 e.1 && e.2.1 == 6) = some (45378, 6, 1008, 158, 2, false, 1010, 1009, 61, 1011, 0, 0, 0, 0) := rfl
set_option maxRecDepth 20000 in
theorem iqV_45382 : tb_V.find? (fun e => mx_k 11 326 e.1) = some (45382, 6, 1012, 159, 4, false, 1014, 1013, 61, 1015, 0, 0, 0, 0) := rfl
set_option maxRecDepth 20000 in
theorem iqV_45382_6 : tb_V.find? (fun e => mx_k 11 326 e.1 && e.2.1 == 6) = some (45382, 6, 1012, 159, 4, false, 1014, 1013, 61, 1015, 0, 0, 0, 0) := rfl
set_option maxRecDepth 20000 in
theorem iqV_45389 : tb_V.find? (fun e => mx_k 11 333 e.1) = some (45389, 0, 1025, 78, 1, false, 637, 636, 58, 638, 0, 0, 0, 0) := rfl
set_option maxRecDepth 20000 in
theorem iqV_45389_0 : tb_V.find? (fun e => mx_k 11 333 e.1 && e.2.1 == 0) = some (45389, 0, 1025, 78, 1, false, 637, 636, 58, 638, 0, 0, 0, 0) := rfl
set_option maxRecDepth 20000 in
theorem iqV_45392 : tb_V.find? (fun e => mx_k 11 336 e.1) = some (45392, 6, 1026, 162, 1, false, 1028, 1027, 61, 1029, 0, 0, 0, 0) := rfl
set_option maxRecDepth 20000 in
theorem iqV_45392_6 : tb_V.find? (fun e => mx_k 11 336 e.1 && e.2.1 == 6) = some (45392, 6, 1026, 162, 1, false, 1028, 1027, 61, 1029, 0, 0, 0, 0) := rfl
set_option maxRecDepth 20000 in
theorem iqV_45395 : tb_V.find? (fun e => mx_k 11 339 e.1) = some (45395, 11, 1034, 164, 2, false, 6, 1036, 49, 1037, 0, 0, 0, 0) := rfl
set_option maxRecDepth 20000 in
theorem iqV_45395_11 : tb_V.find? (fun e => mx_k 11 339 e.1 && e.2.1 == 11) = some (45395, 11, 1034, 164, 2, false, 6, 1036, 49, 1037, 0, 0, 0, 0) := rfl
set_option maxRecDepth 20000 in
theorem iqV_20532 : tb_V.find? (fun e => mx_k 5 52 e.1) = some (20532, 0, 635, 78, 1, false, 637, 636, 58, 638, 0, 0, 0, 0) := rfl
set_option maxRecDepth 20000 in
theorem iqV_20532_0 : tb_V.find? (fun e => mx_k 5 52 e.1 && e.2.1 == 0) = some (20532, 0, 635, 78, 1, false, 637, 636, 58, 638, 0, 0, 0, 0) := rfl
set_option maxRecDepth 20000 in
theorem iqV_20554 : tb_V.find? (fun e => mx_k 5 74 e.1) = some (20554, 0, 371, 18, 3, false, 373, 372, 58, 374, 0, 0, 0, 0) := rfl
set_option maxRecDepth 20000 in
theorem iqV_20554_0 : tb_V.find? (fun e => mx_k 5 74 e.1 && e.2.1 == 0) = some (20554, 0, 371, 18, 3, false, 373, 372, 58, 374, 0, 0, 0, 0) := rfl
set_option maxRecDepth 20000 in
theorem iqV_20562 : tb_V.find? (fun e => mx_k 5 82 e.1) = some (20562, 5, 387, 22, 1, false, 389, 388, 57, 390, 0, 0, 0, 0) := rfl
set_option maxRecDepth 20000 in
theorem iqV_20562_5 : tb_V.find? (fun e => mx_k 5 82 e.1 && e.2.1 == 5) = some (20562, 5, 387, 22, 1, false, 389, 388, 57, 390, 0, 0, 0, 0) := rfl
set_option maxRecDepth 20000 in
theorem iqV_20569 : tb_V.find? (fun e => mx_k 5 89 e.1) = some (20569, 10, 391, 23, 3, false, 393, 392, 63, 394, 0, 0, 0, 0) := rfl
set_option maxRecDepth 20000 in
theorem iqV_20569_10 : tb_V.find? (fun e => mx_k 5 89 e.1 && e.2.1 == 10) = some (20569, 10, 391, 23, 3, false, 393, 392, 63, 394, 0, 0, 0, 0) := rfl
set_option maxRecDepth 20000 in
theorem iqV_20581 : tb_V.find? (fun e => mx_k 5 101 e.1) = some (20581, 1, 407, 31, 1, true, 409, 408, 51, 428, 410, 408, 428, 31) := rfl
set_option maxRecDepth 20000 in
theorem iqV_20581_1 : tb_V.find? (fun e => mx_k 5 101 e.1 && e.2.1 == 1) = some (20581, 1, 407, 31, 1, true, 409, 408, 51, 428, 410, 408, 428, 31) := rfl
set_option maxRecDepth 20000 in
theorem iqV_20581_2 : tb_V.find? (fun e => mx_k 5 101 e.1 && e.2.1 == 2) = some (20581, 2, 407, 26, 1, true, 411, 412, 54, 413, 410, 408, 428, 31) := rfl
set_option maxRecDepth 20000 in
theorem iqV_20581_3 : tb_V.find? (fun e => mx_k 5 101 e.1 && e.2.1 == 3) = some (20581, 3, 407, 28, 1, true, 417, 418, 55, 419, 410, 408, 428, 31) := rfl
set_option maxRecDepth 20000 in
theorem iqV_20581_4 : tb_V.find? (fun e => mx_k 5 101 e.1 && e.2.1 == 4) = some (20581, 4, 407, 27, 1, true, 423, 415, 52, 416, 410, 408, 428, 31) := rfl
set_option maxRecDepth 20000 in
theorem iqV_20581_7 : tb_V.find? (fun e => mx_k 5 101 e.1 && e.2.1 == 7) = some (20581, 7, 407, 29, 1, true, 424, 421, 53, 422, 410, 408, 428, 31) := rfl
set_option maxRecDepth 20000 in
theorem iqV_20581_9 : tb_V.find? (fun e => mx_k 5 101 e.1 && e.2.1 == 9) = some (20581, 9, 407, 30, 1, true, 425, 426, 56, 427, 410, 408, 428, 31) := rfl
set_option maxRecDepth 20000 in
theorem iqV_20587 : tb_V.find? (fun e => mx_k 5 107 e.1) = some (20587, 5, 550, 20, 1, false, 381, 380, 57, 382, 0, 0, 0, 0) := rfl
set_option maxRecDepth 20000 in
theorem iqV_20587_5 : tb_V.find? (fun e => mx_k 5 107 e.1 && e.2.1 == 5) = some (20587, 5, 550, 20, 1, false, 381, 380, 57, 382, 0, 0, 0, 0) := rfl
set_option maxRecDepth 20000 in
theorem iqV_20595 : tb_V.find? (fun e => mx_k 5 115 e.1) = some (20595, 1, 551, 35, 1, true, 431, 430, 51, 446, 432, 430, 446, 35) := rfl
set_option maxRecDepth 20000 in
theorem iqV_20595_1 : tb_V.find? (fun e => mx_k 5 115 e.1 && e.2.1 == 1) = some (20595, 1, 551, 35, 1, true, 431, 430, 51, 446, 432, 430, 446, 35) := rfl
set_option maxRecDepth 20000 in
theorem iqV_20595_2 : tb_V.find? (fun e => mx_k 5 115 e.1 && e.2.1 == 2) = some (20595, 2, 551, 32, 1, true, 433, 434, 52, 435, 432, 430, 446, 35) := rfl
set_option maxRecDepth 20000 in
theorem iqV_20595_3 : tb_V.find? (fun e => mx_k 5 115 e.1 && e.2.1 == 3) = some (20595, 3, 551, 33, 1, true, 437, 438, 55, 439, 432, 430, 446, 35) := rfl
set_option maxRecDepth 20000 in
theorem iqV_20595_4 : tb_V.find? (fun e => mx_k 5 115 e.1 && e.2.1 == 4) = some (20595, 4, 551, 32, 1, true, 443, 434, 52, 435, 432, 430, 446, 35) := rfl
set_option maxRecDepth 20000 in
theorem iqV_20595_7 : tb_V.find? (fun e => mx_k 5 115 e.1 && e.2.1 == 7) = some (20595, 7, 551, 34, 1, true, 444, 441, 53, 442, 432, 430, 446, 35) := rfl
set_option maxRecDepth 20000 in
theorem iqV_20595_9 : tb_V.find? (fun e => mx_k 5 115 e.1 && e.2.1 == 9) = some (20595, 9, 551, 35, 1, true, 445, 430, 51, 446, 432, 430, 446, 35) := rfl
set_option maxRecDepth 20000 in
theorem iqV_20598 : tb_V.find? (fun e => mx_k 5 118 e.1) = some (20598, 5, 552, 21, 1, false, 385, 384, 57, 386, 0, 0, 0, 0) := rfl
set_option maxRecDepth 20000 in
theorem iqV_20598_5 : tb_V.find? (fun e => mx_k 5 118 e.1 && e.2.1 == 5) = some (20598, 5, 552, 21, 1, false, 385, 384, 57, 386, 0, 0, 0, 0) := rfl
set_option maxRecDepth 20000 in
theorem iqV_20607 : tb_V.find? (fun e => mx_k 5 127 e.1) = some (20607, 5, 566, 62, 0, false, 568, 567, 57, 569, 0, 0, 0, 0) := rfl
set_option maxRecDepth 20000 in
theorem iqV_20607_5 : tb_V.find? (fun e => mx_k 5 127 e.1 && e.2.1 == 5) = some (20607, 5, 566, 62, 0, false, 568, 567, 57, 569, 0, 0, 0, 0) := rfl
set_option maxRecDepth 20000 in
theorem iqV_20610 : tb_V.find? (fun e => mx_k 5 130 e.1) = some (20610, 5, 570, 55, 0, false, 535, 534, 57, 536, 0, 0, 0, 0) := rfl
set_option maxRecDepth 20000 in
theorem iqV_20610_5 : tb_V.find? (fun e => mx_k 5 130 e.1 && e.2.1 == 5) = some (20610, 5, 570, 55, 0, false, 535, 534, 57, 536, 0, 0, 0, 0) := rfl
set_option maxRecDepth 20000 in
theorem iqV_20614 : tb_V.find? (fun e => mx_k 5 134 e.1) = some (20614, 5, 571, 63, 0, false, 573, 572, 57, 574, 0, 0, 0, 0) := rfl
set_option maxRecDepth 20000 in
theorem iqV_20614_5 : tb_V.find? (fun e => mx_k 5 134 e.1 && e.2.1 == 5) = some (20614, 5, 571, 63, 0, false, 573, 572, 57, 574, 0, 0, 0, 0) := rfl
set_option maxRecDepth 20000 in
theorem iqV_20617 : tb_V.find? (fun e => mx_k 5 137 e.1) = some (20617, 5, 580, 58, 0, false, 548, 547, 57, 549, 0, 0, 0, 0) := rfl
set_option maxRecDepth 20000 in
theorem iqV_20617_5 : tb_V.find? (fun e => mx_k 5 137 e.1 && e.2.1 == 5) = some (20617, 5, 580, 58, 0, false, 548, 547, 57, 549, 0, 0, 0, 0) := rfl
set_option maxRecDepth 20000 in
theorem iqV_20620 : tb_V.find? (fun e => mx_k 5 140 e.1) = some (20620, 5, 581, 65, 1, false, 583, 582, 57, 584, 0, 0, 0, 0) := rfl
set_option maxRecDepth 20000 in
theorem iqV_20620_5 : tb_V.find? (fun e => mx_k 5 140 e.1 && e.2.1 == 5) = some (20620, 5, 581, 65, 1, false, 583, 582, 57, 584, 0, 0, 0, 0) := rfl
set_option maxRecDepth 20000 in
theorem iqV_20624 : tb_V.find? (fun e => mx_k 5 144 e.1) = some (20624, 5, 591, 67, 0, false, 593, 592, 57, 594, 0, 0, 0, 0) := rfl
set_option maxRecDepth 20000 in
theorem iqV_20624_5 : tb_V.find? (fun e => mx_k 5 144 e.1 && e.2.1 == 5) = some (20624, 5, 591, 67, 0, false, 593, 592, 57, 594, 0, 0, 0, 0) := rfl
set_option maxRecDepth 20000 in
theorem iqV_20627 : tb_V.find? (fun e => mx_k 5 147 e.1) = some (20627, 5, 595, 68, 0, false, 597, 596, 57, 598, 0, 0, 0, 0) := rfl
set_option maxRecDepth 20000 in
theorem iqV_20627_5 : tb_V.find? (fun e => mx_k 5 147 e.1 && e.2.1 == 5) = some (20627, 5, 595, 68, 0, false, 597, 596, 57, 598, 0, 0, 0, 0) := rfl
set_option maxRecDepth 20000 in
theorem iqV_20630 : tb_V.find? (fun e => mx_k 5 150 e.1) = some (20630, 5, 575, 64, 0, false, 577, 576, 57, 578, 0, 0, 0, 0) := rfl
set_option maxRecDepth 20000 in
theorem iqV_20630_5 : tb_V.find? (fun e => mx_k 5 150 e.1 && e.2.1 == 5) = some (20630, 5, 575, 64, 0, false, 577, 576, 57, 578, 0, 0, 0, 0) := rfl
set_option maxRecDepth 20000 in
theorem iqV_20633 : tb_V.find? (fun e => mx_k 5 153 e.1) = some (20633, 5, 579, 52, 1, false, 519, 518, 57, 520, 0, 0, 0, 0) := rfl
set_option maxRecDepth 20000 in
theorem iqV_20633_5 : tb_V.find? (fun e => mx_k 5 153 e.1 && e.2.1 == 5) = some (20633, 5, 579, 52, 1, false, 519, 518, 57, 520, 0, 0, 0, 0) := rfl
set_option maxRecDepth 20000 in
theorem iqV_20639 : tb_V.find? (fun e => mx_k 5 159 e.1) = some (20639, 1, 585, 39, 0, true, 449, 448, 51, 463, 450, 448, 463, 39) := rfl
set_option maxRecDepth 20000 in
theorem iqV_20639_1 : tb_V.find? (fun e => mx_k 5 159 e.1 && e.2.1 == 1) = some (20639, 1, 585, 39, 0, true, 449, 448, 51, 463, 450, 448, 463, 39) := rfl
set_option maxRecDepth 20000 in
theorem iqV_20639_2 : tb_V.find? (fun e => mx_k 5 159 e.1 && e.2.1 == 2) = some (20639, 2, 585, 36, 0, true, 451, 452, 54, 453, 450, 448, 463, 39) := rfl
set_option maxRecDepth 20000 in
theorem iqV_20639_3 : tb_V.find? (fun e => mx_k 5 159 e.1 && e.2.1 == 3) = some (20639, 3, 585, 38, 0, true, 457, 458, 55, 459, 450, 448, 463, 39) := rfl
set_option maxRecDepth 20000 in
theorem iqV_20639_4 : tb_V.find? (fun e => mx_k 5 159 e.1 && e.2.1 == 4) = some (20639, 4, 585, 37, 0, true, 460, 455, 52, 456, 450, 448, 463, 39) := rfl
set_option maxRecDepth 20000 in
theorem iqV_20639_7 : tb_V.find? (fun e => mx_k 5 159 e.1 && e.2.1 == 7) = some (20639, 7, 585, 39, 0, true, 461, 448, 51, 463, 450, 448, 463, 39) := rfl
set_option maxRecDepth 20000 in
theorem iqV_20639_9 : tb_V.find? (fun e => mx_k 5 159 e.1 && e.2.1 == 9) = some (20639, 9, 585, 39, 0, true, 462, 448, 51, 463, 450, 448, 463, 39) := rfl
set_option maxRecDepth 20000 in
theorem iqV_20642 : tb_V.find? (fun e => mx_k 5 162 e.1) = some (20642, 0, 586, 66, 1, false, 588, 587, 58, 589, 0, 0, 0, 0) := rfl
set_option maxRecDepth 20000 in
theorem iqV_20642_0 : tb_V.find? (fun e => mx_k 5 162 e.1 && e.2.1 == 0) = some (20642, 0, 586, 66, 1, false, 588, 587, 58, 589, 0, 0, 0, 0) := rfl
set_option maxRecDepth 20000 in
theorem iqV_20648 : tb_V.find? (fun e => mx_k 5 168 e.1) = some (20648, 5, 599, 69, 0, false, 601, 600, 57, 602, 0, 0, 0, 0) := rfl
set_option maxRecDepth 20000 in
theorem iqV_20648_5 : tb_V.find? (fun e => mx_k 5 168 e.1 && e.2.1 == 5) = some (20648, 5, 599, 69, 0, false, 601, 600, 57, 602, 0, 0, 0, 0) := rfl
set_option maxRecDepth 20000 in
theorem iqV_20651 : tb_V.find? (fun e => mx_k 5 171 e.1) = some (20651, 5, 603, 70, 0, false, 605, 604, 57, 606, 0, 0, 0, 0) := rfl
set_option maxRecDepth 20000 in
theorem iqV_20651_5 : tb_V.find? (fun e => mx_k 5 171 e.1 && e.2.1 == 5) = some (20651, 5, 603, 70, 0, false, 605, 604, 57, 606, 0, 0, 0, 0) := rfl
set_option maxRecDepth 20000 in
theorem iqV_20654 : tb_V.find? (fun e => mx_k 5 174 e.1) = some (20654, 0, 607, 71, 0, false, 609, 608, 58, 610, 0, 0, 0, 0) := rfl
set_option maxRecDepth 20000 in
theorem iqV_20654_0 : tb_V.find? (fun e => mx_k 5 174 e.1 && e.2.1 == 0) = some (20654, 0, 607, 71, 0, false, 609, 608, 58, 610, 0, 0, 0, 0) := rfl
set_option maxRecDepth 20000 in
theorem iqV_20660 : tb_V.find? (fun e => mx_k 5 180 e.1) = some (20660, 5, 647, 75, 0, false, 625, 624, 57, 626, 0, 0, 0, 0) := rfl
set_option maxRecDepth 20000 in
theorem iqV_20660_5 : tb_V.find? (fun e => mx_k 5 180 e.1 && e.2.1 == 5) = some (20660, 5, 647, 75, 0, false, 625, 624, 57, 626, 0, 0, 0, 0) := rfl
set_option maxRecDepth 20000 in
theorem iqV_20668 : tb_V.find? (fun e => mx_k 5 188 e.1) = some (20668, 6, 691, 91, 1, false, 693, 692, 61, 694, 0, 0, 0, 0) := rfl
set_option maxRecDepth 20000 in
theorem iqV_20668_6 : tb_V.find? (fun e => mx_k 5 188 e.1 && e.2.1 == 6) = some (20668, 6, 691, 91, 1, false, 693, 692, 61, 694, 0, 0, 0, 0) := rfl
set_option maxRecDepth 20000 in
theorem iqV_20671 : tb_V.find? (fun e => mx_k 5 191 e.1) = some (20671, 6, 700, 93, 1, false, 702, 701, 61, 703, 0, 0, 0, 0) := rfl
set_option maxRecDepth 20000 in
theorem iqV_20671_6 : tb_V.find? (fun e => mx_k 5 191 e.1 && e.2.1 == 6) = some (20671, 6, 700, 93, 1, false, 702, 701, 61, 703, 0, 0, 0, 0) := rfl
set_option maxRecDepth 20000 in
theorem iqV_24611 : tb_V.find? (fun e => mx_k 6 35 e.1) = some (24611, 6, 695, 92, 1, false, 697, 696, 61, 698, 0, 0, 0, 0) := rfl
set_option maxRecDepth 20000 in
theorem iqV_24611_6 : tb_V.find? (fun e => mx_k 6 35 e.1 && e.2.1 == 6) = some (24611, 6, 695, 92, 1, false, 697, 696, 61, 698, 0, 0, 0, 0) := rfl
set_option maxRecDepth 20000 in
theorem iqV_24618 : tb_V.find? (fun e => mx_k 6 42 e.1) = some (24618, 6, 1016, 158, 2, false, 1010, 1009, 61, 1011, 0, 0, 0, 0) := rfl
set_option maxRecDepth 20000 in
theorem iqV_24618_6 : tb_V.find? (fun e => mx_k 6 42 e.1 && e.2.1 == 6) = some (24618, 6, 1016, 158, 2, false, 1010, 1009, 61, 1011, 0, 0, 0, 0) := rfl
set_option maxRecDepth 20000 in
theorem iqV_32806 : tb_V.find? (fun e => mx_k 8 38 e.1) = some (32806, 8, 737, 101, 0, false, 739, 738, 50, 740, 0, 0, 0, 0) := rfl
set_option maxRecDepth 20000 in
theorem iqV_32806_8 : tb_V.find? (fun e => mx_k 8 38 e.1 && e.2.1 == 8) = some (32806, 8, 737, 101, 0, false, 739, 738, 50, 740, 0, 0, 0, 0) := rfl
set_option maxRecDepth 20000 in
theorem iqV_32809 : tb_V.find? (fun e => mx_k 8 41 e.1) = some (32809, 8, 748, 104, 0, false, 750, 749, 50, 751, 0, 0, 0, 0) := rfl
set_option maxRecDepth 20000 in
theorem iqV_32809_8 : tb_V.find? (fun e => mx_k 8 41 e.1 && e.2.1 == 8) = some (32809, 8, 748, 104, 0, false, 750, 749, 50, 751, 0, 0, 0, 0) := rfl
set_option maxRecDepth 20000 in
theorem iqV_32812 : tb_V.find? (fun e => mx_k 8 44 e.1) = some (32812, 8, 807, 117, 2, false, 0, 809, 50, 810, 0, 0, 0, 0) := rfl
set_option maxRecDepth 20000 in
theorem iqV_32812_8 : tb_V.find? (fun e => mx_k 8 44 e.1 && e.2.1 == 8) = some (32812, 8, 807, 117, 2, false, 0, 809, 50, 810, 0, 0, 0, 0) := rfl
set_option maxRecDepth 20000 in
theorem iqV_32833 : tb_V.find? (fun e => mx_k 8 65 e.1) = some (32833, 8, 741, 102, 1, false, 743, 742, 50, 744, 0, 0, 0, 0) := rfl
set_option maxRecDepth 20000 in
theorem iqV_32833_8 : tb_V.find? (fun e => mx_k 8 65 e.1 && e.2.1 == 8) = some (32833, 8, 741, 102, 1, false, 743, 742, 50, 744, 0, 0, 0, 0) := rfl
set_option maxRecDepth 20000 in
theorem iqV_32840 : tb_V.find? (fun e => mx_k 8 72 e.1) = some (32840, 13, 757, 106, 0, false, 759, 758, 65, 760, 0, 0, 0, 0) := rfl
set_option maxRecDepth 20000 in
theorem iqV_32840_13 : tb_V.find? (fun e => mx_k 8 72 e.1 && e.2.1 == 13) = some (32840, 13, 757, 106, 0, false, 759, 758, 65, 760, 0, 0, 0, 0) := rfl
set_option maxRecDepth 20000 in
theorem iqV_32845 : tb_V.find? (fun e => mx_k 8 77 e.1) = some (32845, 13, 767, 108, 1, false, 769, 768, 65, 770, 0, 0, 0, 0) := rfl
set_option maxRecDepth 20000 in
theorem iqV_32845_13 : tb_V.find? (fun e => mx_k 8 77 e.1 && e.2.1 == 13) = some (32845, 13, 767, 108, 1, false, 769, 768, 65, 770, 0, 0, 0, 0) := rfl
set_option maxRecDepth 20000 in
theorem iqV_32851 : tb_V.find? (fun e => mx_k 8 83 e.1) = some (32851, 8, 753, 105, 1, false, 755, 754, 50, 756, 0, 0, 0, 0) := rfl
set_option maxRecDepth 20000 in
theorem iqV_32851_8 : tb_V.find? (fun e => mx_k 8 83 e.1 && e.2.1 == 8) = some (32851, 8, 753, 105, 1, false, 755, 754, 50, 756, 0, 0, 0, 0) := rfl
set_option maxRecDepth 20000 in
theorem iqV_32859 : tb_V.find? (fun e => mx_k 8 91 e.1) = some (32859, 8, 811, 118, 2, false, 1, 813, 50, 814, 0, 0, 0, 0) := rfl
set_option maxRecDepth 20000 in
theorem iqV_32859_8 : tb_V.find? (fun e => mx_k 8 91 e.1 && e.2.1 == 8) = some (32859, 8, 811, 118, 2, false, 1, 813, 50, 814, 0, 0, 0, 0) := rfl
set_option maxRecDepth 20000 in
theorem iqV_32862 : tb_V.find? (fun e => mx_k 8 94 e.1) = some (32862, 8, 905, 142, 1, false, 907, 906, 50, 908, 0, 0, 0, 0) := rfl
set_option maxRecDepth 20000 in
theorem iqV_32862_8 : tb_V.find? (fun e => mx_k 8 94 e.1 && e.2.1 == 8) = some (32862, 8, 905, 142, 1, false, 907, 906, 50, 908, 0, 0, 0, 0) := rfl
set_option maxRecDepth 20000 in
theorem iqV_32866 : tb_V.find? (fun e => mx_k 8 98 e.1) = some (32866, 8, 839, 125, 1, false, 841, 840, 50, 842, 0, 0, 0, 0) := rfl
set_option maxRecDepth 20000 in
theorem iqV_32866_8 : tb_V.find? (fun e => mx_k 8 98 e.1 && e.2.1 == 8) = some (32866, 8, 839, 125, 1, false, 841, 840, 50, 842, 0, 0, 0, 0) := rfl
set_option maxRecDepth 20000 in
theorem iqV_32870 : tb_V.find? (fun e => mx_k 8 102 e.1) = some (32870, 8, 815, 119, 2, false, 2, 817, 50, 818, 0, 0, 0, 0) := rfl
set_option maxRecDepth 20000 in
theorem iqV_32870_8 : tb_V.find? (fun e => mx_k 8 102 e.1 && e.2.1 == 8) = some (32870, 8, 815, 119, 2, false, 2, 817, 50, 818, 0, 0, 0, 0) := rfl
set_option maxRecDepth 20000 in
theorem iqV_32873 : tb_V.find? (fun e => mx_k 8 105 e.1) = some (32873, 8, 819, 120, 2, false, 3, 821, 50, 822, 0, 0, 0, 0) := rfl
set_option maxRecDepth 20000 in
theorem iqV_32873_8 : tb_V.find? (fun e => mx_k 8 105 e.1 && e.2.1 == 8) = some (32873, 8, 819, 120, 2, false, 3, 821, 50, 822, 0, 0, 0, 0) := rfl
set_option maxRecDepth 20000 in
theorem iqV_32876 : tb_V.find? (fun e => mx_k 8 108 e.1) = some (32876, 8, 823, 121, 2, false, 4, 825, 50, 826, 0, 0, 0, 0) := rfl
set_option maxRecDepth 20000 in
theorem iqV_32876_8 : tb_V.find? (fun e => mx_k 8 108 e.1 && e.2.1 == 8) = some (32876, 8, 823, 121, 2, false, 4, 825, 50, 826, 0, 0, 0, 0) := rfl
set_option maxRecDepth 20000 in
theorem iqV_32879 : tb_V.find? (fun e => mx_k 8 111 e.1) = some (32879, 8, 827, 122, 2, false, 5, 829, 50, 830, 0, 0, 0, 0) := rfl
set_option maxRecDepth 20000 in
theorem iqV_32879_8 : tb_V.find? (fun e => mx_k 8 111 e.1 && e.2.1 == 8) = some (32879, 8, 827, 122, 2, false, 5, 829, 50, 830, 0, 0, 0, 0) := rfl
set_option maxRecDepth 20000 in
theorem iqV_32882 : tb_V.find? (fun e => mx_k 8 114 e.1) = some (32882, 8, 831, 123, 0, false, 833, 832, 50, 834, 0, 0, 0, 0) := rfl
set_option maxRecDepth 20000 in
theorem iqV_32882_8 : tb_V.find? (fun e => mx_k 8 114 e.1 && e.2.1 == 8) = some (32882, 8, 831, 123, 0, false, 833, 832, 50, 834, 0, 0, 0, 0) := rfl
set_option maxRecDepth 20000 in
theorem iqV_32885 : tb_V.find? (fun e => mx_k 8 117 e.1) = some (32885, 8, 835, 124, 1, false, 837, 836, 50, 838, 0, 0, 0, 0) := rfl
set_option maxRecDepth 20000 in
theorem iqV_32885_8 : tb_V.find? (fun e => mx_k 8 117 e.1 && e.2.1 == 8) = some (32885, 8, 835, 124, 1, false, 837, 836, 50, 838, 0, 0, 0, 0) := rfl
set_option maxRecDepth 20000 in
theorem iqV_32888 : tb_V.find? (fun e => mx_k 8 120 e.1) = some (32888, 8, 843, 126, 0, false, 845, 844, 50, 846, 0, 0, 0, 0) := rfl
set_option maxRecDepth 20000 in
theorem iqV_32888_8 : tb_V.find? (fun e => mx_k 8 120 e.1 && e.2.1 == 8) = some (32888, 8, 843, 126, 0, false, 845, 844, 50, 846, 0, 0, 0, 0) := rfl
set_option maxRecDepth 20000 in
theorem iqV_32891 : tb_V.find? (fun e => mx_k 8 123 e.1) = some (32891, 8, 909, 143, 0, false, 911, 910, 50, 912, 0, 0, 0, 0) := rfl
set_option maxRecDepth 20000 in
theorem iqV_32891_8 : tb_V.find? (fun e => mx_k 8 123 e.1 && e.2.1 == 8) = some (32891, 8, 909, 143, 0, false, 911, 910, 50, 912, 0, 0, 0, 0) := rfl
set_option maxRecDepth 20000 in
theorem iqV_32900 : tb_V.find? (fun e => mx_k 8 132 e.1) = some (32900, 13, 850, 127, 1, false, 852, 851, 65, 853, 0, 0, 0, 0) := rfl
set_option maxRecDepth 20000 in
theorem iqV_32900_13 : tb_V.find? (fun e => mx_k 8 132 e.1 && e.2.1 == 13) = some (32900, 13, 850, 127, 1, false, 852, 851, 65, 853, 0, 0, 0, 0) := rfl
set_option maxRecDepth 20000 in
theorem iqV_81933 : tb_V.find? (fun e => mx_k 20 13 e.1) = some (81933, 11, 352, 13, 3, false, 354, 353, 49, 355, 0, 0, 0, 0) := rfl
set_option maxRecDepth 20000 in
theorem iqV_81933_11 : tb_V.find? (fun e => mx_k 20 13 e.1 && e.2.1 == 11) = some (81933, 11, 352, 13, 3, false, 354, 353, 49, 355, 0, 0, 0, 0) := rfl
set_option maxRecDepth 20000 in
theorem iqV_81937 : tb_V.find? (fun e => mx_k 20 17 e.1) = some (81937, 12, 1167, 173, 3, false, 1169, 1168, 62, 1170, 0, 0, 0, 0) := rfl
set_option maxRecDepth 20000 in
theorem iqV_81937_12 : tb_V.find? (fun e => mx_k 20 17 e.1 && e.2.1 == 12) = some (81937, 12, 1167, 173, 3, false, 1169, 1168, 62, 1170, 0, 0, 0, 0) := rfl
set_option maxRecDepth 20000 in
theorem iqV_81938 : tb_V.find? (fun e => mx_k 20 18 e.1) = some (81938, 11, 375, 19, 2, false, 377, 376, 49, 378, 0, 0, 0, 0) := rfl
set_option maxRecDepth 20000 in
theorem iqV_81938_11 : tb_V.find? (fun e => mx_k 20 18 e.1 && e.2.1 == 11) = some (81938, 11, 375, 19, 2, false, 377, 376, 49, 378, 0, 0, 0, 0) := rfl
set_option maxRecDepth 20000 in
theorem iqV_81942 : tb_V.find? (fun e => mx_k 20 22 e.1) = some (81942, 12, 1187, 177, 2, false, 1189, 1188, 62, 1190, 0, 0, 0, 0) := rfl
set_option maxRecDepth 20000 in
theorem iqV_81942_12 : tb_V.find? (fun e => mx_k 20 22 e.1 && e.2.1 == 12) = some (81942, 12, 1187, 177, 2, false, 1189, 1188, 62, 1190, 0, 0, 0, 0) := rfl
set_option maxRecDepth 20000 in
theorem iqV_81943 : tb_V.find? (fun e => mx_k 20 23 e.1) = some (81943, 11, 486, 46, 2, false, 488, 487, 49, 489, 0, 0, 0, 0) := rfl
set_option maxRecDepth 20000 in
theorem iqV_81943_11 : tb_V.find? (fun e => mx_k 20 23 e.1 && e.2.1 == 11) = some (81943, 11, 486, 46, 2, false, 488, 487, 49, 489, 0, 0, 0, 0) := rfl
set_option maxRecDepth 20000 in
theorem iqV_81946 : tb_V.find? (fun e => mx_k 20 26 e.1) = some (81946, 12, 1233, 189, 2, false, 1235, 1234, 62, 1236, 0, 0, 0, 0) := rfl
set_option maxRecDepth 20000 in
theorem iqV_81946_12 : tb_V.find? (fun e => mx_k 20 26 e.1 && e.2.1 == 12) = some (81946, 12, 1233, 189, 2, false, 1235, 1234, 62, 1236, 0, 0, 0, 0) := rfl
set_option maxRecDepth 20000 in
theorem iqV_81947 : tb_V.find? (fun e => mx_k 20 27 e.1) = some (81947, 11, 501, 48, 2, false, 503, 502, 49, 504, 0, 0, 0, 0) := rfl
set_option maxRecDepth 20000 in
theorem iqV_81947_11 : tb_V.find? (fun e => mx_k 20 27 e.1 && e.2.1 == 11) = some (81947, 11, 501, 48, 2, false, 503, 502, 49, 504, 0, 0, 0, 0) := rfl
set_option maxRecDepth 20000 in
theorem iqV_81950 : tb_V.find? (fun e => mx_k 20 30 e.1) = some (81950, 12, 1241, 191, 2, false, 1243, 1242, 62, 1244, 0, 0, 0, 0) := rfl
set_option maxRecDepth 20000 in
theorem iqV_81950_12 : tb_V.find? (fun e => mx_k 20 30 e.1 && e.2.1 == 12) = some (81950, 12, 1241, 191, 2, false, 1243, 1242, 62, 1244, 0, 0, 0, 0) := rfl
set_option maxRecDepth 20000 in
theorem iqV_81951 : tb_V.find? (fun e => mx_k 20 31 e.1) = some (81951, 11, 505, 49, 3, false, 507, 506, 49, 508, 0, 0, 0, 0) := rfl
set_option maxRecDepth 20000 in
theorem iqV_81951_11 : tb_V.find? (fun e => mx_k 20 31 e.1 && e.2.1 == 11) = some (81951, 11, 505, 49, 3, false, 507, 506, 49, 508, 0, 0, 0, 0) := rfl
set_option maxRecDepth 20000 in
theorem iqV_81954 : tb_V.find? (fun e => mx_k 20 34 e.1) = some (81954, 12, 1249, 193, 3, false, 1251, 1250, 62, 1252, 0, 0, 0, 0) := rfl
set_option maxRecDepth 20000 in
theorem iqV_81954_12 : tb_V.find? (fun e => mx_k 20 34 e.1 && e.2.1 == 12) = some (81954, 12, 1249, 193, 3, false, 1251, 1250, 62, 1252, 0, 0, 0, 0) := rfl
set_option maxRecDepth 20000 in
theorem iqV_81955 : tb_V.find? (fun e => mx_k 20 35 e.1) = some (81955, 11, 509, 50, 2, false, 511, 510, 49, 512, 0, 0, 0, 0) := rfl
set_option maxRecDepth 20000 in
theorem iqV_81955_11 : tb_V.find? (fun e => mx_k 20 35 e.1 && e.2.1 == 11) = some (81955, 11, 509, 50, 2, false, 511, 510, 49, 512, 0, 0, 0, 0) := rfl
set_option maxRecDepth 20000 in
theorem iqV_81958 : tb_V.find? (fun e => mx_k 20 38 e.1) = some (81958, 12, 1254, 194, 2, false, 1256, 1255, 62, 1257, 0, 0, 0, 0) := rfl
set_option maxRecDepth 20000 in
theorem iqV_81958_12 : tb_V.find? (fun e => mx_k 20 38 e.1 && e.2.1 == 12) = some (81958, 12, 1254, 194, 2, false, 1256, 1255, 62, 1257, 0, 0, 0, 0) := rfl
set_option maxRecDepth 20000 in
theorem iqV_81959 : tb_V.find? (fun e => mx_k 20 39 e.1) = some (81959, 11, 513, 51, 1, false, 515, 514, 49, 516, 0, 0, 0, 0) := rfl
set_option maxRecDepth 20000 in
theorem iqV_81959_11 : tb_V.find? (fun e => mx_k 20 39 e.1 && e.2.1 == 11) = some (81959, 11, 513, 51, 1, false, 515, 514, 49, 516, 0, 0, 0, 0) := rfl
set_option maxRecDepth 20000 in
theorem iqV_81963 : tb_V.find? (fun e => mx_k 20 43 e.1) = some (81963, 12, 1258, 195, 1, false, 1260, 1259, 62, 1261, 0, 0, 0, 0) := rfl
set_option maxRecDepth 20000 in
theorem iqV_81963_12 : tb_V.find? (fun e => mx_k 20 43 e.1 && e.2.1 == 12) = some (81963, 12, 1258, 195, 1, false, 1260, 1259, 62, 1261, 0, 0, 0, 0) := rfl
set_option maxRecDepth 20000 in
theorem iqV_81964 : tb_V.find? (fun e => mx_k 20 44 e.1) = some (81964, 11, 521, 53, 2, false, 523, 522, 49, 524, 0, 0, 0, 0) := rfl
set_option maxRecDepth 20000 in
theorem iqV_81964_11 : tb_V.find? (fun e => mx_k 20 44 e.1 && e.2.1 == 11) = some (81964, 11, 521, 53, 2, false, 523, 522, 49, 524, 0, 0, 0, 0) := rfl
set_option maxRecDepth 20000 in
theorem iqV_81967 : tb_V.find? (fun e => mx_k 20 47 e.1) = some (81967, 12, 1266, 197, 2, false, 1268, 1267, 62, 1269, 0, 0, 0, 0) := rfl
set_option maxRecDepth 20000 in
theorem iqV_81967_12 : tb_V.find? (fun e => mx_k 20 47 e.1 && e.2.1 == 12) = some (81967, 12, 1266, 197, 2, false, 1268, 1267, 62, 1269, 0, 0, 0, 0) := rfl
set_option maxRecDepth 20000 in
theorem iqV_81968 : tb_V.find? (fun e => mx_k 20 48 e.1) = some (81968, 11, 529, 54, 1, false, 531, 530, 49, 532, 0, 0, 0, 0) := rfl
set_option maxRecDepth 20000 in
theorem iqV_81968_11 : tb_V.find? (fun e => mx_k 20 48 e.1 && e.2.1 == 11) = some (81968, 11, 529, 54, 1, false, 531, 530, 49, 532, 0, 0, 0, 0) := rfl
set_option maxRecDepth 20000 in
theorem iqV_81971 : tb_V.find? (fun e => mx_k 20 51 e.1) = some (81971, 12, 1274, 199, 1, false, 1276, 1275, 62, 1277, 0, 0, 0, 0) := rfl
set_option maxRecDepth 20000 in
theorem iqV_81971_12 : tb_V.find? (fun e => mx_k 20 51 e.1 && e.2.1 == 12) = some (81971, 12, 1274, 199, 1, false, 1276, 1275, 62, 1277, 0, 0, 0, 0) := rfl
set_option maxRecDepth 20000 in
theorem iqV_81972 : tb_V.find? (fun e => mx_k 20 52 e.1) = some (81972, 11, 538, 56, 1, false, 540, 539, 49, 541, 0, 0, 0, 0) := rfl
set_option maxRecDepth 20000 in
theorem iqV_81972_11 : tb_V.find? (fun e => mx_k 20 52 e.1 && e.2.1 == 11) = some (81972, 11, 538, 56, 1, false, 540, 539, 49, 541, 0, 0, 0, 0) := rfl
set_option maxRecDepth 20000 in
theorem iqV_81975 : tb_V.find? (fun e => mx_k 20 55 e.1) = some (81975, 12, 1284, 201, 1, false, 1286, 1285, 62, 1287, 0, 0, 0, 0) := rfl
set_option maxRecDepth 20000 in
theorem iqV_81975_12 : tb_V.find? (fun e => mx_k 20 55 e.1 && e.2.1 == 12) = some (81975, 12, 1284, 201, 1, false, 1286, 1285, 62, 1287, 0, 0, 0, 0) := rfl
set_option maxRecDepth 20000 in
theorem iqV_81976 : tb_V.find? (fun e => mx_k 20 56 e.1) = some (81976, 11, 542, 57, 0, false, 544, 543, 49, 545, 0, 0, 0, 0) := rfl
set_option maxRecDepth 20000 in
theorem iqV_81976_11 : tb_V.find? (fun e => mx_k 20 56 e.1 && e.2.1 == 11) = some (81976, 11, 542, 57, 0, false, 544, 543, 49, 545, 0, 0, 0, 0) := rfl
set_option maxRecDepth 20000 in
theorem iqV_81980 : tb_V.find? (fun e => mx_k 20 60 e.1) = some (81980, 12, 1288, 202, 0, false, 1290, 1289, 62, 1291, 0, 0, 0, 0) := rfl
set_option maxRecDepth 20000 in
theorem iqV_81980_12 : tb_V.find? (fun e => mx_k 20 60 e.1 && e.2.1 == 12) = some (81980, 12, 1288, 202, 0, false, 1290, 1289, 62, 1291, 0, 0, 0, 0) := rfl
set_option maxRecDepth 20000 in
theorem iqV_81981 : tb_V.find? (fun e => mx_k 20 61 e.1) = some (81981, 11, 554, 59, 1, false, 556, 555, 49, 557, 0, 0, 0, 0) := rfl
set_option maxRecDepth 20000 in
theorem iqV_81981_11 : tb_V.find? (fun e => mx_k 20 61 e.1 && e.2.1 == 11) = some (81981, 11, 554, 59, 1, false, 556, 555, 49, 557, 0, 0, 0, 0) := rfl
set_option maxRecDepth 20000 in
theorem iqV_81984 : tb_V.find? (fun e => mx_k 20 64 e.1) = some (81984, 12, 1295, 204, 1, false, 1297, 1296, 62, 1298, 0, 0, 0, 0) := rfl
set_option maxRecDepth 20000 in
theorem iqV_81984_12 : tb_V.find? (fun e => mx_k 20 64 e.1 && e.2.1 == 12) = some (81984, 12, 1295, 204, 1, false, 1297, 1296, 62, 1298, 0, 0, 0, 0) := rfl
set_option maxRecDepth 20000 in
theorem iqV_81985 : tb_V.find? (fun e => mx_k 20 65 e.1) = some (81985, 11, 611, 72, 1, false, 613, 612, 49, 614, 0, 0, 0, 0) := rfl
set_option maxRecDepth 20000 in
theorem iqV_81985_11 : tb_V.find? (fun e => mx_k 20 65 e.1 && e.2.1 == 11) = some (81985, 11, 611, 72, 1, false, 613, 612, 49, 614, 0, 0, 0, 0) := rfl
set_option maxRecDepth 20000 in
theorem iqV_81988 : tb_V.find? (fun e => mx_k 20 68 e.1) = some (81988, 12, 1325, 211, 1, false, 1327, 1326, 62, 1328, 0, 0, 0, 0) := rfl
set_option maxRecDepth 20000 in
theorem iqV_81988_12 : tb_V.find? (fun e => mx_k 20 68 e.1 && e.2.1 == 12) = some (81988, 12, 1325, 211, 1, false, 1327, 1326, 62, 1328, 0, 0, 0, 0) := rfl
set_option maxRecDepth 20000 in
theorem iqV_81989 : tb_V.find? (fun e => mx_k 20 69 e.1) = some (81989, 11, 627, 76, 2, false, 629, 628, 49, 630, 0, 0, 0, 0) := rfl
set_option maxRecDepth 20000 in
theorem iqV_81989_11 : tb_V.find? (fun e => mx_k 20 69 e.1 && e.2.1 == 11) = some (81989, 11, 627, 76, 2, false, 629, 628, 49, 630, 0, 0, 0, 0) := rfl
set_option maxRecDepth 20000 in
theorem iqV_81992 : tb_V.find? (fun e => mx_k 20 72 e.1) = some (81992, 12, 1337, 214, 2, false, 1339, 1338, 62, 1340, 0, 0, 0, 0) := rfl
set_option maxRecDepth 20000 in
theorem iqV_81992_12 : tb_V.find? (fun e => mx_k 20 72 e.1 && e.2.1 == 12) = some (81992, 12, 1337, 214, 2, false, 1339, 1338, 62, 1340, 0, 0, 0, 0) := rfl
set_option maxRecDepth 20000 in
theorem iqV_81993 : tb_V.find? (fun e => mx_k 20 73 e.1) = some (81993, 11, 639, 79, 0, false, 641, 640, 49, 642, 0, 0, 0, 0) := rfl
set_option maxRecDepth 20000 in
theorem iqV_81993_11 : tb_V.find? (fun e => mx_k 20 73 e.1 && e.2.1 == 11) = some (81993, 11, 639, 79, 0, false, 641, 640, 49, 642, 0, 0, 0, 0) := rfl
set_option maxRecDepth 20000 in
theorem iqV_81996 : tb_V.find? (fun e => mx_k 20 76 e.1) = some (81996, 12, 1353, 218, 0, false, 1355, 1354, 62, 1356, 0, 0, 0, 0) := rfl
set_option maxRecDepth 20000 in
theorem iqV_81996_12 : tb_V.find? (fun e => mx_k 20 76 e.1 && e.2.1 == 12) = some (81996, 12, 1353, 218, 0, false, 1355, 1354, 62, 1356, 0, 0, 0, 0) := rfl
set_option maxRecDepth 20000 in
theorem iqV_81997 : tb_V.find? (fun e => mx_k 20 77 e.1) = some (81997, 11, 650, 81, 2, false, 652, 651, 49, 653, 0, 0, 0, 0) := rfl
set_option maxRecDepth 20000 in
theorem iqV_81997_11 : tb_V.find? (fun e => mx_k 20 77 e.1 && e.2.1 == 11) = some (81997, 11, 650, 81, 2, false, 652, 651, 49, 653, 0, 0, 0, 0) := rfl
set_option maxRecDepth 20000 in
theorem iqV_82000 : tb_V.find? (fun e => mx_k 20 80 e.1) = some (82000, 12, 1361, 220, 2, false, 1363, 1362, 62, 1364, 0, 0, 0, 0) := rfl
set_option maxRecDepth 20000 in
theorem iqV_82000_12 : tb_V.find? (fun e => mx_k 20 80 e.1 && e.2.1 == 12) = some (82000, 12, 1361, 220, 2, false, 1363, 1362, 62, 1364, 0, 0, 0, 0) := rfl
set_option maxRecDepth 20000 in
theorem iqV_82001 : tb_V.find? (fun e => mx_k 20 81 e.1) = some (82001, 11, 657, 83, 2, false, 659, 658, 49, 660, 0, 0, 0, 0) := rfl
set_option maxRecDepth 20000 in
theorem iqV_82001_11 : tb_V.find? (fun e => mx_k 20 81 e.1 && e.2.1 == 11) = some (82001, 11, 657, 83, 2, false, 659, 658, 49, 660, 0, 0, 0, 0) := rfl
set_option maxRecDepth 20000 in
theorem iqV_82004 : tb_V.find? (fun e => mx_k 20 84 e.1) = some (82004, 12, 1366, 221, 2, false, 1368, 1367, 62, 1369, 0, 0, 0, 0) := rfl
set_option maxRecDepth 20000 in
theorem iqV_82004_12 : tb_V.find? (fun e => mx_k 20 84 e.1 && e.2.1 == 12) = some (82004, 12, 1366, 221, 2, false, 1368, 1367, 62, 1369, 0, 0, 0, 0) := rfl
set_option maxRecDepth 20000 in
theorem iqV_82005 : tb_V.find? (fun e => mx_k 20 85 e.1) = some (82005, 11, 662, 84, 1, false, 664, 663, 49, 665, 0, 0, 0, 0) := rfl
set_option maxRecDepth 20000 in
theorem iqV_82005_11 : tb_V.find? (fun e => mx_k 20 85 e.1 && e.2.1 == 11) = some (82005, 11, 662, 84, 1, false, 664, 663, 49, 665, 0, 0, 0, 0) := rfl
set_option maxRecDepth 20000 in
theorem iqV_82008 : tb_V.find? (fun e => mx_k 20 88 e.1) = some (82008, 12, 1371, 222, 1, false, 1373, 1372, 62, 1374, 0, 0, 0, 0) := rfl
set_option maxRecDepth 20000 in
theorem iqV_82008_12 : tb_V.find? (fun e => mx_k 20 88 e.1 && e.2.1 == 12) = some (82008, 12, 1371, 222, 1, false, 1373, 1372, 62, 1374, 0, 0, 0, 0) := rfl
set_option maxRecDepth 20000 in
theorem iqV_82009 : tb_V.find? (fun e => mx_k 20 89 e.1) = some (82009, 11, 670, 86, 2, false, 672, 671, 49, 673, 0, 0, 0, 0) := rfl
set_option maxRecDepth 20000 in
theorem iqV_82009_11 : tb_V.find? (fun e => mx_k 20 89 e.1 && e.2.1 == 11) = some (82009, 11, 670, 86, 2, false, 672, 671, 49, 673, 0, 0, 0, 0) := rfl
set_option maxRecDepth 20000 in
theorem iqV_82012 : tb_V.find? (fun e => mx_k 20 92 e.1) = some (82012, 12, 1375, 223, 2, false, 1377, 1376, 62, 1378, 0, 0, 0, 0) := rfl
set_option maxRecDepth 20000 in
theorem iqV_82012_12 : tb_V.find? (fun e => mx_k 20 92 e.1 && e.2.1 == 12) = some (82012, 12, 1375, 223, 2, false, 1377, 1376, 62, 1378, 0, 0, 0, 0) := rfl
set_option maxRecDepth 20000 in
theorem iqV_82013 : tb_V.find? (fun e => mx_k 20 93 e.1) = some (82013, 11, 674, 87, 3, false, 676, 675, 49, 677, 0, 0, 0, 0) := rfl
set_option maxRecDepth 20000 in
theorem iqV_82013_11 : tb_V.find? (fun e => mx_k 20 93 e.1 && e.2.1 == 11) = some (82013, 11, 674, 87, 3, false, 676, 675, 49, 677, 0, 0, 0, 0) := rfl
set_option maxRecDepth 20000 in
theorem iqV_82016 : tb_V.find? (fun e => mx_k 20 96 e.1) = some (82016, 12, 1500, 252, 3, false, 1502, 1501, 62, 1503, 0, 0, 0, 0) := rfl
set_option maxRecDepth 20000 in
theorem iqV_82016_12 : tb_V.find? (fun e => mx_k 20 96 e.1 && e.2.1 == 12) = some (82016, 12, 1500, 252, 3, false, 1502, 1501, 62, 1503, 0, 0, 0, 0) := rfl
set_option maxRecDepth 20000 in
theorem iqV_82017 : tb_V.find? (fun e => mx_k 20 97 e.1) = some (82017, 11, 707, 94, 0, false, 709, 708, 49, 710, 0, 0, 0, 0) := rfl
set_option maxRecDepth 20000 in
theorem iqV_82017_11 : tb_V.find? (fun e => mx_k 20 97 e.1 && e.2.1 == 11) = some (82017, 11, 707, 94, 0, false, 709, 708, 49, 710, 0, 0, 0, 0) := rfl
set_option maxRecDepth 20000 in
theorem iqV_82020 : tb_V.find? (fun e => mx_k 20 100 e.1) = some (82020, 12, 1379, 224, 0, false, 1381, 1380, 62, 1382, 0, 0, 0, 0) := rfl
set_option maxRecDepth 20000 in
theorem iqV_82020_12 : tb_V.find? (fun e => mx_k 20 100 e.1 && e.2.1 == 12) = some (82020, 12, 1379, 224, 0, false, 1381, 1380, 62, 1382, 0, 0, 0, 0) := rfl
set_option maxRecDepth 20000 in
theorem iqV_82021 : tb_V.find? (fun e => mx_k 20 101 e.1) = some (82021, 11, 713, 95, 1, false, 715, 714, 49, 716, 0, 0, 0, 0) := rfl
set_option maxRecDepth 20000 in
theorem iqV_82021_11 : tb_V.find? (fun e => mx_k 20 101 e.1 && e.2.1 == 11) = some (82021, 11, 713, 95, 1, false, 715, 714, 49, 716, 0, 0, 0, 0) := rfl
set_option maxRecDepth 20000 in
theorem iqV_82024 : tb_V.find? (fun e => mx_k 20 104 e.1) = some (82024, 12, 1383, 225, 1, false, 1385, 1384, 62, 1386, 0, 0, 0, 0) := rfl
set_option maxRecDepth 20000 in
theorem iqV_82024_12 : tb_V.find? (fun e => mx_k 20 104 e.1 && e.2.1 == 12) = some (82024, 12, 1383, 225, 1, false, 1385, 1384, 62, 1386, 0, 0, 0, 0) := rfl
set_option maxRecDepth 20000 in
theorem iqV_82025 : tb_V.find? (fun e => mx_k 20 105 e.1) = some (82025, 11, 717, 96, 3, false, 719, 718, 49, 720, 0, 0, 0, 0) := rfl
set_option maxRecDepth 20000 in
theorem iqV_82025_11 : tb_V.find? (fun e => mx_k 20 105 e.1 && e.2.1 == 11) = some (82025, 11, 717, 96, 3, false, 719, 718, 49, 720, 0, 0, 0, 0) := rfl
set_option maxRecDepth 20000 in
theorem iqV_82028 : tb_V.find? (fun e => mx_k 20 108 e.1) = some (82028, 12, 1387, 226, 3, false, 1389, 1388, 62, 1390, 0, 0, 0, 0) := rfl
set_option maxRecDepth 20000 in
theorem iqV_82028_12 : tb_V.find? (fun e => mx_k 20 108 e.1 && e.2.1 == 12) = some (82028, 12, 1387, 226, 3, false, 1389, 1388, 62, 1390, 0, 0, 0, 0) := rfl
set_option maxRecDepth 20000 in
theorem iqV_82029 : tb_V.find? (fun e => mx_k 20 109 e.1) = some (82029, 11, 725, 98, 1, false, 727, 726, 49, 728, 0, 0, 0, 0) := rfl
set_option maxRecDepth 20000 in
theorem iqV_82029_11 : tb_V.find? (fun e => mx_k 20 109 e.1 && e.2.1 == 11) = some (82029, 11, 725, 98, 1, false, 727, 726, 49, 728, 0, 0, 0, 0) := rfl
set_option maxRecDepth 20000 in
theorem iqV_82032 : tb_V.find? (fun e => mx_k 20 112 e.1) = some (82032, 12, 1391, 227, 1, false, 1393, 1392, 62, 1394, 0, 0, 0, 0) := rfl
set_option maxRecDepth 20000 in
theorem iqV_82032_12 : tb_V.find? (fun e => mx_k 20 112 e.1 && e.2.1 == 12) = some (82032, 12, 1391, 227, 1, false, 1393, 1392, 62, 1394, 0, 0, 0, 0) := rfl
set_option maxRecDepth 20000 in
theorem iqV_82033 : tb_V.find? (fun e => mx_k 20 113 e.1) = some (82033, 11, 729, 99, 0, false, 731, 730, 49, 732, 0, 0, 0, 0) := rfl
set_option maxRecDepth 20000 in
theorem iqV_82033_11 : tb_V.find? (fun e => mx_k 20 113 e.1 && e.2.1 == 11) = some (82033, 11, 729, 99, 0, false, 731, 730, 49, 732, 0, 0, 0, 0) := rfl
set_option maxRecDepth 20000 in
theorem iqV_82036 : tb_V.find? (fun e => mx_k 20 116 e.1) = some (82036, 12, 1395, 228, 0, false, 1397, 1396, 62, 1398, 0, 0, 0, 0) := rfl
set_option maxRecDepth 20000 in
theorem iqV_82036_12 : tb_V.find? (fun e => mx_k 20 116 e.1 && e.2.1 == 12) = some (82036, 12, 1395, 228, 0, false, 1397, 1396, 62, 1398, 0, 0, 0, 0) := rfl
set_option maxRecDepth 20000 in
theorem iqV_82037 : tb_V.find? (fun e => mx_k 20 117 e.1) = some (82037, 11, 956, 148, 2, false, 958, 957, 49, 959, 0, 0, 0, 0) := rfl
set_option maxRecDepth 20000 in
theorem iqV_82037_11 : tb_V.find? (fun e => mx_k 20 117 e.1 && e.2.1 == 11) = some (82037, 11, 956, 148, 2, false, 958, 957, 49, 959, 0, 0, 0, 0) := rfl
set_option maxRecDepth 20000 in
theorem iqV_82040 : tb_V.find? (fun e => mx_k 20 120 e.1) = some (82040, 12, 1462, 244, 2, false, 1464, 1463, 62, 1465, 0, 0, 0, 0) := rfl
set_option maxRecDepth 20000 in
theorem iqV_82040_12 : tb_V.find? (fun e => mx_k 20 120 e.1 && e.2.1 == 12) = some (82040, 12, 1462, 244, 2, false, 1464, 1463, 62, 1465, 0, 0, 0, 0) := rfl
set_option maxRecDepth 20000 in
theorem iqV_82041 : tb_V.find? (fun e => mx_k 20 121 e.1) = some (82041, 11, 960, 149, 1, false, 962, 961, 49, 963, 0, 0, 0, 0) := rfl
set_option maxRecDepth 20000 in
theorem iqV_82041_11 : tb_V.find? (fun e => mx_k 20 121 e.1 && e.2.1 == 11) = some (82041, 11, 960, 149, 1, false, 962, 961, 49, 963, 0, 0, 0, 0) := rfl
set_option maxRecDepth 20000 in
theorem iqV_82044 : tb_V.find? (fun e => mx_k 20 124 e.1) = some (82044, 12, 1470, 246, 1, false, 1472, 1471, 62, 1473, 0, 0, 0, 0) := rfl
set_option maxRecDepth 20000 in
theorem iqV_82044_12 : tb_V.find? (fun e => mx_k 20 124 e.1 && e.2.1 == 12) = some (82044, 12, 1470, 246, 1, false, 1472, 1471, 62, 1473, 0, 0, 0, 0) := rfl
set_option maxRecDepth 20000 in
theorem iqV_82045 : tb_V.find? (fun e => mx_k 20 125 e.1) = some (82045, 11, 964, 150, 3, false, 966, 965, 49, 967, 0, 0, 0, 0) := rfl
set_option maxRecDepth 20000 in
theorem iqV_82045_11 : tb_V.find? (fun e => mx_k 20 125 e.1 && e.2.1 == 11) = some (82045, 11, 964, 150, 3, false, 966, 965, 49, 967, 0, 0, 0, 0) := rfl
set_option maxRecDepth 20000 in
theorem iqV_82048 : tb_V.find? (fun e => mx_k 20 128 e.1) = some (82048, 12, 1475, 247, 3, false, 1477, 1476, 62, 1478, 0, 0, 0, 0) := rfl
set_option maxRecDepth 20000 in
theorem iqV_82048_12 : tb_V.find? (fun e => mx_k 20 128 e.1 && e.2.1 == 12) = some (82048, 12, 1475, 247, 3, false, 1477, 1476, 62, 1478, 0, 0, 0, 0) := rfl
set_option maxRecDepth 20000 in
theorem iqV_82049 : tb_V.find? (fun e => mx_k 20 129 e.1) = some (82049, 11, 979, 153, 3, false, 981, 980, 49, 982, 0, 0, 0, 0) := rfl
set_option maxRecDepth 20000 in
theorem iqV_82049_11 : tb_V.find? (fun e => mx_k 20 129 e.1 && e.2.1 == 11) = some (82049, 11, 979, 153, 3, false, 981, 980, 49, 982, 0, 0, 0, 0) := rfl
set_option maxRecDepth 20000 in
theorem iqV_82052 : tb_V.find? (fun e => mx_k 20 132 e.1) = some (82052, 12, 1484, 249, 3, false, 1486, 1485, 62, 1487, 0, 0, 0, 0) := rfl
set_option maxRecDepth 20000 in
theorem iqV_82052_12 : tb_V.find? (fun e => mx_k 20 132 e.1 && e.2.1 == 12) = some (82052, 12, 1484, 249, 3, false, 1486, 1485, 62, 1487, 0, 0, 0, 0) := rfl
set_option maxRecDepth 20000 in
theorem iqV_82053 : tb_V.find? (fun e => mx_k 20 133 e.1) = some (82053, 11, 993, 155, 1, false, 995, 994, 49, 996, 0, 0, 0, 0) := rfl
set_option maxRecDepth 20000 in
theorem iqV_82053_11 : tb_V.find? (fun e => mx_k 20 133 e.1 && e.2.1 == 11) = some (82053, 11, 993, 155, 1, false, 995, 994, 49, 996, 0, 0, 0, 0) := rfl
set_option maxRecDepth 20000 in
theorem iqV_82056 : tb_V.find? (fun e => mx_k 20 136 e.1) = some (82056, 12, 1492, 250, 1, false, 1494, 1493, 62, 1495, 0, 0, 0, 0) := rfl
set_option maxRecDepth 20000 in
theorem iqV_82056_12 : tb_V.find? (fun e => mx_k 20 136 e.1 && e.2.1 == 12) = some (82056, 12, 1492, 250, 1, false, 1494, 1493, 62, 1495, 0, 0, 0, 0) := rfl
set_option maxRecDepth 20000 in
theorem iqV_82057 : tb_V.find? (fun e => mx_k 20 137 e.1) = some (82057, 11, 1000, 156, 1, false, 1002, 1001, 49, 1003, 0, 0, 0, 0) := rfl
set_option maxRecDepth 20000 in
theorem iqV_82057_11 : tb_V.find? (fun e => mx_k 20 137 e.1 && e.2.1 == 11) = some (82057, 11, 1000, 156, 1, false, 1002, 1001, 49, 1003, 0, 0, 0, 0) := rfl
set_option maxRecDepth 20000 in
theorem iqV_82060 : tb_V.find? (fun e => mx_k 20 140 e.1) = some (82060, 12, 1496, 251, 1, false, 1498, 1497, 62, 1499, 0, 0, 0, 0) := rfl
set_option maxRecDepth 20000 in
theorem iqV_82060_12 : tb_V.find? (fun e => mx_k 20 140 e.1 && e.2.1 == 12) = some (82060, 12, 1496, 251, 1, false, 1498, 1497, 62, 1499, 0, 0, 0, 0) := rfl
set_option maxRecDepth 20000 in
theorem iqV_82061 : tb_V.find? (fun e => mx_k 20 141 e.1) = some (82061, 11, 1004, 157, 5, false, 1006, 1005, 49, 1007, 0, 0, 0, 0) := rfl
set_option maxRecDepth 20000 in
theorem iqV_82061_11 : tb_V.find? (fun e => mx_k 20 141 e.1 && e.2.1 == 11) = some (82061, 11, 1004, 157, 5, false, 1006, 1005, 49, 1007, 0, 0, 0, 0) := rfl
set_option maxRecDepth 20000 in
theorem iqV_82065 : tb_V.find? (fun e => mx_k 20 145 e.1) = some (82065, 12, 1507, 254, 5, false, 1509, 1508, 62, 1510, 0, 0, 0, 0) := rfl
set_option maxRecDepth 20000 in
theorem iqV_82065_12 : tb_V.find? (fun e => mx_k 20 145 e.1 && e.2.1 == 12) = some (82065, 12, 1507, 254, 5, false, 1509, 1508, 62, 1510, 0, 0, 0, 0) := rfl
set_option maxRecDepth 20000 in
theorem iqV_82066 : tb_V.find? (fun e => mx_k 20 146 e.1) = some (82066, 11, 1018, 160, 3, false, 1020, 1019, 49, 1021, 0, 0, 0, 0) := rfl
set_option maxRecDepth 20000 in
theorem iqV_82066_11 : tb_V.find? (fun e => mx_k 20 146 e.1 && e.2.1 == 11) = some (82066, 11, 1018, 160, 3, false, 1020, 1019, 49, 1021, 0, 0, 0, 0) := rfl
set_option maxRecDepth 20000 in
theorem iqV_82069 : tb_V.find? (fun e => mx_k 20 149 e.1) = some (82069, 12, 1511, 255, 3, false, 1513, 1512, 62, 1514, 0, 0, 0, 0) := rfl
set_option maxRecDepth 20000 in
theorem iqV_82069_12 : tb_V.find? (fun e => mx_k 20 149 e.1 && e.2.1 == 12) = some (82069, 12, 1511, 255, 3, false, 1513, 1512, 62, 1514, 0, 0, 0, 0) := rfl
set_option maxRecDepth 20000 in
theorem iqV_82070 : tb_V.find? (fun e => mx_k 20 150 e.1) = some (82070, 11, 1030, 163, 2, false, 1032, 1031, 49, 1033, 0, 0, 0, 0) := rfl
set_option maxRecDepth 20000 in
theorem iqV_82070_11 : tb_V.find? (fun e => mx_k 20 150 e.1 && e.2.1 == 11) = some (82070, 11, 1030, 163, 2, false, 1032, 1031, 49, 1033, 0, 0, 0, 0) := rfl
set_option maxRecDepth 20000 in
theorem iqV_82073 : tb_V.find? (fun e => mx_k 20 153 e.1) = some (82073, 12, 1518, 257, 2, false, 1520, 1519, 62, 1521, 0, 0, 0, 0) := rfl
set_option maxRecDepth 20000 in
theorem iqV_82073_12 : tb_V.find? (fun e => mx_k 20 153 e.1 && e.2.1 == 12) = some (82073, 12, 1518, 257, 2, false, 1520, 1519, 62, 1521, 0, 0, 0, 0) := rfl
set_option maxRecDepth 20000 in
theorem iqV_82074 : tb_V.find? (fun e => mx_k 20 154 e.1) = some (82074, 11, 1038, 165, 2, false, 1040, 1039, 49, 1041, 0, 0, 0, 0) := rfl
set_option maxRecDepth 20000 in
theorem iqV_82074_11 : tb_V.find? (fun e => mx_k 20 154 e.1 && e.2.1 == 11) = some (82074, 11, 1038, 165, 2, false, 1040, 1039, 49, 1041, 0, 0, 0, 0) := rfl
set_option maxRecDepth 20000 in
theorem iqV_82077 : tb_V.find? (fun e => mx_k 20 157 e.1) = some (82077, 12, 1522, 258, 2, false, 1524, 1523, 62, 1525, 0, 0, 0, 0) := rfl
set_option maxRecDepth 20000 in
theorem iqV_82077_12 : tb_V.find? (fun e => mx_k 20 157 e.1 && e.2.1 == 12) = some (82077, 12, 1522, 258, 2, false, 1524, 1523, 62, 1525, 0, 0, 0, 0) := rfl
set_option maxRecDepth 20000 in
theorem iqV_82078 : tb_V.find? (fun e => mx_k 20 158 e.1) = some (82078, 11, 1042, 166, 2, false, 1044, 1043, 49, 1045, 0, 0, 0, 0) := rfl
set_option maxRecDepth 20000 in
theorem iqV_82078_11 : tb_V.find? (fun e => mx_k 20 158 e.1 && e.2.1 == 11) = some (82078, 11, 1042, 166, 2, false, 1044, 1043, 49, 1045, 0, 0, 0, 0) := rfl
set_option maxRecDepth 20000 in
theorem iqV_82081 : tb_V.find? (fun e => mx_k 20 161 e.1) = some (82081, 12, 1526, 259, 2, false, 1528, 1527, 62, 1529, 0, 0, 0, 0) := rfl
set_option maxRecDepth 20000 in
theorem iqV_82081_12 : tb_V.find? (fun e => mx_k 20 161 e.1 && e.2.1 == 12) = some (82081, 12, 1526, 259, 2, false, 1528, 1527, 62, 1529, 0, 0, 0, 0) := rfl
set_option maxRecDepth 20000 in
theorem iqV_82082 : tb_V.find? (fun e => mx_k 20 162 e.1) = some (82082, 11, 1047, 167, 1, false, 1049, 1048, 49, 1050, 0, 0, 0, 0) := rfl
set_option maxRecDepth 20000 in
theorem iqV_82082_11 : tb_V.find? (fun e => mx_k 20 162 e.1 && e.2.1 == 11) = some (82082, 11, 1047, 167, 1, false, 1049, 1048, 49, 1050, 0, 0, 0, 0) := rfl
set_option maxRecDepth 20000 in
theorem iqV_82085 : tb_V.find? (fun e => mx_k 20 165 e.1) = some (82085, 12, 1531, 260, 1, false, 1533, 1532, 62, 1534, 0, 0, 0, 0) := rfl
set_option maxRecDepth 20000 in
theorem iqV_82085_12 : tb_V.find? (fun e => mx_k 20 165 e.1 && e.2.1 == 12) = some (82085, 12, 1531, 260, 1, false, 1533, 1532, 62, 1534, 0, 0, 0, 0) := rfl
set_option maxRecDepth 20000 in
theorem iqV_82086 : tb_V.find? (fun e => mx_k 20 166 e.1) = some (82086, 11, 1051, 168, 1, false, 1053, 1052, 49, 1054, 0, 0, 0, 0) := rfl
set_option maxRecDepth 20000 in
theorem iqV_82086_11 : tb_V.find? (fun e => mx_k 20 166 e.1 && e.2.1 == 11) = some (82086, 11, 1051, 168, 1, false, 1053, 1052, 49, 1054, 0, 0, 0, 0) := rfl
set_option maxRecDepth 20000 in
theorem iqV_82089 : tb_V.find? (fun e => mx_k 20 169 e.1) = some (82089, 12, 1535, 261, 1, false, 1537, 1536, 62, 1538, 0, 0, 0, 0) := rfl
set_option maxRecDepth 20000 in
theorem iqV_82089_12 : tb_V.find? (fun e => mx_k 20 169 e.1 && e.2.1 == 12) = some (82089, 12, 1535, 261, 1, false, 1537, 1536, 62, 1538, 0, 0, 0, 0) := rfl
set_option maxRecDepth 20000 in
theorem iqV_82090 : tb_V.find? (fun e => mx_k 20 170 e.1) = some (82090, 11, 1055, 169, 0, false, 1057, 1056, 49, 1058, 0, 0, 0, 0) := rfl
set_option maxRecDepth 20000 in
theorem iqV_82090_11 : tb_V.find? (fun e => mx_k 20 170 e.1 && e.2.1 == 11) = some (82090, 11, 1055, 169, 0, false, 1057, 1056, 49, 1058, 0, 0, 0, 0) := rfl
set_option maxRecDepth 20000 in
theorem iqV_82093 : tb_V.find? (fun e => mx_k 20 173 e.1) = some (82093, 12, 1544, 263, 0, false, 1546, 1545, 62, 1547, 0, 0, 0, 0) := rfl
set_option maxRecDepth 20000 in
theorem iqV_82093_12 : tb_V.find? (fun e => mx_k 20 173 e.1 && e.2.1 == 12) = some (82093, 12, 1544, 263, 0, false, 1546, 1545, 62, 1547, 0, 0, 0, 0) := rfl
set_option maxRecDepth 20000 in
theorem iqV_82094 : tb_V.find? (fun e => mx_k 20 174 e.1) = some (82094, 11, 1059, 170, 0, false, 1061, 1060, 49, 1062, 0, 0, 0, 0) := rfl
set_option maxRecDepth 20000 in
theorem iqV_82094_11 : tb_V.find? (fun e => mx_k 20 174 e.1 && e.2.1 == 11) = some (82094, 11, 1059, 170, 0, false, 1061, 1060, 49, 1062, 0, 0, 0, 0) := rfl
set_option maxRecDepth 20000 in
theorem iqV_82097 : tb_V.find? (fun e => mx_k 20 177 e.1) = some (82097, 12, 1548, 264, 0, false, 1550, 1549, 62, 1551, 0, 0, 0, 0) := rfl
set_option maxRecDepth 20000 in
theorem iqV_82097_12 : tb_V.find? (fun e => mx_k 20 177 e.1 && e.2.1 == 12) = some (82097, 12, 1548, 264, 0, false, 1550, 1549, 62, 1551, 0, 0, 0, 0) := rfl
set_option maxRecDepth 20000 in
theorem iqV_82098 : tb_V.find? (fun e => mx_k 20 178 e.1) = some (82098, 11, 1063, 171, 1, false, 1065, 1064, 49, 1066, 0, 0, 0, 0) := rfl
set_option maxRecDepth 20000 in
theorem iqV_82098_11 : tb_V.find? (fun e => mx_k 20 178 e.1 && e.2.1 == 11) = some (82098, 11, 1063, 171, 1, false, 1065, 1064, 49, 1066, 0, 0, 0, 0) := rfl
set_option maxRecDepth 20000 in
theorem iqV_82101 : tb_V.find? (fun e => mx_k 20 181 e.1) = some (82101, 12, 1552, 265, 1, false, 1554, 1553, 62, 1555, 0, 0, 0, 0) := rfl
set_option maxRecDepth 20000 in
theorem iqV_82101_12 : tb_V.find? (fun e => mx_k 20 181 e.1 && e.2.1 == 12) = some (82101, 12, 1552, 265, 1, false, 1554, 1553, 62, 1555, 0, 0, 0, 0) := rfl
set_option maxRecDepth 20000 in
theorem iqV_49222 : tb_V.find? (fun e => mx_k 12 70 e.1) = some (49222, 12, 1183, 176, 3, false, 8, 1185, 62, 1186, 0, 0, 0, 0) := rfl
set_option maxRecDepth 20000 in
theorem iqV_49222_12 : tb_V.find? (fun e => mx_k 12 70 e.1 && e.2.1 == 12) = some (49222, 12, 1183, 176, 3, false, 8, 1185, 62, 1186, 0, 0, 0, 0) := rfl
set_option maxRecDepth 20000 in
theorem iqV_49234 : tb_V.find? (fun e => mx_k 12 82 e.1) = some (49234, 12, 1179, 175, 3, false, 7, 1181, 62, 1182, 0, 0, 0, 0) := rfl
set_option maxRecDepth 20000 in
theorem iqV_49234_12 : tb_V.find? (fun e => mx_k 12 82 e.1 && e.2.1 == 12) = some (49234, 12, 1179, 175, 3, false, 7, 1181, 62, 1182, 0, 0, 0, 0) := rfl
set_option maxRecDepth 20000 in
theorem iqV_49237 : tb_V.find? (fun e => mx_k 12 85 e.1) = some (49237, 12, 1195, 179, 2, false, 10, 1197, 62, 1198, 0, 0, 0, 0) := rfl
set_option maxRecDepth 20000 in
theorem iqV_49237_12 : tb_V.find? (fun e => mx_k 12 85 e.1 && e.2.1 == 12) = some (49237, 12, 1195, 179, 2, false, 10, 1197, 62, 1198, 0, 0, 0, 0) := rfl
set_option maxRecDepth 20000 in
theorem iqV_49244 : tb_V.find? (fun e => mx_k 12 92 e.1) = some (49244, 12, 1206, 182, 1, false, 12, 1208, 62, 1209, 0, 0, 0, 0) := rfl
set_option maxRecDepth 20000 in
theorem iqV_49244_12 : tb_V.find? (fun e => mx_k 12 92 e.1 && e.2.1 == 12) = some (49244, 12, 1206, 182, 1, false, 12, 1208, 62, 1209, 0, 0, 0, 0) := rfl
set_option maxRecDepth 20000 in
theorem iqV_49248 : tb_V.find? (fun e => mx_k 12 96 e.1) = some (49248, 12, 1214, 184, 1, false, 14, 1216, 62, 1217, 0, 0, 0, 0) := rfl
set_option maxRecDepth 20000 in
theorem iqV_49248_12 : tb_V.find? (fun e => mx_k 12 96 e.1 && e.2.1 == 12) = some (49248, 12, 1214, 184, 1, false, 14, 1216, 62, 1217, 0, 0, 0, 0) := rfl
set_option maxRecDepth 20000 in
theorem iqV_49251 : tb_V.find? (fun e => mx_k 12 99 e.1) = some (49251, 12, 1191, 178, 1, false, 9, 1193, 62, 1194, 0, 0, 0, 0) := rfl
set_option maxRecDepth 20000 in
theorem iqV_49251_12 : tb_V.find? (fun e => mx_k 12 99 e.1 && e.2.1 == 12) = some (49251, 12, 1191, 178, 1, false, 9, 1193, 62, 1194, 0, 0, 0, 0) := rfl
set_option maxRecDepth 20000 in
theorem iqV_49255 : tb_V.find? (fun e => mx_k 12 103 e.1) = some (49255, 12, 1199, 180, 1, false, 11, 1201, 62, 1202, 0, 0, 0, 0) := rfl
set_option maxRecDepth 20000 in
theorem iqV_49255_12 : tb_V.find? (fun e => mx_k 12 103 e.1 && e.2.1 == 12) = some (49255, 12, 1199, 180, 1, false, 11, 1201, 62, 1202, 0, 0, 0, 0) := rfl
set_option maxRecDepth 20000 in
theorem iqV_49258 : tb_V.find? (fun e => mx_k 12 106 e.1) = some (49258, 12, 1221, 186, 1, false, 15, 1223, 62, 1224, 0, 0, 0, 0) := rfl
set_option maxRecDepth 20000 in
theorem iqV_49258_12 : tb_V.find? (fun e => mx_k 12 106 e.1 && e.2.1 == 12) = some (49258, 12, 1221, 186, 1, false, 15, 1223, 62, 1224, 0, 0, 0, 0) := rfl
set_option maxRecDepth 20000 in
theorem iqV_49261 : tb_V.find? (fun e => mx_k 12 109 e.1) = some (49261, 12, 1225, 187, 1, false, 16, 1227, 62, 1228, 0, 0, 0, 0) := rfl
set_option maxRecDepth 20000 in
theorem iqV_49261_12 : tb_V.find? (fun e => mx_k 12 109 e.1 && e.2.1 == 12) = some (49261, 12, 1225, 187, 1, false, 16, 1227, 62, 1228, 0, 0, 0, 0) := rfl
set_option maxRecDepth 20000 in
theorem iqV_49264 : tb_V.find? (fun e => mx_k 12 112 e.1) = some (49264, 12, 1229, 188, 1, false, 17, 1231, 62, 1232, 0, 0, 0, 0) := rfl
set_option maxRecDepth 20000 in
theorem iqV_49264_12 : tb_V.find? (fun e => mx_k 12 112 e.1 && e.2.1 == 12) = some (49264, 12, 1229, 188, 1, false, 17, 1231, 62, 1232, 0, 0, 0, 0) := rfl
set_option maxRecDepth 20000 in
theorem iqV_49272 : tb_V.find? (fun e => mx_k 12 120 e.1) = some (49272, 12, 1245, 192, 2, false, 18, 1247, 62, 1248, 0, 0, 0, 0) := rfl
set_option maxRecDepth 20000 in
theorem iqV_49272_12 : tb_V.find? (fun e => mx_k 12 120 e.1 && e.2.1 == 12) = some (49272, 12, 1245, 192, 2, false, 18, 1247, 62, 1248, 0, 0, 0, 0) := rfl
set_option maxRecDepth 20000 in
theorem iqV_49277 : tb_V.find? (fun e => mx_k 12 125 e.1) = some (49277, 12, 1262, 196, 1, false, 19, 1264, 62, 1265, 0, 0, 0, 0) := rfl
set_option maxRecDepth 20000 in
theorem iqV_49277_12 : tb_V.find? (fun e => mx_k 12 125 e.1 && e.2.1 == 12) = some (49277, 12, 1262, 196, 1, false, 19, 1264, 62, 1265, 0, 0, 0, 0) := rfl
set_option maxRecDepth 20000 in
theorem iqV_49287 : tb_V.find? (fun e => mx_k 12 135 e.1) = some (49287, 12, 1279, 200, 0, false, 20, 1281, 62, 1282, 0, 0, 0, 0) := rfl
set_option maxRecDepth 20000 in
theorem iqV_49287_12 : tb_V.find? (fun e => mx_k 12 135 e.1 && e.2.1 == 12) = some (49287, 12, 1279, 200, 0, false, 20, 1281, 62, 1282, 0, 0, 0, 0) := rfl
set_option maxRecDepth 20000 in
theorem iqV_49294 : tb_V.find? (fun e => mx_k 12 142 e.1) = some (49294, 12, 1321, 210, 1, false, 26, 1323, 62, 1324, 0, 0, 0, 0) := rfl
set_option maxRecDepth 20000 in
theorem iqV_49294_12 : tb_V.find? (fun e => mx_k 12 142 e.1 && e.2.1 == 12) = some (49294, 12, 1321, 210, 1, false, 26, 1323, 62, 1324, 0, 0, 0, 0) := rfl
set_option maxRecDepth 20000 in
theorem iqV_49297 : tb_V.find? (fun e => mx_k 12 145 e.1) = some (49297, 12, 1308, 207, 0, false, 23, 1310, 62, 1311, 0, 0, 0, 0) := rfl
set_option maxRecDepth 20000 in
theorem iqV_49297_12 : tb_V.find? (fun e => mx_k 12 145 e.1 && e.2.1 == 12) = some (49297, 12, 1308, 207, 0, false, 23, 1310, 62, 1311, 0, 0, 0, 0) := rfl
set_option maxRecDepth 20000 in
theorem iqV_49300 : tb_V.find? (fun e => mx_k 12 148 e.1) = some (49300, 12, 1312, 202, 0, false, 1290, 1289, 62, 1291, 0, 0, 0, 0) := rfl
set_option maxRecDepth 20000 in
theorem iqV_49300_12 : tb_V.find? (fun e => mx_k 12 148 e.1 && e.2.1 == 12) = some (49300, 12, 1312, 202, 0, false, 1290, 1289, 62, 1291, 0, 0, 0, 0) := rfl
set_option maxRecDepth 20000 in
theorem iqV_49303 : tb_V.find? (fun e => mx_k 12 151 e.1) = some (49303, 12, 1313, 208, 0, false, 24, 1315, 62, 1316, 0, 0, 0, 0) := rfl
set_option maxRecDepth 20000 in
theorem iqV_49303_12 : tb_V.find? (fun e => mx_k 12 151 e.1 && e.2.1 == 12) = some (49303, 12, 1313, 208, 0, false, 24, 1315, 62, 1316, 0, 0, 0, 0) := rfl
set_option maxRecDepth 20000 in
theorem iqV_49306 : tb_V.find? (fun e => mx_k 12 154 e.1) = some (49306, 12, 1317, 209, 0, false, 25, 1319, 62, 1320, 0, 0, 0, 0) := rfl
set_option maxRecDepth 20000 in
theorem iqV_49306_12 : tb_V.find? (fun e => mx_k 12 154 e.1 && e.2.1 == 12) = some (49306, 12, 1317, 209, 0, false, 25, 1319, 62, 1320, 0, 0, 0, 0) := rfl
set_option maxRecDepth 20000 in
theorem iqV_49309 : tb_V.find? (fun e => mx_k 12 157 e.1) = some (49309, 12, 1304, 206, 0, false, 22, 1306, 62, 1307, 0, 0, 0, 0) := rfl
set_option maxRecDepth 20000 in
theorem iqV_49309_12 : tb_V.find? (fun e => mx_k 12 157 e.1 && e.2.1 == 12) = some (49309, 12, 1304, 206, 0, false, 22, 1306, 62, 1307, 0, 0, 0, 0) := rfl
set_option maxRecDepth 20000 in
theorem iqV_49314 : tb_V.find? (fun e => mx_k 12 162 e.1) = some (49314, 12, 1300, 205, 1, false, 21, 1302, 62, 1303, 0, 0, 0, 0) := rfl
set_option maxRecDepth 20000 in
theorem iqV_49314_12 : tb_V.find? (fun e => mx_k 12 162 e.1 && e.2.1 == 12) = some (49314, 12, 1300, 205, 1, false, 21, 1302, 62, 1303, 0, 0, 0, 0) := rfl
set_option maxRecDepth 20000 in
theorem iqV_49317 : tb_V.find? (fun e => mx_k 12 165 e.1) = some (49317, 12, 1329, 212, 0, false, 27, 1331, 62, 1332, 0, 0, 0, 0) := rfl
set_option maxRecDepth 20000 in
theorem iqV_49317_12 : tb_V.find? (fun e => mx_k 12 165 e.1 && e.2.1 == 12) = some (49317, 12, 1329, 212, 0, false, 27, 1331, 62, 1332, 0, 0, 0, 0) := rfl
set_option maxRecDepth 20000 in
theorem iqV_49320 : tb_V.find? (fun e => mx_k 12 168 e.1) = some (49320, 12, 1333, 213, 0, false, 28, 1335, 62, 1336, 0, 0, 0, 0) := rfl
set_option maxRecDepth 20000 in
theorem iqV_49320_12 : tb_V.find? (fun e => mx_k 12 168 e.1 && e.2.1 == 12) = some (49320, 12, 1333, 213, 0, false, 28, 1335, 62, 1336, 0, 0, 0, 0) := rfl
set_option maxRecDepth 20000 in
theorem iqV_49323 : tb_V.find? (fun e => mx_k 12 171 e.1) = some (49323, 12, 1341, 215, 0, false, 29, 1343, 62, 1344, 0, 0, 0, 0) := rfl
set_option maxRecDepth 20000 in
theorem iqV_49323_12 : tb_V.find? (fun e => mx_k 12 171 e.1 && e.2.1 == 12) = some (49323, 12, 1341, 215, 0, false, 29, 1343, 62, 1344, 0, 0, 0, 0) := rfl
set_option maxRecDepth 20000 in
theorem iqV_49326 : tb_V.find? (fun e => mx_k 12 174 e.1) = some (49326, 12, 1345, 216, 1, false, 30, 1347, 62, 1348, 0, 0, 0, 0) := rfl
set_option maxRecDepth 20000 in
theorem iqV_49326_12 : tb_V.find? (fun e => mx_k 12 174 e.1 && e.2.1 == 12) = some (49326, 12, 1345, 216, 1, false, 30, 1347, 62, 1348, 0, 0, 0, 0) := rfl
set_option maxRecDepth 20000 in
theorem iqV_49330 : tb_V.find? (fun e => mx_k 12 178 e.1) = some (49330, 12, 1349, 217, 0, false, 31, 1351, 62, 1352, 0, 0, 0, 0) := rfl
set_option maxRecDepth 20000 in
theorem iqV_49330_12 : tb_V.find? (fun e => mx_k 12 178 e.1 && e.2.1 == 12) = some (49330, 12, 1349, 217, 0, false, 31, 1351, 62, 1352, 0, 0, 0, 0) := rfl
set_option maxRecDepth 20000 in
theorem iqV_49361 : tb_V.find? (fun e => mx_k 12 209 e.1) = some (49361, 12, 1407, 231, 1, false, 34, 1409, 62, 1410, 0, 0, 0, 0) := rfl
set_option maxRecDepth 20000 in
theorem iqV_49361_12 : tb_V.find? (fun e => mx_k 12 209 e.1 && e.2.1 == 12) = some (49361, 12, 1407, 231, 1, false, 34, 1409, 62, 1410, 0, 0, 0, 0) := rfl
set_option maxRecDepth 20000 in
theorem iqV_49367 : tb_V.find? (fun e => mx_k 12 215 e.1) = some (49367, 12, 1413, 232, 1, false, 35, 1415, 62, 1416, 0, 0, 0, 0) := rfl
set_option maxRecDepth 20000 in
theorem iqV_49367_12 : tb_V.find? (fun e => mx_k 12 215 e.1 && e.2.1 == 12) = some (49367, 12, 1413, 232, 1, false, 35, 1415, 62, 1416, 0, 0, 0, 0) := rfl
set_option maxRecDepth 20000 in
theorem iqV_49373 : tb_V.find? (fun e => mx_k 12 221 e.1) = some (49373, 12, 1423, 234, 4, false, 37, 1425, 62, 1426, 0, 0, 0, 0) := rfl
set_option maxRecDepth 20000 in
theorem iqV_49373_12 : tb_V.find? (fun e => mx_k 12 221 e.1 && e.2.1 == 12) = some (49373, 12, 1423, 234, 4, false, 37, 1425, 62, 1426, 0, 0, 0, 0) := rfl
set_option maxRecDepth 20000 in
theorem iqV_49383 : tb_V.find? (fun e => mx_k 12 231 e.1) = some (49383, 12, 1431, 236, 1, false, 39, 1433, 62, 1434, 0, 0, 0, 0) := rfl
set_option maxRecDepth 20000 in
theorem iqV_49383_12 : tb_V.find? (fun e => mx_k 12 231 e.1 && e.2.1 == 12) = some (49383, 12, 1431, 236, 1, false, 39, 1433, 62, 1434, 0, 0, 0, 0) := rfl
set_option maxRecDepth 20000 in
theorem iqV_49386 : tb_V.find? (fun e => mx_k 12 234 e.1) = some (49386, 12, 1458, 243, 1, false, 45, 1460, 62, 1461, 0, 0, 0, 0) := rfl
set_option maxRecDepth 20000 in
theorem iqV_49386_12 : tb_V.find? (fun e => mx_k 12 234 e.1 && e.2.1 == 12) = some (49386, 12, 1458, 243, 1, false, 45, 1460, 62, 1461, 0, 0, 0, 0) := rfl
set_option maxRecDepth 20000 in
theorem iqV_49389 : tb_V.find? (fun e => mx_k 12 237 e.1) = some (49389, 12, 1403, 230, 0, false, 33, 1405, 62, 1406, 0, 0, 0, 0) := rfl
set_option maxRecDepth 20000 in
theorem iqV_49389_12 : tb_V.find? (fun e => mx_k 12 237 e.1 && e.2.1 == 12) = some (49389, 12, 1403, 230, 0, false, 33, 1405, 62, 1406, 0, 0, 0, 0) := rfl
set_option maxRecDepth 20000 in
theorem iqV_49392 : tb_V.find? (fun e => mx_k 12 240 e.1) = some (49392, 12, 1451, 241, 2, false, 44, 1453, 62, 1454, 0, 0, 0, 0) := rfl
set_option maxRecDepth 20000 in
theorem iqV_49392_12 : tb_V.find? (fun e => mx_k 12 240 e.1 && e.2.1 == 12) = some (49392, 12, 1451, 241, 2, false, 44, 1453, 62, 1454, 0, 0, 0, 0) := rfl
set_option maxRecDepth 20000 in
theorem iqV_49396 : tb_V.find? (fun e => mx_k 12 244 e.1) = some (49396, 12, 1435, 237, 1, false, 40, 1437, 62, 1438, 0, 0, 0, 0) := rfl
set_option maxRecDepth 20000 in
theorem iqV_49396_12 : tb_V.find? (fun e => mx_k 12 244 e.1 && e.2.1 == 12) = some (49396, 12, 1435, 237, 1, false, 40, 1437, 62, 1438, 0, 0, 0, 0) := rfl
set_option maxRecDepth 20000 in
theorem iqV_49399 : tb_V.find? (fun e => mx_k 12 247 e.1) = some (49399, 12, 1439, 238, 1, false, 41, 1441, 62, 1442, 0, 0, 0, 0) := rfl
set_option maxRecDepth 20000 in
theorem iqV_49399_12 : tb_V.find? (fun e => mx_k 12 247 e.1 && e.2.1 == 12) = some (49399, 12, 1439, 238, 1, false, 41, 1441, 62, 1442, 0, 0, 0, 0) := rfl
set_option maxRecDepth 20000 in
theorem iqV_49402 : tb_V.find? (fun e => mx_k 12 250 e.1) = some (49402, 12, 1443, 239, 1, false, 42, 1445, 62, 1446, 0, 0, 0, 0) := rfl
set_option maxRecDepth 20000 in
theorem iqV_49402_12 : tb_V.find? (fun e => mx_k 12 250 e.1 && e.2.1 == 12) = some (49402, 12, 1443, 239, 1, false, 42, 1445, 62, 1446, 0, 0, 0, 0) := rfl
set_option maxRecDepth 20000 in
theorem iqV_49405 : tb_V.find? (fun e => mx_k 12 253 e.1) = some (49405, 12, 1447, 240, 1, false, 43, 1449, 62, 1450, 0, 0, 0, 0) := rfl
set_option maxRecDepth 20000 in
theorem iqV_49405_12 : tb_V.find? (fun e => mx_k 12 253 e.1 && e.2.1 == 12) = some (49405, 12, 1447, 240, 1, false, 43, 1449, 62, 1450, 0, 0, 0, 0) := rfl
set_option maxRecDepth 20000 in
theorem iqV_49420 : tb_V.find? (fun e => mx_k 12 268 e.1) = some (49420, 12, 1427, 235, 1, false, 38, 1429, 62, 1430, 0, 0, 0, 0) := rfl
set_option maxRecDepth 20000 in
theorem iqV_49420_12 : tb_V.find? (fun e => mx_k 12 268 e.1 && e.2.1 == 12) = some (49420, 12, 1427, 235, 1, false, 38, 1429, 62, 1430, 0, 0, 0, 0) := rfl
set_option maxRecDepth 20000 in
theorem iqV_49423 : tb_V.find? (fun e => mx_k 12 271 e.1) = some (49423, 12, 1210, 183, 1, false, 13, 1212, 62, 1213, 0, 0, 0, 0) := rfl
set_option maxRecDepth 20000 in
theorem iqV_49423_12 : tb_V.find? (fun e => mx_k 12 271 e.1 && e.2.1 == 12) = some (49423, 12, 1210, 183, 1, false, 13, 1212, 62, 1213, 0, 0, 0, 0) := rfl
set_option maxRecDepth 20000 in
theorem iqV_49426 : tb_V.find? (fun e => mx_k 12 274 e.1) = some (49426, 12, 1419, 233, 0, false, 36, 1421, 62, 1422, 0, 0, 0, 0) := rfl
set_option maxRecDepth 20000 in
theorem iqV_49426_12 : tb_V.find? (fun e => mx_k 12 274 e.1 && e.2.1 == 12) = some (49426, 12, 1419, 233, 0, false, 36, 1421, 62, 1422, 0, 0, 0, 0) := rfl
set_option maxRecDepth 20000 in
theorem iqV_49429 : tb_V.find? (fun e => mx_k 12 277 e.1) = some (49429, 12, 1399, 229, 0, false, 32, 1401, 62, 1402, 0, 0, 0, 0) := rfl
set_option maxRecDepth 20000 in
theorem iqV_49429_12 : tb_V.find? (fun e => mx_k 12 277 e.1 && e.2.1 == 12) = some (49429, 12, 1399, 229, 0, false, 32, 1401, 62, 1402, 0, 0, 0, 0) := rfl
set_option maxRecDepth 20000 in
theorem iqV_49432 : tb_V.find? (fun e => mx_k 12 280 e.1) = some (49432, 12, 1466, 245, 1, false, 46, 1468, 62, 1469, 0, 0, 0, 0) := rfl
set_option maxRecDepth 20000 in
theorem iqV_49432_12 : tb_V.find? (fun e => mx_k 12 280 e.1 && e.2.1 == 12) = some (49432, 12, 1466, 245, 1, false, 46, 1468, 62, 1469, 0, 0, 0, 0) := rfl
set_option maxRecDepth 20000 in
theorem iqV_49469 : tb_V.find? (fun e => mx_k 12 317 e.1) = some (49469, 12, 1540, 262, 2, false, 47, 1542, 62, 1543, 0, 0, 0, 0) := rfl
set_option maxRecDepth 20000 in
theorem iqV_49469_12 : tb_V.find? (fun e => mx_k 12 317 e.1 && e.2.1 == 12) = some (49469, 12, 1540, 262, 2, false, 47, 1542, 62, 1543, 0, 0, 0, 0) := rfl
set_option maxRecDepth 20000 in
theorem iqV_53583 : tb_V.find? (fun e => mx_k 13 335 e.1) = some (53583, 13, 761, 107, 0, false, 763, 762, 65, 764, 0, 0, 0, 0) := rfl
set_option maxRecDepth 20000 in
theorem iqV_53583_13 : tb_V.find? (fun e => mx_k 13 335 e.1 && e.2.1 == 13) = some (53583, 13, 761, 107, 0, false, 763, 762, 65, 764, 0, 0, 0, 0) := rfl
set_option maxRecDepth 20000 in
theorem iqV_53740 : tb_V.find? (fun e => mx_k 13 492 e.1) = some (53740, 13, 771, 109, 0, false, 773, 772, 65, 774, 0, 0, 0, 0) := rfl
set_option maxRecDepth 20000 in
theorem iqV_53740_13 : tb_V.find? (fun e => mx_k 13 492 e.1 && e.2.1 == 13) = some (53740, 13, 771, 109, 0, false, 773, 772, 65, 774, 0, 0, 0, 0) := rfl
set_option maxRecDepth 20000 in
theorem iqV_53753 : tb_V.find? (fun e => mx_k 13 505 e.1) = some (53753, 13, 858, 106, 0, false, 759, 758, 65, 760, 0, 0, 0, 0) := rfl
set_option maxRecDepth 20000 in
theorem iqV_53753_13 : tb_V.find? (fun e => mx_k 13 505 e.1 && e.2.1 == 13) = some (53753, 13, 858, 106, 0, false, 759, 758, 65, 760, 0, 0, 0, 0) := rfl
set_option maxRecDepth 20000 in
theorem iqV_53881 : tb_V.find? (fun e => mx_k 13 633 e.1) = some (53881, 13, 854, 128, 2, false, 856, 855, 65, 857, 0, 0, 0, 0) := rfl
set_option maxRecDepth 20000 in
theorem iqV_53881_13 : tb_V.find? (fun e => mx_k 13 633 e.1 && e.2.1 == 13) = some (53881, 13, 854, 128, 2, false, 856, 855, 65, 857, 0, 0, 0, 0) := rfl
