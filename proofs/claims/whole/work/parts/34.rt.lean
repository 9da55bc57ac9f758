theorem sp_divm (x : Int32) : x / (-1) = -x := by
  apply Int32.toInt_inj.mp
  rw [Int32.toInt_div, show (-1 : Int32).toInt = -1 by decide, Int32.toInt_neg, Int.tdiv_neg, Int.tdiv_one]
def sp_jn (c x y : Int32) : Int32 := if c = 43 then x + y else if c = 45 then x - y else if c = 42 then x * y else if c = 47 then (if y = 0 then 0 else x / y) else if c = 60 then (if x < y then 1 else 0) else if c = 62 then (if y < x then 1 else 0) else if c = 61 then (if x = y then 1 else 0) else if c = 38 then (if x = 0 then 0 else if y = 0 then 0 else 1) else (if x = 0 then (if y = 0 then 0 else 1) else 1)
def sp_sgn (v : Int32) : Prop := v = 38 ∨ v = 42 ∨ v = 43 ∨ v = 45 ∨ v = 47 ∨ v = 60 ∨ v = 61 ∨ v = 62 ∨ v = 124
theorem sp_sgn33 {v : Int32} (h : sp_sgn v) : v ≠ 33 := by
  rcases h with rfl | rfl | rfl | rfl | rfl | rfl | rfl | rfl | rfl <;> decide
theorem rc_joined (d : Nat) (v x y : Int32) (h : mx_MH) (hv : sp_sgn v) : mx_run d 185 0 [some (.int v), some (.int x), some (.int y)] [] h = some (some (.int (sp_jn v x y)), h) := by
  rcases hv with rfl | rfl | rfl | rfl | rfl | rfl | rfl | rfl | rfl
  · by_cases h1 : x = 0 <;> by_cases h2 : y = 0 <;> simp [iq_185_0, iq_185_1, iq_185_116, iq_185_117, iq_185_118, iq_185_119, iq_185_120, iq_185_121, iq_185_122, iq_185_123, iq_185_124, iq_185_125, iq_185_126, iq_185_127, iq_185_128, iq_185_129, iq_185_132, iq_185_133, iq_185_136, iq_185_137, iq_185_138, iq_185_141, iq_185_142, iq_185_143, iq_185_146, iq_185_147, iq_185_148, iq_185_149, iq_185_150, iq_185_151, iq_185_152, iq_185_155, iq_185_156, iq_185_159, iq_185_160, iq_185_161, iq_185_162, iq_185_163, iq_185_166, iq_185_167, iq_185_170, iq_185_171, iq_185_172, iq_185_173, iq_185_174, iq_185_177, iq_185_178, iq_185_181, iq_185_182, iq_185_183, iq_185_184, iq_185_187, iq_185_188, iq_185_191, iq_185_192, iq_185_195, iq_185_196, iq_185_197, iq_185_198, iq_185_201, iq_185_202, iq_185_205, iq_185_206, iq_185_209, iq_185_210, sp_jn, h1, h2]
  · simp [iq_185_0, iq_185_1, iq_185_116, iq_185_117, iq_185_118, iq_185_119, iq_185_120, iq_185_121, iq_185_122, iq_185_123, iq_185_124, iq_185_125, iq_185_126, iq_185_127, iq_185_128, iq_185_129, iq_185_132, iq_185_133, iq_185_136, iq_185_137, iq_185_138, iq_185_141, iq_185_142, iq_185_143, iq_185_146, iq_185_147, iq_185_148, iq_185_149, iq_185_150, iq_185_151, iq_185_152, iq_185_155, iq_185_156, iq_185_159, iq_185_160, iq_185_161, iq_185_162, iq_185_163, iq_185_166, iq_185_167, iq_185_170, iq_185_171, iq_185_172, iq_185_173, iq_185_174, iq_185_177, iq_185_178, iq_185_181, iq_185_182, iq_185_183, iq_185_184, iq_185_187, iq_185_188, iq_185_191, iq_185_192, iq_185_195, iq_185_196, iq_185_197, iq_185_198, iq_185_201, iq_185_202, iq_185_205, iq_185_206, iq_185_209, iq_185_210, sp_jn]
  · simp [iq_185_0, iq_185_1, iq_185_116, iq_185_117, iq_185_118, iq_185_119, iq_185_120, iq_185_121, iq_185_122, iq_185_123, iq_185_124, iq_185_125, iq_185_126, iq_185_127, iq_185_128, iq_185_129, iq_185_132, iq_185_133, iq_185_136, iq_185_137, iq_185_138, iq_185_141, iq_185_142, iq_185_143, iq_185_146, iq_185_147, iq_185_148, iq_185_149, iq_185_150, iq_185_151, iq_185_152, iq_185_155, iq_185_156, iq_185_159, iq_185_160, iq_185_161, iq_185_162, iq_185_163, iq_185_166, iq_185_167, iq_185_170, iq_185_171, iq_185_172, iq_185_173, iq_185_174, iq_185_177, iq_185_178, iq_185_181, iq_185_182, iq_185_183, iq_185_184, iq_185_187, iq_185_188, iq_185_191, iq_185_192, iq_185_195, iq_185_196, iq_185_197, iq_185_198, iq_185_201, iq_185_202, iq_185_205, iq_185_206, iq_185_209, iq_185_210, sp_jn]
  · simp [iq_185_0, iq_185_1, iq_185_116, iq_185_117, iq_185_118, iq_185_119, iq_185_120, iq_185_121, iq_185_122, iq_185_123, iq_185_124, iq_185_125, iq_185_126, iq_185_127, iq_185_128, iq_185_129, iq_185_132, iq_185_133, iq_185_136, iq_185_137, iq_185_138, iq_185_141, iq_185_142, iq_185_143, iq_185_146, iq_185_147, iq_185_148, iq_185_149, iq_185_150, iq_185_151, iq_185_152, iq_185_155, iq_185_156, iq_185_159, iq_185_160, iq_185_161, iq_185_162, iq_185_163, iq_185_166, iq_185_167, iq_185_170, iq_185_171, iq_185_172, iq_185_173, iq_185_174, iq_185_177, iq_185_178, iq_185_181, iq_185_182, iq_185_183, iq_185_184, iq_185_187, iq_185_188, iq_185_191, iq_185_192, iq_185_195, iq_185_196, iq_185_197, iq_185_198, iq_185_201, iq_185_202, iq_185_205, iq_185_206, iq_185_209, iq_185_210, sp_jn]
  · by_cases h1 : y = 0
    · simp [iq_185_0, iq_185_1, iq_185_116, iq_185_117, iq_185_118, iq_185_119, iq_185_120, iq_185_121, iq_185_122, iq_185_123, iq_185_124, iq_185_125, iq_185_126, iq_185_127, iq_185_128, iq_185_129, iq_185_132, iq_185_133, iq_185_136, iq_185_137, iq_185_138, iq_185_141, iq_185_142, iq_185_143, iq_185_146, iq_185_147, iq_185_148, iq_185_149, iq_185_150, iq_185_151, iq_185_152, iq_185_155, iq_185_156, iq_185_159, iq_185_160, iq_185_161, iq_185_162, iq_185_163, iq_185_166, iq_185_167, iq_185_170, iq_185_171, iq_185_172, iq_185_173, iq_185_174, iq_185_177, iq_185_178, iq_185_181, iq_185_182, iq_185_183, iq_185_184, iq_185_187, iq_185_188, iq_185_191, iq_185_192, iq_185_195, iq_185_196, iq_185_197, iq_185_198, iq_185_201, iq_185_202, iq_185_205, iq_185_206, iq_185_209, iq_185_210, sp_jn, h1]
    · by_cases h2 : y = -1
      · subst h2
        simp [iq_185_0, iq_185_1, iq_185_116, iq_185_117, iq_185_118, iq_185_119, iq_185_120, iq_185_121, iq_185_122, iq_185_123, iq_185_124, iq_185_125, iq_185_126, iq_185_127, iq_185_128, iq_185_129, iq_185_132, iq_185_133, iq_185_136, iq_185_137, iq_185_138, iq_185_141, iq_185_142, iq_185_143, iq_185_146, iq_185_147, iq_185_148, iq_185_149, iq_185_150, iq_185_151, iq_185_152, iq_185_155, iq_185_156, iq_185_159, iq_185_160, iq_185_161, iq_185_162, iq_185_163, iq_185_166, iq_185_167, iq_185_170, iq_185_171, iq_185_172, iq_185_173, iq_185_174, iq_185_177, iq_185_178, iq_185_181, iq_185_182, iq_185_183, iq_185_184, iq_185_187, iq_185_188, iq_185_191, iq_185_192, iq_185_195, iq_185_196, iq_185_197, iq_185_198, iq_185_201, iq_185_202, iq_185_205, iq_185_206, iq_185_209, iq_185_210, sp_jn, sp_divm]
      · simp [iq_185_0, iq_185_1, iq_185_116, iq_185_117, iq_185_118, iq_185_119, iq_185_120, iq_185_121, iq_185_122, iq_185_123, iq_185_124, iq_185_125, iq_185_126, iq_185_127, iq_185_128, iq_185_129, iq_185_132, iq_185_133, iq_185_136, iq_185_137, iq_185_138, iq_185_141, iq_185_142, iq_185_143, iq_185_146, iq_185_147, iq_185_148, iq_185_149, iq_185_150, iq_185_151, iq_185_152, iq_185_155, iq_185_156, iq_185_159, iq_185_160, iq_185_161, iq_185_162, iq_185_163, iq_185_166, iq_185_167, iq_185_170, iq_185_171, iq_185_172, iq_185_173, iq_185_174, iq_185_177, iq_185_178, iq_185_181, iq_185_182, iq_185_183, iq_185_184, iq_185_187, iq_185_188, iq_185_191, iq_185_192, iq_185_195, iq_185_196, iq_185_197, iq_185_198, iq_185_201, iq_185_202, iq_185_205, iq_185_206, iq_185_209, iq_185_210, sp_jn, h1, h2]
  · by_cases h1 : x < y <;> simp [iq_185_0, iq_185_1, iq_185_116, iq_185_117, iq_185_118, iq_185_119, iq_185_120, iq_185_121, iq_185_122, iq_185_123, iq_185_124, iq_185_125, iq_185_126, iq_185_127, iq_185_128, iq_185_129, iq_185_132, iq_185_133, iq_185_136, iq_185_137, iq_185_138, iq_185_141, iq_185_142, iq_185_143, iq_185_146, iq_185_147, iq_185_148, iq_185_149, iq_185_150, iq_185_151, iq_185_152, iq_185_155, iq_185_156, iq_185_159, iq_185_160, iq_185_161, iq_185_162, iq_185_163, iq_185_166, iq_185_167, iq_185_170, iq_185_171, iq_185_172, iq_185_173, iq_185_174, iq_185_177, iq_185_178, iq_185_181, iq_185_182, iq_185_183, iq_185_184, iq_185_187, iq_185_188, iq_185_191, iq_185_192, iq_185_195, iq_185_196, iq_185_197, iq_185_198, iq_185_201, iq_185_202, iq_185_205, iq_185_206, iq_185_209, iq_185_210, sp_jn, h1]
  · by_cases h1 : x = y <;> simp [iq_185_0, iq_185_1, iq_185_116, iq_185_117, iq_185_118, iq_185_119, iq_185_120, iq_185_121, iq_185_122, iq_185_123, iq_185_124, iq_185_125, iq_185_126, iq_185_127, iq_185_128, iq_185_129, iq_185_132, iq_185_133, iq_185_136, iq_185_137, iq_185_138, iq_185_141, iq_185_142, iq_185_143, iq_185_146, iq_185_147, iq_185_148, iq_185_149, iq_185_150, iq_185_151, iq_185_152, iq_185_155, iq_185_156, iq_185_159, iq_185_160, iq_185_161, iq_185_162, iq_185_163, iq_185_166, iq_185_167, iq_185_170, iq_185_171, iq_185_172, iq_185_173, iq_185_174, iq_185_177, iq_185_178, iq_185_181, iq_185_182, iq_185_183, iq_185_184, iq_185_187, iq_185_188, iq_185_191, iq_185_192, iq_185_195, iq_185_196, iq_185_197, iq_185_198, iq_185_201, iq_185_202, iq_185_205, iq_185_206, iq_185_209, iq_185_210, sp_jn, h1]
  · by_cases h1 : y < x <;> simp [iq_185_0, iq_185_1, iq_185_116, iq_185_117, iq_185_118, iq_185_119, iq_185_120, iq_185_121, iq_185_122, iq_185_123, iq_185_124, iq_185_125, iq_185_126, iq_185_127, iq_185_128, iq_185_129, iq_185_132, iq_185_133, iq_185_136, iq_185_137, iq_185_138, iq_185_141, iq_185_142, iq_185_143, iq_185_146, iq_185_147, iq_185_148, iq_185_149, iq_185_150, iq_185_151, iq_185_152, iq_185_155, iq_185_156, iq_185_159, iq_185_160, iq_185_161, iq_185_162, iq_185_163, iq_185_166, iq_185_167, iq_185_170, iq_185_171, iq_185_172, iq_185_173, iq_185_174, iq_185_177, iq_185_178, iq_185_181, iq_185_182, iq_185_183, iq_185_184, iq_185_187, iq_185_188, iq_185_191, iq_185_192, iq_185_195, iq_185_196, iq_185_197, iq_185_198, iq_185_201, iq_185_202, iq_185_205, iq_185_206, iq_185_209, iq_185_210, sp_jn, h1]
  · by_cases h1 : x = 0 <;> by_cases h2 : y = 0 <;> simp [iq_185_0, iq_185_1, iq_185_116, iq_185_117, iq_185_118, iq_185_119, iq_185_120, iq_185_121, iq_185_122, iq_185_123, iq_185_124, iq_185_125, iq_185_126, iq_185_127, iq_185_128, iq_185_129, iq_185_132, iq_185_133, iq_185_136, iq_185_137, iq_185_138, iq_185_141, iq_185_142, iq_185_143, iq_185_146, iq_185_147, iq_185_148, iq_185_149, iq_185_150, iq_185_151, iq_185_152, iq_185_155, iq_185_156, iq_185_159, iq_185_160, iq_185_161, iq_185_162, iq_185_163, iq_185_166, iq_185_167, iq_185_170, iq_185_171, iq_185_172, iq_185_173, iq_185_174, iq_185_177, iq_185_178, iq_185_181, iq_185_182, iq_185_183, iq_185_184, iq_185_187, iq_185_188, iq_185_191, iq_185_192, iq_185_195, iq_185_196, iq_185_197, iq_185_198, iq_185_201, iq_185_202, iq_185_205, iq_185_206, iq_185_209, iq_185_210, sp_jn, h1, h2]
/-- one step of a text on a pile -/
def sp_w1 (nm : Int32 → Int32) (what v : Int32) (q : Nat × (Nat → Int32)) : Nat × (Nat → Int32) :=
  if what = 2 then (if v = 33 then (q.1, mx_up q.2 (q.1 - 1) (if q.2 (q.1 - 1) = 0 then 1 else 0)) else (q.1 - 1, mx_up q.2 (q.1 - 2) (sp_jn v (q.2 (q.1 - 2)) (q.2 (q.1 - 1)))))
  else (q.1 + 1, mx_up q.2 q.1 (if what = 0 then v else nm v))
def sp_wt (s : Nat → Int32) (t k : Nat) : Int32 := s (75 + 200 * t + 4 + 2 * k)
def sp_wv (s : Nat → Int32) (t k : Nat) : Int32 := s (75 + 200 * t + 4 + 2 * k + 1)
def sp_wk (s : Nat → Int32) (nm : Int32 → Int32) (t : Nat) : Nat → Nat × (Nat → Int32)
  | 0 => (0, fun _ => 0)
  | k + 1 => sp_w1 nm (sp_wt s t k) (sp_wv s t k) (sp_wk s nm t k)
/-- how deep the pile is -/
def sp_dp (s : Nat → Int32) (t : Nat) : Nat → Nat
  | 0 => 0
  | k + 1 => if sp_wt s t k = 2 then (if sp_wv s t k = 33 then sp_dp s t k else sp_dp s t k - 1) else sp_dp s t k + 1
theorem sp_wk1 (s : Nat → Int32) (nm : Int32 → Int32) (t : Nat) : ∀ k, (sp_wk s nm t k).1 = sp_dp s t k
  | 0 => rfl
  | k + 1 => by
    show (sp_w1 nm _ _ (sp_wk s nm t k)).1 = _
    unfold sp_w1 sp_dp
    rw [sp_wk1 s nm t k]
    by_cases h1 : sp_wt s t k = 2
    · by_cases h2 : sp_wv s t k = 33
      · simp only [h1, h2, if_true]
      · simp only [h1, h2, if_true, if_false]
    · simp only [h1, if_false]
/-- letters of a key -/
def sp_let (key v : Int32) : Prop := if key = 0 then v = 119 ∨ v = 104 ∨ v = 115 else if key = 1 then v = 119 ∨ v = 110 else v = 99 ∨ v = 112
/-- the steps of text t are good ones: q of them -/
def tx_st (s : Nat → Int32) (t q : Nat) : Prop := ∀ k, k < q → (sp_wt s t k = 0 ∧ (∃ u : Nat, u < 10000 ∧ sp_wv s t k = nI u) ∧ sp_dp s t k < 96) ∨ (sp_wt s t k = 1 ∧ sp_let (s (75 + 200 * t)) (sp_wv s t k) ∧ sp_dp s t k < 96) ∨ (sp_wt s t k = 2 ∧ sp_wv s t k = 33 ∧ 1 ≤ sp_dp s t k ∧ sp_dp s t k ≤ 96) ∨ (sp_wt s t k = 2 ∧ sp_sgn (sp_wv s t k) ∧ 2 ≤ sp_dp s t k ∧ sp_dp s t k ≤ 96)
theorem sp_let_nI {key v : Int32} (h : sp_let key v) : ∃ u : Nat, u < 128 ∧ v = nI u := by
  unfold sp_let at h
  by_cases h1 : key = 0
  · rw [if_pos h1] at h
    rcases h with rfl | rfl | rfl
    · exact ⟨119, by omega, rfl⟩
    · exact ⟨104, by omega, rfl⟩
    · exact ⟨115, by omega, rfl⟩
  · rw [if_neg h1] at h
    by_cases h2 : key = 1
    · rw [if_pos h2] at h
      rcases h with rfl | rfl
      · exact ⟨119, by omega, rfl⟩
      · exact ⟨110, by omega, rfl⟩
    · rw [if_neg h2] at h
      rcases h with rfl | rfl
      · exact ⟨99, by omega, rfl⟩
      · exact ⟨112, by omega, rfl⟩
/-- the text gives the same with names that are alike on its letters -/
theorem sp_wk_cg (s : Nat → Int32) (nm nm' : Int32 → Int32) (t q : Nat) (hs : tx_st s t q) (hn : ∀ v, sp_let (s (75 + 200 * t)) v → nm v = nm' v) : ∀ k, k ≤ q → sp_wk s nm t k = sp_wk s nm' t k
  | 0, _ => rfl
  | k + 1, hk => by
    show sp_w1 nm _ _ (sp_wk s nm t k) = sp_w1 nm' _ _ (sp_wk s nm' t k)
    rw [sp_wk_cg s nm nm' t q hs hn k (by omega)]
    unfold sp_w1
    rcases hs k (by omega) with ⟨h1, h2, h3⟩ | ⟨h1, h2, h3⟩ | ⟨h1, h2, h3⟩ | ⟨h1, h2, h3⟩
    · simp [h1]
    · simp [h1, hn _ h2]
    · simp [h1]
    · simp [h1]
theorem rc_ixs (t k : Nat) : (75 : Int32) + 200 * nI t + 4 + 2 * nI k = nI (75 + 200 * t + 4 + 2 * k) := by
  rw [rc_ixt, show (4 : Int32) = nI 4 from rfl, show (2 : Int32) = nI 2 from rfl, rc_mul, nI_add, nI_add]
theorem rc_ixm (t : Nat) : (75 : Int32) + 200 * nI t + 2 = nI (75 + 200 * t + 2) := by
  rw [rc_ixt, show (2 : Int32) = nI 2 from rfl, nI_add]
theorem nI_m1 {k : Nat} (h : 1 ≤ k) : nI k - 1 = nI (k - 1) := pk_sub h
theorem nI_pm1 {k : Nat} (h : 1 ≤ k) : nI k + -1 = nI (k - 1) := sb_m1 h
/-- pile and true pile are alike below n -/
def sp_ag (n : Nat) (f g : Nat → Int32) : Prop := ∀ i, i < n → f i = g i
theorem sp_ag_up {n : Nat} {f g : Nat → Int32} (h : sp_ag n f g) (i : Nat) (x : Int32) : sp_ag n (mx_up f i x) (mx_up g i x) := by
  intro j hj
  by_cases e : j = i
  · subst e
    rw [up_s, up_s]
  · rw [up_n _ _ _ _ e, up_n _ _ _ _ e]
    exact h j hj
theorem sp_ag_up1 {n : Nat} {f g : Nat → Int32} (h : sp_ag n f g) (x : Int32) : sp_ag (n + 1) (mx_up f n x) (mx_up g n x) := by
  intro j hj
  by_cases e : j = n
  · subst e
    rw [up_s, up_s]
  · rw [up_n _ _ _ _ e, up_n _ _ _ _ e]
    exact h j (by omega)
theorem sp_ag_le {n m : Nat} {f g : Nat → Int32} (h : sp_ag n f g) (hm : m ≤ n) : sp_ag m f g := fun j hj => h j (by omega)
variable (R : Nat → Option mx_MC) (c : Nat × Nat) (D : hz_D)
theorem rc_wk_e (d : Nat) (t q : Nat) (ht : t < 14) (hq : D 110 (75 + 200 * t + 2) = nI q) (hq9 : q ≤ 96) (x2 : Int32) (l4 l5 : Option Value) : mx_run (d + 1) 184 4 [some (.ref 109), some (.int (nI t)), some (.int x2), some (.int (nI q)), l4, l5] [] (hp R c D) = some (some (.int (D 124 0)), hp R c D) := by
  rw [iq_184_4]
  simp (disch := first | assumption | exact kd_109 _ _ _ | omega) only [iq_184_0, iq_184_1, iq_184_2, iq_184_3, iq_184_5, iq_184_6, iq_184_9, iq_184_10, iq_184_11, iq_184_14, iq_184_15, iq_184_16, iq_184_17, iq_184_20, iq_184_21, iq_184_24, iq_184_25, iq_184_26, iq_184_29, iq_184_30, iq_184_31, iq_184_32, iq_184_33, iq_184_34, iq_184_35, iq_184_36, iq_184_38, iq_184_39, iq_184_42, iq_184_43, iq_184_44, iq_184_47, iq_184_48, iq_184_49, iq_184_50, iq_184_51, iq_184_52, iq_184_53, iq_184_54, iq_184_55, iq_184_56, iq_184_58, iq_184_60, iq_184_61, iq_184_64, iq_184_65, iq_184_68, iq_184_69, iq_184_71, iq_184_74, iq_184_76, iq_184_79, iq_184_80, iq_184_83, iq_184_85, iq_184_86, iq_184_87, iq_184_90, iq_184_93, iq_184_95, iq_184_97, iq_184_100, iq_184_101, iq_184_104, iq_184_105, iq_184_106, iq_184_107, iq_184_108, iq_184_111, iq_184_112, iq_184_113, iq_184_114, iq_184_115, iq_184_118, iq_184_119, iq_184_122, iq_184_123, iq_184_124, iq_184_127, iq_184_130, iq_184_131, iq_184_134, iq_184_135, iq_184_136, iq_184_137, iq_184_139, iq_184_140, iq_184_143, iq_184_144, iq_184_145, iq_184_146, iq_184_147, iq_184_148, iq_184_151, iq_184_152, iq_184_153, iq_184_156, iq_184_157, iq_184_160, iq_184_163, iq_184_164, iq_184_167, iq_184_168, iq_184_169, gf_109_0, gf_109_1, gf_109_2, gf_109_3, gf_109_4, gf_109_5, gf_109_6, gf_109_7, gf_109_8, gf_109_9, gf_109_10, gf_109_11, gf_109_12, gf_109_13, gf_109_14, gf_109_15, gf_109_16, gf_109_17, gf_109_18, gf_109_19, gf_109_20, gf_109_21, gf_109_22, gf_109_23, gf_109_24, gf_109_25, gf_109_26, gf_109_27, gf_109_28, gf_109_29, gf_109_30, kd_109, Option.bind_some, Option.toList, List.cons_append, List.nil_append, ↓reduceIte, nI_1, Int32.reduceLT, Int32.reduceLE, dv_1, dv_2, dv_3, dv_4, dv_6, dv_8, dv_10, dv_20, dv_100, dv_200, dv_500, rc_textAt, rc_ixm, ld_110, hq, nz_lt, nz_nlt, nz_eq, nz_ne, ld_124_0]
theorem rc_wk_a (d : Nat) (t q k : Nat) (ht : t < 14) (hq : D 110 (75 + 200 * t + 2) = nI q) (hq9 : q ≤ 96) (hk : k < q) (x2 : Int32) (l4 l5 : Option Value) : mx_run (d + 1) 184 4 [some (.ref 109), some (.int (nI t)), some (.int x2), some (.int (nI k)), l4, l5] [] (hp R c D) = mx_run (d + 1) 184 58 [some (.ref 109), some (.int (nI t)), some (.int x2), some (.int (nI k)), some (.int (D 110 (75 + 200 * t + 4 + 2 * k))), some (.int (D 110 (75 + 200 * t + 4 + 2 * k + 1)))] [] (hp R c D) := by
  rw [iq_184_4]
  simp (disch := first | assumption | exact kd_109 _ _ _ | omega) only [iq_184_0, iq_184_1, iq_184_2, iq_184_3, iq_184_5, iq_184_6, iq_184_9, iq_184_10, iq_184_11, iq_184_14, iq_184_15, iq_184_16, iq_184_17, iq_184_20, iq_184_21, iq_184_24, iq_184_25, iq_184_26, iq_184_29, iq_184_30, iq_184_31, iq_184_32, iq_184_33, iq_184_34, iq_184_35, iq_184_36, iq_184_38, iq_184_39, iq_184_42, iq_184_43, iq_184_44, iq_184_47, iq_184_48, iq_184_49, iq_184_50, iq_184_51, iq_184_52, iq_184_53, iq_184_54, iq_184_55, iq_184_56, iq_184_60, iq_184_61, iq_184_64, iq_184_65, iq_184_68, iq_184_69, iq_184_71, iq_184_74, iq_184_76, iq_184_79, iq_184_80, iq_184_83, iq_184_85, iq_184_86, iq_184_87, iq_184_90, iq_184_93, iq_184_95, iq_184_97, iq_184_100, iq_184_101, iq_184_104, iq_184_105, iq_184_106, iq_184_107, iq_184_108, iq_184_111, iq_184_112, iq_184_113, iq_184_114, iq_184_115, iq_184_118, iq_184_119, iq_184_122, iq_184_123, iq_184_124, iq_184_127, iq_184_130, iq_184_131, iq_184_134, iq_184_135, iq_184_136, iq_184_137, iq_184_139, iq_184_140, iq_184_143, iq_184_144, iq_184_145, iq_184_146, iq_184_147, iq_184_148, iq_184_151, iq_184_152, iq_184_153, iq_184_156, iq_184_157, iq_184_160, iq_184_163, iq_184_164, iq_184_167, iq_184_168, iq_184_169, gf_109_0, gf_109_1, gf_109_2, gf_109_3, gf_109_4, gf_109_5, gf_109_6, gf_109_7, gf_109_8, gf_109_9, gf_109_10, gf_109_11, gf_109_12, gf_109_13, gf_109_14, gf_109_15, gf_109_16, gf_109_17, gf_109_18, gf_109_19, gf_109_20, gf_109_21, gf_109_22, gf_109_23, gf_109_24, gf_109_25, gf_109_26, gf_109_27, gf_109_28, gf_109_29, gf_109_30, kd_109, Option.bind_some, Option.toList, List.cons_append, List.nil_append, ↓reduceIte, nI_1, Int32.reduceLT, Int32.reduceLE, dv_1, dv_2, dv_3, dv_4, dv_6, dv_8, dv_10, dv_20, dv_100, dv_200, dv_500, rc_textAt, rc_ixm, rc_ixs, ld_110, hq, nz_lt, nz_nlt, nz_eq, nz_ne]
theorem rc_wk_0 (d : Nat) (k n : Nat) (hn : n < 100) (l1 : Option Value) (v : Int32) : mx_run (d + 1) 184 58 [some (.ref 109), l1, some (.int (nI n)), some (.int (nI k)), some (.int 0), some (.int v)] [] (hp R c D) = mx_run (d + 1) 184 4 [some (.ref 109), l1, some (.int (nI (n + 1))), some (.int (nI (k + 1))), some (.int 0), some (.int v)] [] (hp R c (mx_up D 124 (mx_up (D 124) n v))) := by
  simp (disch := first | assumption | exact kd_109 _ _ _ | omega) only [iq_184_0, iq_184_1, iq_184_2, iq_184_3, iq_184_5, iq_184_6, iq_184_9, iq_184_10, iq_184_11, iq_184_14, iq_184_15, iq_184_16, iq_184_17, iq_184_20, iq_184_21, iq_184_24, iq_184_25, iq_184_26, iq_184_29, iq_184_30, iq_184_31, iq_184_32, iq_184_33, iq_184_34, iq_184_35, iq_184_36, iq_184_38, iq_184_39, iq_184_42, iq_184_43, iq_184_44, iq_184_47, iq_184_48, iq_184_49, iq_184_50, iq_184_51, iq_184_52, iq_184_53, iq_184_54, iq_184_55, iq_184_56, iq_184_58, iq_184_60, iq_184_61, iq_184_64, iq_184_65, iq_184_68, iq_184_69, iq_184_71, iq_184_74, iq_184_76, iq_184_79, iq_184_80, iq_184_83, iq_184_85, iq_184_86, iq_184_87, iq_184_90, iq_184_93, iq_184_95, iq_184_97, iq_184_100, iq_184_101, iq_184_104, iq_184_105, iq_184_106, iq_184_107, iq_184_108, iq_184_111, iq_184_112, iq_184_113, iq_184_114, iq_184_115, iq_184_118, iq_184_119, iq_184_122, iq_184_123, iq_184_124, iq_184_127, iq_184_130, iq_184_131, iq_184_134, iq_184_135, iq_184_136, iq_184_137, iq_184_139, iq_184_140, iq_184_143, iq_184_144, iq_184_145, iq_184_146, iq_184_147, iq_184_148, iq_184_151, iq_184_152, iq_184_153, iq_184_156, iq_184_157, iq_184_160, iq_184_163, iq_184_164, iq_184_167, iq_184_168, iq_184_169, gf_109_0, gf_109_1, gf_109_2, gf_109_3, gf_109_4, gf_109_5, gf_109_6, gf_109_7, gf_109_8, gf_109_9, gf_109_10, gf_109_11, gf_109_12, gf_109_13, gf_109_14, gf_109_15, gf_109_16, gf_109_17, gf_109_18, gf_109_19, gf_109_20, gf_109_21, gf_109_22, gf_109_23, gf_109_24, gf_109_25, gf_109_26, gf_109_27, gf_109_28, gf_109_29, gf_109_30, kd_109, Option.bind_some, Option.toList, List.cons_append, List.nil_append, ↓reduceIte, nI_1, Int32.reduceLT, Int32.reduceLE, dv_1, dv_2, dv_3, dv_4, dv_6, dv_8, dv_10, dv_20, dv_100, dv_200, dv_500, show ((0 : Int32) = 2) = False by decide, st_124]
theorem rc_wk_1 (d : Nat) (k n : Nat) (hn : n < 100) (l1 : Option Value) (u : Nat) (hu : u < 128) : mx_run (d + 1) 184 58 [some (.ref 109), l1, some (.int (nI n)), some (.int (nI k)), some (.int 1), some (.int (nI u))] [] (hp R c D) = mx_run (d + 1) 184 4 [some (.ref 109), l1, some (.int (nI (n + 1))), some (.int (nI (k + 1))), some (.int 1), some (.int (nI u))] [] (hp R c (mx_up D 124 (mx_up (D 124) n (D 123 u)))) := by
  simp (disch := first | assumption | exact kd_109 _ _ _ | omega) only [iq_184_0, iq_184_1, iq_184_2, iq_184_3, iq_184_5, iq_184_6, iq_184_9, iq_184_10, iq_184_11, iq_184_14, iq_184_15, iq_184_16, iq_184_17, iq_184_20, iq_184_21, iq_184_24, iq_184_25, iq_184_26, iq_184_29, iq_184_30, iq_184_31, iq_184_32, iq_184_33, iq_184_34, iq_184_35, iq_184_36, iq_184_38, iq_184_39, iq_184_42, iq_184_43, iq_184_44, iq_184_47, iq_184_48, iq_184_49, iq_184_50, iq_184_51, iq_184_52, iq_184_53, iq_184_54, iq_184_55, iq_184_56, iq_184_58, iq_184_60, iq_184_61, iq_184_64, iq_184_65, iq_184_68, iq_184_69, iq_184_71, iq_184_74, iq_184_76, iq_184_79, iq_184_80, iq_184_83, iq_184_85, iq_184_86, iq_184_87, iq_184_90, iq_184_93, iq_184_95, iq_184_97, iq_184_100, iq_184_101, iq_184_104, iq_184_105, iq_184_106, iq_184_107, iq_184_108, iq_184_111, iq_184_112, iq_184_113, iq_184_114, iq_184_115, iq_184_118, iq_184_119, iq_184_122, iq_184_123, iq_184_124, iq_184_127, iq_184_130, iq_184_131, iq_184_134, iq_184_135, iq_184_136, iq_184_137, iq_184_139, iq_184_140, iq_184_143, iq_184_144, iq_184_145, iq_184_146, iq_184_147, iq_184_148, iq_184_151, iq_184_152, iq_184_153, iq_184_156, iq_184_157, iq_184_160, iq_184_163, iq_184_164, iq_184_167, iq_184_168, iq_184_169, gf_109_0, gf_109_1, gf_109_2, gf_109_3, gf_109_4, gf_109_5, gf_109_6, gf_109_7, gf_109_8, gf_109_9, gf_109_10, gf_109_11, gf_109_12, gf_109_13, gf_109_14, gf_109_15, gf_109_16, gf_109_17, gf_109_18, gf_109_19, gf_109_20, gf_109_21, gf_109_22, gf_109_23, gf_109_24, gf_109_25, gf_109_26, gf_109_27, gf_109_28, gf_109_29, gf_109_30, kd_109, Option.bind_some, Option.toList, List.cons_append, List.nil_append, ↓reduceIte, nI_1, Int32.reduceLT, Int32.reduceLE, dv_1, dv_2, dv_3, dv_4, dv_6, dv_8, dv_10, dv_20, dv_100, dv_200, dv_500, show ((1 : Int32) = 2) = False by decide, st_124, ld_123]
theorem rc_wk_2 (d : Nat) (k n : Nat) (h1 : 1 ≤ n) (hn : n < 100) (l1 : Option Value) : mx_run (d + 1) 184 58 [some (.ref 109), l1, some (.int (nI n)), some (.int (nI k)), some (.int 2), some (.int 33)] [] (hp R c D) = mx_run (d + 1) 184 4 [some (.ref 109), l1, some (.int (nI n)), some (.int (nI (k + 1))), some (.int 2), some (.int 33)] [] (hp R c (mx_up D 124 (mx_up (D 124) (n - 1) (if D 124 (n - 1) = 0 then 1 else 0)))) := by
  simp (disch := first | assumption | exact kd_109 _ _ _ | omega) only [iq_184_0, iq_184_1, iq_184_2, iq_184_3, iq_184_5, iq_184_6, iq_184_9, iq_184_10, iq_184_11, iq_184_14, iq_184_15, iq_184_16, iq_184_17, iq_184_20, iq_184_21, iq_184_24, iq_184_25, iq_184_26, iq_184_29, iq_184_30, iq_184_31, iq_184_32, iq_184_33, iq_184_34, iq_184_35, iq_184_36, iq_184_38, iq_184_39, iq_184_42, iq_184_43, iq_184_44, iq_184_47, iq_184_48, iq_184_49, iq_184_50, iq_184_51, iq_184_52, iq_184_53, iq_184_54, iq_184_55, iq_184_56, iq_184_58, iq_184_60, iq_184_61, iq_184_64, iq_184_65, iq_184_68, iq_184_69, iq_184_71, iq_184_74, iq_184_76, iq_184_79, iq_184_80, iq_184_83, iq_184_85, iq_184_86, iq_184_87, iq_184_90, iq_184_93, iq_184_95, iq_184_97, iq_184_100, iq_184_101, iq_184_104, iq_184_105, iq_184_106, iq_184_107, iq_184_108, iq_184_111, iq_184_112, iq_184_113, iq_184_114, iq_184_115, iq_184_118, iq_184_119, iq_184_122, iq_184_123, iq_184_124, iq_184_127, iq_184_130, iq_184_131, iq_184_134, iq_184_135, iq_184_136, iq_184_137, iq_184_139, iq_184_140, iq_184_143, iq_184_144, iq_184_145, iq_184_146, iq_184_147, iq_184_148, iq_184_151, iq_184_152, iq_184_153, iq_184_156, iq_184_157, iq_184_160, iq_184_163, iq_184_164, iq_184_167, iq_184_168, iq_184_169, gf_109_0, gf_109_1, gf_109_2, gf_109_3, gf_109_4, gf_109_5, gf_109_6, gf_109_7, gf_109_8, gf_109_9, gf_109_10, gf_109_11, gf_109_12, gf_109_13, gf_109_14, gf_109_15, gf_109_16, gf_109_17, gf_109_18, gf_109_19, gf_109_20, gf_109_21, gf_109_22, gf_109_23, gf_109_24, gf_109_25, gf_109_26, gf_109_27, gf_109_28, gf_109_29, gf_109_30, kd_109, Option.bind_some, Option.toList, List.cons_append, List.nil_append, ↓reduceIte, nI_1, Int32.reduceLT, Int32.reduceLE, dv_1, dv_2, dv_3, dv_4, dv_6, dv_8, dv_10, dv_20, dv_100, dv_200, dv_500, nI_m1, st_124, ld_124]
  by_cases hc : D 124 (n - 1) = 0 <;> simp only [hc, if_true, if_false]
theorem rc_wk_3 (d : Nat) (k n : Nat) (h1 : 2 ≤ n) (hn : n < 100) (l1 : Option Value) (v : Int32) (hv : sp_sgn v) : mx_run (d + 1) 184 58 [some (.ref 109), l1, some (.int (nI n)), some (.int (nI k)), some (.int 2), some (.int v)] [] (hp R c D) = mx_run (d + 1) 184 4 [some (.ref 109), l1, some (.int (nI (n - 1))), some (.int (nI (k + 1))), some (.int 2), some (.int v)] [] (hp R c (mx_up D 124 (mx_up (D 124) (n - 2) (sp_jn v (D 124 (n - 2)) (D 124 (n - 1)))))) := by
  have hx := eq_false (sp_sgn33 hv)
  have e2 : n - 1 - 1 = n - 2 := by omega
  simp (disch := first | assumption | exact kd_109 _ _ _ | omega) only [iq_184_0, iq_184_1, iq_184_2, iq_184_3, iq_184_5, iq_184_6, iq_184_9, iq_184_10, iq_184_11, iq_184_14, iq_184_15, iq_184_16, iq_184_17, iq_184_20, iq_184_21, iq_184_24, iq_184_25, iq_184_26, iq_184_29, iq_184_30, iq_184_31, iq_184_32, iq_184_33, iq_184_34, iq_184_35, iq_184_36, iq_184_38, iq_184_39, iq_184_42, iq_184_43, iq_184_44, iq_184_47, iq_184_48, iq_184_49, iq_184_50, iq_184_51, iq_184_52, iq_184_53, iq_184_54, iq_184_55, iq_184_56, iq_184_58, iq_184_60, iq_184_61, iq_184_64, iq_184_65, iq_184_68, iq_184_69, iq_184_71, iq_184_74, iq_184_76, iq_184_79, iq_184_80, iq_184_83, iq_184_85, iq_184_86, iq_184_87, iq_184_90, iq_184_93, iq_184_95, iq_184_97, iq_184_100, iq_184_101, iq_184_104, iq_184_105, iq_184_106, iq_184_107, iq_184_108, iq_184_111, iq_184_112, iq_184_113, iq_184_114, iq_184_115, iq_184_118, iq_184_119, iq_184_122, iq_184_123, iq_184_124, iq_184_127, iq_184_130, iq_184_131, iq_184_134, iq_184_135, iq_184_136, iq_184_137, iq_184_139, iq_184_140, iq_184_143, iq_184_144, iq_184_145, iq_184_146, iq_184_147, iq_184_148, iq_184_151, iq_184_152, iq_184_153, iq_184_156, iq_184_157, iq_184_160, iq_184_163, iq_184_164, iq_184_167, iq_184_168, iq_184_169, gf_109_0, gf_109_1, gf_109_2, gf_109_3, gf_109_4, gf_109_5, gf_109_6, gf_109_7, gf_109_8, gf_109_9, gf_109_10, gf_109_11, gf_109_12, gf_109_13, gf_109_14, gf_109_15, gf_109_16, gf_109_17, gf_109_18, gf_109_19, gf_109_20, gf_109_21, gf_109_22, gf_109_23, gf_109_24, gf_109_25, gf_109_26, gf_109_27, gf_109_28, gf_109_29, gf_109_30, kd_109, Option.bind_some, Option.toList, List.cons_append, List.nil_append, ↓reduceIte, nI_1, Int32.reduceLT, Int32.reduceLE, dv_1, dv_2, dv_3, dv_4, dv_6, dv_8, dv_10, dv_20, dv_100, dv_200, dv_500, nI_m1, nI_pm1, e2, hx, st_124, ld_124, rc_joined]
theorem rc_worked_lp (d : Nat) (t q : Nat) (ht : t < 14) (hq : D 110 (75 + 200 * t + 2) = nI q) (hq9 : q ≤ 96) (hs : tx_st (D 110) t q) (hd : 1 ≤ sp_dp (D 110) t q) (nm : Int32 → Int32) (hnm : nm = fun v => D 123 v.toNatClampNeg) :
    ∀ m k : Nat, k + m = q → ∀ (P : Nat → Int32) (l4 l5 : Option Value), sp_ag (sp_dp (D 110) t k) P (sp_wk (D 110) nm t k).2 → ∃ P', mx_run (d + 1) 184 4 [some (.ref 109), some (.int (nI t)), some (.int (nI (sp_dp (D 110) t k))), some (.int (nI k)), l4, l5] [] (hp R c (mx_up D 124 P)) = some (some (.int ((sp_wk (D 110) nm t q).2 0)), hp R c (mx_up D 124 P')) := by
  intro m
  induction m with
  | zero =>
    intro k hk P l4 l5 hP
    obtain rfl : k = q := by omega
    refine ⟨P, ?_⟩
    rw [rc_wk_e R c (mx_up D 124 P) d t k ht hq hq9, up_s, hP 0 (by omega)]
  | succ m ih =>
    intro k hk P l4 l5 hP
    rw [rc_wk_a R c (mx_up D 124 P) d t q k ht hq hq9 (by omega)]
    have e1 := sp_wk1 (D 110) nm t k
    have hstep : sp_wk (D 110) nm t (k + 1) = sp_w1 nm (sp_wt (D 110) t k) (sp_wv (D 110) t k) (sp_wk (D 110) nm t k) := rfl
    have hdp : sp_dp (D 110) t (k + 1) = if sp_wt (D 110) t k = 2 then (if sp_wv (D 110) t k = 33 then sp_dp (D 110) t k else sp_dp (D 110) t k - 1) else sp_dp (D 110) t k + 1 := rfl
    have IH := fun P => ih (k + 1) (by omega) P
    rw [hstep, hdp] at IH
    unfold sp_w1 at IH
    simp only [e1] at IH
    show ∃ P', mx_run (d + 1) 184 58 [_, _, _, _, some (.int (sp_wt (D 110) t k)), some (.int (sp_wv (D 110) t k))] [] _ = _
    rcases hs k (by omega) with ⟨h1, ⟨u, hu, h2⟩, h3⟩ | ⟨h1, h2, h3⟩ | ⟨h1, h2, h3, h4⟩ | ⟨h1, h2, h3, h4⟩
    · simp only [h1, show ((0 : Int32) = 2) = False by decide, if_false, if_true] at IH
      rw [h1, rc_wk_0 R c _ d k _ (by omega), up_s, up_up]
      exact IH _ _ _ (sp_ag_up1 hP _)
    · obtain ⟨u, hu, h5⟩ := sp_let_nI h2
      have h6 : nm (sp_wv (D 110) t k) = D 123 u := by rw [hnm, h5]; dsimp only; rw [nI_clamp (by omega)]
      simp only [h1, h6, show ((1 : Int32) = 2) = False by decide, dv_1, if_false] at IH
      rw [h1, h5, rc_wk_1 R c _ d k _ (by omega) _ u hu, up_s, up_up]
      exact IH _ _ _ (sp_ag_up1 hP _)
    · simp only [h1, h2, if_true] at IH
      rw [h1, h2, rc_wk_2 R c _ d k _ h3 (by omega), up_s, up_up]
      have hg := hP (sp_dp (D 110) t k - 1) (by omega)
      rw [← hg] at IH
      exact IH _ _ _ (sp_ag_up hP _ _)
    · simp only [h1, eq_false (sp_sgn33 h2), if_true, if_false] at IH
      rw [h1, rc_wk_3 R c _ d k _ h3 (by omega) _ _ h2, up_s, up_up]
      have hg := hP (sp_dp (D 110) t k - 1) (by omega)
      have hg2 := hP (sp_dp (D 110) t k - 2) (by omega)
      rw [← hg, ← hg2] at IH
      exact IH _ _ _ (sp_ag_le (sp_ag_up hP _ _) (by omega))
theorem rc_worked (d : Nat) (t q : Nat) (ht : t < 14) (hq : D 110 (75 + 200 * t + 2) = nI q) (hq9 : q ≤ 96) (hs : tx_st (D 110) t q) (hd : 1 ≤ sp_dp (D 110) t q) (nm : Int32 → Int32) (hnm : ∀ v, sp_let (D 110 (75 + 200 * t)) v → D 123 v.toNatClampNeg = nm v) :
    ∃ P', mx_run (d + 1) 184 0 [some (.ref 109), some (.int (nI t)), none, none, none, none] [] (hp R c D) = some (some (.int ((sp_wk (D 110) nm t q).2 0)), hp R c (mx_up D 124 P')) := by
  simp only [iq_184_0, iq_184_1, iq_184_2, iq_184_3]
  obtain ⟨P', e⟩ := rc_worked_lp R c D d t q ht hq hq9 hs hd _ rfl q 0 (by omega) (D 124) none none (fun i hi => absurd hi (by show ¬ i < 0; omega))
  rw [up_id, sp_wk_cg _ _ nm t q hs hnm q (Nat.le_refl _)] at e
  exact ⟨P', e⟩
