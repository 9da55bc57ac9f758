theorem i3_lt6 (k : Int32) : (k < 6) = ¬ (5 < k) := propext ⟨fun h z => by
  rw [Int32.lt_iff_toInt_lt] at h z
  rw [show (6 : Int32).toInt = 6 by decide] at h
  rw [show (5 : Int32).toInt = 5 by decide] at z
  omega, fun h => by
  rw [Int32.lt_iff_toInt_lt] at h ⊢
  rw [show (5 : Int32).toInt = 5 by decide] at h
  rw [show (6 : Int32).toInt = 6 by decide]
  omega⟩
theorem i3_lt4 (k : Int32) : (k < 4) = ¬ (3 < k) := propext ⟨fun h z => by
  rw [Int32.lt_iff_toInt_lt] at h z
  rw [show (4 : Int32).toInt = 4 by decide] at h
  rw [show (3 : Int32).toInt = 3 by decide] at z
  omega, fun h => by
  rw [Int32.lt_iff_toInt_lt] at h ⊢
  rw [show (3 : Int32).toInt = 3 by decide] at h
  rw [show (4 : Int32).toInt = 4 by decide]
  omega⟩
theorem i3_lt5 (k : Int32) : (k < 5) = ¬ (4 < k) := propext ⟨fun h z => by
  rw [Int32.lt_iff_toInt_lt] at h z
  rw [show (5 : Int32).toInt = 5 by decide] at h
  rw [show (4 : Int32).toInt = 4 by decide] at z
  omega, fun h => by
  rw [Int32.lt_iff_toInt_lt] at h ⊢
  rw [show (4 : Int32).toInt = 4 by decide] at h
  rw [show (5 : Int32).toInt = 5 by decide]
  omega⟩
theorem ci_isKind (d : Nat) (k : Int32) (h : mx_MH) : mx_run d 14 0 [some (.int k)] [] h = some (some (.int (if ¬ k < 0 ∧ ¬ 5 < k then 1 else 0)), h) := by
  by_cases h1 : k < 0
  · simp only [iq_14_0, iq_14_1, iq_14_4, iq_14_5, iq_14_7, iq_14_10, iq_14_11, iq_14_14, iq_14_15, iq_14_15z, ib_14_15, h1, Option.bind_some, Option.toList, List.cons_append, List.nil_append, ↓reduceIte, nI_1, Int32.reduceLT, Int32.reduceLE, dv_1, dv_2, dv_3, dv_4, dv_6, dv_8, dv_10, dv_20, dv_100, dv_200, dv_500, not_true_eq_false, false_and]
  · by_cases h2 : 5 < k
    · simp only [iq_14_0, iq_14_1, iq_14_4, iq_14_5, iq_14_7, iq_14_10, iq_14_11, iq_14_14, iq_14_15, iq_14_15z, ib_14_15, i3_lt6, h1, h2, Option.bind_some, Option.toList, List.cons_append, List.nil_append, ↓reduceIte, nI_1, Int32.reduceLT, Int32.reduceLE, dv_1, dv_2, dv_3, dv_4, dv_6, dv_8, dv_10, dv_20, dv_100, dv_200, dv_500, not_true_eq_false, and_false]
    · simp only [iq_14_0, iq_14_1, iq_14_4, iq_14_5, iq_14_7, iq_14_10, iq_14_11, iq_14_14, iq_14_15, iq_14_15z, ib_14_15, i3_lt6, h1, h2, Option.bind_some, Option.toList, List.cons_append, List.nil_append, ↓reduceIte, nI_1, Int32.reduceLT, Int32.reduceLE, dv_1, dv_2, dv_3, dv_4, dv_6, dv_8, dv_10, dv_20, dv_100, dv_200, dv_500, not_false_eq_true, and_self]
theorem ci_isWeight (d : Nat) (k : Int32) (h : mx_MH) : mx_run d 15 0 [some (.int k)] [] h = some (some (.int (if ¬ k < 1 ∧ ¬ 50 < k then 1 else 0)), h) := by
  by_cases h1 : k < 1
  · simp only [iq_15_0, iq_15_1, iq_15_2, iq_15_5, iq_15_6, iq_15_8, iq_15_11, iq_15_12, iq_15_15, iq_15_16, iq_15_16z, ib_15_16, h1, Option.bind_some, Option.toList, List.cons_append, List.nil_append, ↓reduceIte, nI_1, Int32.reduceLT, Int32.reduceLE, dv_1, dv_2, dv_3, dv_4, dv_6, dv_8, dv_10, dv_20, dv_100, dv_200, dv_500, not_true_eq_false, false_and]
  · by_cases h2 : 50 < k
    · simp only [iq_15_0, iq_15_1, iq_15_2, iq_15_5, iq_15_6, iq_15_8, iq_15_11, iq_15_12, iq_15_15, iq_15_16, iq_15_16z, ib_15_16, h1, h2, Option.bind_some, Option.toList, List.cons_append, List.nil_append, ↓reduceIte, nI_1, Int32.reduceLT, Int32.reduceLE, dv_1, dv_2, dv_3, dv_4, dv_6, dv_8, dv_10, dv_20, dv_100, dv_200, dv_500, not_true_eq_false, and_false]
    · simp only [iq_15_0, iq_15_1, iq_15_2, iq_15_5, iq_15_6, iq_15_8, iq_15_11, iq_15_12, iq_15_15, iq_15_16, iq_15_16z, ib_15_16, h1, h2, Option.bind_some, Option.toList, List.cons_append, List.nil_append, ↓reduceIte, nI_1, Int32.reduceLT, Int32.reduceLE, dv_1, dv_2, dv_3, dv_4, dv_6, dv_8, dv_10, dv_20, dv_100, dv_200, dv_500, not_false_eq_true, and_self]
theorem ci_isPlace (d : Nat) (k : Int32) (h : mx_MH) : mx_run d 16 0 [some (.int k)] [] h = some (some (.int (if ¬ k < 0 ∧ ¬ 9999 < k then 1 else 0)), h) := by
  by_cases h1 : k < 0
  · simp only [iq_16_0, iq_16_1, iq_16_4, iq_16_5, iq_16_8, iq_16_11, iq_16_12, iq_16_15, iq_16_16, iq_16_16z, ib_16_16, h1, Option.bind_some, Option.toList, List.cons_append, List.nil_append, ↓reduceIte, nI_1, Int32.reduceLT, Int32.reduceLE, dv_1, dv_2, dv_3, dv_4, dv_6, dv_8, dv_10, dv_20, dv_100, dv_200, dv_500, not_true_eq_false, false_and]
  · by_cases h2 : 9999 < k
    · simp only [iq_16_0, iq_16_1, iq_16_4, iq_16_5, iq_16_8, iq_16_11, iq_16_12, iq_16_15, iq_16_16, iq_16_16z, ib_16_16, h1, h2, Option.bind_some, Option.toList, List.cons_append, List.nil_append, ↓reduceIte, nI_1, Int32.reduceLT, Int32.reduceLE, dv_1, dv_2, dv_3, dv_4, dv_6, dv_8, dv_10, dv_20, dv_100, dv_200, dv_500, not_true_eq_false, and_false]
    · simp only [iq_16_0, iq_16_1, iq_16_4, iq_16_5, iq_16_8, iq_16_11, iq_16_12, iq_16_15, iq_16_16, iq_16_16z, ib_16_16, h1, h2, Option.bind_some, Option.toList, List.cons_append, List.nil_append, ↓reduceIte, nI_1, Int32.reduceLT, Int32.reduceLE, dv_1, dv_2, dv_3, dv_4, dv_6, dv_8, dv_10, dv_20, dv_100, dv_200, dv_500, not_false_eq_true, and_self]
theorem ci_isSheet (d : Nat) (k : Int32) (h : mx_MH) : mx_run d 88 0 [some (.int k)] [] h = some (some (.int (if ¬ k < 0 ∧ ¬ 3 < k then 1 else 0)), h) := by
  by_cases h1 : k < 0
  · simp only [iq_88_0, iq_88_1, iq_88_4, iq_88_5, iq_88_6, iq_88_9, iq_88_10, iq_88_13, iq_88_14, iq_88_14z, ib_88_14, h1, Option.bind_some, Option.toList, List.cons_append, List.nil_append, ↓reduceIte, nI_1, Int32.reduceLT, Int32.reduceLE, dv_1, dv_2, dv_3, dv_4, dv_6, dv_8, dv_10, dv_20, dv_100, dv_200, dv_500, not_true_eq_false, false_and]
  · by_cases h2 : 3 < k
    · simp only [iq_88_0, iq_88_1, iq_88_4, iq_88_5, iq_88_6, iq_88_9, iq_88_10, iq_88_13, iq_88_14, iq_88_14z, ib_88_14, i3_lt4, h1, h2, Option.bind_some, Option.toList, List.cons_append, List.nil_append, ↓reduceIte, nI_1, Int32.reduceLT, Int32.reduceLE, dv_1, dv_2, dv_3, dv_4, dv_6, dv_8, dv_10, dv_20, dv_100, dv_200, dv_500, not_true_eq_false, and_false]
    · simp only [iq_88_0, iq_88_1, iq_88_4, iq_88_5, iq_88_6, iq_88_9, iq_88_10, iq_88_13, iq_88_14, iq_88_14z, ib_88_14, i3_lt4, h1, h2, Option.bind_some, Option.toList, List.cons_append, List.nil_append, ↓reduceIte, nI_1, Int32.reduceLT, Int32.reduceLE, dv_1, dv_2, dv_3, dv_4, dv_6, dv_8, dv_10, dv_20, dv_100, dv_200, dv_500, not_false_eq_true, and_self]
theorem ci_isSlot (d : Nat) (k : Int32) (h : mx_MH) : mx_run d 161 0 [some (.int k)] [] h = some (some (.int (if ¬ k < 0 ∧ ¬ 4 < k then 1 else 0)), h) := by
  by_cases h1 : k < 0
  · simp only [iq_161_0, iq_161_1, iq_161_4, iq_161_5, iq_161_6, iq_161_9, iq_161_10, iq_161_13, iq_161_14, iq_161_14z, ib_161_14, h1, Option.bind_some, Option.toList, List.cons_append, List.nil_append, ↓reduceIte, nI_1, Int32.reduceLT, Int32.reduceLE, dv_1, dv_2, dv_3, dv_4, dv_6, dv_8, dv_10, dv_20, dv_100, dv_200, dv_500, not_true_eq_false, false_and]
  · by_cases h2 : 4 < k
    · simp only [iq_161_0, iq_161_1, iq_161_4, iq_161_5, iq_161_6, iq_161_9, iq_161_10, iq_161_13, iq_161_14, iq_161_14z, ib_161_14, i3_lt5, h1, h2, Option.bind_some, Option.toList, List.cons_append, List.nil_append, ↓reduceIte, nI_1, Int32.reduceLT, Int32.reduceLE, dv_1, dv_2, dv_3, dv_4, dv_6, dv_8, dv_10, dv_20, dv_100, dv_200, dv_500, not_true_eq_false, and_false]
    · simp only [iq_161_0, iq_161_1, iq_161_4, iq_161_5, iq_161_6, iq_161_9, iq_161_10, iq_161_13, iq_161_14, iq_161_14z, ib_161_14, i3_lt5, h1, h2, Option.bind_some, Option.toList, List.cons_append, List.nil_append, ↓reduceIte, nI_1, Int32.reduceLT, Int32.reduceLE, dv_1, dv_2, dv_3, dv_4, dv_6, dv_8, dv_10, dv_20, dv_100, dv_200, dv_500, not_false_eq_true, and_self]
theorem i3_01 (k : Int32) : (¬ k < 0 ∧ ¬ 1 < k) = (k = 0 ∨ k = 1) := propext ⟨fun ⟨h1, h2⟩ => by
  obtain ⟨j, hj, rfl⟩ := nI_of h1
  rw [show (1 : Int32) = nI 1 from rfl, nI_ltI (by omega) hj] at h2
  have : j = 0 ∨ j = 1 := by omega
  rcases this with rfl | rfl
  · exact Or.inl rfl
  · exact Or.inr rfl, fun h => by
  rcases h with rfl | rfl
  · decide
  · decide⟩
theorem ci_isChoice (d : Nat) (k : Int32) (h : mx_MH) : mx_run d 82 0 [some (.int k)] [] h = some (some (.int (if ¬ k < 0 ∧ ¬ 1 < k then 1 else 0)), h) := by
  simp only [i3_01]
  by_cases h1 : k = 0
  · simp only [iq_82_0, iq_82_1, iq_82_4, iq_82_5, iq_82_6, iq_82_9, iq_82_10, iq_82_13, iq_82_14, iq_82_14z, ib_82_14, h1, Option.bind_some, Option.toList, List.cons_append, List.nil_append, ↓reduceIte, nI_1, Int32.reduceLT, Int32.reduceLE, dv_1, dv_2, dv_3, dv_4, dv_6, dv_8, dv_10, dv_20, dv_100, dv_200, dv_500, true_or]
  · by_cases h2 : k = 1
    · simp only [iq_82_0, iq_82_1, iq_82_4, iq_82_5, iq_82_6, iq_82_9, iq_82_10, iq_82_13, iq_82_14, iq_82_14z, ib_82_14, h2, Option.bind_some, Option.toList, List.cons_append, List.nil_append, ↓reduceIte, nI_1, Int32.reduceLT, Int32.reduceLE, dv_1, dv_2, dv_3, dv_4, dv_6, dv_8, dv_10, dv_20, dv_100, dv_200, dv_500, or_true]
    · simp only [iq_82_0, iq_82_1, iq_82_4, iq_82_5, iq_82_6, iq_82_9, iq_82_10, iq_82_13, iq_82_14, iq_82_14z, ib_82_14, h1, h2, Option.bind_some, Option.toList, List.cons_append, List.nil_append, ↓reduceIte, nI_1, Int32.reduceLT, Int32.reduceLE, dv_1, dv_2, dv_3, dv_4, dv_6, dv_8, dv_10, dv_20, dv_100, dv_200, dv_500, or_self]
theorem ci_within (d : Nat) (v m : Int32) (h : mx_MH) (hm : ¬ m < 0) : mx_run d 25 0 [some (.int v), some (.int m)] [] h = some (some (.int (sp_wi v m)), h) := by
  unfold sp_wi
  simp only [iq_25_0, iq_25_1, iq_25_2, iq_25_3, iq_25_6, iq_25_9]
  by_cases h1 : m < v
  · have h2 : ¬ v < 0 := fun z => hm (Int32.lt_trans h1 z)
    simp only [h1, h2, if_true, if_false]
    by_cases h3 : 0 < m
    · have : ¬ v < m := fun z => Int32.lt_irrefl (Int32.lt_trans h1 z)
      simp only [this, h3, if_true, if_false]
    · have e : m = 0 := Int32.le_antisymm (Int32.not_lt.mp h3) (Int32.not_lt.mp hm)
      have : ¬ v < m := fun z => Int32.lt_irrefl (Int32.lt_trans h1 z)
      subst e
      simp [h2]
  · by_cases h2 : v < m
    · simp only [h1, h2, if_true, if_false]
      by_cases h3 : v < 0
      · have : ¬ 0 < v := fun z => Int32.lt_irrefl (Int32.lt_trans h3 z)
        simp only [h3, this, if_true, if_false]
      · by_cases h4 : 0 < v
        · simp only [h3, h4, if_true, if_false]
        · have e : v = 0 := Int32.le_antisymm (Int32.not_lt.mp h4) (Int32.not_lt.mp h3)
          simp only [h3, h4, if_false, e]
    · have e : v = m := Int32.le_antisymm (Int32.not_lt.mp h1) (Int32.not_lt.mp h2)
      subst e
      simp only [h1, hm, if_false]
      by_cases h4 : 0 < v
      · simp only [h4, if_true]
      · have e : v = 0 := Int32.le_antisymm (Int32.not_lt.mp h4) (Int32.not_lt.mp hm)
        subst e
        simp
theorem ci_join (d : Nat) (v x y : Int32) (h : mx_MH) (hv : sp_sgn v) : mx_run d 24 0 [some (.int v), some (.int x), some (.int y)] [] h = some (some (.int (sp_jn v x y)), h) := by
  rcases hv with rfl | rfl | rfl | rfl | rfl | rfl | rfl | rfl | rfl
  · by_cases h1 : x = 0 <;> by_cases h2 : y = 0 <;> simp [iq_24_0, iq_24_1, iq_24_76, iq_24_77, iq_24_80, iq_24_81, iq_24_84, iq_24_85, iq_24_88, iq_24_89, iq_24_90, iq_24_91, iq_24_94, iq_24_95, iq_24_98, iq_24_99, iq_24_102, iq_24_103, iq_24_104, iq_24_105, iq_24_106, iq_24_109, iq_24_110, iq_24_113, iq_24_114, iq_24_115, iq_24_116, iq_24_117, iq_24_120, iq_24_121, iq_24_124, iq_24_125, iq_24_126, iq_24_127, iq_24_128, iq_24_131, iq_24_132, iq_24_135, iq_24_136, iq_24_137, iq_24_138, iq_24_139, iq_24_140, iq_24_141, iq_24_142, iq_24_143, iq_24_144, iq_24_145, iq_24_146, iq_24_147, iq_24_148, iq_24_149, iq_24_150, iq_24_153, iq_24_154, iq_24_157, iq_24_158, iq_24_159, iq_24_160, sp_jn, h1, h2]
  · simp [iq_24_0, iq_24_1, iq_24_76, iq_24_77, iq_24_80, iq_24_81, iq_24_84, iq_24_85, iq_24_88, iq_24_89, iq_24_90, iq_24_91, iq_24_94, iq_24_95, iq_24_98, iq_24_99, iq_24_102, iq_24_103, iq_24_104, iq_24_105, iq_24_106, iq_24_109, iq_24_110, iq_24_113, iq_24_114, iq_24_115, iq_24_116, iq_24_117, iq_24_120, iq_24_121, iq_24_124, iq_24_125, iq_24_126, iq_24_127, iq_24_128, iq_24_131, iq_24_132, iq_24_135, iq_24_136, iq_24_137, iq_24_138, iq_24_139, iq_24_140, iq_24_141, iq_24_142, iq_24_143, iq_24_144, iq_24_145, iq_24_146, iq_24_147, iq_24_148, iq_24_149, iq_24_150, iq_24_153, iq_24_154, iq_24_157, iq_24_158, iq_24_159, iq_24_160, sp_jn]
  · simp [iq_24_0, iq_24_1, iq_24_76, iq_24_77, iq_24_80, iq_24_81, iq_24_84, iq_24_85, iq_24_88, iq_24_89, iq_24_90, iq_24_91, iq_24_94, iq_24_95, iq_24_98, iq_24_99, iq_24_102, iq_24_103, iq_24_104, iq_24_105, iq_24_106, iq_24_109, iq_24_110, iq_24_113, iq_24_114, iq_24_115, iq_24_116, iq_24_117, iq_24_120, iq_24_121, iq_24_124, iq_24_125, iq_24_126, iq_24_127, iq_24_128, iq_24_131, iq_24_132, iq_24_135, iq_24_136, iq_24_137, iq_24_138, iq_24_139, iq_24_140, iq_24_141, iq_24_142, iq_24_143, iq_24_144, iq_24_145, iq_24_146, iq_24_147, iq_24_148, iq_24_149, iq_24_150, iq_24_153, iq_24_154, iq_24_157, iq_24_158, iq_24_159, iq_24_160, sp_jn]
  · simp [iq_24_0, iq_24_1, iq_24_76, iq_24_77, iq_24_80, iq_24_81, iq_24_84, iq_24_85, iq_24_88, iq_24_89, iq_24_90, iq_24_91, iq_24_94, iq_24_95, iq_24_98, iq_24_99, iq_24_102, iq_24_103, iq_24_104, iq_24_105, iq_24_106, iq_24_109, iq_24_110, iq_24_113, iq_24_114, iq_24_115, iq_24_116, iq_24_117, iq_24_120, iq_24_121, iq_24_124, iq_24_125, iq_24_126, iq_24_127, iq_24_128, iq_24_131, iq_24_132, iq_24_135, iq_24_136, iq_24_137, iq_24_138, iq_24_139, iq_24_140, iq_24_141, iq_24_142, iq_24_143, iq_24_144, iq_24_145, iq_24_146, iq_24_147, iq_24_148, iq_24_149, iq_24_150, iq_24_153, iq_24_154, iq_24_157, iq_24_158, iq_24_159, iq_24_160, sp_jn]
  · by_cases h1 : y = 0 <;> simp [iq_24_0, iq_24_1, iq_24_76, iq_24_77, iq_24_80, iq_24_81, iq_24_84, iq_24_85, iq_24_88, iq_24_89, iq_24_90, iq_24_91, iq_24_94, iq_24_95, iq_24_98, iq_24_99, iq_24_102, iq_24_103, iq_24_104, iq_24_105, iq_24_106, iq_24_109, iq_24_110, iq_24_113, iq_24_114, iq_24_115, iq_24_116, iq_24_117, iq_24_120, iq_24_121, iq_24_124, iq_24_125, iq_24_126, iq_24_127, iq_24_128, iq_24_131, iq_24_132, iq_24_135, iq_24_136, iq_24_137, iq_24_138, iq_24_139, iq_24_140, iq_24_141, iq_24_142, iq_24_143, iq_24_144, iq_24_145, iq_24_146, iq_24_147, iq_24_148, iq_24_149, iq_24_150, iq_24_153, iq_24_154, iq_24_157, iq_24_158, iq_24_159, iq_24_160, sp_jn, h1]
  · by_cases h1 : x < y <;> simp [iq_24_0, iq_24_1, iq_24_76, iq_24_77, iq_24_80, iq_24_81, iq_24_84, iq_24_85, iq_24_88, iq_24_89, iq_24_90, iq_24_91, iq_24_94, iq_24_95, iq_24_98, iq_24_99, iq_24_102, iq_24_103, iq_24_104, iq_24_105, iq_24_106, iq_24_109, iq_24_110, iq_24_113, iq_24_114, iq_24_115, iq_24_116, iq_24_117, iq_24_120, iq_24_121, iq_24_124, iq_24_125, iq_24_126, iq_24_127, iq_24_128, iq_24_131, iq_24_132, iq_24_135, iq_24_136, iq_24_137, iq_24_138, iq_24_139, iq_24_140, iq_24_141, iq_24_142, iq_24_143, iq_24_144, iq_24_145, iq_24_146, iq_24_147, iq_24_148, iq_24_149, iq_24_150, iq_24_153, iq_24_154, iq_24_157, iq_24_158, iq_24_159, iq_24_160, sp_jn, h1]
  · by_cases h1 : x = y <;> simp [iq_24_0, iq_24_1, iq_24_76, iq_24_77, iq_24_80, iq_24_81, iq_24_84, iq_24_85, iq_24_88, iq_24_89, iq_24_90, iq_24_91, iq_24_94, iq_24_95, iq_24_98, iq_24_99, iq_24_102, iq_24_103, iq_24_104, iq_24_105, iq_24_106, iq_24_109, iq_24_110, iq_24_113, iq_24_114, iq_24_115, iq_24_116, iq_24_117, iq_24_120, iq_24_121, iq_24_124, iq_24_125, iq_24_126, iq_24_127, iq_24_128, iq_24_131, iq_24_132, iq_24_135, iq_24_136, iq_24_137, iq_24_138, iq_24_139, iq_24_140, iq_24_141, iq_24_142, iq_24_143, iq_24_144, iq_24_145, iq_24_146, iq_24_147, iq_24_148, iq_24_149, iq_24_150, iq_24_153, iq_24_154, iq_24_157, iq_24_158, iq_24_159, iq_24_160, sp_jn, h1]
  · by_cases h1 : y < x <;> simp [iq_24_0, iq_24_1, iq_24_76, iq_24_77, iq_24_80, iq_24_81, iq_24_84, iq_24_85, iq_24_88, iq_24_89, iq_24_90, iq_24_91, iq_24_94, iq_24_95, iq_24_98, iq_24_99, iq_24_102, iq_24_103, iq_24_104, iq_24_105, iq_24_106, iq_24_109, iq_24_110, iq_24_113, iq_24_114, iq_24_115, iq_24_116, iq_24_117, iq_24_120, iq_24_121, iq_24_124, iq_24_125, iq_24_126, iq_24_127, iq_24_128, iq_24_131, iq_24_132, iq_24_135, iq_24_136, iq_24_137, iq_24_138, iq_24_139, iq_24_140, iq_24_141, iq_24_142, iq_24_143, iq_24_144, iq_24_145, iq_24_146, iq_24_147, iq_24_148, iq_24_149, iq_24_150, iq_24_153, iq_24_154, iq_24_157, iq_24_158, iq_24_159, iq_24_160, sp_jn, h1]
  · by_cases h1 : x = 0 <;> by_cases h2 : y = 0 <;> simp [iq_24_0, iq_24_1, iq_24_76, iq_24_77, iq_24_80, iq_24_81, iq_24_84, iq_24_85, iq_24_88, iq_24_89, iq_24_90, iq_24_91, iq_24_94, iq_24_95, iq_24_98, iq_24_99, iq_24_102, iq_24_103, iq_24_104, iq_24_105, iq_24_106, iq_24_109, iq_24_110, iq_24_113, iq_24_114, iq_24_115, iq_24_116, iq_24_117, iq_24_120, iq_24_121, iq_24_124, iq_24_125, iq_24_126, iq_24_127, iq_24_128, iq_24_131, iq_24_132, iq_24_135, iq_24_136, iq_24_137, iq_24_138, iq_24_139, iq_24_140, iq_24_141, iq_24_142, iq_24_143, iq_24_144, iq_24_145, iq_24_146, iq_24_147, iq_24_148, iq_24_149, iq_24_150, iq_24_153, iq_24_154, iq_24_157, iq_24_158, iq_24_159, iq_24_160, sp_jn, h1, h2]
