theorem fz_i2f (v : Int32) (h : ¬ v < -99999 ∧ ¬ 99999 < v ∨ v = 1000000) : FP.f2i (FP.i2f v) = v := by
  refine (show Jvm.FP.Core.f2i (Jvm.FP.Core.i2f v) = v from Jvm.FP.Core.f2i_i2f ?_)
  rcases h with ⟨h1, h2⟩ | rfl
  · rw [Int32.lt_iff_toInt_lt, show (-99999 : Int32).toInt = -99999 by decide] at h1
    rw [Int32.lt_iff_toInt_lt, show (99999 : Int32).toInt = 99999 by decide] at h2
    omega
  · decide
