theorem rz_l110 : rz_len 110 = 3075 := rfl
theorem rz_l111 : rz_len 111 = 3075 := rfl
theorem rz_l112 : rz_len 112 = 3075 := rfl
theorem rz_l113 : rz_len 113 = 4 := rfl
theorem rz_l114 : rz_len 114 = 4 := rfl
theorem rz_l115 : rz_len 115 = 96 := rfl
theorem rz_l116 : rz_len 116 = 5 := rfl
theorem rz_l117 : rz_len 117 = 5 := rfl
theorem rz_l118 : rz_len 118 = 5 := rfl
theorem rz_l119 : rz_len 119 = 5 := rfl
theorem rz_l120 : rz_len 120 = 120 := rfl
theorem rz_l121 : rz_len 121 = 75 := rfl
theorem rz_l122 : rz_len 122 = 96 := rfl
theorem rz_l123 : rz_len 123 = 128 := rfl
theorem rz_l124 : rz_len 124 = 100 := rfl
theorem rz_l125 : rz_len 125 = 24 := rfl
theorem rz_l126 : rz_len 126 = 60 := rfl
theorem rz_l127 : rz_len 127 = 60 := rfl
theorem rz_n0 : (0 : Int32).toNatClampNeg = 0 := by decide
theorem rz_i0 : mx_in (0) 3075 = true := by decide
theorem rz_n1 : (1 : Int32).toNatClampNeg = 1 := by decide
theorem rz_i1 : mx_in (1) 3075 = true := by decide
theorem rz_n2 : (2 : Int32).toNatClampNeg = 2 := by decide
theorem rz_i2 : mx_in (2) 3075 = true := by decide
theorem rz_n3 : (3 : Int32).toNatClampNeg = 3 := by decide
theorem rz_i3 : mx_in (3) 3075 = true := by decide
theorem rz_n4 : (4 : Int32).toNatClampNeg = 4 := by decide
theorem rz_i4 : mx_in (4) 3075 = true := by decide
theorem rz_n5 : (5 : Int32).toNatClampNeg = 5 := by decide
theorem rz_i5 : mx_in (5) 3075 = true := by decide
theorem rz_n6 : (6 : Int32).toNatClampNeg = 6 := by decide
theorem rz_i6 : mx_in (6) 3075 = true := by decide
theorem rz_n7 : (7 : Int32).toNatClampNeg = 7 := by decide
theorem rz_i7 : mx_in (7) 3075 = true := by decide
theorem rz_n8 : (8 : Int32).toNatClampNeg = 8 := by decide
theorem rz_i8 : mx_in (8) 3075 = true := by decide
theorem rz_n9 : (9 : Int32).toNatClampNeg = 9 := by decide
theorem rz_i9 : mx_in (9) 3075 = true := by decide
theorem rz_n10 : (10 : Int32).toNatClampNeg = 10 := by decide
theorem rz_i10 : mx_in (10) 3075 = true := by decide
theorem rz_n11 : (11 : Int32).toNatClampNeg = 11 := by decide
theorem rz_i11 : mx_in (11) 3075 = true := by decide
theorem rz_n12 : (12 : Int32).toNatClampNeg = 12 := by decide
theorem rz_i12 : mx_in (12) 3075 = true := by decide
theorem rz_n75 : (75 : Int32).toNatClampNeg = 75 := by decide
theorem rz_i75 : mx_in (75) 3075 = true := by decide
