theorem tst_a : 1 = 1 := rfl
