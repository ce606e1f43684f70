theorem ex5 : 1 = 1 := rfl
