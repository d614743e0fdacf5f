theorem xq_look : 1 = 1 := rfl
