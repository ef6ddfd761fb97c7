theorem st_one : (1 : Nat) = 1 := rfl
