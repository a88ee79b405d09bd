theorem zz_look : (0 : Nat) = 0 := rfl
