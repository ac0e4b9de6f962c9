theorem zz_test (n : Nat) : n + 0 = n := rfl
