/-- the two numbers of a turn -/
def c_lm : Int64 := 6364136223846793005
def c_la : Int64 := 1442695040888963407
theorem k_xs_1 (x : Int64) (k : Nat) : k_xs x (k + 1) = k_xs x k * c_lm + c_la := rfl
