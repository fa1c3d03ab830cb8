variable {sc : SC}
theorem zint (x : Int32) : narrow .int (.int x) = .int x := rfl
