variable {sc : SC}
def mn (S : ZS) : Nat := (S.2 0 0).toNatClampNeg
