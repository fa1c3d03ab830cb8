theorem zlast0 : True := trivial
