theorem zz_hold : True := trivial
