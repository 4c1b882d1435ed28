theorem zz_x : True := trivial
