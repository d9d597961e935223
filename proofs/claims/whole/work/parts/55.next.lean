theorem zz_next : True := trivial
