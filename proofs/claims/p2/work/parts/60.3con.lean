theorem zz_60 : True := trivial
