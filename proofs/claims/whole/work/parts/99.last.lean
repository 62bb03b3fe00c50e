theorem xm_zz : True := trivial
