theorem xz_end : True := trivial
