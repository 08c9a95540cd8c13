theorem aa_last : True := trivial
