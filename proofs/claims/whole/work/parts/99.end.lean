theorem end_99 : True := trivial
