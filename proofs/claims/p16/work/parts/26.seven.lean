theorem c7_none : True := trivial
