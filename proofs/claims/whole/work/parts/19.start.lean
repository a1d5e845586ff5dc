theorem whole_dummy : True := trivial
