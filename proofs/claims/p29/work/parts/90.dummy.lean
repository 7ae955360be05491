theorem fk_dummy : True := trivial
