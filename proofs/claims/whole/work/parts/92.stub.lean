theorem law_stub : True := trivial
