theorem gg_ok : True := trivial
