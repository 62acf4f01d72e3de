theorem fl_t : True := trivial
