theorem lw_end_mark : True := trivial
