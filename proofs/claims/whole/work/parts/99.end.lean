theorem zz_end_of_parts : True := trivial
