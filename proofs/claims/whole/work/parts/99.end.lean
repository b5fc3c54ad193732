theorem gz_end : True := trivial
