-- the last part, while the others are laid
theorem zz_1 : True := trivial
