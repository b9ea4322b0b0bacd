theorem xx_ : True := trivial
