theorem tz0_here : True := trivial
