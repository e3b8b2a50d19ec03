def gt9 : List (Int × Int) := [(131, 9), (136, 1), (136, 2)]
