theorem eq_ti (a b : Int32) : a = b ↔ a.toInt = b.toInt := Int32.toInt_inj.symm
