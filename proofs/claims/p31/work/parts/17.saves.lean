def mBeg (w : Int32) : Rw := fun j => if j = 6 then w else if j = 1 then 2 else if j = 2 then 3 else if j = 4 then 8 else if j = 9 then 8 else 0
