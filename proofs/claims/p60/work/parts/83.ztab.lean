/-! the states of the known cooperative, b from 1 to 4 -/
def zt_0 (_ : Nat) : Nat → Int32 := fun j => nI (([] : List Nat).getD j 0)
def zt_1 (_ : Nat) : Nat → Int32 := fun j => nI (([0, 0, 1, 0, 0, 12] : List Nat).getD j 0)
def zt_2 (_ : Nat) : Nat → Int32 := fun j => nI (([1, 0, 1, 0, 0, 12, 2, 0, 0, 0, 0, 0, 0, 0, 3, 0, 0, 0, 0, 0, 0, 0, 1] : List Nat).getD j 0)
def zt_3 (_ : Nat) : Nat → Int32 := fun j => nI (([2, 0, 1, 0, 0, 12, 2, 1, 0, 0, 0, 0, 0, 0, 3, 2, 0, 0, 0, 0, 0, 0, 1, 1] : List Nat).getD j 0)
def zt_4 (_ : Nat) : Nat → Int32 := fun j => nI (([3, 0, 1, 0, 0, 12, 2, 1, 2, 0, 0, 0, 0, 0, 3, 2, 1, 0, 0, 0, 0, 0, 1, 1, 1] : List Nat).getD j 0)
def zt_5 (_ : Nat) : Nat → Int32 := fun j => nI (([3, 0, 1, 0, 20, 12, 2, 1, 2, 0, 0, 0, 0, 0, 3, 2, 1, 0, 0, 0, 0, 0, 1, 1, 1] : List Nat).getD j 0)
def zt_6 (_ : Nat) : Nat → Int32 := fun j => nI (([3, 0, 1, 0, 16, 12, 2, 1, 2, 0, 0, 0, 0, 0, 3, 2, 1, 0, 0, 0, 0, 0, 1, 1, 1, 0, 0, 0, 0, 0, 0, 0, 0, 0, 0, 0, 0, 0, 0, 0, 0, 0, 0, 0, 0, 0, 4] : List Nat).getD j 0)
def zt_7 (_ : Nat) : Nat → Int32 := fun j => nI (([3, 0, 1, 0, 15, 12, 2, 1, 2, 0, 0, 0, 0, 0, 3, 2, 1, 0, 0, 0, 0, 0, 1, 1, 1, 0, 0, 0, 0, 0, 0, 0, 0, 0, 0, 0, 0, 0, 0, 0, 0, 0, 0, 0, 0, 0, 4, 1] : List Nat).getD j 0)
def zt_8 (_ : Nat) : Nat → Int32 := fun j => nI (([3, 0, 1, 0, 15, 0, 2, 1, 2, 0, 0, 0, 0, 0, 3, 2, 1, 0, 0, 0, 0, 0, 1, 1, 1, 0, 0, 0, 0, 0, 0, 0, 0, 0, 0, 0, 0, 0, 0, 0, 0, 0, 0, 0, 0, 0, 4, 1, 0, 0, 0, 0, 0, 0, 6, 4, 2] : List Nat).getD j 0)
def zt_9 (b : Nat) : Nat → Int32 := fun j => nI (((([[3, 0, 1, 0, 15, 0, 2, 1, 2, 0, 0, 0, 0, 0, 3, 2, 1, 0, 0, 0, 0, 0, 1, 1, 1, 0, 0, 0, 0, 0, 0, 0, 0, 0, 0, 0, 0, 0, 3, 2, 1, 0, 0, 0, 0, 0, 4, 1, 0, 0, 0, 0, 0, 0, 6, 4, 2], [3, 0, 1, 0, 15, 0, 2, 1, 2, 0, 0, 0, 0, 0, 3, 2, 1, 0, 0, 0, 0, 0, 1, 1, 1, 0, 0, 0, 0, 0, 0, 0, 0, 0, 0, 0, 0, 0, 6, 4, 2, 0, 0, 0, 0, 0, 4, 1, 0, 0, 0, 0, 0, 0, 6, 4, 2], [3, 0, 1, 0, 15, 0, 2, 1, 2, 0, 0, 0, 0, 0, 3, 2, 1, 0, 0, 0, 0, 0, 1, 1, 1, 0, 0, 0, 0, 0, 0, 0, 0, 0, 0, 0, 0, 0, 9, 6, 3, 0, 0, 0, 0, 0, 4, 1, 0, 0, 0, 0, 0, 0, 6, 4, 2], [3, 0, 1, 0, 15, 0, 2, 1, 2, 0, 0, 0, 0, 0, 3, 2, 1, 0, 0, 0, 0, 0, 1, 1, 1, 0, 0, 0, 0, 0, 0, 0, 0, 0, 0, 0, 0, 0, 12, 8, 4, 0, 0, 0, 0, 0, 4, 1, 0, 0, 0, 0, 0, 0, 6, 4, 2]] : List (List Nat)).getD (b - 1) [])).getD j 0)
def zt_10 (b : Nat) : Nat → Int32 := fun j => nI (((([[3, 0, 1, 0, 15, 0, 2, 1, 2, 0, 0, 0, 0, 0, 3, 2, 1, 0, 0, 0, 0, 0, 1, 1, 1, 0, 0, 0, 0, 0, 0, 0, 0, 0, 0, 0, 0, 0, 3, 2, 1, 0, 0, 0, 0, 0, 4, 1, 0, 0, 0, 0, 0, 0, 6, 4, 2], [3, 0, 1, 0, 15, 0, 2, 1, 2, 0, 0, 0, 0, 0, 3, 2, 1, 0, 0, 0, 0, 0, 2, 1, 1, 0, 0, 0, 0, 0, 0, 0, 0, 0, 0, 0, 0, 0, 6, 4, 2, 0, 0, 0, 0, 0, 4, 1, 0, 0, 0, 0, 0, 0, 6, 4, 2], [3, 0, 1, 0, 15, 0, 2, 1, 2, 0, 0, 0, 0, 0, 3, 2, 1, 0, 0, 0, 0, 0, 3, 1, 1, 0, 0, 0, 0, 0, 0, 0, 0, 0, 0, 0, 0, 0, 9, 6, 3, 0, 0, 0, 0, 0, 4, 1, 0, 0, 0, 0, 0, 0, 6, 4, 2], [3, 0, 1, 0, 15, 0, 2, 1, 2, 0, 0, 0, 0, 0, 3, 2, 1, 0, 0, 0, 0, 0, 4, 1, 1, 0, 0, 0, 0, 0, 0, 0, 0, 0, 0, 0, 0, 0, 12, 8, 4, 0, 0, 0, 0, 0, 4, 1, 0, 0, 0, 0, 0, 0, 6, 4, 2]] : List (List Nat)).getD (b - 1) [])).getD j 0)
def zt_11 (b : Nat) : Nat → Int32 := fun j => nI (((([[3, 1, 1, 0, 15, 0, 2, 1, 2, 0, 0, 0, 0, 0, 3, 2, 1, 0, 0, 0, 0, 0, 1, 1, 1, 0, 0, 0, 0, 0, 0, 0, 0, 0, 0, 0, 0, 0, 3, 2, 1, 0, 0, 0, 0, 0, 4, 1, 0, 0, 0, 0, 0, 0, 6, 4, 2, 0, 0, 0, 0, 0, 1, 0, 0, 0, 0, 0, 0, 0, 0, 0, 0, 0, 3], [3, 1, 1, 0, 15, 0, 2, 1, 2, 0, 0, 0, 0, 0, 3, 2, 1, 0, 0, 0, 0, 0, 2, 1, 1, 0, 0, 0, 0, 0, 0, 0, 0, 0, 0, 0, 0, 0, 6, 4, 2, 0, 0, 0, 0, 0, 4, 1, 0, 0, 0, 0, 0, 0, 6, 4, 2, 0, 0, 0, 0, 0, 1, 0, 0, 0, 0, 0, 0, 0, 0, 0, 0, 0, 3], [3, 1, 1, 0, 15, 0, 2, 1, 2, 0, 0, 0, 0, 0, 3, 2, 1, 0, 0, 0, 0, 0, 3, 1, 1, 0, 0, 0, 0, 0, 0, 0, 0, 0, 0, 0, 0, 0, 9, 6, 3, 0, 0, 0, 0, 0, 4, 1, 0, 0, 0, 0, 0, 0, 6, 4, 2, 0, 0, 0, 0, 0, 1, 0, 0, 0, 0, 0, 0, 0, 0, 0, 0, 0, 3], [3, 1, 1, 0, 15, 0, 2, 1, 2, 0, 0, 0, 0, 0, 3, 2, 1, 0, 0, 0, 0, 0, 4, 1, 1, 0, 0, 0, 0, 0, 0, 0, 0, 0, 0, 0, 0, 0, 12, 8, 4, 0, 0, 0, 0, 0, 4, 1, 0, 0, 0, 0, 0, 0, 6, 4, 2, 0, 0, 0, 0, 0, 1, 0, 0, 0, 0, 0, 0, 0, 0, 0, 0, 0, 3]] : List (List Nat)).getD (b - 1) [])).getD j 0)
def zt_12 (b : Nat) : Nat → Int32 := fun j => nI (((([[3, 2, 1, 0, 15, 0, 2, 1, 2, 0, 0, 0, 0, 0, 3, 2, 1, 0, 0, 0, 0, 0, 1, 1, 1, 0, 0, 0, 0, 0, 0, 0, 0, 0, 0, 0, 0, 0, 3, 2, 1, 0, 0, 0, 0, 0, 4, 1, 0, 0, 0, 0, 0, 0, 6, 4, 2, 0, 0, 0, 0, 0, 1, 2, 0, 0, 0, 0, 0, 0, 0, 0, 0, 0, 3, 3], [3, 2, 1, 0, 15, 0, 2, 1, 2, 0, 0, 0, 0, 0, 3, 2, 1, 0, 0, 0, 0, 0, 2, 1, 1, 0, 0, 0, 0, 0, 0, 0, 0, 0, 0, 0, 0, 0, 6, 4, 2, 0, 0, 0, 0, 0, 4, 1, 0, 0, 0, 0, 0, 0, 6, 4, 2, 0, 0, 0, 0, 0, 1, 2, 0, 0, 0, 0, 0, 0, 0, 0, 0, 0, 3, 3], [3, 2, 1, 0, 15, 0, 2, 1, 2, 0, 0, 0, 0, 0, 3, 2, 1, 0, 0, 0, 0, 0, 3, 1, 1, 0, 0, 0, 0, 0, 0, 0, 0, 0, 0, 0, 0, 0, 9, 6, 3, 0, 0, 0, 0, 0, 4, 1, 0, 0, 0, 0, 0, 0, 6, 4, 2, 0, 0, 0, 0, 0, 1, 2, 0, 0, 0, 0, 0, 0, 0, 0, 0, 0, 3, 3], [3, 2, 1, 0, 15, 0, 2, 1, 2, 0, 0, 0, 0, 0, 3, 2, 1, 0, 0, 0, 0, 0, 4, 1, 1, 0, 0, 0, 0, 0, 0, 0, 0, 0, 0, 0, 0, 0, 12, 8, 4, 0, 0, 0, 0, 0, 4, 1, 0, 0, 0, 0, 0, 0, 6, 4, 2, 0, 0, 0, 0, 0, 1, 2, 0, 0, 0, 0, 0, 0, 0, 0, 0, 0, 3, 3]] : List (List Nat)).getD (b - 1) [])).getD j 0)
def zt_13 (b : Nat) : Nat → Int32 := fun j => nI (((([[3, 3, 1, 0, 15, 0, 2, 1, 2, 0, 0, 0, 0, 0, 3, 2, 1, 0, 0, 0, 0, 0, 1, 1, 1, 0, 0, 0, 0, 0, 0, 0, 0, 0, 0, 0, 0, 0, 3, 2, 1, 0, 0, 0, 0, 0, 4, 1, 0, 0, 0, 0, 0, 0, 6, 4, 2, 0, 0, 0, 0, 0, 1, 2, 3, 0, 0, 0, 0, 0, 0, 0, 0, 0, 3, 3, 3], [3, 3, 1, 0, 15, 0, 2, 1, 2, 0, 0, 0, 0, 0, 3, 2, 1, 0, 0, 0, 0, 0, 2, 1, 1, 0, 0, 0, 0, 0, 0, 0, 0, 0, 0, 0, 0, 0, 6, 4, 2, 0, 0, 0, 0, 0, 4, 1, 0, 0, 0, 0, 0, 0, 6, 4, 2, 0, 0, 0, 0, 0, 1, 2, 3, 0, 0, 0, 0, 0, 0, 0, 0, 0, 3, 3, 3], [3, 3, 1, 0, 15, 0, 2, 1, 2, 0, 0, 0, 0, 0, 3, 2, 1, 0, 0, 0, 0, 0, 3, 1, 1, 0, 0, 0, 0, 0, 0, 0, 0, 0, 0, 0, 0, 0, 9, 6, 3, 0, 0, 0, 0, 0, 4, 1, 0, 0, 0, 0, 0, 0, 6, 4, 2, 0, 0, 0, 0, 0, 1, 2, 3, 0, 0, 0, 0, 0, 0, 0, 0, 0, 3, 3, 3], [3, 3, 1, 0, 15, 0, 2, 1, 2, 0, 0, 0, 0, 0, 3, 2, 1, 0, 0, 0, 0, 0, 4, 1, 1, 0, 0, 0, 0, 0, 0, 0, 0, 0, 0, 0, 0, 0, 12, 8, 4, 0, 0, 0, 0, 0, 4, 1, 0, 0, 0, 0, 0, 0, 6, 4, 2, 0, 0, 0, 0, 0, 1, 2, 3, 0, 0, 0, 0, 0, 0, 0, 0, 0, 3, 3, 3]] : List (List Nat)).getD (b - 1) [])).getD j 0)
def zt_14 (b : Nat) : Nat → Int32 := fun j => nI (((([[3, 3, 2, 0, 15, 6, 2, 1, 2, 0, 0, 0, 0, 0, 3, 2, 1, 0, 0, 0, 0, 0, 1, 1, 1, 0, 0, 0, 0, 0, 0, 0, 0, 0, 0, 0, 0, 0, 2, 1, 1, 0, 0, 0, 0, 0, 3, 0, 0, 0, 0, 0, 0, 0, 6, 4, 2, 0, 0, 0, 0, 0, 1, 2, 3, 0, 0, 0, 1, 1, 0, 0, 0, 0, 3, 3, 2], [3, 3, 2, 0, 15, 6, 2, 1, 2, 0, 0, 0, 0, 0, 3, 2, 1, 0, 0, 0, 0, 0, 2, 1, 1, 0, 0, 0, 0, 0, 0, 0, 0, 0, 0, 0, 0, 0, 4, 3, 2, 0, 0, 0, 0, 0, 3, 0, 0, 0, 0, 0, 0, 0, 6, 4, 2, 0, 0, 0, 0, 0, 1, 2, 3, 0, 0, 0, 1, 1, 0, 0, 0, 0, 3, 3, 2], [3, 3, 2, 0, 15, 6, 2, 1, 2, 0, 0, 0, 0, 0, 3, 2, 1, 0, 0, 0, 0, 0, 3, 1, 1, 0, 0, 0, 0, 0, 0, 0, 0, 0, 0, 0, 0, 0, 6, 5, 3, 0, 0, 0, 0, 0, 3, 0, 0, 0, 0, 0, 0, 0, 6, 4, 2, 0, 0, 0, 0, 0, 1, 2, 3, 0, 0, 0, 1, 1, 0, 0, 0, 0, 3, 3, 2], [3, 3, 2, 0, 15, 6, 2, 1, 2, 0, 0, 0, 0, 0, 3, 2, 1, 0, 0, 0, 0, 0, 4, 1, 1, 0, 0, 0, 0, 0, 0, 0, 0, 0, 0, 0, 0, 0, 8, 7, 4, 0, 0, 0, 0, 0, 3, 0, 0, 0, 0, 0, 0, 0, 6, 4, 2, 0, 0, 0, 0, 0, 1, 2, 3, 0, 0, 0, 1, 1, 0, 0, 0, 0, 3, 3, 2]] : List (List Nat)).getD (b - 1) [])).getD j 0)
def zt_15 (b : Nat) : Nat → Int32 := fun j => nI (((([[3, 3, 2, 0, 15, 6, 2, 1, 2, 0, 0, 0, 0, 0, 3, 2, 1, 0, 0, 0, 0, 0, 1, 1, 1, 0, 0, 0, 0, 0, 0, 0, 0, 0, 0, 0, 0, 0, 2, 1, 1, 0, 0, 0, 0, 0, 3, 0, 0, 0, 0, 0, 0, 0, 6, 4, 2, 0, 0, 0, 0, 0, 1, 0, 3, 0, 0, 0, 1, 1, 0, 0, 0, 0, 3, 3, 2], [3, 3, 2, 0, 15, 6, 2, 1, 2, 0, 0, 0, 0, 0, 3, 2, 1, 0, 0, 0, 0, 0, 2, 1, 1, 0, 0, 0, 0, 0, 0, 0, 0, 0, 0, 0, 0, 0, 4, 3, 2, 0, 0, 0, 0, 0, 3, 0, 0, 0, 0, 0, 0, 0, 6, 4, 2, 0, 0, 0, 0, 0, 1, 0, 3, 0, 0, 0, 1, 1, 0, 0, 0, 0, 3, 3, 2], [3, 3, 2, 0, 15, 6, 2, 1, 2, 0, 0, 0, 0, 0, 3, 2, 1, 0, 0, 0, 0, 0, 3, 1, 1, 0, 0, 0, 0, 0, 0, 0, 0, 0, 0, 0, 0, 0, 6, 5, 3, 0, 0, 0, 0, 0, 3, 0, 0, 0, 0, 0, 0, 0, 6, 4, 2, 0, 0, 0, 0, 0, 1, 0, 3, 0, 0, 0, 1, 1, 0, 0, 0, 0, 3, 3, 2], [3, 3, 2, 0, 15, 6, 2, 1, 2, 0, 0, 0, 0, 0, 3, 2, 1, 0, 0, 0, 0, 0, 4, 1, 1, 0, 0, 0, 0, 0, 0, 0, 0, 0, 0, 0, 0, 0, 8, 7, 4, 0, 0, 0, 0, 0, 3, 0, 0, 0, 0, 0, 0, 0, 6, 4, 2, 0, 0, 0, 0, 0, 1, 0, 3, 0, 0, 0, 1, 1, 0, 0, 0, 0, 3, 3, 2]] : List (List Nat)).getD (b - 1) [])).getD j 0)
def zt_16 (b : Nat) : Nat → Int32 := fun j => nI (((([[3, 2, 3, 0, 15, 15, 2, 1, 2, 0, 0, 0, 0, 0, 3, 2, 1, 0, 0, 0, 0, 0, 1, 1, 1, 0, 0, 0, 0, 0, 0, 0, 0, 0, 0, 0, 0, 0, 1, 1, 1, 0, 0, 0, 0, 0, 2, 0, 0, 0, 0, 0, 0, 0, 6, 4, 2, 0, 0, 0, 0, 0, 0, 3, 0, 0, 0, 0, 1, 0, 0, 0, 0, 0, 2, 1], [3, 2, 3, 0, 15, 15, 2, 1, 2, 0, 0, 0, 0, 0, 3, 2, 1, 0, 0, 0, 0, 0, 2, 1, 1, 0, 0, 0, 0, 0, 0, 0, 0, 0, 0, 0, 0, 0, 2, 3, 2, 0, 0, 0, 0, 0, 2, 0, 0, 0, 0, 0, 0, 0, 6, 4, 2, 0, 0, 0, 0, 0, 0, 3, 0, 0, 0, 0, 1, 0, 0, 0, 0, 0, 2, 1], [3, 2, 3, 0, 15, 15, 2, 1, 2, 0, 0, 0, 0, 0, 3, 2, 1, 0, 0, 0, 0, 0, 3, 1, 1, 0, 0, 0, 0, 0, 0, 0, 0, 0, 0, 0, 0, 0, 3, 5, 3, 0, 0, 0, 0, 0, 2, 0, 0, 0, 0, 0, 0, 0, 6, 4, 2, 0, 0, 0, 0, 0, 0, 3, 0, 0, 0, 0, 1, 0, 0, 0, 0, 0, 2, 1], [3, 2, 3, 0, 15, 15, 2, 1, 2, 0, 0, 0, 0, 0, 3, 2, 1, 0, 0, 0, 0, 0, 4, 1, 1, 0, 0, 0, 0, 0, 0, 0, 0, 0, 0, 0, 0, 0, 4, 7, 4, 0, 0, 0, 0, 0, 2, 0, 0, 0, 0, 0, 0, 0, 6, 4, 2, 0, 0, 0, 0, 0, 0, 3, 0, 0, 0, 0, 1, 0, 0, 0, 0, 0, 2, 1]] : List (List Nat)).getD (b - 1) [])).getD j 0)
def zt_17 (b : Nat) : Nat → Int32 := fun j => nI (((([[3, 2, 4, 0, 15, 24, 2, 1, 2, 0, 0, 0, 0, 0, 3, 2, 1, 0, 0, 0, 0, 0, 1, 1, 1, 0, 0, 0, 0, 0, 0, 0, 0, 0, 0, 0, 0, 0, 0, 1, 1, 0, 0, 0, 0, 0, 1, 0, 0, 0, 0, 0, 0, 0, 6, 4, 2, 0, 0, 0, 0, 0, 0, 3, 0, 0, 0, 0, 1, 0, 0, 0, 0, 0, 1], [3, 2, 4, 0, 15, 24, 2, 1, 2, 0, 0, 0, 0, 0, 3, 2, 1, 0, 0, 0, 0, 0, 2, 1, 1, 0, 0, 0, 0, 0, 0, 0, 0, 0, 0, 0, 0, 0, 0, 3, 2, 0, 0, 0, 0, 0, 1, 0, 0, 0, 0, 0, 0, 0, 6, 4, 2, 0, 0, 0, 0, 0, 0, 3, 0, 0, 0, 0, 1, 0, 0, 0, 0, 0, 1], [3, 2, 4, 0, 15, 24, 2, 1, 2, 0, 0, 0, 0, 0, 3, 2, 1, 0, 0, 0, 0, 0, 3, 1, 1, 0, 0, 0, 0, 0, 0, 0, 0, 0, 0, 0, 0, 0, 0, 5, 3, 0, 0, 0, 0, 0, 1, 0, 0, 0, 0, 0, 0, 0, 6, 4, 2, 0, 0, 0, 0, 0, 0, 3, 0, 0, 0, 0, 1, 0, 0, 0, 0, 0, 1], [3, 2, 4, 0, 15, 24, 2, 1, 2, 0, 0, 0, 0, 0, 3, 2, 1, 0, 0, 0, 0, 0, 4, 1, 1, 0, 0, 0, 0, 0, 0, 0, 0, 0, 0, 0, 0, 0, 0, 7, 4, 0, 0, 0, 0, 0, 1, 0, 0, 0, 0, 0, 0, 0, 6, 4, 2, 0, 0, 0, 0, 0, 0, 3, 0, 0, 0, 0, 1, 0, 0, 0, 0, 0, 1]] : List (List Nat)).getD (b - 1) [])).getD j 0)
def zt_18 (b : Nat) : Nat → Int32 := fun j => nI (((([[3, 2, 4, 0, 15, 24, 2, 1, 2, 0, 0, 0, 0, 0, 3, 2, 1, 0, 0, 0, 0, 0, 1, 1, 1, 0, 0, 0, 0, 0, 0, 0, 0, 0, 0, 0, 0, 0, 0, 1, 1, 0, 0, 0, 0, 0, 1, 0, 0, 0, 0, 0, 0, 0, 6, 4, 2, 0, 0, 0, 0, 0, 0, 1, 0, 0, 0, 0, 1, 0, 0, 0, 0, 0, 1], [3, 2, 4, 0, 15, 24, 2, 1, 2, 0, 0, 0, 0, 0, 3, 2, 1, 0, 0, 0, 0, 0, 2, 1, 1, 0, 0, 0, 0, 0, 0, 0, 0, 0, 0, 0, 0, 0, 0, 3, 2, 0, 0, 0, 0, 0, 1, 0, 0, 0, 0, 0, 0, 0, 6, 4, 2, 0, 0, 0, 0, 0, 0, 1, 0, 0, 0, 0, 1, 0, 0, 0, 0, 0, 1], [3, 2, 4, 0, 15, 24, 2, 1, 2, 0, 0, 0, 0, 0, 3, 2, 1, 0, 0, 0, 0, 0, 3, 1, 1, 0, 0, 0, 0, 0, 0, 0, 0, 0, 0, 0, 0, 0, 0, 5, 3, 0, 0, 0, 0, 0, 1, 0, 0, 0, 0, 0, 0, 0, 6, 4, 2, 0, 0, 0, 0, 0, 0, 1, 0, 0, 0, 0, 1, 0, 0, 0, 0, 0, 1], [3, 2, 4, 0, 15, 24, 2, 1, 2, 0, 0, 0, 0, 0, 3, 2, 1, 0, 0, 0, 0, 0, 4, 1, 1, 0, 0, 0, 0, 0, 0, 0, 0, 0, 0, 0, 0, 0, 0, 7, 4, 0, 0, 0, 0, 0, 1, 0, 0, 0, 0, 0, 0, 0, 6, 4, 2, 0, 0, 0, 0, 0, 0, 1, 0, 0, 0, 0, 1, 0, 0, 0, 0, 0, 1]] : List (List Nat)).getD (b - 1) [])).getD j 0)
def zt_19 (b : Nat) : Nat → Int32 := fun j => nI (((([[3, 2, 4, 0, 15, 24, 2, 1, 2, 0, 0, 0, 0, 0, 3, 2, 1, 0, 0, 0, 0, 0, 1, 1, 1, 0, 0, 0, 0, 0, 0, 0, 0, 0, 0, 0, 0, 0, 0, 1, 1, 0, 0, 0, 0, 0, 1, 0, 0, 0, 0, 0, 0, 0, 6, 4, 2, 0, 0, 0, 0, 0, 1, 1, 0, 0, 0, 0, 1, 0, 0, 0, 0, 0, 1], [3, 2, 4, 0, 15, 24, 2, 1, 2, 0, 0, 0, 0, 0, 3, 2, 1, 0, 0, 0, 0, 0, 2, 1, 1, 0, 0, 0, 0, 0, 0, 0, 0, 0, 0, 0, 0, 0, 0, 3, 2, 0, 0, 0, 0, 0, 1, 0, 0, 0, 0, 0, 0, 0, 6, 4, 2, 0, 0, 0, 0, 0, 1, 1, 0, 0, 0, 0, 1, 0, 0, 0, 0, 0, 1], [3, 2, 4, 0, 15, 24, 2, 1, 2, 0, 0, 0, 0, 0, 3, 2, 1, 0, 0, 0, 0, 0, 3, 1, 1, 0, 0, 0, 0, 0, 0, 0, 0, 0, 0, 0, 0, 0, 0, 5, 3, 0, 0, 0, 0, 0, 1, 0, 0, 0, 0, 0, 0, 0, 6, 4, 2, 0, 0, 0, 0, 0, 1, 1, 0, 0, 0, 0, 1, 0, 0, 0, 0, 0, 1], [3, 2, 4, 0, 15, 24, 2, 1, 2, 0, 0, 0, 0, 0, 3, 2, 1, 0, 0, 0, 0, 0, 4, 1, 1, 0, 0, 0, 0, 0, 0, 0, 0, 0, 0, 0, 0, 0, 0, 7, 4, 0, 0, 0, 0, 0, 1, 0, 0, 0, 0, 0, 0, 0, 6, 4, 2, 0, 0, 0, 0, 0, 1, 1, 0, 0, 0, 0, 1, 0, 0, 0, 0, 0, 1]] : List (List Nat)).getD (b - 1) [])).getD j 0)
def zt_20 (b : Nat) : Nat → Int32 := fun j => nI (((([[2, 2, 4, 1, 15, 26, 2, 1, 0, 0, 0, 0, 0, 0, 3, 2, 0, 0, 0, 0, 0, 0, 1, 1, 0, 0, 0, 0, 0, 0, 0, 0, 0, 0, 0, 0, 0, 0, 0, 1, 0, 0, 0, 0, 0, 0, 1, 0, 0, 0, 0, 0, 0, 0, 6, 4, 0, 0, 0, 0, 0, 0, 1, 1, 0, 0, 0, 0, 1, 0, 0, 0, 0, 0, 1], [2, 2, 4, 2, 15, 26, 2, 1, 0, 0, 0, 0, 0, 0, 3, 2, 0, 0, 0, 0, 0, 0, 2, 1, 0, 0, 0, 0, 0, 0, 0, 0, 0, 0, 0, 0, 0, 0, 0, 3, 0, 0, 0, 0, 0, 0, 1, 0, 0, 0, 0, 0, 0, 0, 6, 4, 0, 0, 0, 0, 0, 0, 1, 1, 0, 0, 0, 0, 1, 0, 0, 0, 0, 0, 1], [2, 2, 4, 3, 15, 26, 2, 1, 0, 0, 0, 0, 0, 0, 3, 2, 0, 0, 0, 0, 0, 0, 3, 1, 0, 0, 0, 0, 0, 0, 0, 0, 0, 0, 0, 0, 0, 0, 0, 5, 0, 0, 0, 0, 0, 0, 1, 0, 0, 0, 0, 0, 0, 0, 6, 4, 0, 0, 0, 0, 0, 0, 1, 1, 0, 0, 0, 0, 1, 0, 0, 0, 0, 0, 1], [2, 2, 4, 4, 15, 26, 2, 1, 0, 0, 0, 0, 0, 0, 3, 2, 0, 0, 0, 0, 0, 0, 4, 1, 0, 0, 0, 0, 0, 0, 0, 0, 0, 0, 0, 0, 0, 0, 0, 7, 0, 0, 0, 0, 0, 0, 1, 0, 0, 0, 0, 0, 0, 0, 6, 4, 0, 0, 0, 0, 0, 0, 1, 1, 0, 0, 0, 0, 1, 0, 0, 0, 0, 0, 1]] : List (List Nat)).getD (b - 1) [])).getD j 0)
def zt_21 (b : Nat) : Nat → Int32 := fun j => nI (((([[2, 2, 4, 0, 15, 27, 2, 1, 0, 0, 0, 0, 0, 0, 3, 2, 0, 0, 0, 0, 0, 0, 1, 1, 0, 0, 0, 0, 0, 0, 0, 0, 0, 0, 0, 0, 0, 0, 1, 1, 0, 0, 0, 0, 0, 0, 1, 0, 0, 0, 0, 0, 0, 0, 5, 4, 0, 0, 0, 0, 0, 0, 1, 1, 0, 0, 0, 0, 1, 0, 0, 0, 0, 0, 1], [2, 2, 4, 0, 15, 28, 2, 1, 0, 0, 0, 0, 0, 0, 3, 2, 0, 0, 0, 0, 0, 0, 2, 1, 0, 0, 0, 0, 0, 0, 0, 0, 0, 0, 0, 0, 0, 0, 2, 3, 0, 0, 0, 0, 0, 0, 1, 0, 0, 0, 0, 0, 0, 0, 4, 4, 0, 0, 0, 0, 0, 0, 1, 1, 0, 0, 0, 0, 1, 0, 0, 0, 0, 0, 1], [2, 2, 4, 0, 15, 29, 2, 1, 0, 0, 0, 0, 0, 0, 3, 2, 0, 0, 0, 0, 0, 0, 3, 1, 0, 0, 0, 0, 0, 0, 0, 0, 0, 0, 0, 0, 0, 0, 3, 5, 0, 0, 0, 0, 0, 0, 1, 0, 0, 0, 0, 0, 0, 0, 3, 4, 0, 0, 0, 0, 0, 0, 1, 1, 0, 0, 0, 0, 1, 0, 0, 0, 0, 0, 1], [2, 2, 4, 0, 15, 30, 2, 1, 0, 0, 0, 0, 0, 0, 3, 2, 0, 0, 0, 0, 0, 0, 4, 1, 0, 0, 0, 0, 0, 0, 0, 0, 0, 0, 0, 0, 0, 0, 4, 7, 0, 0, 0, 0, 0, 0, 1, 0, 0, 0, 0, 0, 0, 0, 2, 4, 0, 0, 0, 0, 0, 0, 1, 1, 0, 0, 0, 0, 1, 0, 0, 0, 0, 0, 1]] : List (List Nat)).getD (b - 1) [])).getD j 0)
def zt_22 (b : Nat) : Nat → Int32 := fun j => nI (((([[2, 1, 5, 0, 15, 36, 2, 1, 0, 0, 0, 0, 0, 0, 3, 2, 0, 0, 0, 0, 0, 0, 1, 1, 0, 0, 0, 0, 0, 0, 0, 0, 0, 0, 0, 0, 0, 0, 0, 1, 0, 0, 0, 0, 0, 0, 0, 0, 0, 0, 0, 0, 0, 0, 5, 4, 0, 0, 0, 0, 0, 0, 1], [2, 1, 5, 0, 15, 37, 2, 1, 0, 0, 0, 0, 0, 0, 3, 2, 0, 0, 0, 0, 0, 0, 2, 1, 0, 0, 0, 0, 0, 0, 0, 0, 0, 0, 0, 0, 0, 0, 0, 3, 0, 0, 0, 0, 0, 0, 0, 0, 0, 0, 0, 0, 0, 0, 4, 4, 0, 0, 0, 0, 0, 0, 1], [2, 1, 5, 0, 15, 38, 2, 1, 0, 0, 0, 0, 0, 0, 3, 2, 0, 0, 0, 0, 0, 0, 3, 1, 0, 0, 0, 0, 0, 0, 0, 0, 0, 0, 0, 0, 0, 0, 0, 5, 0, 0, 0, 0, 0, 0, 0, 0, 0, 0, 0, 0, 0, 0, 3, 4, 0, 0, 0, 0, 0, 0, 1], [2, 1, 5, 0, 15, 39, 2, 1, 0, 0, 0, 0, 0, 0, 3, 2, 0, 0, 0, 0, 0, 0, 4, 1, 0, 0, 0, 0, 0, 0, 0, 0, 0, 0, 0, 0, 0, 0, 0, 7, 0, 0, 0, 0, 0, 0, 0, 0, 0, 0, 0, 0, 0, 0, 2, 4, 0, 0, 0, 0, 0, 0, 1]] : List (List Nat)).getD (b - 1) [])).getD j 0)
theorem zq_w0 : ∀ b, b < 5 → 1 ≤ b → f_sum (g_row (zt_0 b) 14) (q_n (zt_0 b)) = 0 := by decide +kernel
theorem zq_w1 : ∀ b, b < 5 → 1 ≤ b → g_bs (fun x => g_glow (zt_0 b) x (q_n (zt_0 b))) 3 = 0 := by decide +kernel
theorem zq_w2 : ∀ b, b < 5 → 1 ≤ b → x_bi (g_glow (zt_0 b) 3 (q_n (zt_0 b)) = 0) = 1 := by decide +kernel
theorem zq_w3 : ∀ b, b < 5 → 1 ≤ b → (o_deliverOil (zt_0 b) 10).1 = some q_eS := by decide +kernel
theorem zq_w4 : ∀ b, b < 5 → 1 ≤ b → (o_payDividend (zt_0 b)).1 = some q_eS := by decide +kernel
set_option maxRecDepth 100000 in
set_option maxHeartbeats 1000000 in
theorem zq_o0 : ∀ b, b < 5 → 1 ≤ b → (o_burnNight (zt_0 b)).1 = none ∧ (o_burnNight (zt_0 b)).2.1 = 0 ∧ ∀ j, j < 80 → zt_1 b j = (o_burnNight (zt_0 b)).2.2 j := by decide +kernel
theorem zq_w5 : ∀ b, b < 5 → 1 ≤ b → zt_1 b 5 = 12 := by decide +kernel
def zx_1 (z : Nat → Int32) : Nat → Int32 := (o_addLamp z (nI 2) (nI 3)).2.2
def zx_2 (z : Nat → Int32) : Nat → Int32 := (o_addLamp (zx_1 z) (nI 1) (nI 2)).2.2
def zx_3 (z : Nat → Int32) : Nat → Int32 := (o_addLamp (zx_2 z) (nI 2) (nI 1)).2.2
def zx_4 (z : Nat → Int32) : Nat → Int32 := (o_donateWicks (zx_3 z) (nI 20)).2.2
def zx_5 (z : Nat → Int32) : Nat → Int32 := (o_giveWick (zx_4 z) (nI 0) (nI 4)).2.2
def zx_6 (z : Nat → Int32) : Nat → Int32 := (o_giveWick (zx_5 z) (nI 1) (nI 1)).2.2
def zx (z : Nat → Int32) (i : Nat) : Nat → Int32 := if i = 0 then z else if i = 1 then zx_1 z else if i = 2 then zx_2 z else if i = 3 then zx_3 z else if i = 4 then zx_4 z else if i = 5 then zx_5 z else zx_6 z
set_option maxRecDepth 100000 in
theorem zq_x0 : ∀ b, b < 5 → 1 ≤ b → ((o_addLamp (zt_1 b) (nI 2) (nI 3)).1 = none ∧ (o_addLamp (zx_1 (zt_1 b)) (nI 1) (nI 2)).1 = none ∧ (o_addLamp (zx_2 (zt_1 b)) (nI 2) (nI 1)).1 = none) ∧ (o_donateWicks (zx_3 (zt_1 b)) (nI 20)).1 = none ∧ (o_giveWick (zx_4 (zt_1 b)) (nI 0) (nI 4)).1 = none ∧ (o_giveWick (zx_5 (zt_1 b)) (nI 1) (nI 1)).1 = none := by decide +kernel
set_option maxRecDepth 100000 in
theorem zq_x1 : ∀ b, b < 5 → 1 ≤ b → ∀ j, j < 80 → zt_7 b j = zx_6 (zt_1 b) j := by decide +kernel
theorem zq_p0 : ∀ b, b < 5 → 1 ≤ b → zt_7 b 4 = 15 := by decide +kernel
theorem zq_p1 : ∀ b, b < 5 → 1 ≤ b → 0 < q_n (zt_7 b) ∧ nI (q_por (zt_7 b) 10 0) = 5 := by decide +kernel
theorem zq_p2 : ∀ b, b < 5 → 1 ≤ b → 1 < q_n (zt_7 b) ∧ nI (q_por (zt_7 b) 10 1) = 3 := by decide +kernel
theorem zq_p3 : ∀ b, b < 5 → 1 ≤ b → 2 < q_n (zt_7 b) ∧ nI (q_por (zt_7 b) 10 2) = 2 := by decide +kernel
theorem zq_p4 : ∀ b, b < 5 → 1 ≤ b → 0 < q_n (zt_7 b) ∧ nI (q_por (zt_7 b) 1 0) = 1 := by decide +kernel
theorem zq_p5 : ∀ b, b < 5 → 1 ≤ b → 0 < q_n (zt_7 b) ∧ nI (q_por (zt_7 b) 4 0) = 2 := by decide +kernel
theorem zq_p6 : ∀ b, b < 5 → 1 ≤ b → 1 < q_n (zt_7 b) ∧ nI (q_por (zt_7 b) 4 1) = 1 := by decide +kernel
theorem zq_p7 : ∀ b, b < 5 → 1 ≤ b → 2 < q_n (zt_7 b) ∧ nI (q_por (zt_7 b) 4 2) = 1 := by decide +kernel
set_option maxRecDepth 100000 in
set_option maxHeartbeats 1000000 in
theorem zq_o1 : ∀ b, b < 5 → 1 ≤ b → (o_payDividend (zt_7 b)).1 = none ∧ (o_payDividend (zt_7 b)).2.1 = 12 ∧ ∀ j, j < 80 → zt_8 b j = (o_payDividend (zt_7 b)).2.2 j := by decide +kernel
theorem zq_l0 : ∀ b, b < 5 → 1 ≤ b → 0 < q_n (zt_8 b) ∧ zt_8 b (54 + 0) = 6 := by decide +kernel
theorem zq_l1 : ∀ b, b < 5 → 1 ≤ b → 1 < q_n (zt_8 b) ∧ zt_8 b (54 + 1) = 4 := by decide +kernel
theorem zq_l2 : ∀ b, b < 5 → 1 ≤ b → 2 < q_n (zt_8 b) ∧ zt_8 b (54 + 2) = 2 := by decide +kernel
theorem zq_l3 : ∀ b, b < 5 → 1 ≤ b → (2 < q_n (zt_8 b) ∧ ∀ j, j < q_n (zt_8 b) → zt_8 b (54 + j) = nI (q_i (zt_8 b (54 + j))) ∧ q_i (zt_8 b (54 + j)) < 100000) ∧ g_ah (fun j => q_i (zt_8 b (54 + j))) 2 (q_n (zt_8 b)) = 2 ∧ ∀ j, j < 2 → ¬ g_ah (fun j => q_i (zt_8 b (54 + j))) j (q_n (zt_8 b)) = 2 := by decide +kernel
set_option maxRecDepth 100000 in
set_option maxHeartbeats 1000000 in
theorem zq_o2 : ∀ b, b < 5 → 1 ≤ b → (o_deliverOil (zt_8 b) (6 * nI b)).1 = none ∧ (o_deliverOil (zt_8 b) (6 * nI b)).2.1 = 6 * nI b ∧ ∀ j, j < 80 → zt_9 b j = (o_deliverOil (zt_8 b) (6 * nI b)).2.2 j := by decide +kernel
theorem zq_s0 : ∀ b, b < 5 → 1 ≤ b → 0 < q_n (zt_9 b) ∧ zt_9 b (38 + 0) = 3 * nI b := by decide +kernel
theorem zq_s1 : ∀ b, b < 5 → 1 ≤ b → 1 < q_n (zt_9 b) ∧ zt_9 b (38 + 1) = 2 * nI b := by decide +kernel
set_option maxRecDepth 100000 in
set_option maxHeartbeats 1000000 in
theorem zq_o3 : ∀ b, b < 5 → 1 ≤ b → (o_setBrightness (zt_9 b) 0 (nI b)).1 = none ∧ (o_setBrightness (zt_9 b) 0 (nI b)).2.1 = 1 ∧ ∀ j, j < 80 → zt_10 b j = (o_setBrightness (zt_9 b) 0 (nI b)).2.2 j := by decide +kernel
theorem zq_s2 : ∀ b, b < 5 → 1 ≤ b → 0 < q_n (zt_10 b) ∧ nI (min (q_i (zt_10 b (38 + 0)) / q_i (zt_10 b (22 + 0))) (q_i (zt_10 b (46 + 0)))) = 3 := by decide +kernel
theorem zq_s3 : ∀ b, b < 5 → 1 ≤ b → 1 < q_n (zt_10 b) ∧ nI (min (q_i (zt_10 b (38 + 1)) / q_i (zt_10 b (22 + 1))) (q_i (zt_10 b (46 + 1)))) = 1 := by decide +kernel
theorem zq_s4 : ∀ b, b < 5 → 1 ≤ b → 0 < q_n (zt_10 b) ∧ g_ah (fun j => min (q_i (zt_10 b (38 + j)) / q_i (zt_10 b (22 + j))) (q_i (zt_10 b (46 + j)))) 0 (q_n (zt_10 b)) = 0 := by decide +kernel
theorem zq_s5 : ∀ b, b < 5 → 1 ≤ b → g_glow (zt_10 b) 2 (q_n (zt_10 b)) = nI b := by decide +kernel
theorem zq_s6 : ∀ b, b < 5 → 1 ≤ b → g_glow (zt_10 b) 1 (q_n (zt_10 b)) = 1 := by decide +kernel
theorem zq_s7 : ∀ b, b < 5 → 1 ≤ b → g_bs (fun x => g_glow (zt_10 b) x (q_n (zt_10 b))) 3 = (if nI b ≤ 1 then 1 else 2) := by decide +kernel
theorem zq_s8 : ∀ b, b < 5 → 1 ≤ b → (1 ≤ nI b ∧ nI b ≤ 5) ∧ g_vot (zt_10 b) (nI b) (q_n (zt_10 b)) = 6 := by decide +kernel
theorem zq_s9 : ∀ b, b < 5 → 1 ≤ b → (1 ≤ q_n (zt_10 b) ∧ b - 1 < 5) ∧ g_car (zt_10 b) (q_n (zt_10 b)) (nI (b - 1 + 1)) = true ∧ (∀ j, j < b - 1 → ¬ g_car (zt_10 b) (q_n (zt_10 b)) (nI (j + 1)) = true) ∧ nI (b - 1 + 1) = (if nI b ≤ 1 then 1 else nI b) := by decide +kernel
set_option maxRecDepth 100000 in
set_option maxHeartbeats 1000000 in
theorem zq_m0 : ∀ b, b < 5 → 1 ≤ b → (o_addMoth (zt_10 b) 0).1 = none ∧ (o_addMoth (zt_10 b) 0).2.1 = 0 ∧ ∀ j, j < 80 → zt_11 b j = (o_addMoth (zt_10 b) 0).2.2 j := by decide +kernel
set_option maxRecDepth 100000 in
set_option maxHeartbeats 1000000 in
theorem zq_m1 : ∀ b, b < 5 → 1 ≤ b → (o_addMoth (zt_11 b) 1).1 = none ∧ (o_addMoth (zt_11 b) 1).2.1 = 1 ∧ ∀ j, j < 80 → zt_12 b j = (o_addMoth (zt_11 b) 1).2.2 j := by decide +kernel
set_option maxRecDepth 100000 in
set_option maxHeartbeats 1000000 in
theorem zq_m2 : ∀ b, b < 5 → 1 ≤ b → (o_addMoth (zt_12 b) 2).1 = none ∧ (o_addMoth (zt_12 b) 2).2.1 = 2 ∧ ∀ j, j < 80 → zt_13 b j = (o_addMoth (zt_12 b) 2).2.2 j := by decide +kernel
set_option maxRecDepth 100000 in
set_option maxHeartbeats 1000000 in
theorem zq_o4 : ∀ b, b < 5 → 1 ≤ b → (o_burnNight (zt_13 b)).1 = none ∧ (o_burnNight (zt_13 b)).2.1 = 2 ∧ ∀ j, j < 80 → zt_14 b j = (o_burnNight (zt_13 b)).2.2 j := by decide +kernel
theorem zq_t0 : ∀ b, b < 5 → 1 ≤ b → zt_14 b 5 = 6 := by decide +kernel
theorem zq_t1 : ∀ b, b < 5 → 1 ≤ b → 0 < q_n (zt_14 b) ∧ zt_14 b (38 + 0) = 2 * nI b := by decide +kernel
theorem zq_t2 : ∀ b, b < 5 → 1 ≤ b → 1 < q_n (zt_14 b) ∧ zt_14 b (46 + 1) = 0 := by decide +kernel
theorem zq_t3 : ∀ b, b < 5 → 1 ≤ b → 0 < q_w (zt_14 b) ∧ zt_14 b (68 + 0) = 1 := by decide +kernel
theorem zq_t4 : ∀ b, b < 5 → 1 ≤ b → 0 < q_w (zt_14 b) ∧ zt_14 b (74 + 0) = 3 := by decide +kernel
theorem zq_t5 : ∀ b, b < 5 → 1 ≤ b → 2 < q_w (zt_14 b) ∧ zt_14 b (74 + 2) = 2 := by decide +kernel
set_option maxRecDepth 100000 in
set_option maxHeartbeats 1000000 in
theorem zq_o5 : ∀ b, b < 5 → 1 ≤ b → (o_moveMoth (zt_14 b) 1 (-1)).1 = none ∧ (o_moveMoth (zt_14 b) 1 (-1)).2.1 = 1 ∧ ∀ j, j < 80 → zt_15 b j = (o_moveMoth (zt_14 b) 1 (-1)).2.2 j := by decide +kernel
set_option maxRecDepth 100000 in
set_option maxHeartbeats 1000000 in
theorem zq_o6 : ∀ b, b < 5 → 1 ≤ b → (o_burnNight (zt_15 b)).1 = none ∧ (o_burnNight (zt_15 b)).2.1 = 1 ∧ ∀ j, j < 80 → zt_16 b j = (o_burnNight (zt_15 b)).2.2 j := by decide +kernel
theorem zq_t6 : ∀ b, b < 5 → 1 ≤ b → zt_16 b 5 = 15 := by decide +kernel
theorem zq_t7 : ∀ b, b < 5 → 1 ≤ b → zt_16 b 1 = 2 := by decide +kernel
theorem zq_t8 : ∀ b, b < 5 → 1 ≤ b → 0 < q_w (zt_16 b) ∧ zt_16 b (68 + 0) = 1 := by decide +kernel
theorem zq_t9 : ∀ b, b < 5 → 1 ≤ b → 0 < q_w (zt_16 b) ∧ zt_16 b (74 + 0) = 2 := by decide +kernel
theorem zq_ta : ∀ b, b < 5 → 1 ≤ b → 1 < q_w (zt_16 b) ∧ zt_16 b (74 + 1) = 1 := by decide +kernel
set_option maxRecDepth 100000 in
set_option maxHeartbeats 1000000 in
theorem zq_o7 : ∀ b, b < 5 → 1 ≤ b → (o_burnNight (zt_16 b)).1 = none ∧ (o_burnNight (zt_16 b)).2.1 = 1 ∧ ∀ j, j < 80 → zt_17 b j = (o_burnNight (zt_16 b)).2.2 j := by decide +kernel
theorem zq_u0 : ∀ b, b < 5 → 1 ≤ b → 1 < q_w (zt_17 b) ∧ x_bi (zt_17 b (74 + 1) = 0) = 1 := by decide +kernel
theorem zq_u1 : ∀ b, b < 5 → 1 ≤ b → 0 < q_w (zt_17 b) ∧ x_bi (zt_17 b (74 + 0) = 0) = 0 := by decide +kernel
theorem zq_u2 : ∀ b, b < 5 → 1 ≤ b → 0 < q_n (zt_17 b) ∧ zt_17 b (38 + 0) = 0 := by decide +kernel
theorem zq_u3 : ∀ b, b < 5 → 1 ≤ b → 0 < q_n (zt_17 b) ∧ x_bi (g_rdy (zt_17 b) 0 = true) = 0 := by decide +kernel
set_option maxRecDepth 100000 in
set_option maxHeartbeats 1000000 in
theorem zq_o8 : ∀ b, b < 5 → 1 ≤ b → (o_moveMoth (zt_17 b) 1 0).1 = none ∧ (o_moveMoth (zt_17 b) 1 0).2.1 = 2 ∧ ∀ j, j < 80 → zt_18 b j = (o_moveMoth (zt_17 b) 1 0).2.2 j := by decide +kernel
set_option maxRecDepth 100000 in
set_option maxHeartbeats 1000000 in
theorem zq_o9 : ∀ b, b < 5 → 1 ≤ b → (o_moveMoth (zt_18 b) 0 0).1 = none ∧ (o_moveMoth (zt_18 b) 0 0).2.1 = (-1) ∧ ∀ j, j < 80 → zt_19 b j = (o_moveMoth (zt_18 b) 0 0).2.2 j := by decide +kernel
theorem zq_u4 : ∀ b, b < 5 → 1 ≤ b → zt_19 b 5 = 24 := by decide +kernel
theorem zq_u5 : ∀ b, b < 5 → 1 ≤ b → (o_buyOil (zt_19 b) 0 6).1 = some q_eS := by decide +kernel
set_option maxRecDepth 100000 in
set_option maxHeartbeats 1000000 in
theorem zq_oa : ∀ b, b < 5 → 1 ≤ b → (o_removeLamp (zt_19 b) 2).1 = none ∧ (o_removeLamp (zt_19 b) 2).2.1 = 2 ∧ ∀ j, j < 80 → zt_20 b j = (o_removeLamp (zt_19 b) 2).2.2 j := by decide +kernel
theorem zq_u6 : ∀ b, b < 5 → 1 ≤ b → zt_20 b 3 = nI b := by decide +kernel
theorem zq_u7 : ∀ b, b < 5 → 1 ≤ b → zt_20 b 5 = 26 := by decide +kernel
theorem zq_u8 : ∀ b, b < 5 → 1 ≤ b → 1 < q_w (zt_20 b) ∧ zt_20 b (62 + 1) - 1 = 0 := by decide +kernel
set_option maxRecDepth 100000 in
set_option maxHeartbeats 1000000 in
theorem zq_ob : ∀ b, b < 5 → 1 ≤ b → (o_buyOil (zt_20 b) 0 (nI b)).1 = none ∧ (o_buyOil (zt_20 b) 0 (nI b)).2.1 = nI b ∧ ∀ j, j < 80 → zt_21 b j = (o_buyOil (zt_20 b) 0 (nI b)).2.2 j := by decide +kernel
theorem zq_v0 : ∀ b, b < 5 → 1 ≤ b → 0 < q_n (zt_21 b) ∧ zt_21 b (54 + 0) = 6 - nI b := by decide +kernel
theorem zq_v1 : ∀ b, b < 5 → 1 ≤ b → zt_21 b 3 = 0 := by decide +kernel
theorem zq_v2 : ∀ b, b < 5 → 1 ≤ b → zt_21 b 5 = 26 + nI b := by decide +kernel
set_option maxRecDepth 100000 in
set_option maxHeartbeats 1000000 in
theorem zq_oc : ∀ b, b < 5 → 1 ≤ b → (o_burnNight (zt_21 b)).1 = none ∧ (o_burnNight (zt_21 b)).2.1 = 1 ∧ ∀ j, j < 80 → zt_22 b j = (o_burnNight (zt_21 b)).2.2 j := by decide +kernel
theorem zq_v3 : ∀ b, b < 5 → 1 ≤ b → 0 < q_n (zt_22 b) ∧ zt_22 b (38 + 0) = 0 := by decide +kernel
theorem zq_v4 : ∀ b, b < 5 → 1 ≤ b → zt_22 b 1 = 1 := by decide +kernel
theorem zq_v5 : ∀ b, b < 5 → 1 ≤ b → 0 < q_w (zt_22 b) ∧ zt_22 b (68 + 0) = 0 := by decide +kernel
theorem zq_v6 : ∀ b, b < 5 → 1 ≤ b → 0 < q_w (zt_22 b) ∧ x_bi (zt_22 b (74 + 0) = 0) = 1 := by decide +kernel
/-! the texts, read -/
abbrev tw (v : Nat) : Nat → Nat := fun j => x_wN v j
abbrev tg (v j : Nat) : Prop := tp_co (tw v) (x_wL v) (tp_P (tw v) (x_wL v) j) ∧ tp_c (tw v) (x_wL v) (tp_ce (tw v) (x_wL v) (tp_P (tw v) (x_wL v) j)) 59 = true
set_option maxRecDepth 100000 in
theorem tx_13a : ∀ j, j < 2 → (tp_vb (tw 13) (x_wL 13) (tp_P (tw 13) (x_wL 13) j) < 13 ∧ tp_af (tw 13) (x_wL 13) (tp_vb (tw 13) (x_wL 13) (tp_P (tw 13) (x_wL 13) j)) ((tp_P (tw 13) (x_wL 13) j) + x_wL (tp_vb (tw 13) (x_wL 13) (tp_P (tw 13) (x_wL 13) j))) (tp_vn (tp_vb (tw 13) (x_wL 13) (tp_P (tw 13) (x_wL 13) j))) = tp_vn (tp_vb (tw 13) (x_wL 13) (tp_P (tw 13) (x_wL 13) j))) ∧ tp_c (tw 13) (x_wL 13) (tp_ce (tw 13) (x_wL 13) (tp_P (tw 13) (x_wL 13) j)) 59 = true := by decide +kernel
set_option maxRecDepth 100000 in
theorem tx_13b : (tp_vb (tw 13) (x_wL 13) (tp_P (tw 13) (x_wL 13) 2) < 13 ∧ tp_af (tw 13) (x_wL 13) (tp_vb (tw 13) (x_wL 13) (tp_P (tw 13) (x_wL 13) 2)) ((tp_P (tw 13) (x_wL 13) 2) + x_wL (tp_vb (tw 13) (x_wL 13) (tp_P (tw 13) (x_wL 13) 2))) (tp_vn (tp_vb (tw 13) (x_wL 13) (tp_P (tw 13) (x_wL 13) 2))) = tp_vn (tp_vb (tw 13) (x_wL 13) (tp_P (tw 13) (x_wL 13) 2))) ∧ x_wL 13 ≤ tp_ce (tw 13) (x_wL 13) (tp_P (tw 13) (x_wL 13) 2) := by decide +kernel
set_option maxRecDepth 100000 in
theorem tx_13c0 : tp_vb (tw 13) (x_wL 13) (tp_P (tw 13) (x_wL 13) 0) = 10 ∧ tp_v1 (tw 13) (x_wL 13) (tp_P (tw 13) (x_wL 13) 0) = 0 ∧ tp_v2 (tw 13) (x_wL 13) (tp_P (tw 13) (x_wL 13) 0) = 0 := by decide +kernel
set_option maxRecDepth 100000 in
theorem tx_13c1 : tp_vb (tw 13) (x_wL 13) (tp_P (tw 13) (x_wL 13) 1) = 2 ∧ tp_v1 (tw 13) (x_wL 13) (tp_P (tw 13) (x_wL 13) 1) = 33 ∧ tp_v2 (tw 13) (x_wL 13) (tp_P (tw 13) (x_wL 13) 1) = 0 := by decide +kernel
set_option maxRecDepth 100000 in
theorem tx_13c2 : tp_vb (tw 13) (x_wL 13) (tp_P (tw 13) (x_wL 13) 2) = 10 ∧ tp_v1 (tw 13) (x_wL 13) (tp_P (tw 13) (x_wL 13) 2) = 0 ∧ tp_v2 (tw 13) (x_wL 13) (tp_P (tw 13) (x_wL 13) 2) = 0 := by decide +kernel
set_option maxRecDepth 100000 in
theorem tx_14a : ∀ j, j < 1 → (tp_vb (tw 14) (x_wL 14) (tp_P (tw 14) (x_wL 14) j) < 13 ∧ tp_af (tw 14) (x_wL 14) (tp_vb (tw 14) (x_wL 14) (tp_P (tw 14) (x_wL 14) j)) ((tp_P (tw 14) (x_wL 14) j) + x_wL (tp_vb (tw 14) (x_wL 14) (tp_P (tw 14) (x_wL 14) j))) (tp_vn (tp_vb (tw 14) (x_wL 14) (tp_P (tw 14) (x_wL 14) j))) = tp_vn (tp_vb (tw 14) (x_wL 14) (tp_P (tw 14) (x_wL 14) j))) ∧ tp_c (tw 14) (x_wL 14) (tp_ce (tw 14) (x_wL 14) (tp_P (tw 14) (x_wL 14) j)) 59 = true := by decide +kernel
set_option maxRecDepth 100000 in
theorem tx_14b : (tp_vb (tw 14) (x_wL 14) (tp_P (tw 14) (x_wL 14) 1) < 13 ∧ tp_af (tw 14) (x_wL 14) (tp_vb (tw 14) (x_wL 14) (tp_P (tw 14) (x_wL 14) 1)) ((tp_P (tw 14) (x_wL 14) 1) + x_wL (tp_vb (tw 14) (x_wL 14) (tp_P (tw 14) (x_wL 14) 1))) (tp_vn (tp_vb (tw 14) (x_wL 14) (tp_P (tw 14) (x_wL 14) 1))) = tp_vn (tp_vb (tw 14) (x_wL 14) (tp_P (tw 14) (x_wL 14) 1))) ∧ x_wL 14 ≤ tp_ce (tw 14) (x_wL 14) (tp_P (tw 14) (x_wL 14) 1) := by decide +kernel
set_option maxRecDepth 100000 in
theorem tx_14c0 : tp_vb (tw 14) (x_wL 14) (tp_P (tw 14) (x_wL 14) 0) = 10 ∧ tp_v1 (tw 14) (x_wL 14) (tp_P (tw 14) (x_wL 14) 0) = 0 ∧ tp_v2 (tw 14) (x_wL 14) (tp_P (tw 14) (x_wL 14) 0) = 0 := by decide +kernel
set_option maxRecDepth 100000 in
theorem tx_14c1 : tp_vb (tw 14) (x_wL 14) (tp_P (tw 14) (x_wL 14) 1) = 9 ∧ tp_v1 (tw 14) (x_wL 14) (tp_P (tw 14) (x_wL 14) 1) = 9 ∧ tp_v2 (tw 14) (x_wL 14) (tp_P (tw 14) (x_wL 14) 1) = 0 := by decide +kernel
set_option maxRecDepth 100000 in
theorem tx_15a : ∀ j, j < 0 → (tp_vb (tw 15) (x_wL 15) (tp_P (tw 15) (x_wL 15) j) < 13 ∧ tp_af (tw 15) (x_wL 15) (tp_vb (tw 15) (x_wL 15) (tp_P (tw 15) (x_wL 15) j)) ((tp_P (tw 15) (x_wL 15) j) + x_wL (tp_vb (tw 15) (x_wL 15) (tp_P (tw 15) (x_wL 15) j))) (tp_vn (tp_vb (tw 15) (x_wL 15) (tp_P (tw 15) (x_wL 15) j))) = tp_vn (tp_vb (tw 15) (x_wL 15) (tp_P (tw 15) (x_wL 15) j))) ∧ tp_c (tw 15) (x_wL 15) (tp_ce (tw 15) (x_wL 15) (tp_P (tw 15) (x_wL 15) j)) 59 = true := by decide +kernel
set_option maxRecDepth 100000 in
theorem tx_15b : (tp_vb (tw 15) (x_wL 15) (tp_P (tw 15) (x_wL 15) 0) < 13 ∧ tp_af (tw 15) (x_wL 15) (tp_vb (tw 15) (x_wL 15) (tp_P (tw 15) (x_wL 15) 0)) ((tp_P (tw 15) (x_wL 15) 0) + x_wL (tp_vb (tw 15) (x_wL 15) (tp_P (tw 15) (x_wL 15) 0))) (tp_vn (tp_vb (tw 15) (x_wL 15) (tp_P (tw 15) (x_wL 15) 0))) = tp_vn (tp_vb (tw 15) (x_wL 15) (tp_P (tw 15) (x_wL 15) 0))) ∧ x_wL 15 ≤ tp_ce (tw 15) (x_wL 15) (tp_P (tw 15) (x_wL 15) 0) := by decide +kernel
set_option maxRecDepth 100000 in
theorem tx_15c0 : tp_vb (tw 15) (x_wL 15) (tp_P (tw 15) (x_wL 15) 0) = 6 ∧ tp_v1 (tw 15) (x_wL 15) (tp_P (tw 15) (x_wL 15) 0) = 9 ∧ tp_v2 (tw 15) (x_wL 15) (tp_P (tw 15) (x_wL 15) 0) = 0 := by decide +kernel
set_option maxRecDepth 100000 in
theorem tx_26a : ∀ j, j < 5 → (tp_vb (tw 26) (x_wL 26) (tp_P (tw 26) (x_wL 26) j) < 13 ∧ tp_af (tw 26) (x_wL 26) (tp_vb (tw 26) (x_wL 26) (tp_P (tw 26) (x_wL 26) j)) ((tp_P (tw 26) (x_wL 26) j) + x_wL (tp_vb (tw 26) (x_wL 26) (tp_P (tw 26) (x_wL 26) j))) (tp_vn (tp_vb (tw 26) (x_wL 26) (tp_P (tw 26) (x_wL 26) j))) = tp_vn (tp_vb (tw 26) (x_wL 26) (tp_P (tw 26) (x_wL 26) j))) ∧ tp_c (tw 26) (x_wL 26) (tp_ce (tw 26) (x_wL 26) (tp_P (tw 26) (x_wL 26) j)) 59 = true := by decide +kernel
set_option maxRecDepth 100000 in
theorem tx_26b : (tp_vb (tw 26) (x_wL 26) (tp_P (tw 26) (x_wL 26) 5) < 13 ∧ tp_af (tw 26) (x_wL 26) (tp_vb (tw 26) (x_wL 26) (tp_P (tw 26) (x_wL 26) 5)) ((tp_P (tw 26) (x_wL 26) 5) + x_wL (tp_vb (tw 26) (x_wL 26) (tp_P (tw 26) (x_wL 26) 5))) (tp_vn (tp_vb (tw 26) (x_wL 26) (tp_P (tw 26) (x_wL 26) 5))) = tp_vn (tp_vb (tw 26) (x_wL 26) (tp_P (tw 26) (x_wL 26) 5))) ∧ x_wL 26 ≤ tp_ce (tw 26) (x_wL 26) (tp_P (tw 26) (x_wL 26) 5) := by decide +kernel
set_option maxRecDepth 100000 in
theorem tx_26c0 : tp_vb (tw 26) (x_wL 26) (tp_P (tw 26) (x_wL 26) 0) = 0 ∧ tp_v1 (tw 26) (x_wL 26) (tp_P (tw 26) (x_wL 26) 0) = 2 ∧ tp_v2 (tw 26) (x_wL 26) (tp_P (tw 26) (x_wL 26) 0) = 3 := by decide +kernel
set_option maxRecDepth 100000 in
theorem tx_26c1 : tp_vb (tw 26) (x_wL 26) (tp_P (tw 26) (x_wL 26) 1) = 0 ∧ tp_v1 (tw 26) (x_wL 26) (tp_P (tw 26) (x_wL 26) 1) = 1 ∧ tp_v2 (tw 26) (x_wL 26) (tp_P (tw 26) (x_wL 26) 1) = 2 := by decide +kernel
set_option maxRecDepth 100000 in
theorem tx_26c2 : tp_vb (tw 26) (x_wL 26) (tp_P (tw 26) (x_wL 26) 2) = 0 ∧ tp_v1 (tw 26) (x_wL 26) (tp_P (tw 26) (x_wL 26) 2) = 2 ∧ tp_v2 (tw 26) (x_wL 26) (tp_P (tw 26) (x_wL 26) 2) = 1 := by decide +kernel
set_option maxRecDepth 100000 in
theorem tx_26c3 : tp_vb (tw 26) (x_wL 26) (tp_P (tw 26) (x_wL 26) 3) = 3 ∧ tp_v1 (tw 26) (x_wL 26) (tp_P (tw 26) (x_wL 26) 3) = 20 ∧ tp_v2 (tw 26) (x_wL 26) (tp_P (tw 26) (x_wL 26) 3) = 0 := by decide +kernel
set_option maxRecDepth 100000 in
theorem tx_26c4 : tp_vb (tw 26) (x_wL 26) (tp_P (tw 26) (x_wL 26) 4) = 4 ∧ tp_v1 (tw 26) (x_wL 26) (tp_P (tw 26) (x_wL 26) 4) = 0 ∧ tp_v2 (tw 26) (x_wL 26) (tp_P (tw 26) (x_wL 26) 4) = 4 := by decide +kernel
set_option maxRecDepth 100000 in
theorem tx_26c5 : tp_vb (tw 26) (x_wL 26) (tp_P (tw 26) (x_wL 26) 5) = 4 ∧ tp_v1 (tw 26) (x_wL 26) (tp_P (tw 26) (x_wL 26) 5) = 1 ∧ tp_v2 (tw 26) (x_wL 26) (tp_P (tw 26) (x_wL 26) 5) = 1 := by decide +kernel
set_option maxRecDepth 100000 in
theorem tx_16a : ∀ j, j < 0 → (tp_vb (tw 16) (x_wL 16) (tp_P (tw 16) (x_wL 16) j) < 13 ∧ tp_af (tw 16) (x_wL 16) (tp_vb (tw 16) (x_wL 16) (tp_P (tw 16) (x_wL 16) j)) ((tp_P (tw 16) (x_wL 16) j) + x_wL (tp_vb (tw 16) (x_wL 16) (tp_P (tw 16) (x_wL 16) j))) (tp_vn (tp_vb (tw 16) (x_wL 16) (tp_P (tw 16) (x_wL 16) j))) = tp_vn (tp_vb (tw 16) (x_wL 16) (tp_P (tw 16) (x_wL 16) j))) ∧ tp_c (tw 16) (x_wL 16) (tp_ce (tw 16) (x_wL 16) (tp_P (tw 16) (x_wL 16) j)) 59 = true := by decide +kernel
set_option maxRecDepth 100000 in
theorem tx_16b : ¬ (tp_vb (tw 16) (x_wL 16) (tp_P (tw 16) (x_wL 16) 0) < 13 ∧ tp_af (tw 16) (x_wL 16) (tp_vb (tw 16) (x_wL 16) (tp_P (tw 16) (x_wL 16) 0)) ((tp_P (tw 16) (x_wL 16) 0) + x_wL (tp_vb (tw 16) (x_wL 16) (tp_P (tw 16) (x_wL 16) 0))) (tp_vn (tp_vb (tw 16) (x_wL 16) (tp_P (tw 16) (x_wL 16) 0))) = tp_vn (tp_vb (tw 16) (x_wL 16) (tp_P (tw 16) (x_wL 16) 0))) ∧ tp_ce (tw 16) (x_wL 16) (tp_P (tw 16) (x_wL 16) 0) = 1 := by decide +kernel
set_option maxRecDepth 100000 in
theorem tx_2a : ∀ j, j < 0 → (tp_vb (tw 2) (x_wL 2) (tp_P (tw 2) (x_wL 2) j) < 13 ∧ tp_af (tw 2) (x_wL 2) (tp_vb (tw 2) (x_wL 2) (tp_P (tw 2) (x_wL 2) j)) ((tp_P (tw 2) (x_wL 2) j) + x_wL (tp_vb (tw 2) (x_wL 2) (tp_P (tw 2) (x_wL 2) j))) (tp_vn (tp_vb (tw 2) (x_wL 2) (tp_P (tw 2) (x_wL 2) j))) = tp_vn (tp_vb (tw 2) (x_wL 2) (tp_P (tw 2) (x_wL 2) j))) ∧ tp_c (tw 2) (x_wL 2) (tp_ce (tw 2) (x_wL 2) (tp_P (tw 2) (x_wL 2) j)) 59 = true := by decide +kernel
set_option maxRecDepth 100000 in
theorem tx_2b : ¬ (tp_vb (tw 2) (x_wL 2) (tp_P (tw 2) (x_wL 2) 0) < 13 ∧ tp_af (tw 2) (x_wL 2) (tp_vb (tw 2) (x_wL 2) (tp_P (tw 2) (x_wL 2) 0)) ((tp_P (tw 2) (x_wL 2) 0) + x_wL (tp_vb (tw 2) (x_wL 2) (tp_P (tw 2) (x_wL 2) 0))) (tp_vn (tp_vb (tw 2) (x_wL 2) (tp_P (tw 2) (x_wL 2) 0))) = tp_vn (tp_vb (tw 2) (x_wL 2) (tp_P (tw 2) (x_wL 2) 0))) ∧ tp_ce (tw 2) (x_wL 2) (tp_P (tw 2) (x_wL 2) 0) = 3 := by decide +kernel
set_option maxRecDepth 100000 in
theorem tx_17a : ∀ j, j < 0 → (tp_vb (tw 17) (x_wL 17) (tp_P (tw 17) (x_wL 17) j) < 13 ∧ tp_af (tw 17) (x_wL 17) (tp_vb (tw 17) (x_wL 17) (tp_P (tw 17) (x_wL 17) j)) ((tp_P (tw 17) (x_wL 17) j) + x_wL (tp_vb (tw 17) (x_wL 17) (tp_P (tw 17) (x_wL 17) j))) (tp_vn (tp_vb (tw 17) (x_wL 17) (tp_P (tw 17) (x_wL 17) j))) = tp_vn (tp_vb (tw 17) (x_wL 17) (tp_P (tw 17) (x_wL 17) j))) ∧ tp_c (tw 17) (x_wL 17) (tp_ce (tw 17) (x_wL 17) (tp_P (tw 17) (x_wL 17) j)) 59 = true := by decide +kernel
set_option maxRecDepth 100000 in
theorem tx_17b : ((tp_vb (tw 17) (x_wL 17) (tp_P (tw 17) (x_wL 17) 0) < 13 ∧ tp_af (tw 17) (x_wL 17) (tp_vb (tw 17) (x_wL 17) (tp_P (tw 17) (x_wL 17) 0)) ((tp_P (tw 17) (x_wL 17) 0) + x_wL (tp_vb (tw 17) (x_wL 17) (tp_P (tw 17) (x_wL 17) 0))) (tp_vn (tp_vb (tw 17) (x_wL 17) (tp_P (tw 17) (x_wL 17) 0))) = tp_vn (tp_vb (tw 17) (x_wL 17) (tp_P (tw 17) (x_wL 17) 0))) ∧ tp_ce (tw 17) (x_wL 17) (tp_P (tw 17) (x_wL 17) 0) < x_wL 17 ∧ ¬ tp_c (tw 17) (x_wL 17) (tp_ce (tw 17) (x_wL 17) (tp_P (tw 17) (x_wL 17) 0)) 59 = true) ∧ tp_ce (tw 17) (x_wL 17) (tp_P (tw 17) (x_wL 17) 0) = 7 := by decide +kernel
set_option maxRecDepth 100000 in
theorem tx_18a : ∀ j, j < 0 → (tp_vb (tw 18) (x_wL 18) (tp_P (tw 18) (x_wL 18) j) < 13 ∧ tp_af (tw 18) (x_wL 18) (tp_vb (tw 18) (x_wL 18) (tp_P (tw 18) (x_wL 18) j)) ((tp_P (tw 18) (x_wL 18) j) + x_wL (tp_vb (tw 18) (x_wL 18) (tp_P (tw 18) (x_wL 18) j))) (tp_vn (tp_vb (tw 18) (x_wL 18) (tp_P (tw 18) (x_wL 18) j))) = tp_vn (tp_vb (tw 18) (x_wL 18) (tp_P (tw 18) (x_wL 18) j))) ∧ tp_c (tw 18) (x_wL 18) (tp_ce (tw 18) (x_wL 18) (tp_P (tw 18) (x_wL 18) j)) 59 = true := by decide +kernel
set_option maxRecDepth 100000 in
theorem tx_18b : ¬ (tp_vb (tw 18) (x_wL 18) (tp_P (tw 18) (x_wL 18) 0) < 13 ∧ tp_af (tw 18) (x_wL 18) (tp_vb (tw 18) (x_wL 18) (tp_P (tw 18) (x_wL 18) 0)) ((tp_P (tw 18) (x_wL 18) 0) + x_wL (tp_vb (tw 18) (x_wL 18) (tp_P (tw 18) (x_wL 18) 0))) (tp_vn (tp_vb (tw 18) (x_wL 18) (tp_P (tw 18) (x_wL 18) 0))) = tp_vn (tp_vb (tw 18) (x_wL 18) (tp_P (tw 18) (x_wL 18) 0))) ∧ tp_ce (tw 18) (x_wL 18) (tp_P (tw 18) (x_wL 18) 0) = 1 := by decide +kernel
set_option maxRecDepth 100000 in
theorem tx_19a : ∀ j, j < 0 → (tp_vb (tw 19) (x_wL 19) (tp_P (tw 19) (x_wL 19) j) < 13 ∧ tp_af (tw 19) (x_wL 19) (tp_vb (tw 19) (x_wL 19) (tp_P (tw 19) (x_wL 19) j)) ((tp_P (tw 19) (x_wL 19) j) + x_wL (tp_vb (tw 19) (x_wL 19) (tp_P (tw 19) (x_wL 19) j))) (tp_vn (tp_vb (tw 19) (x_wL 19) (tp_P (tw 19) (x_wL 19) j))) = tp_vn (tp_vb (tw 19) (x_wL 19) (tp_P (tw 19) (x_wL 19) j))) ∧ tp_c (tw 19) (x_wL 19) (tp_ce (tw 19) (x_wL 19) (tp_P (tw 19) (x_wL 19) j)) 59 = true := by decide +kernel
set_option maxRecDepth 100000 in
theorem tx_19b : ¬ (tp_vb (tw 19) (x_wL 19) (tp_P (tw 19) (x_wL 19) 0) < 13 ∧ tp_af (tw 19) (x_wL 19) (tp_vb (tw 19) (x_wL 19) (tp_P (tw 19) (x_wL 19) 0)) ((tp_P (tw 19) (x_wL 19) 0) + x_wL (tp_vb (tw 19) (x_wL 19) (tp_P (tw 19) (x_wL 19) 0))) (tp_vn (tp_vb (tw 19) (x_wL 19) (tp_P (tw 19) (x_wL 19) 0))) = tp_vn (tp_vb (tw 19) (x_wL 19) (tp_P (tw 19) (x_wL 19) 0))) ∧ tp_ce (tw 19) (x_wL 19) (tp_P (tw 19) (x_wL 19) 0) = 6 := by decide +kernel
set_option maxRecDepth 100000 in
theorem tx_20a : ∀ j, j < 0 → (tp_vb (tw 20) (x_wL 20) (tp_P (tw 20) (x_wL 20) j) < 13 ∧ tp_af (tw 20) (x_wL 20) (tp_vb (tw 20) (x_wL 20) (tp_P (tw 20) (x_wL 20) j)) ((tp_P (tw 20) (x_wL 20) j) + x_wL (tp_vb (tw 20) (x_wL 20) (tp_P (tw 20) (x_wL 20) j))) (tp_vn (tp_vb (tw 20) (x_wL 20) (tp_P (tw 20) (x_wL 20) j))) = tp_vn (tp_vb (tw 20) (x_wL 20) (tp_P (tw 20) (x_wL 20) j))) ∧ tp_c (tw 20) (x_wL 20) (tp_ce (tw 20) (x_wL 20) (tp_P (tw 20) (x_wL 20) j)) 59 = true := by decide +kernel
set_option maxRecDepth 100000 in
theorem tx_20b : ((tp_vb (tw 20) (x_wL 20) (tp_P (tw 20) (x_wL 20) 0) < 13 ∧ tp_af (tw 20) (x_wL 20) (tp_vb (tw 20) (x_wL 20) (tp_P (tw 20) (x_wL 20) 0)) ((tp_P (tw 20) (x_wL 20) 0) + x_wL (tp_vb (tw 20) (x_wL 20) (tp_P (tw 20) (x_wL 20) 0))) (tp_vn (tp_vb (tw 20) (x_wL 20) (tp_P (tw 20) (x_wL 20) 0))) = tp_vn (tp_vb (tw 20) (x_wL 20) (tp_P (tw 20) (x_wL 20) 0))) ∧ tp_ce (tw 20) (x_wL 20) (tp_P (tw 20) (x_wL 20) 0) < x_wL 20 ∧ ¬ tp_c (tw 20) (x_wL 20) (tp_ce (tw 20) (x_wL 20) (tp_P (tw 20) (x_wL 20) 0)) 59 = true) ∧ tp_ce (tw 20) (x_wL 20) (tp_P (tw 20) (x_wL 20) 0) = 5 := by decide +kernel
set_option maxRecDepth 100000 in
theorem tx_21a : ∀ j, j < 0 → (tp_vb (tw 21) (x_wL 21) (tp_P (tw 21) (x_wL 21) j) < 13 ∧ tp_af (tw 21) (x_wL 21) (tp_vb (tw 21) (x_wL 21) (tp_P (tw 21) (x_wL 21) j)) ((tp_P (tw 21) (x_wL 21) j) + x_wL (tp_vb (tw 21) (x_wL 21) (tp_P (tw 21) (x_wL 21) j))) (tp_vn (tp_vb (tw 21) (x_wL 21) (tp_P (tw 21) (x_wL 21) j))) = tp_vn (tp_vb (tw 21) (x_wL 21) (tp_P (tw 21) (x_wL 21) j))) ∧ tp_c (tw 21) (x_wL 21) (tp_ce (tw 21) (x_wL 21) (tp_P (tw 21) (x_wL 21) j)) 59 = true := by decide +kernel
set_option maxRecDepth 100000 in
theorem tx_21b : ¬ (tp_vb (tw 21) (x_wL 21) (tp_P (tw 21) (x_wL 21) 0) < 13 ∧ tp_af (tw 21) (x_wL 21) (tp_vb (tw 21) (x_wL 21) (tp_P (tw 21) (x_wL 21) 0)) ((tp_P (tw 21) (x_wL 21) 0) + x_wL (tp_vb (tw 21) (x_wL 21) (tp_P (tw 21) (x_wL 21) 0))) (tp_vn (tp_vb (tw 21) (x_wL 21) (tp_P (tw 21) (x_wL 21) 0))) = tp_vn (tp_vb (tw 21) (x_wL 21) (tp_P (tw 21) (x_wL 21) 0))) ∧ tp_ce (tw 21) (x_wL 21) (tp_P (tw 21) (x_wL 21) 0) = 0 := by decide +kernel
set_option maxRecDepth 100000 in
theorem tx_22a : ∀ j, j < 1 → (tp_vb (tw 22) (x_wL 22) (tp_P (tw 22) (x_wL 22) j) < 13 ∧ tp_af (tw 22) (x_wL 22) (tp_vb (tw 22) (x_wL 22) (tp_P (tw 22) (x_wL 22) j)) ((tp_P (tw 22) (x_wL 22) j) + x_wL (tp_vb (tw 22) (x_wL 22) (tp_P (tw 22) (x_wL 22) j))) (tp_vn (tp_vb (tw 22) (x_wL 22) (tp_P (tw 22) (x_wL 22) j))) = tp_vn (tp_vb (tw 22) (x_wL 22) (tp_P (tw 22) (x_wL 22) j))) ∧ tp_c (tw 22) (x_wL 22) (tp_ce (tw 22) (x_wL 22) (tp_P (tw 22) (x_wL 22) j)) 59 = true := by decide +kernel
set_option maxRecDepth 100000 in
theorem tx_22b : ¬ (tp_vb (tw 22) (x_wL 22) (tp_P (tw 22) (x_wL 22) 1) < 13 ∧ tp_af (tw 22) (x_wL 22) (tp_vb (tw 22) (x_wL 22) (tp_P (tw 22) (x_wL 22) 1)) ((tp_P (tw 22) (x_wL 22) 1) + x_wL (tp_vb (tw 22) (x_wL 22) (tp_P (tw 22) (x_wL 22) 1))) (tp_vn (tp_vb (tw 22) (x_wL 22) (tp_P (tw 22) (x_wL 22) 1))) = tp_vn (tp_vb (tw 22) (x_wL 22) (tp_P (tw 22) (x_wL 22) 1))) ∧ tp_ce (tw 22) (x_wL 22) (tp_P (tw 22) (x_wL 22) 1) = 4 := by decide +kernel
set_option maxRecDepth 100000 in
theorem tx_23a : ∀ j, j < 0 → (tp_vb (tw 23) (x_wL 23) (tp_P (tw 23) (x_wL 23) j) < 13 ∧ tp_af (tw 23) (x_wL 23) (tp_vb (tw 23) (x_wL 23) (tp_P (tw 23) (x_wL 23) j)) ((tp_P (tw 23) (x_wL 23) j) + x_wL (tp_vb (tw 23) (x_wL 23) (tp_P (tw 23) (x_wL 23) j))) (tp_vn (tp_vb (tw 23) (x_wL 23) (tp_P (tw 23) (x_wL 23) j))) = tp_vn (tp_vb (tw 23) (x_wL 23) (tp_P (tw 23) (x_wL 23) j))) ∧ tp_c (tw 23) (x_wL 23) (tp_ce (tw 23) (x_wL 23) (tp_P (tw 23) (x_wL 23) j)) 59 = true := by decide +kernel
set_option maxRecDepth 100000 in
theorem tx_23b : ¬ (tp_vb (tw 23) (x_wL 23) (tp_P (tw 23) (x_wL 23) 0) < 13 ∧ tp_af (tw 23) (x_wL 23) (tp_vb (tw 23) (x_wL 23) (tp_P (tw 23) (x_wL 23) 0)) ((tp_P (tw 23) (x_wL 23) 0) + x_wL (tp_vb (tw 23) (x_wL 23) (tp_P (tw 23) (x_wL 23) 0))) (tp_vn (tp_vb (tw 23) (x_wL 23) (tp_P (tw 23) (x_wL 23) 0))) = tp_vn (tp_vb (tw 23) (x_wL 23) (tp_P (tw 23) (x_wL 23) 0))) ∧ tp_ce (tw 23) (x_wL 23) (tp_P (tw 23) (x_wL 23) 0) = 5 := by decide +kernel
set_option maxRecDepth 100000 in
theorem tx_24a : ∀ j, j < 0 → (tp_vb (tw 24) (x_wL 24) (tp_P (tw 24) (x_wL 24) j) < 13 ∧ tp_af (tw 24) (x_wL 24) (tp_vb (tw 24) (x_wL 24) (tp_P (tw 24) (x_wL 24) j)) ((tp_P (tw 24) (x_wL 24) j) + x_wL (tp_vb (tw 24) (x_wL 24) (tp_P (tw 24) (x_wL 24) j))) (tp_vn (tp_vb (tw 24) (x_wL 24) (tp_P (tw 24) (x_wL 24) j))) = tp_vn (tp_vb (tw 24) (x_wL 24) (tp_P (tw 24) (x_wL 24) j))) ∧ tp_c (tw 24) (x_wL 24) (tp_ce (tw 24) (x_wL 24) (tp_P (tw 24) (x_wL 24) j)) 59 = true := by decide +kernel
set_option maxRecDepth 100000 in
theorem tx_24b : ¬ (tp_vb (tw 24) (x_wL 24) (tp_P (tw 24) (x_wL 24) 0) < 13 ∧ tp_af (tw 24) (x_wL 24) (tp_vb (tw 24) (x_wL 24) (tp_P (tw 24) (x_wL 24) 0)) ((tp_P (tw 24) (x_wL 24) 0) + x_wL (tp_vb (tw 24) (x_wL 24) (tp_P (tw 24) (x_wL 24) 0))) (tp_vn (tp_vb (tw 24) (x_wL 24) (tp_P (tw 24) (x_wL 24) 0))) = tp_vn (tp_vb (tw 24) (x_wL 24) (tp_P (tw 24) (x_wL 24) 0))) ∧ tp_ce (tw 24) (x_wL 24) (tp_P (tw 24) (x_wL 24) 0) = 4 := by decide +kernel
set_option maxRecDepth 100000 in
theorem tx_25a : ∀ j, j < 0 → (tp_vb (tw 25) (x_wL 25) (tp_P (tw 25) (x_wL 25) j) < 13 ∧ tp_af (tw 25) (x_wL 25) (tp_vb (tw 25) (x_wL 25) (tp_P (tw 25) (x_wL 25) j)) ((tp_P (tw 25) (x_wL 25) j) + x_wL (tp_vb (tw 25) (x_wL 25) (tp_P (tw 25) (x_wL 25) j))) (tp_vn (tp_vb (tw 25) (x_wL 25) (tp_P (tw 25) (x_wL 25) j))) = tp_vn (tp_vb (tw 25) (x_wL 25) (tp_P (tw 25) (x_wL 25) j))) ∧ tp_c (tw 25) (x_wL 25) (tp_ce (tw 25) (x_wL 25) (tp_P (tw 25) (x_wL 25) j)) 59 = true := by decide +kernel
set_option maxRecDepth 100000 in
theorem tx_25b : ¬ (tp_vb (tw 25) (x_wL 25) (tp_P (tw 25) (x_wL 25) 0) < 13 ∧ tp_af (tw 25) (x_wL 25) (tp_vb (tw 25) (x_wL 25) (tp_P (tw 25) (x_wL 25) 0)) ((tp_P (tw 25) (x_wL 25) 0) + x_wL (tp_vb (tw 25) (x_wL 25) (tp_P (tw 25) (x_wL 25) 0))) (tp_vn (tp_vb (tw 25) (x_wL 25) (tp_P (tw 25) (x_wL 25) 0))) = tp_vn (tp_vb (tw 25) (x_wL 25) (tp_P (tw 25) (x_wL 25) 0))) ∧ tp_ce (tw 25) (x_wL 25) (tp_P (tw 25) (x_wL 25) 0) = 0 := by decide +kernel
