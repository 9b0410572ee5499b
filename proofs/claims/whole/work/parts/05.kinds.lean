/-- what each cell is, in the order in which they are made: class (below 20) and fields, or array code and length -/
def KTab : List (Nat × Nat) := [(10, 8), (8, 2), (21, 500), (6, 12), (7, 7), (20, 11), (20, 11), (7, 7), (20, 11), (20, 11), (0, 6), (24, 20), (25, 400), (25, 300), (5, 5), (5, 5), (5, 5), (5, 5), (5, 5), (5, 5), (5, 5), (5, 5), (5, 5), (5, 5), (5, 5), (5, 5), (5, 5), (5, 5), (5, 5), (5, 5), (5, 5), (5, 5), (5, 5), (5, 5), (1, 7), (20, 400), (20, 400), (20, 20), (20, 20), (2, 11), (20, 400), (20, 400), (20, 1200), (20, 20), (20, 11), (9, 5), (20, 30), (20, 30), (20, 30), (4, 9), (20, 20), (20, 4), (20, 4), (20, 4), (20, 4), (12, 56), (20, 11), (20, 11), (20, 11), (20, 11), (11, 6), (21, 500), (22, 6), (20, 20), (20, 20), (20, 20), (20, 20), (20, 300), (20, 300), (20, 300), (20, 300), (20, 30), (20, 30), (20, 30), (20, 24000), (20, 400), (20, 400), (20, 400), (22, 400), (22, 6000), (20, 20), (20, 20), (20, 11), (23, 21), (20, 20), (20, 20), (20, 20), (20, 20)]
/-- behind the fixed cells come guesses alone -/
def KF (a : Nat) : Nat × Nat := KTab.getD a (3, 5)
def KS : Nat := 88
def KT : Nat → Nat
  | 0 => 0
  | n + 1 => KT n + (KF n).2
def FTy (ci k : Nat) : FieldType := match ci with
  | 0 => tyX0 k
  | 1 => tyX1 k
  | 2 => tyX2 k
  | 3 => tyX3 k
  | 4 => tyX4 k
  | 5 => tyX5 k
  | 6 => tyX6 k
  | 7 => tyX7 k
  | 8 => tyX8 k
  | 9 => tyX9 k
  | 10 => tyX10 k
  | 11 => tyX11 k
  | _ => tyX12 k
def aty (c : Nat) : FieldType := match c with
  | 20 => .int
  | 21 => .byte
  | 22 => .boolean
  | 23 => .long
  | 24 => .object "ForeBook$Question"
  | _ => .object "ForeBook$Guess"
def stT : List String := ["yes", "no", "missing", "weights", "copy", "least", "skip", "half", "alike", "past"]
def stL : List Nat := [3, 2, 7, 7, 4, 5, 4, 4, 5, 4]
def stB : List (List Int32) := [[121, 101, 115], [110, 111], [109, 105, 115, 115, 105, 110, 103], [119, 101, 105, 103, 104, 116, 115], [99, 111, 112, 121], [108, 101, 97, 115, 116], [115, 107, 105, 112], [104, 97, 108, 102], [97, 108, 105, 107, 101], [112, 97, 115, 116]]
def stR : List Nat := [81, 87, 89, 91, 93, 95, 106, 108, 116, 118]
def stM : List Nat := [72, 74, 76, 78, 80, 82, 121, 123, 129, 131]
def XT (y : MethodName) : Option (List (Nat × Nat × Nat × Nat)) := if y.cls = "ForeBookLaw" then none else if y.cls = "ForeBookModel" ∧ y.name = "rules" then some [(28, 37, 40, 152)] else some []
