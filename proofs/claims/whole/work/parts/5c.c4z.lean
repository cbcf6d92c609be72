section S_C4Z
def lsF (y f : Int32) : Int32 := if f = -1 then y else if y = -1 then f else if f < y then f else y
/-- one more member in the part i (a new part behind the last) -/
def addG (G : List Nat) (i b : Nat) : List Nat := if i < G.length then G.set i (gl G i ||| b) else G ++ [b]
def trI (f : Nat → Int32) : Nat → Nat → Int32 → Int32
  | 0, _, y => y
  | m + 1, i, y => trI f m (i + 1) (lsF y (f i))
/-- the least total over all ways to place what is left -/
def trF (T : Nat → Int32) : Nat → Nat → List Nat → Int32
  | 0, _, G => if raL T G = true then suL T G 0 else -1
  | k + 1, nx, G => trI (fun i => trF T k (nx + 1) (addG G i (2 ^ nx))) (G.length + 1) 0 (-1)

end S_C4Z
