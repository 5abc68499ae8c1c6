section XDEFS2
def x_J9_floorMod_7cf53 (S : vS) (p1 : Int32) (p2 : Int32) : Int32 := nm ((p1 - p1 / p2 * p2)) (fun x_3 => if 0 ≤ (p1 ^^^ p2) then x_3 else if x_3 = 0 then x_3 else (x_3 + p2))
end XDEFS2
