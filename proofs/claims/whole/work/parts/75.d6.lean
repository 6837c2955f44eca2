/-! ===== a constructor of the class (written by gen/gw.py) ===== -/
section CTOR
variable {D : va_G} {cs : Nat → ClassId} {b : Nat} {ad : Int → Nat} {pre : List va_E} {j : Nat}
def rmX6 : Room := { frames := 5, cells := 86, slots := 7970, locals := 200 }
def fX6 (b j : Nat) : List Value := [.ref (b + (j + 1)), .ref (b + (j + 16)), .ref (b + (j + 22)), .ref (b + (j + 36)), .ref (b + (j + 48)), .ref (b + (j + 51)), .ref (b + (j + 84)), .ref (b + (j + 85)), .ref (b + (j + 86))]
def b6X (cs : Nat → ClassId) (b j : Nat) : List va_E := [] ++ (.inr (3, fX3 b (j + 1)) :: bX3 cs b (j + 1)) ++ (.inr (2, fX2 b (j + 16) (j + 1)) :: bX2 cs b (j + 16)) ++ (.inr (4, fX4 b (j + 22) (j + 1) (j + 16)) :: bX4 cs b (j + 22)) ++ (.inr (5, fX5 b (j + 36) (j + 1)) :: bX5 cs b (j + 36)) ++ (.inr (0, fX0 b (j + 48) (j + 16)) :: bX0 cs b (j + 48)) ++ [.inl (cs 3, 2, .inr (.inr (.inr (.inr (va_up (va_up (fun _ => none) 0 (some (b + (j + 52)))) 1 (some (b + (j + 68))))))))] ++ (.inr (1, fX1 b (j + 52)) :: bX1 cs b (j + 52)) ++ (.inr (1, fX1 b (j + 68)) :: bX1 cs b (j + 68))
def bX6 (cs : Nat → ClassId) (b j : Nat) : List va_E := b6X cs b j ++ [dLow cs, dHigh cs, (.inl (cs 0, 4, .inl (fun _ => 0)) : va_E)]
end CTOR
