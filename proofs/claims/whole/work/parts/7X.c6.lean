/-! stub -/
section CTOR
variable {D : va_G} {cs : Nat → ClassId} {b : Nat} {ad : Int → Nat} {pre : List va_E} {j : Nat}
theorem gK_X6_init (hA : gad b ad) (hj : pre.length = j) (hj2 : j < 100) : gC D cs b ad mX6_init rmX6 [.inr (j : Int)] (pre ++ [.inr (6, [.null, .null, .null, .null, .null, .null, .null, .null, .null])]) (pre ++ .inr (6, fX6 b j) :: bX6 cs b j) := by
  sorry
end CTOR
