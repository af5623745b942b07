/-! crossings, in numbers: line a from (X, Y) by the way (U, V), line b from (X2, Y2) by (U2, V2) -/
def spn (a b c d : Int) : Int := a * d - b * c
def nrm (d z : Int) : Int := if d < 0 then -z else z
def imx (a b : Int) : Int := if a < b then b else a
def imn (a b : Int) : Int := if b < a then b else a
abbrev wbd (x y : Int64) : Prop := -2199023255552 ≤ x.toInt ∧ x.toInt ≤ 2199023255552 ∧ -2199023255552 ≤ y.toInt ∧ y.toInt ≤ 2199023255552
def mtc (dn f g : Int) : Prop := 0 ≤ nrm dn f ∧ nrm dn f ≤ nrm dn dn ∧ 0 ≤ nrm dn g ∧ nrm dn g ≤ nrm dn dn
def FR (n : Int) (dn : Nat) (a b : Int) : Prop := a = n / ((Nat.gcd n.natAbs dn : Nat) : Int) ∧ b = (dn : Int) / ((Nat.gcd n.natAbs dn : Nat) : Int)
def ovl (p q r s : Int) : Int32 := if imx (imn p q) (imn r s) = imn (imx p q) (imx r s) then 1 else if imn (imx p q) (imx r s) < imx (imn p q) (imn r s) then 0 else 2
theorem nrm_abs (d : Int) : nrm d d = (d.natAbs : Int) := by unfold nrm; split <;> omega
theorem spn_bd {a b c d X Y : Int} (h1 : -X ≤ a) (h2 : a ≤ X) (h3 : -X ≤ b) (h4 : b ≤ X) (h5 : -Y ≤ c) (h6 : c ≤ Y) (h7 : -Y ≤ d) (h8 : d ≤ Y) : -(2 * (X * Y)) ≤ spn a b c d ∧ spn a b c d ≤ 2 * (X * Y) := by
  have m1 := mul_bd h1 h2 h7 h8
  have m2 := mul_bd h3 h4 h5 h6
  unfold spn
  omega
theorem nrm_bd {d z B : Int} (h1 : -B ≤ z) (h2 : z ≤ B) : -B ≤ nrm d z ∧ nrm d z ≤ B := by unfold nrm; split <;> omega
