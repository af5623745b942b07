/-! crossings, in numbers: line a from (X, Y) by the way (U, V), line b from (X2, Y2) by (U2, V2) -/
def spn (a b c d : Int) : Int := a * d - b * c
def nrm (d z : Int) : Int := if d < 0 then -z else z
def imx (a b : Int) : Int := if b < a then a else b
def imn (a b : Int) : Int := if b < a then b else a
abbrev wbd (x y : Int64) : Prop := -2199023255552 ≤ x.toInt ∧ x.toInt ≤ 2199023255552 ∧ -2199023255552 ≤ y.toInt ∧ y.toInt ≤ 2199023255552
abbrev mtc (dn f g : Int) : Prop := 0 ≤ nrm dn f ∧ nrm dn f ≤ nrm dn dn ∧ 0 ≤ nrm dn g ∧ nrm dn g ≤ nrm dn dn
def FR (n : Int) (dn : Nat) (a b : Int) : Prop := a = n / ((Nat.gcd n.natAbs dn : Nat) : Int) ∧ b = (dn : Int) / ((Nat.gcd n.natAbs dn : Nat) : Int)
def ovl (p q r s : Int) : Int32 := if imx (imn p q) (imn r s) = imn (imx p q) (imx r s) then 1 else if imn (imx p q) (imx r s) < imx (imn p q) (imn r s) then 0 else 2
theorem nrm_abs (d : Int) : nrm d d = (d.natAbs : Int) := by unfold nrm; split <;> omega
theorem spn_bd {a b c d X Y : Int} (h1 : -X ≤ a) (h2 : a ≤ X) (h3 : -X ≤ b) (h4 : b ≤ X) (h5 : -Y ≤ c) (h6 : c ≤ Y) (h7 : -Y ≤ d) (h8 : d ≤ Y) : -(2 * (X * Y)) ≤ spn a b c d ∧ spn a b c d ≤ 2 * (X * Y) := by
  have m1 := mul_bd h1 h2 h7 h8
  have m2 := mul_bd h3 h4 h5 h6
  unfold spn
  omega
theorem nrm_bd {d z B : Int} (h1 : -B ≤ z) (h2 : z ≤ B) : -B ≤ nrm d z ∧ nrm d z ≤ B := by unfold nrm; split <;> omega
def ovA (X Y U V X2 Y2 U2 V2 : Int) : Int32 := if U = 0 then ovl Y (Y + V) Y2 (Y2 + V2) else ovl X (X + U) X2 (X2 + U2)
def ovS (X Y U V X2 Y2 U2 V2 : Int) : Int := if U = 0 then Y - imx (imn Y (Y + V)) (imn Y2 (Y2 + V2)) else X - imx (imn X (X + U)) (imn X2 (X2 + U2))
def ovX (X Y U V X2 Y2 U2 V2 : Int) : Int := if ovS X Y U V X2 Y2 U2 V2 = 0 then X else X + U
def ovY (X Y U V X2 Y2 U2 V2 : Int) : Int := if ovS X Y U V X2 Y2 U2 V2 = 0 then Y else Y + V
theorem FR_1 (n : Int) : FR n 1 n 1 := by
  unfold FR
  rw [Nat.gcd_one_right]
  exact ⟨by omega, by omega⟩
def crs (X Y U V X2 Y2 U2 V2 : Int) : Int32 := if spn U V U2 V2 = 0 then (if spn (X2 - X) (Y2 - Y) U V = 0 then ovA X Y U V X2 Y2 U2 V2 else 0) else if mtc (spn U V U2 V2) (spn (X2 - X) (Y2 - Y) U2 V2) (spn (X2 - X) (Y2 - Y) U V) then 1 else 0
def crX (X Y U V X2 Y2 U2 V2 : Int) : Int := if spn U V U2 V2 = 0 then ovX X Y U V X2 Y2 U2 V2 else nrm (spn U V U2 V2) (spn U V U2 V2) * X + nrm (spn U V U2 V2) (spn (X2 - X) (Y2 - Y) U2 V2) * U
def crY (X Y U V X2 Y2 U2 V2 : Int) : Int := if spn U V U2 V2 = 0 then ovY X Y U V X2 Y2 U2 V2 else nrm (spn U V U2 V2) (spn U V U2 V2) * Y + nrm (spn U V U2 V2) (spn (X2 - X) (Y2 - Y) U2 V2) * V
def crD (U V U2 V2 : Int) : Nat := if spn U V U2 V2 = 0 then 1 else (spn U V U2 V2).natAbs
