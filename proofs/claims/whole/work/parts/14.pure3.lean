/-! ints, the grid, what the class's small questions answer -/
theorem ic_lt {x y : Int32} (c : x < y) : x.toInt < y.toInt := Int32.lt_iff_toInt_lt.mp c
theorem ic_nlt {x y : Int32} (c : ¬ x < y) : y.toInt ≤ x.toInt := Int.not_lt.mp (fun q => c (Int32.lt_iff_toInt_lt.mpr q))
theorem ic_le {x y : Int32} (c : x ≤ y) : x.toInt ≤ y.toInt := Int32.le_iff_toInt_le.mp c
theorem ic_nle {x y : Int32} (c : ¬ x ≤ y) : y.toInt < x.toInt := Int.not_le.mp (fun q => c (Int32.le_iff_toInt_le.mpr q))
theorem ic_eq {x y : Int32} (c : x = y) : x.toInt = y.toInt := by rw [c]
theorem ic_ne {x y : Int32} (c : ¬ x = y) : x.toInt ≠ y.toInt := fun q => c (Int32.toInt_inj.mp q)
abbrev ogr (x y : Int64) : Prop := -1099511627776 ≤ x.toInt ∧ x.toInt ≤ 1099511627776 ∧ -1099511627776 ≤ y.toInt ∧ y.toInt ≤ 1099511627776
abbrev btw (a v b : Int64) : Prop := (a.toInt ≤ v.toInt ∨ b.toInt ≤ v.toInt) ∧ (v.toInt ≤ a.toInt ∨ v.toInt ≤ b.toInt)
abbrev inr (k : Int32) (n : Int) : Prop := 0 ≤ k.toInt ∧ k.toInt < n
abbrev ist (ft : Nat → Int32) (k : Int32) : Prop := 0 ≤ k.toInt ∧ k.toInt < 16 ∧ ft k.toNatClampNeg ≠ 0
abbrev isa (ph axis : Int32) : Prop := ph ≠ 0 ∧ (axis = 0 ∨ axis = 1)
abbrev mry (a b y : Int64) (side : Int32) : Prop := (a.toInt ≤ y.toInt ∧ y.toInt < b.toInt ∧ 0 < side.toInt) ∨ (b.toInt ≤ y.toInt ∧ y.toInt < a.toInt ∧ side.toInt < 0)
def cnt (f : Nat → Int32) : Nat → Nat
  | 0 => 0
  | n + 1 => cnt f n + (if f n = 0 then 0 else 1)
theorem cnt_le (f : Nat → Int32) (n : Nat) : cnt f n ≤ n := by
  induction n with
  | zero => exact Nat.le_refl 0
  | succ n ih => unfold cnt; split <;> omega
def nxt (a n : Nat) : Nat := if a + 1 < n then a + 1 else 0
theorem nxt_lt {a n : Nat} (h : a < n) : nxt a n < n := by unfold nxt; split <;> omega
def det (ax ay bx by_ cx cy : Int) : Int := (bx - ax) * (cy - ay) - (by_ - ay) * (cx - ax)
theorem mul_bd {x y X Y : Int} (h1 : -X ≤ x) (h2 : x ≤ X) (h3 : -Y ≤ y) (h4 : y ≤ Y) : -(X * Y) ≤ x * y ∧ x * y ≤ X * Y := by
  rcases Int.le_total 0 y with h | h
  · exact mb h h4 h1 h2
  · have := mb (x := x) (y := -y) (X := X) (Y := Y) (by omega) (by omega) h1 h2
    rw [Int.mul_neg] at this
    omega
theorem max_toInt {x y : Int64} : (if y < x then x else y).toInt = if y.toInt < x.toInt then x.toInt else y.toInt := by
  by_cases h : y < x
  · rw [if_pos h, if_pos (i64_lt.mp h)]
  · rw [if_neg h, if_neg (fun q => h (i64_lt.mpr q))]
theorem min_toInt {x y : Int64} : (if y < x then y else x).toInt = if y.toInt < x.toInt then y.toInt else x.toInt := by
  by_cases h : y < x
  · rw [if_pos h, if_pos (i64_lt.mp h)]
  · rw [if_neg h, if_neg (fun q => h (i64_lt.mpr q))]
abbrev lnok (k : Int32) (x0 y0 x1 y1 : Int64) : Prop := 0 ≤ k.toInt ∧ k.toInt < 16 ∧ ogr x0 y0 ∧ ogr x1 y1 ∧ ¬ (x0.toInt = x1.toInt ∧ y0.toInt = y1.toInt)
def trn (ax ay bx by_ cx cy : Int64) : Int32 := if ogr ax ay ∧ ogr bx by_ ∧ ogr cx cy then sg (det ax.toInt ay.toInt bx.toInt by_.toInt cx.toInt cy.toInt) else -2
theorem cnt_s0 {f : Nat → Int32} {n : Nat} (h : f n = 0) : cnt f (n + 1) = cnt f n := by
  show cnt f n + (if f n = 0 then 0 else 1) = cnt f n
  rw [if_pos h]; rfl
theorem cnt_s1 {f : Nat → Int32} {n : Nat} (h : ¬ f n = 0) : cnt f (n + 1) = cnt f n + 1 := by
  show cnt f n + (if f n = 0 then 0 else 1) = cnt f n + 1
  rw [if_neg h]
