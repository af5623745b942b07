/-! rounded by rule; shares; digits -/
abbrev rok (rule : Int32) : Prop := 0 ≤ rule.toInt ∧ rule.toInt ≤ 6
theorem mO_t {rule : Int32} {ng : Bool} {q r m : Nat} (h : r ≠ 0) {b : Bool} (e : (if rule = 0 then ng else if rule = 1 then !ng else if rule = 2 then false else if rule = 3 then true else mN rule q r m) = b) : mO rule ng q r m = b := by rw [mO_c h, e]
theorem mO_big {rule : Int32} {ng : Bool} {q r m : Nat} (h : 3 < rule.toInt) (hm : 0 < m) : mO rule ng q r m = mN rule q r m := by
  have e0 : ¬ rule = 0 := i32_ne (k := 0) (by show ¬ rule.toInt = 0; omega)
  have e1 : ¬ rule = 1 := i32_ne (k := 1) (by show ¬ rule.toInt = 1; omega)
  have e2 : ¬ rule = 2 := i32_ne (k := 2) (by show ¬ rule.toInt = 2; omega)
  have e3 : ¬ rule = 3 := i32_ne (k := 3) (by show ¬ rule.toInt = 3; omega)
  by_cases hr : r = 0
  · have n1 : ¬ mO rule ng q r m = true := mO_0 hr
    have n2 : ¬ mN rule q r m = true := fun q => by have := mN_iff.mp q; omega
    rw [Bool.eq_false_iff.mpr n1, Bool.eq_false_iff.mpr n2]
  · rw [mO_c hr, if_neg e0, if_neg e1, if_neg e2, if_neg e3]
theorem bzB {a b : Bool} (h : a = b) : bz (a = true) = bz (b = true) := by rw [h]
abbrev shbad (k n : Int32) : Prop := k.toInt < 0 ∨ n.toInt ≤ k.toInt
abbrev shok (n : Int32) : Prop := 1 ≤ n.toInt ∧ n.toInt ≤ 1000000
def shv (all k n : Int) : Int := if k < all % n then all / n + 1 else all / n
theorem i2l (x : Int32) : x.toInt64.toInt = x.toInt := Int32.toInt_toInt64 x
theorem t_div {x y : Int64} (h : 1 < y.toInt ∨ (y.toInt = 1)) : (x / y).toInt = Int.tdiv x.toInt y.toInt := by
  have hx := sI_rng x
  have h1 := Int64.toInt_div x y
  have hb : -9223372036854775808 ≤ Int.tdiv x.toInt y.toInt ∧ Int.tdiv x.toInt y.toInt < 9223372036854775808 := by
    rcases Int.le_total 0 x.toInt with c | c
    · rw [Int.tdiv_eq_ediv_of_nonneg c]
      have h2 : 0 ≤ x.toInt / y.toInt := Int.ediv_nonneg c (by omega)
      have h3 : x.toInt / y.toInt ≤ x.toInt := Int.ediv_le_self _ c
      omega
    · have e : Int.tdiv x.toInt y.toInt = -(Int.tdiv (-x.toInt) y.toInt) := by rw [Int.neg_tdiv, Int.neg_neg]
      rw [e, Int.tdiv_eq_ediv_of_nonneg (by omega)]
      have h2 : 0 ≤ (-x.toInt) / y.toInt := Int.ediv_nonneg (by omega) (by omega)
      have h3 : (-x.toInt) / y.toInt ≤ -x.toInt := Int.ediv_le_self _ (by omega)
      omega
  rw [h1]
  exact Int.bmod_eq_of_le (by omega) (by omega)
theorem mO_r0 {ng : Bool} {q r m : Nat} : mO 0 ng q r m = true ↔ ng = true ∧ r ≠ 0 := by
  by_cases h : r = 0
  · exact ⟨fun z => absurd z (mO_0 h), fun z => absurd h z.2⟩
  · rw [mO_c h, if_pos rfl]; exact ⟨fun z => ⟨z, h⟩, fun z => z.1⟩
theorem mO_r1 {ng : Bool} {q r m : Nat} : mO 1 ng q r m = true ↔ ¬ ng = true ∧ r ≠ 0 := by
  by_cases h : r = 0
  · exact ⟨fun z => absurd z (mO_0 h), fun z => absurd h z.2⟩
  · rw [mO_c h, if_neg (by decide), if_pos rfl]; cases ng <;> simp [h]
theorem mO_r2 {ng : Bool} {q r m : Nat} : ¬ mO 2 ng q r m = true := by
  by_cases h : r = 0
  · exact mO_0 h
  · rw [mO_c h, if_neg (by decide), if_neg (by decide), if_pos rfl]; decide
theorem mO_r3 {ng : Bool} {q r m : Nat} : mO 3 ng q r m = true ↔ r ≠ 0 := by
  by_cases h : r = 0
  · exact ⟨fun z => absurd z (mO_0 h), fun z => absurd h z⟩
  · rw [mO_c h, if_neg (by decide), if_neg (by decide), if_neg (by decide), if_pos rfl]; exact ⟨fun _ => h, fun _ => rfl⟩
theorem ngmx {a b r : Int64} (h : r.toInt = imn (-a).toInt (-b).toInt) (ha : -9223372036854775808 < a.toInt) (hb : -9223372036854775808 < b.toInt) : (-r).toInt = imx a.toInt b.toInt := by
  rw [neg_rng ha, neg_rng hb, imn_neg] at h
  have h1 := sI_rng a
  have h2 := sI_rng b
  have h3 : imx a.toInt b.toInt < 9223372036854775808 := by unfold imx; split <;> omega
  rw [neg_rng (by omega), h, Int.neg_neg]
theorem sgp {z : Int} (h : 0 < (sg z).toInt) : 0 < z := by
  rcases sg_cases z with ⟨a, q⟩ | ⟨a, q⟩ | ⟨a, q⟩
  · rw [q] at h; exact absurd h (by decide)
  · rw [q] at h; exact absurd h (by decide)
  · exact a
theorem sgm {z : Int} (h : (sg z).toInt < 0) : z < 0 := by
  rcases sg_cases z with ⟨a, q⟩ | ⟨a, q⟩ | ⟨a, q⟩
  · exact a
  · rw [q] at h; exact absurd h (by decide)
  · rw [q] at h; exact absurd h (by decide)
