theorem ix_m1 {a m : Nat} : 6 * nI a + nI (m + 1) - 1 = 6 * nI a + nI m := by
  rw [← nI_1, ← Int32.add_assoc, Int32.add_sub_cancel]
theorem limb_eq {f : Nat → Int64} (h : lim f) {a k : Nat} (ha : a < 16) (hk : k < 6) : uN (f (6 * a + k)) = lb (num f a) k := by
  have l0 := h (6 * a) (by omega)
  have l1 := h (6 * a + 1) (by omega)
  have l2 := h (6 * a + 2) (by omega)
  have l3 := h (6 * a + 3) (by omega)
  have l4 := h (6 * a + 4) (by omega)
  have l5 := h (6 * a + 5) (by omega)
  rw [num_eq]
  unfold lb
  rcases (show k = 0 ∨ k = 1 ∨ k = 2 ∨ k = 3 ∨ k = 4 ∨ k = 5 by omega) with rfl | rfl | rfl | rfl | rfl | rfl <;> simp only [Nat.reducePow, Nat.pow_zero, Nat.add_zero] <;> omega
abbrev lbad (Z : Int) (limb : Int32) : Prop := limb.toInt < -1 ∨ (nl Z.natAbs : Int) ≤ limb.toInt
def lval (Z : Int) (limb : Int32) : Int64 := if limb = -1 then (sg Z).toInt64 else lN (lb Z.natAbs limb.toNatClampNeg)
theorem lN_un (x : Int64) : lN (uN x) = x := uN_inj (by
  have := uN_lt x
  show uN x % 18446744073709551616 = uN x
  omega)
theorem uN_lN (n : Nat) : uN (lN n) = n % 18446744073709551616 := rfl
theorem uN_l32 (x : Int64) : uN (x <<< ((32 : Int32).toInt64 &&& 63)) = (uN x * 4294967296) % 18446744073709551616 := by
  have h : (((32 : Int32).toInt64 &&& 63).toBitVec.smod 64).toNat = 32 := by decide
  show (x.toBitVec <<< (((32 : Int32).toInt64 &&& 63).toBitVec.smod 64).toNat).toNat = _
  rw [h, BitVec.toNat_shiftLeft, Nat.shiftLeft_eq]
  rfl
theorem bits_eq {f : Nat → Int64} (h : lim f) {a : Nat} (ha : a < 16) : f (6 * a + 1) <<< ((32 : Int32).toInt64 &&& 63) ||| f (6 * a) = lN (num f a) := by
  refine uN_inj ?_
  have l0 := h (6 * a) (by omega)
  have l1 := h (6 * a + 1) (by omega)
  have k := Nat.two_pow_add_eq_or_of_lt (i := 32) (b := uN (f (6 * a))) (by omega) (uN (f (6 * a + 1)))
  rw [uN_or2, uN_l32, uN_lN, num_eq]
  rw [show (2 : Nat) ^ 32 = 4294967296 from rfl] at k
  rw [show uN (f (6 * a + 1)) * 4294967296 % 18446744073709551616 = 4294967296 * uN (f (6 * a + 1)) by omega, ← k]
  omega
theorem p63 {x y : Int64} : (x.toInt * y.toInt).natAbs ≤ 85070591730234615865843651857942052864 := by
  have a := sI_rng x
  have b := sI_rng y
  have m := mul_bd (x := x.toInt) (y := y.toInt) (X := 9223372036854775808) (Y := 9223372036854775808) (by omega) (by omega) (by omega) (by omega)
  omega
theorem hz_neg {f : Nat → Int64} {s : Nat → Int32} {d : Nat} {z : Int} (h : hz f s d z) : hz f (upd s d (-(s d))) d (-z) := ⟨by rw [Int.natAbs_neg]; exact h.1, by rw [pk_us, h.2, sg_negate]⟩
theorem hz.sgn {f : Nat → Int64} {s : Nat → Int32} {d e : Nat} {v : Int32} {z : Int} (h : hz f s e z) (he : e ≠ d) : hz f (upd s d v) e z := ⟨h.1, by rw [pk_un he]; exact h.2⟩
