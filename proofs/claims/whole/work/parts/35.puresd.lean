/-! shares and digits, in numbers -/
theorem sh_d {A N : Int} (hN : 0 < N) : (0 ≤ A - Int.tdiv A N * N → A / N = Int.tdiv A N ∧ A % N = A - Int.tdiv A N * N) ∧ (A - Int.tdiv A N * N < 0 → A / N = Int.tdiv A N - 1 ∧ A % N = A - Int.tdiv A N * N + N) ∧ -N < A - Int.tdiv A N * N ∧ A - Int.tdiv A N * N < N := by
  have key : -N < A - Int.tdiv A N * N ∧ A - Int.tdiv A N * N < N := by
    rcases Int.le_total 0 A with c | c
    · rw [Int.tdiv_eq_ediv_of_nonneg c]
      have h1 := Int.emod_nonneg A (show N ≠ 0 by omega)
      have h2 := Int.emod_lt_of_pos A hN
      have h3 := Int.emod_def A N
      rw [Int.mul_comm] at h3
      omega
    · have e : Int.tdiv A N = -((-A) / N) := by
        rw [← Int.tdiv_eq_ediv_of_nonneg (by omega), Int.neg_tdiv, Int.neg_neg]
      rw [e, Int.neg_mul]
      have h1 := Int.emod_nonneg (-A) (show N ≠ 0 by omega)
      have h2 := Int.emod_lt_of_pos (-A) hN
      have h3 := Int.emod_def (-A) N
      rw [Int.mul_comm] at h3
      omega
  refine ⟨fun h => ?_, fun h => ?_, key⟩
  · exact (Int.ediv_emod_unique hN).mpr ⟨by rw [Int.mul_comm N]; omega, h, key.2⟩
  · refine (Int.ediv_emod_unique hN).mpr ⟨?_, by omega, by omega⟩
    rw [Int.mul_sub, Int.mul_comm N, Int.mul_one]; omega
theorem sh_mul {x y : Int64} (h : 0 < y.toInt) : (x / y).toInt = Int.tdiv x.toInt y.toInt ∧ (x - x / y * y).toInt = x.toInt - Int.tdiv x.toInt y.toInt * y.toInt := by
  have e := t_div (x := x) (y := y) (by omega)
  have hx := sI_rng x
  have hy := sI_rng y
  have k := (sh_d (A := x.toInt) (N := y.toInt) h)
  have hr : -9223372036854775808 ≤ Int.tdiv x.toInt y.toInt * y.toInt ∧ Int.tdiv x.toInt y.toInt * y.toInt < 9223372036854775808 := by
    rcases Int.le_total 0 x.toInt with c | c
    · rw [Int.tdiv_eq_ediv_of_nonneg c] at k ⊢
      have h2 : 0 ≤ x.toInt / y.toInt * y.toInt := Int.mul_nonneg (Int.ediv_nonneg c (by omega)) (by omega)
      have h3 := Int.ediv_mul_le x.toInt (show y.toInt ≠ 0 by omega)
      omega
    · have e2 : Int.tdiv x.toInt y.toInt = -((-x.toInt) / y.toInt) := by
        rw [← Int.tdiv_eq_ediv_of_nonneg (by omega), Int.neg_tdiv, Int.neg_neg]
      rw [e2, Int.neg_mul]
      have h2 : 0 ≤ (-x.toInt) / y.toInt * y.toInt := Int.mul_nonneg (Int.ediv_nonneg (by omega) (by omega)) (by omega)
      have h3 := Int.ediv_mul_le (-x.toInt) (show y.toInt ≠ 0 by omega)
      omega
  have e3 : (x / y * y).toInt = Int.tdiv x.toInt y.toInt * y.toInt := by rw [mul_rng (by rw [e]; exact hr.1) (by rw [e]; exact hr.2), e]
  exact ⟨e, by rw [sub_rng (by rw [e3]; omega) (by rw [e3]; omega), e3]⟩
abbrev dgok (b : Int32) : Prop := 2 ≤ b.toInt ∧ b.toInt ≤ 36
def dgN (a : Int64) (b : Int32) (i : Nat) : Nat := a.toInt.natAbs / b.toInt.toNat ^ i
abbrev dgbad (a : Int64) (b k : Int32) : Prop := k.toInt < 0 ∨ (0 < k.toInt ∧ dgN a b k.toInt.toNat = 0)
theorem dgN_0 (a : Int64) (b : Int32) : dgN a b 0 = a.toInt.natAbs := by unfold dgN; rw [Nat.pow_zero, Nat.div_one]
theorem dgN_s (a : Int64) (b : Int32) (i : Nat) : dgN a b (i + 1) = dgN a b i / b.toInt.toNat := by unfold dgN; rw [Nat.pow_succ, Nat.div_div_eq_div_mul]
theorem dgN_z {a : Int64} {b : Int32} {i j : Nat} (h : dgN a b i = 0) (hj : i ≤ j) : dgN a b j = 0 := by
  induction j with
  | zero => rw [show i = 0 by omega] at h; exact h
  | succ j ih =>
    rcases Nat.lt_or_ge j i with q | q
    · rw [show i = j + 1 by omega] at h; exact h
    · rw [dgN_s, ih q, Nat.zero_div]
theorem dgN_64 {a : Int64} {b : Int32} (hb : dgok b) {i : Nat} (h : 64 ≤ i) : dgN a b i = 0 := by
  unfold dgN
  have h1 : a.toInt.natAbs ≤ 9223372036854775808 := by have := sI_rng a; omega
  have h2 : 2 ^ i ≤ b.toInt.toNat ^ i := Nat.pow_le_pow_left (by omega) i
  have h3 : 2 ^ 64 ≤ 2 ^ i := Nat.pow_le_pow_right (by decide) h
  have h4 : (2 : Nat) ^ 64 = 18446744073709551616 := rfl
  exact Nat.div_eq_of_lt (by omega)
theorem dg_step {H L b N : Nat} (hb : 0 < b) (e : H * 4294967296 + L = N) (hL : L < 4294967296) : H / b * 4294967296 + (H % b * 4294967296 + L) / b = N / b ∧ (H % b * 4294967296 + L) % b = N % b ∧ (H % b * 4294967296 + L) / b < 4294967296 := by
  have h1 := Nat.div_add_mod H b
  have hr := Nat.mod_lt H hb
  have e2 : N = (H % b * 4294967296 + L) + b * (H / b * 4294967296) := by
    rw [← e, ← Nat.mul_assoc, ← Nat.add_right_comm, ← Nat.add_mul, Nat.add_comm (H % b), h1]
  refine ⟨?_, ?_, ?_⟩
  · rw [e2, Nat.add_mul_div_left _ _ hb, Nat.add_comm]
  · rw [e2, Nat.add_mul_mod_self_left]
  · have h2 : (H % b * 4294967296 + L) < b * 4294967296 := by
      have h3 : (H % b + 1) * 4294967296 ≤ b * 4294967296 := Nat.mul_le_mul_right _ hr
      rw [Nat.add_mul] at h3
      omega
    exact Nat.div_lt_of_lt_mul h2
theorem uN_pd {x y : Int64} (hx : uN x < 9223372036854775808) (hy : 0 < y.toInt) : (x / y).toInt = ((uN x / y.toInt.toNat : Nat) : Int) ∧ (x - x / y * y).toInt = ((uN x % y.toInt.toNat : Nat) : Int) := by
  have ex : x.toInt = (uN x : Int) := by have := uN_int x; split at this <;> omega
  obtain ⟨h1, h2⟩ := sh_mul (x := x) hy
  have e : Int.tdiv x.toInt y.toInt = ((uN x / y.toInt.toNat : Nat) : Int) := by
    rw [Int.tdiv_eq_ediv_of_nonneg (by omega), ex]
    conv => lhs; rw [show y.toInt = ((y.toInt.toNat : Nat) : Int) by omega]
    exact (Int.natCast_ediv _ _).symm
  refine ⟨h1.trans e, h2.trans ?_⟩
  rw [e, ex]
  conv => lhs; rw [show y.toInt = ((y.toInt.toNat : Nat) : Int) by omega]
  rw [← Int.natCast_mul]
  have h3 := Nat.div_add_mod (uN x) y.toInt.toNat
  rw [Nat.mul_comm] at h3
  have h4 : (y.toInt.toNat : Int).toNat = y.toInt.toNat := by omega
  rw [h4]
  omega
theorem uN_nn {x : Int64} (h : 0 ≤ x.toInt) : uN x = x.toInt.toNat := by have := uN_of x; have := sI_rng x; omega
theorem or_lo {x y : Int64} (hx : uN x < 64) (hy : uN y < 4294967296) : uN (x <<< ((32 : Int32).toInt64 &&& 63) ||| y) = uN x * 4294967296 + uN y := by
  rw [uN_or2, uN_l32, Nat.mod_eq_of_lt (by omega), show uN x * 4294967296 = uN x * 2 ^ 32 from rfl, ← Nat.shiftLeft_eq, ← Nat.shiftLeft_add_eq_or_of_lt hy]
theorem l2i_s {x : Int64} (h1 : 0 ≤ x.toInt) (h2 : x.toInt < 2147483648) : x.toInt32.toInt = x.toInt := by
  rw [Int64.toInt_toInt32]
  exact Int.bmod_eq_of_le (by omega) (by omega)
theorem mul_ge1 {q n : Int} (hn : 1 ≤ n) : (0 ≤ q → q ≤ q * n) ∧ (q ≤ 0 → q * n ≤ q) := by
  refine ⟨fun h => ?_, fun h => ?_⟩
  · have := Int.mul_le_mul_of_nonneg_left hn h
    rw [Int.mul_one] at this
    exact this
  · have := Int.mul_le_mul_of_nonneg_left hn (show 0 ≤ -q by omega)
    rw [Int.mul_one, Int.neg_mul] at this
    omega
theorem i2l_ne {x : Int32} (h : x.toInt ≠ 0) : ¬ x.toInt64 = 0 := fun q => h (by rw [← i2l, q]; rfl)
theorem uN_nat {x : Int64} {n : Nat} (h : x.toInt = (n : Int)) : uN x = n := by rw [uN_nn (by omega)]; omega
