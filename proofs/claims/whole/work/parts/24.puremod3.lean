/-! shifts by a number that is known; the reference's division -/
theorem shk : ∀ k, k < 64 → (((nI k).toInt64 &&& 63).toBitVec.smod 64).toNat = k := by decide +kernel
theorem uN_shlk (x : Int64) {k : Nat} (hk : k < 64) : uN (x <<< ((nI k).toInt64 &&& 63)) = (uN x * 2 ^ k) % 18446744073709551616 := by
  show (x.toBitVec <<< (((nI k).toInt64 &&& 63).toBitVec.smod 64).toNat).toNat = _
  rw [shk k hk, BitVec.toNat_shiftLeft, Nat.shiftLeft_eq]
  rfl
theorem sI_shrk (x : Int64) {k : Nat} (hk : k < 64) : (x >>> ((nI k).toInt64 &&& 63)).toInt = x.toInt / ((2 ^ k : Nat) : Int) := by
  show (x.toBitVec.sshiftRight (((nI k).toInt64 &&& 63).toBitVec.smod 64).toNat).toInt = _
  rw [shk k hk, BitVec.toInt_sshiftRight, Int.shiftRight_eq_div_pow]
  rfl
theorem q32 {x : Int32} {i : Nat} (e : x = nI i) (hi : i < 192) : x / 32 = nI (i / 32) := by
  rw [e, show (32 : Int32) = nI 32 from rfl]
  exact pk_div (by omega) (by decide) (by decide)
theorem r32 {x : Int32} {i : Nat} (e : x = nI i) (hi : i < 192) : x - x / 32 * 32 = nI (i % 32) := by
  rw [e, show (32 : Int32) = nI 32 from rfl]
  exact pk_rem (by omega) (by decide) (by decide)
theorem ixd_in {a i : Nat} {x : Int32} (e : x = nI i) (hi : i < 192) (ha : a < 16) : vp_in (6 * nI a + x / 32) 96 := by rw [q32 e hi]; exact ix_in (by omega)
theorem ixd_cl {a i : Nat} {x : Int32} (e : x = nI i) (hi : i < 192) (ha : a < 16) : (6 * nI a + x / 32).toNatClampNeg = 6 * a + i / 32 := by rw [q32 e hi]; exact ix_cl (by omega)
theorem ixq_in {i : Nat} {x : Int32} (e : x = nI i) (hi : i < 192) : vp_in (54 + x / 32) 96 := by
  rw [q32 e hi, show (54 : Int32) = nI 54 from rfl, nI_add]; exact vp_in_nI (by omega) (by decide)
theorem ixq_cl {i : Nat} {x : Int32} (e : x = nI i) (hi : i < 192) : (54 + x / 32).toNatClampNeg = 6 * 9 + i / 32 := by
  rw [q32 e hi, show (54 : Int32) = nI 54 from rfl, nI_add]; exact nI_clamp (by omega)
theorem pB (q : Nat) : (4294967296 : Nat) ^ q = 2 ^ (32 * q) := by rw [Nat.pow_mul]
theorem pS (i : Nat) : 2 ^ (32 * (i / 32)) * 2 ^ (i % 32) = 2 ^ i := by rw [← Nat.pow_add, Nat.div_add_mod]
theorem n_div0 {N m : Nat} (hm : 0 < m) (h : N / m = 0) : N < m := (Nat.div_lt_one_iff hm).mp (by omega)
theorem dvx {f : Nat → Int64} (h : lim f) {a i : Nat} (ha : a < 16) (hi : i < 192) (hA : num f a < 2 ^ (i + 1)) : uN (f (6 * a + i / 32)) = num f a / 2 ^ (32 * (i / 32)) := by
  rw [limb_eq h ha (by omega)]
  unfold lb
  rw [pB]
  refine Nat.mod_eq_of_lt ?_
  rw [Nat.div_lt_iff_lt_mul (Nat.two_pow_pos _)]
  have e : 4294967296 * 2 ^ (32 * (i / 32)) = 2 ^ (32 + 32 * (i / 32)) := by rw [Nat.pow_add]
  rw [e]
  exact Nat.lt_of_lt_of_le hA (Nat.pow_le_pow_right (by decide) (by omega))
theorem dvs {f : Nat → Int64} (h : lim f) {a i : Nat} {x : Int32} (ha : a < 16) (hi : i < 192) (hA : num f a < 2 ^ (i + 1)) (e : x = nI i) : (f (6 * a + i / 32) >>> ((x - x / 32 * 32).toInt64 &&& 63)).toInt = ((num f a / 2 ^ i : Nat) : Int) := by
  rw [r32 e hi, sI_shrk _ (by omega), uN_small (h _ (by omega)), dvx h ha hi hA, ← Int.natCast_ediv, Nat.div_div_eq_div_mul, pS]
theorem dvb {f : Nat → Int64} (h : lim f) {a i : Nat} {x : Int32} (ha : a < 16) (hi : i < 192) (e : x = nI i) : uN (f (6 * a + i / 32) >>> ((x - x / 32 * 32).toInt64 &&& 63) &&& 1) = num f a / 2 ^ i % 2 := by
  have l := h (6 * a + i / 32) (by omega)
  have e1 := sI_shrk (f (6 * a + i / 32)) (k := i % 32) (by omega)
  rw [uN_small l, ← Int.natCast_ediv] at e1
  have e2 := uN_of (f (6 * a + i / 32) >>> ((nI (i % 32)).toInt64 &&& 63))
  have e3 : uN (f (6 * a + i / 32)) / 2 ^ (i % 32) ≤ uN (f (6 * a + i / 32)) := Nat.div_le_self _ _
  have e4 : uN (f (6 * a + i / 32) >>> ((nI (i % 32)).toInt64 &&& 63)) = uN (f (6 * a + i / 32)) / 2 ^ (i % 32) := by
    generalize uN (f (6 * a + i / 32)) / 2 ^ (i % 32) = z at *
    omega
  rw [r32 e hi, uN_a1, e4, limb_eq h ha (by omega)]
  unfold lb
  rw [pB, show (4294967296 : Nat) = 2 ^ (i % 32) * 2 ^ (32 - i % 32) by rw [← Nat.pow_add, show i % 32 + (32 - i % 32) = 32 by omega], Nat.mod_mul_right_div_self, Nat.div_div_eq_div_mul, pS]
  refine Nat.mod_mod_of_dvd _ ⟨2 ^ (32 - i % 32 - 1), ?_⟩
  rw [← Nat.pow_succ', show (32 - i % 32 - 1).succ = 32 - i % 32 by omega]
theorem num_up {f : Nat → Int64} {d k : Nat} {w : Int64} (hk : k < 6) : num (vp_updL f (6 * d + k) w) d + uN (f (6 * d + k)) * 4294967296 ^ k = num f d + uN w * 4294967296 ^ k := nm_upd hk
theorem num_upo {f : Nat → Int64} {d k e : Nat} {w : Int64} (hk : k < 6) (he : e ≠ d) : num (vp_updL f (6 * d + k) w) e = num f e := nm_congr (fun j hj => pk_uLn (by omega))
theorem or_even {x y : Int64} (h : uN x % 2 = 0) (hy : uN y < 2) : uN (x ||| y) = uN x + uN y := by
  have k := Nat.two_pow_add_eq_or_of_lt (i := 1) (b := uN y) (by omega) (uN x / 2)
  rw [uN_or2]
  rw [show 2 ^ 1 * (uN x / 2) = uN x by omega] at k
  exact k.symm
theorem dd_h (A i : Nat) : A / 2 ^ i = 2 * (A / 2 ^ (i + 1)) + A / 2 ^ i % 2 := by
  rw [Nat.pow_succ, ← Nat.div_div_eq_div_mul]; omega
theorem dd_0 {y a b B : Nat} (hB : 0 < B) (e : y = 2 * a + b) (h : 2 * (a % B) + b < B) : y / B = 2 * (a / B) ∧ y % B = 2 * (a % B) + b := by
  refine (Nat.div_mod_unique hB).mpr ⟨?_, h⟩
  have d := Nat.div_add_mod a B
  rw [e, ← Nat.mul_assoc, Nat.mul_comm B 2, Nat.mul_assoc]
  omega
theorem dd_1 {y a b B : Nat} (hB : 0 < B) (hb : b < 2) (e : y = 2 * a + b) (h : B ≤ 2 * (a % B) + b) : y / B = 2 * (a / B) + 1 ∧ y % B = 2 * (a % B) + b - B := by
  have m := Nat.mod_lt a hB
  refine (Nat.div_mod_unique hB).mpr ⟨?_, by omega⟩
  have d := Nat.div_add_mod a B
  rw [e, Nat.mul_add, ← Nat.mul_assoc, Nat.mul_comm B 2, Nat.mul_assoc]
  omega
theorem qbit {f : Nat → Int64} (h : lim f) {i Q : Nat} {x : Int32} (hi : i < 192) (e : x = nI i) (hQ : num f 9 = Q * 2 ^ (i + 1)) : uN (f (6 * 9 + i / 32) ||| 1 <<< ((x - x / 32 * 32).toInt64 &&& 63)) = uN (f (6 * 9 + i / 32)) + 2 ^ (i % 32) ∧ uN (f (6 * 9 + i / 32)) + 2 ^ (i % 32) < 4294967296 := by
  have l := h (6 * 9 + i / 32) (by omega)
  have ps : 2 ^ (i % 32) ≤ 2 ^ 31 := Nat.pow_le_pow_right (by decide) (by omega)
  have e1 : uN ((1 : Int64) <<< ((x - x / 32 * 32).toInt64 &&& 63)) = 2 ^ (i % 32) := by
    rw [r32 e hi, uN_shlk _ (by omega), un1, Nat.one_mul]
    exact Nat.mod_eq_of_lt (by omega)
  have e2 : uN (f (6 * 9 + i / 32)) = 2 ^ (i % 32 + 1) * (Q % 2 ^ (31 - i % 32)) := by
    rw [limb_eq h (by decide) (by omega), hQ]
    unfold lb
    rw [pB, show i + 1 = 32 * (i / 32) + (i % 32 + 1) by omega, Nat.pow_add, ← Nat.mul_assoc, Nat.mul_comm Q, Nat.mul_assoc, Nat.mul_div_cancel_left _ (Nat.two_pow_pos _), show (4294967296 : Nat) = 2 ^ (31 - i % 32) * 2 ^ (i % 32 + 1) by rw [← Nat.pow_add, show 31 - i % 32 + (i % 32 + 1) = 32 by omega], Nat.mul_mod_mul_right, Nat.mul_comm]
  have k := Nat.two_pow_add_eq_or_of_lt (i := i % 32 + 1) (b := 2 ^ (i % 32)) (Nat.pow_lt_pow_right (by decide) (by omega)) (Q % 2 ^ (31 - i % 32))
  rw [uN_or2, e1, e2, ← k]
  refine ⟨rfl, ?_⟩
  have m : Q % 2 ^ (31 - i % 32) + 1 ≤ 2 ^ (31 - i % 32) := Nat.mod_lt _ (Nat.two_pow_pos _)
  have m2 := Nat.mul_le_mul_left (2 ^ (i % 32 + 1)) m
  rw [← Nat.pow_add, show i % 32 + 1 + (31 - i % 32) = 32 by omega, Nat.mul_add, Nat.mul_one] at m2
  have m3 : 2 ^ (i % 32) < 2 ^ (i % 32 + 1) := Nat.pow_lt_pow_right (by decide) (by omega)
  omega
theorem p2B (i : Nat) : 2 ^ (i % 32) * 4294967296 ^ (i / 32) = 2 ^ i := by rw [pB, Nat.mul_comm, pS]
