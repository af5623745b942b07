/-! Int64 without sign: the family uN of kit/laws/BITS.to-paste (a starting text) -/
def uN (x : Int64) : Nat := x.toUInt64.toNat
theorem uN_lt (x : Int64) : uN x < 18446744073709551616 := x.toUInt64.toNat_lt
theorem uN_inj {x y : Int64} (h : uN x = uN y) : x = y := congrArg UInt64.toInt64 (UInt64.toNat_inj.mp h)
theorem uN_add (x y : Int64) : uN (x + y) = (uN x + uN y) % 18446744073709551616 := by
  show (x.toUInt64 + y.toUInt64).toNat = _
  exact UInt64.toNat_add _ _
theorem uN_mul (x y : Int64) : uN (x * y) = (uN x * uN y) % 18446744073709551616 := by
  show (x.toUInt64 * y.toUInt64).toNat = _
  exact UInt64.toNat_mul _ _
theorem uN_shl (x : Int64) : uN (x <<< ((1 : Int32).toInt64 &&& 63)) = (2 * uN x) % 18446744073709551616 := by
  have h : (((1 : Int32).toInt64 &&& 63).toBitVec.smod 64).toNat = 1 := by decide
  show (x.toBitVec <<< (((1 : Int32).toInt64 &&& 63).toBitVec.smod 64).toNat).toNat = _
  rw [h, BitVec.toNat_shiftLeft, Nat.shiftLeft_eq, Nat.mul_comm]
  rfl
theorem uN_shr (x : Int64) (s : UInt64) : uN (x.toUInt64 >>> s).toInt64 = uN x / 2 ^ (s.toNat % 64) := by
  show (x.toUInt64 >>> s).toNat = _
  rw [UInt64.toNat_shiftRight, Nat.shiftRight_eq_div_pow]
  rfl
theorem uN_s32 (x : Int64) : uN (x.toUInt64 >>> ((32 : Int32).toInt64.toUInt64 &&& Int64.toUInt64 63)).toInt64 = uN x / 4294967296 := by
  have h : ((32 : Int32).toInt64.toUInt64 &&& Int64.toUInt64 63).toNat % 64 = 32 := by decide
  rw [uN_shr, h]
theorem uN_s63 (x : Int64) : uN (x.toUInt64 >>> ((63 : Int32).toInt64.toUInt64 &&& Int64.toUInt64 63)).toInt64 = uN x / 9223372036854775808 := by
  have h : ((63 : Int32).toInt64.toUInt64 &&& Int64.toUInt64 63).toNat % 64 = 63 := by decide
  rw [uN_shr, h]
theorem uN_lo (x : Int64) : uN (x &&& 4294967295) = uN x % 4294967296 := by
  show (x.toUInt64 &&& Int64.toUInt64 4294967295).toNat = _
  rw [UInt64.toNat_and]
  exact Nat.and_two_pow_sub_one_eq_mod _ 32
theorem uN_bit (x : Int64) : (x &&& 1) = 0 ↔ uN x % 2 = 0 := by
  have h : uN (x &&& 1) = uN x % 2 := by
    show (x.toUInt64 &&& Int64.toUInt64 1).toNat = _
    rw [UInt64.toNat_and]
    exact Nat.and_two_pow_sub_one_eq_mod _ 1
  rw [← h]
  exact ⟨fun z => by rw [z]; rfl, fun z => uN_inj (z.trans rfl)⟩
theorem uN_or {x y : Int64} (hy : uN y < 2) : uN ((x <<< ((1 : Int32).toInt64 &&& 63)) ||| y) = (2 * uN x) % 18446744073709551616 + uN y := by
  have h1 : uN ((x <<< ((1 : Int32).toInt64 &&& 63)) ||| y) = uN (x <<< ((1 : Int32).toInt64 &&& 63)) ||| uN y := UInt64.toNat_or _ _
  have h2 : (2 * uN x) % 18446744073709551616 = 2 ^ 1 * (uN x % 9223372036854775808) := by omega
  rw [h1, uN_shl, h2]
  exact (Nat.two_pow_add_eq_or_of_lt (i := 1) hy _).symm
theorem nat_xor {a : Nat} (h : a < 18446744073709551616) : a ^^^ 2 ^ 63 = (a + 9223372036854775808) % 18446744073709551616 := by
  have h1 : (a ^^^ 2 ^ 63) % 2 ^ 63 = a % 2 ^ 63 := by rw [Nat.xor_mod_two_pow, Nat.mod_self, Nat.xor_zero]
  have h2 : (a ^^^ 2 ^ 63) / 2 ^ 63 = (a / 2 ^ 63) ^^^ 1 := by rw [Nat.xor_div_two_pow, Nat.div_self (Nat.two_pow_pos 63)]
  have h3 : a / 2 ^ 63 = 0 ∨ a / 2 ^ 63 = 1 := by omega
  generalize a ^^^ 2 ^ 63 = t at h1 h2
  rcases h3 with h3 | h3
  · rw [h3] at h2
    have h2 : t / 2 ^ 63 = 1 := h2
    omega
  · rw [h3] at h2
    have h2 : t / 2 ^ 63 = 0 := h2
    omega
theorem uN_xor (x : Int64) : uN (x ^^^ (-9223372036854775808)) = (uN x + 9223372036854775808) % 18446744073709551616 := by
  rw [← nat_xor (uN_lt x)]
  exact UInt64.toNat_xor _ _
theorem uN_int (x : Int64) : x.toInt = if 2 * uN x < 18446744073709551616 then (uN x : Int) else (uN x : Int) - 18446744073709551616 := BitVec.toInt_eq_toNat_cond _
theorem uN_le (x y : Int64) : (x ^^^ (-9223372036854775808)) ≤ (y ^^^ (-9223372036854775808)) ↔ uN x ≤ uN y := by
  have hx := uN_lt x
  have hy := uN_lt y
  rw [Int64.le_iff_toInt_le, uN_int, uN_int, uN_xor, uN_xor]
  omega
theorem uN_sk (x : Int64) {k : Nat} (hk : k < 64) : uN (x.toUInt64 >>> ((nI k).toInt64.toUInt64 &&& Int64.toUInt64 63)).toInt64 = uN x / 2 ^ k := by
  have h : ((nI k).toInt64.toUInt64 &&& Int64.toUInt64 63).toNat % 64 = k := by
    rw [nI_l (by omega), UInt64.toNat_and]
    have e : (lN k).toUInt64.toNat = k % 2 ^ 64 := rfl
    have e2 : (Int64.toUInt64 63).toNat = 2 ^ 6 - 1 := by decide
    rw [e, e2, Nat.and_two_pow_sub_one_eq_mod]
    omega
  rw [uN_shr, h]
/-! wide numbers: two longs as one number of 128 bits -/
def wv (h l : Int64) : Int := h.toInt * 18446744073709551616 + (uN l : Int)
def In (z : Int) : Prop := -170141183460469231731687303715884105728 ≤ z ∧ z < 170141183460469231731687303715884105728
def sg (z : Int) : Int32 := if z < 0 then -1 else if z = 0 then 0 else 1
def cm (a b : Int) : Int32 := if a < b then -1 else if a = b then 0 else 1
def bz (p : Prop) [Decidable p] : Int32 := if p then 1 else 0
theorem bz_t {p : Prop} [Decidable p] (h : p) : 1 = bz p := by simp [bz, h]
theorem bz_f {p : Prop} [Decidable p] (h : ¬ p) : 0 = bz p := by simp [bz, h]
theorem bz_nar {p : Prop} [Decidable p] : narrow .boolean (.int (bz p)) = .int (bz p) := by
  by_cases h : p
  · rw [show bz p = 1 by simp [bz, h]]; rfl
  · rw [show bz p = 0 by simp [bz, h]]; rfl
theorem sI_rng (x : Int64) : -9223372036854775808 ≤ x.toInt ∧ x.toInt < 9223372036854775808 := ⟨x.le_toInt, x.toInt_lt⟩
theorem uN_of (x : Int64) : (uN x : Int) = x.toInt % 18446744073709551616 := by
  have h := uN_int x
  have h1 := uN_lt x
  split at h <;> omega
theorem wv_in (h l : Int64) : In (wv h l) := by
  have h1 := sI_rng h
  have h2 := uN_lt l
  unfold wv In
  omega
theorem wv_inj {h l h2 l2 : Int64} (e : wv h l = wv h2 l2) : h = h2 ∧ l = l2 := by
  have a1 := uN_lt l
  have a2 := uN_lt l2
  unfold wv at e
  have e1 : h.toInt = h2.toInt := by omega
  exact ⟨Int64.toInt_inj.mp e1, uN_inj (by omega)⟩
theorem wv_put0 {v : Int64} (c : (0 : Int64) ≤ v) : wv 0 v = v.toInt := by
  have h := uN_int v
  have c1 : (0 : Int64).toInt ≤ v.toInt := Int64.le_iff_toInt_le.mp c
  have h1 := uN_lt v
  rw [show (0 : Int64).toInt = 0 from rfl] at c1
  unfold wv
  rw [show (0 : Int64).toInt = 0 from rfl]
  split at h <;> omega
theorem wv_putm {v : Int64} (c : ¬ (0 : Int64) ≤ v) : wv (-1) v = v.toInt := by
  have h := uN_int v
  have c1 : ¬ (0 : Int64).toInt ≤ v.toInt := fun q => c (Int64.le_iff_toInt_le.mpr q)
  have h1 := uN_lt v
  rw [show (0 : Int64).toInt = 0 from rfl] at c1
  unfold wv
  rw [show (-1 : Int64).toInt = -1 from rfl]
  split at h <;> omega
theorem i64_ne0 {x : Int64} (h : ¬ x = 0) : x.toInt ≠ 0 := fun q => h (Int64.toInt_inj.mp (q.trans rfl))
theorem u64_ne0 {x : Int64} (h : ¬ x = 0) : uN x ≠ 0 := fun q => h (uN_inj (q.trans rfl))
theorem i64_lt {x y : Int64} : x < y ↔ x.toInt < y.toInt := Int64.lt_iff_toInt_lt
theorem i64_le {x y : Int64} : x ≤ y ↔ x.toInt ≤ y.toInt := Int64.le_iff_toInt_le
theorem i64_eq {x y : Int64} : x = y ↔ x.toInt = y.toInt := Int64.toInt_inj.symm
theorem t0 : (0 : Int64).toInt = 0 := rfl
theorem t1 : (1 : Int64).toInt = 1 := rfl
theorem tm1 : (-1 : Int64).toInt = -1 := rfl
theorem un0 : uN 0 = 0 := rfl
theorem un1 : uN 1 = 1 := rfl
/-! sign -/
theorem sg_h1 {h l : Int64} (a : ¬ h = 0) (b : h < 0) : sg (wv h l) = -1 := by
  rw [i64_lt, t0] at b
  have := uN_lt l
  unfold sg wv
  rw [if_pos (by omega)]
theorem sg_h2 {h l : Int64} (a : ¬ h = 0) (b : ¬ h < 0) : sg (wv h l) = 1 := by
  rw [i64_lt, t0] at b
  have := uN_lt l
  have := i64_ne0 a
  unfold sg wv
  rw [if_neg (by omega), if_neg (by omega)]
theorem sg_l1 {h l : Int64} (a : h = 0) (b : l = 0) : sg (wv h l) = 0 := by
  subst a; subst b; rfl
theorem sg_l2 {h l : Int64} (a : h = 0) (b : ¬ l = 0) : sg (wv h l) = 1 := by
  subst a
  have := u64_ne0 b
  unfold sg wv
  rw [t0, if_neg (by omega), if_neg (by omega)]
/-! compare -/
theorem cm_h1 {h l h2 l2 : Int64} (a : ¬ h = h2) (b : h < h2) : cm (wv h l) (wv h2 l2) = -1 := by
  rw [i64_lt] at b
  have := uN_lt l
  have := uN_lt l2
  unfold cm wv
  rw [if_pos (by omega)]
theorem cm_h2 {h l h2 l2 : Int64} (a : ¬ h = h2) (b : ¬ h < h2) : cm (wv h l) (wv h2 l2) = 1 := by
  rw [i64_lt] at b
  rw [i64_eq] at a
  have := uN_lt l
  have := uN_lt l2
  unfold cm wv
  rw [if_neg (by omega), if_neg (by omega)]
theorem cm_e {h l h2 l2 : Int64} (a : h = h2) (b : l = l2) : cm (wv h l) (wv h2 l2) = 0 := by
  subst a; subst b
  unfold cm
  rw [if_neg (by omega), if_pos rfl]
theorem cm_l1 {h l h2 l2 : Int64} (a : h = h2) (c : uN l < uN l2) : cm (wv h l) (wv h2 l2) = -1 := by
  subst a
  unfold cm wv
  rw [if_pos (by omega)]
theorem cm_l2 {h l h2 l2 : Int64} (a : h = h2) (b : ¬ l = l2) (c : ¬ uN l < uN l2) : cm (wv h l) (wv h2 l2) = 1 := by
  subst a
  have : uN l ≠ uN l2 := fun q => b (uN_inj q)
  unfold cm wv
  rw [if_neg (by omega), if_neg (by omega)]
theorem below_iff (a b : Int64) : (a ^^^ (-9223372036854775808)) < (b ^^^ (-9223372036854775808)) ↔ uN a < uN b := by
  have h := uN_le b a
  rw [Int64.le_iff_toInt_le] at h
  rw [Int64.lt_iff_toInt_lt]
  omega
/-! arithmetic -/
theorem uN_neg (x : Int64) : uN (-x) = (18446744073709551616 - uN x) % 18446744073709551616 := by
  have h1 : (-x).toInt = (-x.toInt).bmod (2 ^ 64) := Int64.toInt_neg x
  have h2 := uN_of x
  have h3 := uN_of (-x)
  have h4 := uN_lt x
  have h5 : (-x).toInt % 18446744073709551616 = (-x.toInt) % 18446744073709551616 := by rw [h1]; exact Int.bmod_emod
  omega
theorem uN_sub (x y : Int64) : uN (x - y) = (uN x + (18446744073709551616 - uN y)) % 18446744073709551616 := by
  have h1 : (x - y).toInt = (x.toInt - y.toInt).bmod (2 ^ 64) := Int64.toInt_sub x y
  have h2 := uN_of x
  have h2' := uN_of y
  have h3 := uN_of (x - y)
  have h4 := uN_lt x
  have h4' := uN_lt y
  have h5 : (x - y).toInt % 18446744073709551616 = (x.toInt - y.toInt) % 18446744073709551616 := by rw [h1]; exact Int.bmod_emod
  omega
theorem uN_not (x : Int64) : uN (x ^^^ (-1)) = 18446744073709551615 - uN x := by
  have h : x ^^^ (-1) = -x - 1 := by
    rw [show x ^^^ (-1) = ~~~ x by simp, Int64.not_eq_neg_sub]
  have h1 := uN_neg x
  have h2 := uN_sub (-x) 1
  have h4 := uN_lt x
  rw [un1] at h2
  rw [h]
  omega
theorem wv_mod {h l : Int64} {z : Int} (hz : In z) (e1 : ((uN h : Int) * 18446744073709551616 + uN l) % 340282366920938463463374607431768211456 = z % 340282366920938463463374607431768211456) : wv h l = z := by
  have a := uN_int h
  have b := uN_lt h
  have c := uN_lt l
  unfold In at hz
  unfold wv
  split at a <;> omega
theorem wv_of (h l : Int64) : wv h l % 340282366920938463463374607431768211456 = ((uN h : Int) * 18446744073709551616 + uN l) % 340282366920938463463374607431768211456 := by
  have a := uN_int h
  have b := uN_lt h
  unfold wv
  split at a <;> omega
theorem wv_neg0 {h l : Int64} (c : -l = 0) (hz : In (-(wv h l))) : wv (-h) (-l) = -(wv h l) := by
  have e : uN (-l) = 0 := by rw [c]; rfl
  refine wv_mod hz ?_
  have a := wv_of h l
  have b := uN_neg h
  have b' := uN_neg l
  have d := uN_lt h
  have d' := uN_lt l
  omega
theorem wv_neg1 {h l : Int64} (c : ¬ -l = 0) (hz : In (-(wv h l))) : wv (h ^^^ (-1)) (-l) = -(wv h l) := by
  have e := u64_ne0 c
  refine wv_mod hz ?_
  have a := wv_of h l
  have b := uN_not h
  have b' := uN_neg l
  have d := uN_lt h
  have d' := uN_lt l
  omega
theorem wv_add1 {h l oh ol : Int64} (c : uN (l + ol) < uN ol) (hz : In (wv h l + wv oh ol)) : wv (h + oh + 1) (l + ol) = wv h l + wv oh ol := by
  refine wv_mod hz ?_
  have a := wv_of h l
  have a' := wv_of oh ol
  have b := uN_add h oh
  have b' := uN_add l ol
  have b'' := uN_add (h + oh) 1
  have d := uN_lt h
  have d' := uN_lt l
  have f := uN_lt oh
  have f' := uN_lt ol
  rw [un1] at b''
  omega
theorem wv_add0 {h l oh ol : Int64} (c : ¬ uN (l + ol) < uN ol) (hz : In (wv h l + wv oh ol)) : wv (h + oh) (l + ol) = wv h l + wv oh ol := by
  refine wv_mod hz ?_
  have a := wv_of h l
  have a' := wv_of oh ol
  have b := uN_add h oh
  have b' := uN_add l ol
  have d := uN_lt h
  have d' := uN_lt l
  have f := uN_lt oh
  have f' := uN_lt ol
  omega
theorem wv_sub1 {h l oh ol : Int64} (c : uN l < uN ol) (hz : In (wv h l - wv oh ol)) : wv (h - 1 - oh) (l - ol) = wv h l - wv oh ol := by
  refine wv_mod hz ?_
  have a := wv_of h l
  have a' := wv_of oh ol
  have b := uN_sub h 1
  have b' := uN_sub l ol
  have b'' := uN_sub (h - 1) oh
  have d := uN_lt h
  have d' := uN_lt l
  have f := uN_lt oh
  have f' := uN_lt ol
  rw [un1] at b
  omega
theorem wv_sub0 {h l oh ol : Int64} (c : ¬ uN l < uN ol) (hz : In (wv h l - wv oh ol)) : wv (h - oh) (l - ol) = wv h l - wv oh ol := by
  refine wv_mod hz ?_
  have a := wv_of h l
  have a' := wv_of oh ol
  have b' := uN_sub l ol
  have b'' := uN_sub h oh
  have d := uN_lt h
  have d' := uN_lt l
  have f := uN_lt oh
  have f' := uN_lt ol
  omega
theorem wv_twice {h l : Int64} (hz : In (2 * wv h l)) : wv (h <<< ((1 : Int32).toInt64 &&& 63) ||| (l.toUInt64 >>> ((63 : Int32).toInt64.toUInt64 &&& Int64.toUInt64 63)).toInt64) (l <<< ((1 : Int32).toInt64 &&& 63)) = 2 * wv h l := by
  refine wv_mod hz ?_
  have s := uN_s63 l
  have d' := uN_lt l
  have d := uN_lt h
  have o := uN_or (x := h) (y := (l.toUInt64 >>> ((63 : Int32).toInt64.toUInt64 &&& Int64.toUInt64 63)).toInt64) (by rw [s]; omega)
  have q := uN_shl l
  have a := wv_of h l
  rw [o, s, q]
  omega
theorem sI_s1 (a : Int64) : (a >>> ((1 : Int32).toInt64 &&& 63)).toInt = a.toInt / 2 := by
  have h : (((1 : Int32).toInt64 &&& 63).toBitVec.smod 64).toNat = 1 := by decide
  show (a.toBitVec.sshiftRight (((1 : Int32).toInt64 &&& 63).toBitVec.smod 64).toNat).toInt = _
  rw [h, BitVec.toInt_sshiftRight, Int.shiftRight_eq_div_pow]
  rfl
theorem sI_s32 (a : Int64) : (a >>> ((32 : Int32).toInt64 &&& 63)).toInt = a.toInt / 4294967296 := by
  have h : (((32 : Int32).toInt64 &&& 63).toBitVec.smod 64).toNat = 32 := by decide
  show (a.toBitVec.sshiftRight (((32 : Int32).toInt64 &&& 63).toBitVec.smod 64).toNat).toInt = _
  rw [h, BitVec.toInt_sshiftRight, Int.shiftRight_eq_div_pow]
  rfl
theorem uN_s1 (x : Int64) : uN (x.toUInt64 >>> ((1 : Int32).toInt64.toUInt64 &&& Int64.toUInt64 63)).toInt64 = uN x / 2 := by
  have h : ((1 : Int32).toInt64.toUInt64 &&& Int64.toUInt64 63).toNat % 64 = 1 := by decide
  rw [uN_shr, h]
theorem uN_l63 (x : Int64) : uN (x <<< ((63 : Int32).toInt64 &&& 63)) = 9223372036854775808 * (uN x % 2) := by
  have h : (((63 : Int32).toInt64 &&& 63).toBitVec.smod 64).toNat = 63 := by decide
  have e : uN (x <<< ((63 : Int32).toInt64 &&& 63)) = (uN x * 2 ^ 63) % 2 ^ 64 := by
    show (x.toBitVec <<< (((63 : Int32).toInt64 &&& 63).toBitVec.smod 64).toNat).toNat = _
    rw [h, BitVec.toNat_shiftLeft, Nat.shiftLeft_eq]
    rfl
  rw [e]
  omega
theorem uN_or2 (x y : Int64) : uN (x ||| y) = uN x ||| uN y := UInt64.toNat_or _ _
theorem wv_half (h l : Int64) : wv (h >>> ((1 : Int32).toInt64 &&& 63)) ((l.toUInt64 >>> ((1 : Int32).toInt64.toUInt64 &&& Int64.toUInt64 63)).toInt64 ||| h <<< ((63 : Int32).toInt64 &&& 63)) = wv h l / 2 := by
  have d' := uN_lt l
  have e : uN ((l.toUInt64 >>> ((1 : Int32).toInt64.toUInt64 &&& Int64.toUInt64 63)).toInt64 ||| h <<< ((63 : Int32).toInt64 &&& 63)) = 9223372036854775808 * (uN h % 2) + uN l / 2 := by
    rw [uN_or2, uN_s1, uN_l63, Nat.or_comm]
    exact (Nat.two_pow_add_eq_or_of_lt (i := 63) (show uN l / 2 < 2 ^ 63 by omega) _).symm
  have a := uN_of h
  unfold wv
  rw [e, sI_s1]
  omega
theorem wv_bit (h l : Int64) : wv h (l ||| 1) = wv h l + (1 - wv h l % 2) := by
  have e : uN (l ||| 1) = 2 * (uN l / 2) + 1 := by
    rw [uN_or2, un1]
    have k : 2 ^ 1 * (uN l / 2) + 1 = 2 ^ 1 * (uN l / 2) ||| 1 := Nat.two_pow_add_eq_or_of_lt (i := 1) (by omega) _
    rcases (show uN l = 2 ^ 1 * (uN l / 2) ∨ uN l = 2 ^ 1 * (uN l / 2) + 1 by omega) with c | c
    · calc uN l ||| 1 = 2 ^ 1 * (uN l / 2) ||| 1 := by rw [← c]
        _ = _ := by rw [← k]
    · calc uN l ||| 1 = (2 ^ 1 * (uN l / 2) + 1) ||| 1 := by rw [← c]
        _ = (2 ^ 1 * (uN l / 2) ||| 1) ||| 1 := by rw [k]
        _ = 2 ^ 1 * (uN l / 2) ||| 1 := by rw [Nat.or_assoc, Nat.or_self]
        _ = _ := by rw [← k]
  unfold wv
  rw [e]
  omega
theorem wv_odd0 {h l : Int64} (c : l &&& 1 = 0) : wv h l % 2 = 0 := by
  have := (uN_bit l).mp c
  unfold wv
  omega
theorem wv_odd1 {h l : Int64} (c : ¬ l &&& 1 = 0) : wv h l % 2 = 1 := by
  have : ¬ uN l % 2 = 0 := fun q => c ((uN_bit l).mpr q)
  unfold wv
  omega
theorem wv_one {h l : Int64} : wv h l = 1 ↔ h = 0 ∧ l = 1 := by
  constructor
  · intro e
    exact wv_inj (h2 := 0) (l2 := 1) (e.trans rfl)
  · rintro ⟨rfl, rfl⟩; rfl
/-! the upper word of a product -/
theorem lo_eq (a : Int64) : (a &&& 4294967295).toInt = a.toInt % 4294967296 := by
  have h := uN_lo a
  have h1 := uN_of a
  have h2 := uN_int (a &&& 4294967295)
  split at h2 <;> omega
theorem mul_rng {x y : Int64} (h1 : -9223372036854775808 ≤ x.toInt * y.toInt) (h2 : x.toInt * y.toInt < 9223372036854775808) : (x * y).toInt = x.toInt * y.toInt := by
  rw [Int64.toInt_mul]
  exact Int.bmod_eq_of_le (by simpa using h1) (by simpa using h2)
theorem add_rng {x y : Int64} (h1 : -9223372036854775808 ≤ x.toInt + y.toInt) (h2 : x.toInt + y.toInt < 9223372036854775808) : (x + y).toInt = x.toInt + y.toInt := by
  rw [Int64.toInt_add]
  exact Int.bmod_eq_of_le (by simpa using h1) (by simpa using h2)
theorem sub_rng {x y : Int64} (h1 : -9223372036854775808 ≤ x.toInt - y.toInt) (h2 : x.toInt - y.toInt < 9223372036854775808) : (x - y).toInt = x.toInt - y.toInt := by
  rw [Int64.toInt_sub]
  exact Int.bmod_eq_of_le (by simpa using h1) (by simpa using h2)
theorem neg_rng {x : Int64} (h1 : -9223372036854775808 < x.toInt) : (-x).toInt = -x.toInt := by
  have h2 := sI_rng x
  rw [Int64.toInt_neg]
  exact Int.bmod_eq_of_le (by simp; omega) (by simp; omega)
theorem mb {x y X Y : Int} (h1 : 0 ≤ y) (h2 : y ≤ Y) (h3 : -X ≤ x) (h4 : x ≤ X) : -(X * Y) ≤ x * y ∧ x * y ≤ X * Y := by
  have hX : 0 ≤ X := by omega
  have a1 : x * y ≤ X * y := Int.mul_le_mul_of_nonneg_right h4 h1
  have a2 : X * y ≤ X * Y := Int.mul_le_mul_of_nonneg_left h2 hX
  have a3 : (-X) * y ≤ x * y := Int.mul_le_mul_of_nonneg_right h3 h1
  rw [Int.neg_mul] at a3
  omega
theorem mbu {x y X Y : Int} (h1 : 0 ≤ y) (h2 : y ≤ Y) (h3 : 0 ≤ X) (h4 : x ≤ X) : x * y ≤ X * Y :=
  Int.le_trans (Int.mul_le_mul_of_nonneg_right h4 h1) (Int.mul_le_mul_of_nonneg_left h2 h3)
abbrev hop (a b : Int64) : Int64 := (a >>> ((32 : Int32).toInt64 &&& 63)) * (b >>> ((32 : Int32).toInt64 &&& 63)) + (((a >>> ((32 : Int32).toInt64 &&& 63)) * (b &&& 4294967295) + (((a &&& 4294967295) * (b &&& 4294967295)).toUInt64 >>> ((32 : Int32).toInt64.toUInt64 &&& Int64.toUInt64 63)).toInt64) >>> ((32 : Int32).toInt64 &&& 63)) + (((a &&& 4294967295) * (b >>> ((32 : Int32).toInt64 &&& 63)) + (((a >>> ((32 : Int32).toInt64 &&& 63)) * (b &&& 4294967295) + (((a &&& 4294967295) * (b &&& 4294967295)).toUInt64 >>> ((32 : Int32).toInt64.toUInt64 &&& Int64.toUInt64 63)).toInt64) &&& 4294967295)) >>> ((32 : Int32).toInt64 &&& 63))
theorem wv_hop (a b : Int64) : wv (hop a b) (a * b) = a.toInt * b.toInt := by
  have ra := sI_rng a
  have rb := sI_rng b
  obtain ⟨A1, hA1⟩ : ∃ z, z = a >>> ((32 : Int32).toInt64 &&& 63) := ⟨_, rfl⟩
  obtain ⟨B1, hB1⟩ : ∃ z, z = b >>> ((32 : Int32).toInt64 &&& 63) := ⟨_, rfl⟩
  obtain ⟨A0, hA0⟩ : ∃ z, z = a &&& 4294967295 := ⟨_, rfl⟩
  obtain ⟨B0, hB0⟩ : ∃ z, z = b &&& 4294967295 := ⟨_, rfl⟩
  have eA1 : A1.toInt = a.toInt / 4294967296 := by rw [hA1, sI_s32]
  have eB1 : B1.toInt = b.toInt / 4294967296 := by rw [hB1, sI_s32]
  have eA0 : A0.toInt = a.toInt % 4294967296 := by rw [hA0, lo_eq]
  have eB0 : B0.toInt = b.toInt % 4294967296 := by rw [hB0, lo_eq]
  unfold hop
  rw [← hA1, ← hB1, ← hA0, ← hB0]
  obtain ⟨q, hq⟩ : ∃ z, z = ((A0 * B0).toUInt64 >>> ((32 : Int32).toInt64.toUInt64 &&& Int64.toUInt64 63)).toInt64 := ⟨_, rfl⟩
  rw [← hq]
  have uA0 : uN A0 = A0.toInt := by have := uN_of A0; omega
  have uB0 : uN B0 = B0.toInt := by have := uN_of B0; omega
  have m00 := mb (x := A0.toInt) (y := B0.toInt) (X := 4294967295) (Y := 4294967295) (by omega) (by omega) (by omega) (by omega)
  have n00 : 0 ≤ A0.toInt * B0.toInt := Int.mul_nonneg (by omega) (by omega)
  have m10 := mb (x := A1.toInt) (y := B0.toInt) (X := 2147483648) (Y := 4294967295) (by omega) (by omega) (by omega) (by omega)
  have m01 := mb (x := B1.toInt) (y := A0.toInt) (X := 2147483648) (Y := 4294967295) (by omega) (by omega) (by omega) (by omega)
  have m11 : -4611686018427387904 ≤ A1.toInt * B1.toInt ∧ A1.toInt * B1.toInt ≤ 4611686018427387904 := by
    rcases Int.le_total 0 B1.toInt with h | h
    · have := mb (x := A1.toInt) (y := B1.toInt) (X := 2147483648) (Y := 2147483648) (by omega) (by omega) (by omega) (by omega)
      omega
    · have := mb (x := A1.toInt) (y := -B1.toInt) (X := 2147483648) (Y := 2147483648) (by omega) (by omega) (by omega) (by omega)
      rw [Int.mul_neg] at this
      omega
  have u10 := mbu (x := A1.toInt) (y := B0.toInt) (X := 2147483647) (Y := 4294967295) (by omega) (by omega) (by omega) (by omega)
  have u01 := mbu (x := B1.toInt) (y := A0.toInt) (X := 2147483647) (Y := 4294967295) (by omega) (by omega) (by omega) (by omega)
  rw [Int.mul_comm B1.toInt A0.toInt] at m01 u01
  have uq : (uN q : Int) = A0.toInt * B0.toInt / 4294967296 := by
    rw [hq, uN_s32, uN_mul]
    have e : ((uN A0 * uN B0 : Nat) : Int) = A0.toInt * B0.toInt := by rw [Int.natCast_mul, uA0, uB0]
    omega
  have eq : q.toInt = A0.toInt * B0.toInt / 4294967296 := by
    have := uN_int q
    split at this <;> omega
  have em1 : (A1 * B0).toInt = A1.toInt * B0.toInt := mul_rng (by omega) (by omega)
  have em2 : (A0 * B1).toInt = A0.toInt * B1.toInt := mul_rng (by omega) (by omega)
  have em3 : (A1 * B1).toInt = A1.toInt * B1.toInt := mul_rng (by omega) (by omega)
  have es : A1.toInt * B0.toInt + q.toInt < 9223372036854775808 := by omega
  obtain ⟨M, hM⟩ : ∃ z, z = A1 * B0 + q := ⟨_, rfl⟩
  rw [← hM]
  have eM : M.toInt = A1.toInt * B0.toInt + q.toInt := by rw [hM, add_rng (by omega) (by omega), em1]
  have eM1 := sI_s32 M
  have eM0 := lo_eq M
  obtain ⟨N, hN⟩ : ∃ z, z = A0 * B1 + (M &&& 4294967295) := ⟨_, rfl⟩
  rw [← hN]
  have eN : N.toInt = A0.toInt * B1.toInt + M.toInt % 4294967296 := by rw [hN, add_rng (by omega) (by omega), em2, eM0]
  have eN1 := sI_s32 N
  have rM := sI_rng M
  have rN := sI_rng N
  have e1 : (A1 * B1 + (M >>> ((32 : Int32).toInt64 &&& 63))).toInt = A1.toInt * B1.toInt + M.toInt / 4294967296 := by rw [add_rng (by omega) (by omega), em3, eM1]
  have e2 : (A1 * B1 + (M >>> ((32 : Int32).toInt64 &&& 63)) + (N >>> ((32 : Int32).toInt64 &&& 63))).toInt = A1.toInt * B1.toInt + M.toInt / 4294967296 + N.toInt / 4294967296 := by rw [add_rng (by omega) (by omega), e1, eN1]
  have lowp : (uN (a * b) : Int) = (a.toInt * b.toInt) % 18446744073709551616 := by
    have := uN_of (a * b)
    rw [this, Int64.toInt_mul]
    exact Int.bmod_emod
  unfold wv
  rw [e2, lowp]
  have ea : a.toInt = A1.toInt * 4294967296 + A0.toInt := by omega
  have eb : b.toInt = B1.toInt * 4294967296 + B0.toInt := by omega
  have ep : a.toInt * b.toInt = A1.toInt * B1.toInt * 18446744073709551616 + (A1.toInt * B0.toInt) * 4294967296 + (A0.toInt * B1.toInt) * 4294967296 + A0.toInt * B0.toInt := by
    rw [ea, eb, Int.add_mul, Int.mul_add, Int.mul_add]
    have k1 : A1.toInt * 4294967296 * (B1.toInt * 4294967296) = A1.toInt * B1.toInt * 18446744073709551616 := by
      rw [Int.mul_assoc, ← Int.mul_assoc 4294967296, Int.mul_comm 4294967296 B1.toInt, Int.mul_assoc B1.toInt, ← Int.mul_assoc]
      omega
    have k2 : A1.toInt * 4294967296 * B0.toInt = (A1.toInt * B0.toInt) * 4294967296 := by rw [Int.mul_assoc, Int.mul_comm 4294967296, ← Int.mul_assoc]
    have k3 : A0.toInt * (B1.toInt * 4294967296) = (A0.toInt * B1.toInt) * 4294967296 := by rw [Int.mul_assoc]
    rw [k1, k2, k3]
    omega
  rw [ep]
  clear ep ea eb
  generalize A1.toInt * B1.toInt = p11 at *
  generalize A1.toInt * B0.toInt = p10 at *
  generalize A0.toInt * B1.toInt = p01 at *
  generalize A0.toInt * B0.toInt = p00 at *
  omega
/-! a wide number times a long -/
theorem wv_scaled {oh ol f : Int64} (hz : In (wv oh ol * f.toInt)) {cr : Int64} (hc : (ol < 0 ∧ cr = f) ∨ (¬ ol < 0 ∧ cr = 0)) : wv (oh * f + hop ol f + cr) (ol * f) = wv oh ol * f.toInt := by
  have e := wv_hop ol f
  refine wv_mod hz ?_
  obtain ⟨g, hg⟩ : ∃ z, z = hop ol f := ⟨_, rfl⟩
  rw [← hg] at e ⊢
  have a1 := uN_of (oh * f + g + cr)
  have a2 : (oh * f + g + cr).toInt % 18446744073709551616 = (oh.toInt * f.toInt + g.toInt + cr.toInt) % 18446744073709551616 := by
    rw [Int64.toInt_add, Int64.toInt_add, Int64.toInt_mul]
    have k1 := @Int.bmod_emod (Int.bmod (Int.bmod (oh.toInt * f.toInt) (2 ^ 64) + g.toInt) (2 ^ 64) + cr.toInt) (2 ^ 64)
    have k2 := @Int.bmod_emod (Int.bmod (oh.toInt * f.toInt) (2 ^ 64) + g.toInt) (2 ^ 64)
    have k3 := @Int.bmod_emod (oh.toInt * f.toInt) (2 ^ 64)
    generalize Int.bmod (Int.bmod (Int.bmod (oh.toInt * f.toInt) (2 ^ 64) + g.toInt) (2 ^ 64) + cr.toInt) (2 ^ 64) = x1 at *
    generalize Int.bmod (Int.bmod (oh.toInt * f.toInt) (2 ^ 64) + g.toInt) (2 ^ 64) = x2 at *
    generalize Int.bmod (oh.toInt * f.toInt) (2 ^ 64) = x3 at *
    simp at k1 k2 k3
    omega
  have b1 := uN_int ol
  have b2 := uN_lt ol
  have ew : wv oh ol * f.toInt = oh.toInt * f.toInt * 18446744073709551616 + (uN ol : Int) * f.toInt := by
    unfold wv
    rw [Int.add_mul, Int.mul_assoc, Int.mul_comm 18446744073709551616, ← Int.mul_assoc]
  have eu : (uN ol : Int) * f.toInt = ol.toInt * f.toInt + cr.toInt * 18446744073709551616 := by
    rcases hc with ⟨c1, c2⟩ | ⟨c1, c2⟩
    · rw [i64_lt, t0] at c1
      have : (uN ol : Int) = ol.toInt + 18446744073709551616 := by split at b1 <;> omega
      rw [this, Int.add_mul, c2]
      omega
    · rw [i64_lt, t0] at c1
      have : (uN ol : Int) = ol.toInt := by split at b1 <;> omega
      rw [this, c2, t0]
      omega
  unfold wv at e
  rw [ew, eu, a1]
  generalize oh.toInt * f.toInt = p1 at *
  generalize ol.toInt * f.toInt = p2 at *
  omega
/-! amounts and limbs -/
theorem am_lo0 {h l : Int64} (c : ¬ h < 0) : uN l = (wv h l).natAbs % 18446744073709551616 := by
  rw [i64_lt, t0] at c
  have := uN_lt l
  unfold wv
  omega
theorem am_lo1 {h l : Int64} (c : h < 0) : uN (-l) = (wv h l).natAbs % 18446744073709551616 := by
  rw [i64_lt, t0] at c
  have := uN_lt l
  have := uN_neg l
  unfold wv
  omega
theorem am_hi0 {h l : Int64} (c : (0 : Int64) ≤ h) : uN h = (wv h l).natAbs / 18446744073709551616 := by
  rw [i64_le, t0] at c
  have := uN_lt l
  have := uN_of h
  have := sI_rng h
  unfold wv
  omega
theorem am_hi1 {h l : Int64} (c : ¬ (0 : Int64) ≤ h) (d : l = 0) : uN (-h) = (wv h l).natAbs / 18446744073709551616 := by
  rw [i64_le, t0] at c
  subst d
  have := uN_neg h
  have := uN_of h
  have := sI_rng h
  unfold wv
  rw [un0]
  omega
theorem am_hi2 {h l : Int64} (c : ¬ (0 : Int64) ≤ h) (d : ¬ l = 0) : uN (h ^^^ (-1)) = (wv h l).natAbs / 18446744073709551616 := by
  rw [i64_le, t0] at c
  have := u64_ne0 d
  have := uN_lt l
  have := uN_not h
  have := uN_of h
  have := sI_rng h
  unfold wv
  omega
def nl (n : Nat) : Nat := if n < 4294967296 then 1 else if n < 18446744073709551616 then 2 else if n < 79228162514264337593543950336 then 3 else 4
def lb (a n : Nat) : Nat := a / 4294967296 ^ n % 4294967296
theorem lc_eq {x y : Int64} (c : lg_cmp x y = 0) : x.toInt = y.toInt := i64_eq.mp ((lg_cmp_eq _ _).mp c)
theorem lc_ne {x y : Int64} (c : ¬ lg_cmp x y = 0) : x.toInt ≠ y.toInt := fun q => c ((lg_cmp_eq _ _).mpr (i64_eq.mpr q))
theorem lc_lt {x y : Int64} (c : lg_cmp x y < 0) : x.toInt < y.toInt := i64_lt.mp ((lg_cmp_lt _ _).mp c)
theorem lc_nlt {x y : Int64} (c : ¬ lg_cmp x y < 0) : y.toInt ≤ x.toInt := Int.not_lt.mp (fun q => c ((lg_cmp_lt _ _).mpr (i64_lt.mpr q)))
theorem lc_ge {x y : Int64} (c : 0 ≤ lg_cmp x y) : y.toInt ≤ x.toInt := i64_le.mp ((lg_cmp_ge _ _).mp c)
theorem lc_nge {x y : Int64} (c : ¬ 0 ≤ lg_cmp x y) : x.toInt < y.toInt := Int.not_le.mp (fun q => c ((lg_cmp_ge _ _).mpr (i64_le.mpr q)))
theorem lc_gt {x y : Int64} (c : 0 < lg_cmp x y) : y.toInt < x.toInt := i64_lt.mp ((lg_cmp_gt _ _).mp c)
theorem lc_ngt {x y : Int64} (c : ¬ 0 < lg_cmp x y) : x.toInt ≤ y.toInt := Int.not_lt.mp (fun q => c ((lg_cmp_gt _ _).mpr (i64_lt.mpr q)))
theorem lc_le {x y : Int64} (c : lg_cmp x y ≤ 0) : x.toInt ≤ y.toInt := i64_le.mp ((lg_cmp_le _ _).mp c)
theorem lc_nle {x y : Int64} (c : ¬ lg_cmp x y ≤ 0) : y.toInt < x.toInt := Int.not_le.mp (fun q => c ((lg_cmp_le _ _).mpr (i64_le.mpr q)))
theorem bz_0 {p : Prop} [Decidable p] (c : bz p = 0) : ¬ p := fun h => by rw [← bz_t h] at c; exact absurd c (by decide)
theorem bz_1 {p : Prop} [Decidable p] (c : ¬ bz p = 0) : p := Decidable.byContradiction (fun h => c (bz_f h).symm)
