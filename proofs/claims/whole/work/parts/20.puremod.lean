/-! the reference's numbers: six limbs of 32 bits each, at place 6 * d of one array -/
def nm (f : Nat → Int64) (b : Nat) : Nat → Nat
  | 0 => 0
  | k + 1 => nm f b k + uN (f (b + k)) * 4294967296 ^ k
def num (f : Nat → Int64) (d : Nat) : Nat := nm f (6 * d) 6
def lim (f : Nat → Int64) : Prop := ∀ k, k < 96 → uN (f k) < 4294967296
def upn (f g : Nat → Int64) (d N : Nat) : Prop := lim g ∧ num g d = N ∧ ∀ j, ¬ (6 * d ≤ j ∧ j < 6 * d + 6) → g j = f j
theorem nm_s (f : Nat → Int64) (b k : Nat) : nm f b (k + 1) = nm f b k + uN (f (b + k)) * 4294967296 ^ k := rfl
theorem nm_congr {f g : Nat → Int64} {b c k : Nat} (h : ∀ j, j < k → f (b + j) = g (c + j)) : nm f b k = nm g c k := by
  induction k with
  | zero => rfl
  | succ k ih => rw [nm_s, nm_s, ih (fun j hj => h j (by omega)), h k (by omega)]
theorem nm_lt {f : Nat → Int64} {b k : Nat} (h : ∀ j, j < k → uN (f (b + j)) < 4294967296) : nm f b k < 4294967296 ^ k := by
  induction k with
  | zero => exact Nat.one_pos
  | succ k ih =>
    have h1 := ih (fun j hj => h j (by omega))
    have h2 := h k (by omega)
    have h3 : (uN (f (b + k)) + 1) * 4294967296 ^ k ≤ 4294967296 * 4294967296 ^ k := Nat.mul_le_mul_right _ h2
    rw [Nat.add_mul, Nat.one_mul] at h3
    rw [nm_s, Nat.pow_succ, Nat.mul_comm (4294967296 ^ k)]
    omega
theorem num_eq (f : Nat → Int64) (d : Nat) : num f d = uN (f (6 * d)) + uN (f (6 * d + 1)) * 4294967296 + uN (f (6 * d + 2)) * 18446744073709551616 + uN (f (6 * d + 3)) * 79228162514264337593543950336 + uN (f (6 * d + 4)) * 340282366920938463463374607431768211456 + uN (f (6 * d + 5)) * 1461501637330902918203684832716283019655932542976 := by
  show 0 + uN (f (6 * d + 0)) * 4294967296 ^ 0 + uN (f (6 * d + 1)) * 4294967296 ^ 1 + uN (f (6 * d + 2)) * 4294967296 ^ 2 + uN (f (6 * d + 3)) * 4294967296 ^ 3 + uN (f (6 * d + 4)) * 4294967296 ^ 4 + uN (f (6 * d + 5)) * 4294967296 ^ 5 = _
  simp only [Nat.reducePow, Nat.add_zero, Nat.zero_add, Nat.mul_one, Nat.pow_zero]
theorem num_lt {f : Nat → Int64} (h : lim f) {d : Nat} (hd : d < 16) : num f d < 6277101735386680763835789423207666416102355444464034512896 := by
  have := nm_lt (f := f) (b := 6 * d) (k := 6) (fun j hj => h _ (by omega))
  exact this
theorem upn.other {f g : Nat → Int64} {d N e : Nat} (h : upn f g d N) (he : e ≠ d) : num g e = num f e :=
  nm_congr (fun j hj => h.2.2 _ (by omega))
theorem upn.rf {f : Nat → Int64} {d : Nat} (h : lim f) : upn f f d (num f d) := ⟨h, rfl, fun _ _ => rfl⟩
theorem ix_in {d k : Nat} (h : 6 * d + k < 96) : vp_in (6 * nI d + nI k) 96 := by
  rw [show (6 : Int32) = nI 6 from rfl, pk_mul, nI_add]
  exact vp_in_nI h (by decide)
theorem ix_cl {d k : Nat} (h : 6 * d + k < 96) : (6 * nI d + nI k).toNatClampNeg = 6 * d + k := by
  rw [show (6 : Int32) = nI 6 from rfl, pk_mul, nI_add]
  exact nI_clamp (by omega)
theorem ix0_in {d : Nat} (h : d < 16) : vp_in (6 * nI d) 96 := by
  rw [show (6 : Int32) = nI 6 from rfl, pk_mul]
  exact vp_in_nI (by omega) (by decide)
theorem ix0_cl {d : Nat} (h : d < 16) : (6 * nI d).toNatClampNeg = 6 * d := by
  rw [show (6 : Int32) = nI 6 from rfl, pk_mul]
  exact nI_clamp (by omega)
theorem lim_up {f : Nat → Int64} {k : Nat} {x : Int64} (h : lim f) (hx : uN x < 4294967296) : lim (vp_updL f k x) := by
  intro j hj
  by_cases q : j = k
  · subst q; rw [pk_uLs]; exact hx
  · rw [pk_uLn q]; exact h j hj
/-! put -/
theorem put_num {f g : Nat → Int64} {d : Nat} {m : Int64} (hg : ∀ j, 2 ≤ j → j < 6 → g (6 * d + j) = 0) : num (vp_updL (vp_updL g (6 * d) (m &&& 4294967295)) (6 * d + 1) (m.toUInt64 >>> ((32 : Int32).toInt64.toUInt64 &&& Int64.toUInt64 63)).toInt64) d = uN m := by
  have h := uN_lt m
  have e1 := uN_lo m
  have e2 := uN_s32 m
  rw [num_eq, pk_uLn (show 6 * d ≠ 6 * d + 1 by omega), pk_uLs, pk_uLs]
  rw [pk_uLn (show 6 * d + 2 ≠ 6 * d + 1 by omega), pk_uLn (show 6 * d + 2 ≠ 6 * d by omega), hg 2 (by omega) (by omega)]
  rw [pk_uLn (show 6 * d + 3 ≠ 6 * d + 1 by omega), pk_uLn (show 6 * d + 3 ≠ 6 * d by omega), hg 3 (by omega) (by omega)]
  rw [pk_uLn (show 6 * d + 4 ≠ 6 * d + 1 by omega), pk_uLn (show 6 * d + 4 ≠ 6 * d by omega), hg 4 (by omega) (by omega)]
  rw [pk_uLn (show 6 * d + 5 ≠ 6 * d + 1 by omega), pk_uLn (show 6 * d + 5 ≠ 6 * d by omega), hg 5 (by omega) (by omega)]
  rw [e1, e2, un0]
  omega
theorem abs_m {v m : Int64} (h : (0 ≤ v.toInt ∧ m = v) ∨ (v.toInt < 0 ∧ m = -v)) : uN m = v.toInt.natAbs := by
  have a := uN_of v
  have b := uN_neg v
  have c := sI_rng v
  rcases h with ⟨h, rfl⟩ | ⟨h, rfl⟩ <;> omega
/-! the change by a carry -/
theorem chg_p {N A B P c x y w c2 : Int} (h : N + c * P = A + B) (hv : x + y + c = w + c2 * 4294967296) : N + w * P + c2 * (4294967296 * P) = A + x * P + (B + y * P) := by
  have e := congrArg (fun z => z * P) hv
  simp only [Int.add_mul] at e
  rw [Int.mul_assoc c2] at e
  omega
theorem chg_m {N A B P c x y w c2 : Int} (h : N + c * P = A - B) (hv : x - y + c = w + c2 * 4294967296) : N + w * P + c2 * (4294967296 * P) = A + x * P - (B + y * P) := by
  have e := congrArg (fun z => z * P) hv
  simp only [Int.add_mul, Int.sub_mul] at e
  rw [Int.mul_assoc c2] at e
  omega
theorem cut_v (v : Int64) : v.toInt = (uN (v &&& 4294967295) : Int) + (v >>> ((32 : Int32).toInt64 &&& 63)).toInt * 4294967296 := by
  have a := uN_lo v
  have b := sI_s32 v
  have c := uN_of v
  omega
theorem uN_small {x : Int64} (h : uN x < 4294967296) : x.toInt = (uN x : Int) := by
  have a := uN_int x
  split at a <;> omega
/-! comparing -/
theorem nm_same {f : Nat → Int64} {a b k n : Nat} (h : ∀ j, k ≤ j → j < n → f (a + j) = f (b + j)) (hk : k ≤ n) : nm f a n + nm f b k = nm f b n + nm f a k := by
  induction n with
  | zero => rw [show k = 0 by omega]; rfl
  | succ n ih =>
    by_cases q : k = n + 1
    · subst q; omega
    · rw [nm_s, nm_s, h n (by omega) (by omega)]
      have := ih (fun j h1 h2 => h j h1 (by omega)) (by omega)
      omega
theorem cmp_lt {f : Nat → Int64} {a b k n : Nat} (h : ∀ j, k + 1 ≤ j → j < n → f (a + j) = f (b + j)) (hk : k < n) (ha : ∀ j, j < n → uN (f (a + j)) < 4294967296) (hl : uN (f (a + k)) < uN (f (b + k))) : nm f a n < nm f b n := by
  have e := nm_same h hk
  have l := nm_lt (f := f) (b := a) (k := k) (fun j hj => ha j (by omega))
  have h3 : (uN (f (a + k)) + 1) * 4294967296 ^ k ≤ uN (f (b + k)) * 4294967296 ^ k := Nat.mul_le_mul_right _ hl
  rw [Nat.add_mul, Nat.one_mul] at h3
  rw [nm_s, nm_s] at e
  omega
theorem nm_0 {f : Nat → Int64} {b k : Nat} : nm f b k = 0 ↔ ∀ j, j < k → f (b + j) = 0 := by
  induction k with
  | zero => exact ⟨fun _ j hj => by omega, fun _ => rfl⟩
  | succ k ih =>
    rw [nm_s]
    have hp : 0 < 4294967296 ^ k := Nat.pow_pos (by decide)
    constructor
    · intro e j hj
      have e1 : nm f b k = 0 := by omega
      have e2 : uN (f (b + k)) * 4294967296 ^ k = 0 := by omega
      by_cases q : j = k
      · subst q
        rcases Nat.mul_eq_zero.mp e2 with z | z
        · exact uN_inj (z.trans rfl)
        · omega
      · exact ih.mp e1 j (by omega)
    · intro h
      rw [ih.mpr (fun j hj => h j (by omega)), h k (by omega), un0]
      omega
theorem num_par (f : Nat → Int64) (d : Nat) : num f d % 2 = uN (f (6 * d)) % 2 := by rw [num_eq]; omega
/-! halves -/
theorem uN_a1 (x : Int64) : uN (x &&& 1) = uN x % 2 := by
  show (x.toUInt64 &&& Int64.toUInt64 1).toNat = _
  rw [UInt64.toNat_and]
  exact Nat.and_two_pow_sub_one_eq_mod _ 1
theorem uN_l31 (x : Int64) (h : uN x < 2) : uN (x <<< ((31 : Int32).toInt64 &&& 63)) = 2147483648 * uN x := by
  have h1 : (((31 : Int32).toInt64 &&& 63).toBitVec.smod 64).toNat = 31 := by decide
  have e : uN (x <<< ((31 : Int32).toInt64 &&& 63)) = (uN x * 2 ^ 31) % 2 ^ 64 := by
    show (x.toBitVec <<< (((31 : Int32).toInt64 &&& 63).toBitVec.smod 64).toNat).toNat = _
    rw [h1, BitVec.toNat_shiftLeft, Nat.shiftLeft_eq]
    rfl
  rw [e]
  omega
theorem hv_limb {x y : Int64} (hx : uN x < 4294967296) (hy : uN y < 2) : uN (x >>> ((1 : Int32).toInt64 &&& 63) ||| y <<< ((31 : Int32).toInt64 &&& 63)) = uN x / 2 + uN y * 2147483648 := by
  have a := uN_small hx
  have b := sI_s1 x
  have c := uN_of (x >>> ((1 : Int32).toInt64 &&& 63))
  have e : uN (x >>> ((1 : Int32).toInt64 &&& 63)) = uN x / 2 := by omega
  have k := Nat.two_pow_add_eq_or_of_lt (i := 31) (b := uN x / 2) (by omega) (uN y)
  rw [uN_or2, e, uN_l31 y hy, Nat.or_comm]
  rw [show (2 : Nat) ^ 31 = 2147483648 from rfl] at k
  rw [← k]
  omega
theorem hv_step {N M P x t y w : Nat} (h : 2 * N + t = M + (x % 2) * P) (hw : w = x / 2 + y * 2147483648) : 2 * (N + w * P) + t = (M + x * P) + y * (4294967296 * P) := by
  have e : 2 * w + x % 2 = x + y * 4294967296 := by omega
  have e2 := congrArg (fun z => z * P) e
  simp only [Nat.add_mul] at e2
  rw [Nat.mul_assoc y, Nat.mul_assoc 2 w] at e2
  omega
/-! as whole numbers -/
theorem nmI (f : Nat → Int64) (b k : Nat) : ((nm f b (k + 1) : Nat) : Int) = ((nm f b k : Nat) : Int) + (uN (f (b + k)) : Int) * (4294967296 : Int) ^ k := by
  rw [nm_s, Int.natCast_add, Int.natCast_mul, Int.natCast_pow]; rfl
theorem pI (k : Nat) : (4294967296 : Int) ^ (k + 1) = 4294967296 * (4294967296 : Int) ^ k := by rw [Int.pow_succ, Int.mul_comm]
theorem pI6 : (4294967296 : Int) ^ 6 = 6277101735386680763835789423207666416102355444464034512896 := by decide
theorem nm_upd_lt {f : Nat → Int64} {b k : Nat} {x : Int64} : nm (vp_updL f (b + k) x) b k = nm f b k := nm_congr (fun j hj => pk_uLn (by omega))
theorem nI_add_one_ix {d k : Nat} : 6 * nI d + nI k + 1 = 6 * nI d + nI (k + 1) := by rw [← nI_1, Int32.add_assoc]
theorem hv_lt {x y : Int64} (hx : uN x < 4294967296) (hy : uN y < 2) : uN (x >>> ((1 : Int32).toInt64 &&& 63) ||| y <<< ((31 : Int32).toInt64 &&& 63)) < 4294967296 := by rw [hv_limb hx hy]; omega
theorem hv_limb0 {x : Int64} (hx : uN x < 4294967296) : uN (x >>> ((1 : Int32).toInt64 &&& 63) ||| 0 <<< ((31 : Int32).toInt64 &&& 63)) = uN x / 2 + 0 * 2147483648 := hv_limb (y := 0) hx (by decide)
theorem hv_lt0 {x : Int64} (hx : uN x < 4294967296) : uN (x >>> ((1 : Int32).toInt64 &&& 63) ||| 0 <<< ((31 : Int32).toInt64 &&& 63)) < 4294967296 := hv_lt (y := 0) hx (by decide)
theorem hv_fin {g f : Nat → Int64} {d k t y : Nat} {w : Int64} (h : 2 * nm g (6 * d) k + t = nm f (6 * d) k + (uN (f (6 * d + k)) % 2) * 4294967296 ^ k) (hw : uN w = uN (f (6 * d + k)) / 2 + y * 2147483648) : 2 * nm (vp_updL g (6 * d + k) w) (6 * d) (k + 1) + t = nm f (6 * d) (k + 1) + y * 4294967296 ^ (k + 1) := by
  rw [nm_s, nm_s, nm_upd_lt, pk_uLs, Nat.pow_succ, Nat.mul_comm (4294967296 ^ k)]
  exact hv_step h hw
/-! a slot holds a whole number: its amount and its sign -/
def hz (f : Nat → Int64) (s : Nat → Int32) (d : Nat) (z : Int) : Prop := num f d = z.natAbs ∧ s d = sg z
theorem hz.keep {f g : Nat → Int64} {s : Nat → Int32} {d N e : Nat} {v : Int32} {z : Int} (h : hz f s e z) (u : upn f g d N) (he : e ≠ d) : hz g (upd s d v) e z := ⟨by rw [u.other he]; exact h.1, by rw [pk_un he]; exact h.2⟩
theorem hz.new {f g : Nat → Int64} {s : Nat → Int32} {d : Nat} {z : Int} (u : upn f g d z.natAbs) : hz g (upd s d (sg z)) d z := ⟨u.2.1, pk_us⟩
theorem upd_upd (s : Nat → Int32) (d : Nat) (v w : Int32) : upd (upd s d v) d w = upd s d w := by
  funext j
  by_cases h : j = d
  · subst h; rw [pk_us, pk_us]
  · rw [pk_un h, pk_un h, pk_un h]
theorem sg_neg {z : Int} (h : z < 0) : sg z = -1 := by unfold sg; rw [if_pos h]
theorem sg_zero : sg 0 = 0 := rfl
theorem sg_pos {z : Int} (h : 0 < z) : sg z = 1 := by unfold sg; rw [if_neg (by omega), if_neg (by omega)]
theorem sg_cases (z : Int) : (z < 0 ∧ sg z = -1) ∨ (z = 0 ∧ sg z = 0) ∨ (0 < z ∧ sg z = 1) := by
  rcases Int.lt_trichotomy z 0 with h | h | h
  · exact Or.inl ⟨h, sg_neg h⟩
  · exact Or.inr (Or.inl ⟨h, by rw [h]; rfl⟩)
  · exact Or.inr (Or.inr ⟨h, sg_pos h⟩)
theorem sg_same {x y : Int} (h : sg x = sg y) : (x < 0 ∧ y < 0) ∨ (x = 0 ∧ y = 0) ∨ (0 < x ∧ 0 < y) := by
  rcases sg_cases x with ⟨a, b⟩ | ⟨a, b⟩ | ⟨a, b⟩ <;> rcases sg_cases y with ⟨c, d⟩ | ⟨c, d⟩ | ⟨c, d⟩ <;> rw [b, d] at h <;> first | omega | (exact absurd h (by decide))
theorem sg_diff {x y : Int} (h : ¬ sg x = sg y) (hx : x ≠ 0) (hy : y ≠ 0) : (x < 0 ∧ 0 < y) ∨ (0 < x ∧ y < 0) := by
  rcases sg_cases x with ⟨a, b⟩ | ⟨a, b⟩ | ⟨a, b⟩ <;> rcases sg_cases y with ⟨c, d⟩ | ⟨c, d⟩ | ⟨c, d⟩ <;> first | omega | (exact absurd (b.trans d.symm) h)
theorem sg_mul (x y : Int) : sg x * sg y = sg (x * y) := by
  rcases sg_cases x with ⟨a, b⟩ | ⟨a, b⟩ | ⟨a, b⟩ <;> rcases sg_cases y with ⟨c, d⟩ | ⟨c, d⟩ | ⟨c, d⟩ <;> rw [b, d]
  · rw [sg_pos (Int.mul_pos_of_neg_of_neg a c)]; decide
  · rw [c, Int.mul_zero]; decide
  · rw [sg_neg (Int.mul_neg_of_neg_of_pos a c)]; decide
  · rw [a, Int.zero_mul]; decide
  · rw [a, Int.zero_mul]; decide
  · rw [a, Int.zero_mul]; decide
  · rw [sg_neg (Int.mul_neg_of_pos_of_neg a c)]; decide
  · rw [c, Int.mul_zero]; decide
  · rw [sg_pos (Int.mul_pos a c)]; decide
theorem sg_negate (x : Int) : -(sg x) = sg (-x) := by
  rcases sg_cases x with ⟨a, b⟩ | ⟨a, b⟩ | ⟨a, b⟩ <;> rw [b]
  · rw [sg_pos (by omega)]; decide
  · rw [a]; decide
  · rw [sg_neg (by omega)]
/-! products by rows -/
theorem nm_mono {f : Nat → Int64} {b k n : Nat} (h : k ≤ n) : nm f b k ≤ nm f b n := by
  induction n with
  | zero => rw [show k = 0 by omega]; exact Nat.le_refl _
  | succ n ih =>
    by_cases q : k = n + 1
    · rw [q]; exact Nat.le_refl _
    · have := ih (by omega)
      rw [nm_s]; omega
theorem nm_upd {f : Nat → Int64} {b n t : Nat} {w : Int64} (ht : t < n) : nm (vp_updL f (b + t) w) b n + uN (f (b + t)) * 4294967296 ^ t = nm f b n + uN w * 4294967296 ^ t := by
  induction n with
  | zero => omega
  | succ n ih =>
    rw [nm_s, nm_s]
    by_cases q : t = n
    · subst q
      rw [nm_upd_lt, pk_uLs]; omega
    · rw [pk_uLn (show b + n ≠ b + t by omega)]
      have := ih (by omega)
      omega
theorem nm_split (f : Nat → Int64) (b k m : Nat) : nm f b (k + m) = nm f b k + 4294967296 ^ k * nm f (b + k) m := by
  induction m with
  | zero => show nm f b k = nm f b k + 4294967296 ^ k * 0; omega
  | succ m ih =>
    show nm f b (k + m) + uN (f (b + (k + m))) * 4294967296 ^ (k + m) = nm f b k + 4294967296 ^ k * (nm f (b + k) m + uN (f (b + k + m)) * 4294967296 ^ m)
    rw [ih, Nat.mul_add, Nat.add_assoc b k m, Nat.pow_add, ← Nat.mul_assoc (4294967296 ^ k), Nat.mul_comm (4294967296 ^ k) (uN _), Nat.mul_assoc (uN _)]
    omega
theorem tm_step {n n2 n0 P c c2 lo m xy v : Nat} (h1 : n2 + m * P = n + lo * P) (hv : lo + c2 * 4294967296 = v) (hv2 : v = xy + m + c) (h0 : n + c * P = n0) : n2 + c2 * (4294967296 * P) = n0 + xy * P := by
  have e : (lo + c2 * 4294967296) * P = (xy + m + c) * P := by rw [hv, hv2]
  simp only [Nat.add_mul] at e
  rw [Nat.mul_assoc c2] at e
  omega
theorem tm_v {x y m c : Int64} (hx : uN x < 4294967296) (hy : uN y < 4294967296) (hm : uN m < 4294967296) (hc : uN c < 4294967296) : uN (x * y + m + c) = uN x * uN y + uN m + uN c := by
  have b : uN x * uN y ≤ 4294967295 * 4294967295 := Nat.mul_le_mul (by omega) (by omega)
  rw [uN_add, uN_add, uN_mul]
  omega
