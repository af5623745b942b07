/-! branch facts of compare and sign -/
theorem cm_eqt {a b : Int} (c : cm a b = 0) : a = b := by
  unfold cm at c; split at c
  · exact absurd c (by decide)
  · split at c
    · assumption
    · exact absurd c (by decide)
theorem cm_eqf {a b : Int} (c : ¬ cm a b = 0) : a ≠ b := fun e => c (by unfold cm; rw [if_neg (by omega), if_pos e])
theorem cm_net {a b : Int} (c : ¬ cm a b = 0) : a ≠ b := cm_eqf c
theorem cm_nef {a b : Int} (c : cm a b = 0) : a = b := cm_eqt c
theorem cm_ltt {a b : Int} (c : cm a b < 0) : a < b := by
  unfold cm at c; split at c
  · assumption
  · split at c <;> exact absurd c (by decide)
theorem cm_ltf {a b : Int} (c : ¬ cm a b < 0) : b ≤ a := Int.not_lt.mp (fun e => c (by unfold cm; rw [if_pos e]; decide))
theorem cm_gtt {a b : Int} (c : 0 < cm a b) : b < a := by
  unfold cm at c; split at c
  · exact absurd c (by decide)
  · split at c
    · exact absurd c (by decide)
    · omega
theorem cm_gtf {a b : Int} (c : ¬ 0 < cm a b) : a ≤ b := Int.not_lt.mp (fun e => c (by unfold cm; rw [if_neg (by omega), if_neg (by omega)]; decide))
theorem cm_get {a b : Int} (c : 0 ≤ cm a b) : b ≤ a := by
  unfold cm at c; split at c
  · exact absurd c (by decide)
  · omega
theorem cm_gef {a b : Int} (c : ¬ 0 ≤ cm a b) : a < b := Int.not_le.mp (fun e => c (by
  unfold cm; rw [if_neg (by omega)]; split <;> decide))
theorem cm_let {a b : Int} (c : cm a b ≤ 0) : a ≤ b := by
  unfold cm at c; split at c
  · omega
  · split at c
    · omega
    · exact absurd c (by decide)
theorem cm_lef {a b : Int} (c : ¬ cm a b ≤ 0) : b < a := Int.not_le.mp (fun e => c (by
  unfold cm; split
  · decide
  · rw [if_pos (by omega)]; decide))
theorem sg_cm (z : Int) : sg z = cm z 0 := rfl
theorem sg_eqt {z : Int} (c : sg z = 0) : z = 0 := cm_eqt c
theorem sg_eqf {z : Int} (c : ¬ sg z = 0) : z ≠ 0 := cm_eqf c
theorem sg_net {z : Int} (c : ¬ sg z = 0) : z ≠ 0 := cm_eqf c
theorem sg_nef {z : Int} (c : sg z = 0) : z = 0 := cm_eqt c
theorem sg_ltt {z : Int} (c : sg z < 0) : z < 0 := cm_ltt c
theorem sg_ltf {z : Int} (c : ¬ sg z < 0) : 0 ≤ z := cm_ltf c
theorem sg_gtt {z : Int} (c : 0 < sg z) : 0 < z := cm_gtt c
theorem sg_gtf {z : Int} (c : ¬ 0 < sg z) : z ≤ 0 := cm_gtf c
theorem sg_get {z : Int} (c : 0 ≤ sg z) : 0 ≤ z := cm_get c
theorem sg_gef {z : Int} (c : ¬ 0 ≤ sg z) : z < 0 := cm_gef c
theorem sg_let {z : Int} (c : sg z ≤ 0) : z ≤ 0 := cm_let c
theorem sg_lef {z : Int} (c : ¬ sg z ≤ 0) : 0 < z := cm_lef c
/-! division bit by bit -/
theorem pw_s (M k : Nat) : M * 2 ^ (k + 1) = 2 * (M * 2 ^ k) := by rw [Nat.pow_succ, ← Nat.mul_assoc, Nat.mul_comm]
theorem pw_pos {M : Nat} (h : 0 < M) (k : Nat) : 0 < M * 2 ^ k := Nat.mul_pos h (Nat.two_pow_pos k)
theorem pw_ge {M : Nat} (h : 0 < M) (k : Nat) : 2 ^ k ≤ M * 2 ^ k := by
  have := Nat.mul_le_mul_right (2 ^ k) h
  omega
theorem dv_s0 {N M Q R i : Nat} (e : N = Q * (M * 2 ^ (i + 1)) + R) : N = (2 * Q) * (M * 2 ^ i) + R := by
  rw [e, pw_s, ← Nat.mul_assoc, Nat.mul_comm Q 2]
theorem dv_s1 {N M Q R i : Nat} (e : N = Q * (M * 2 ^ (i + 1)) + R) (h : M * 2 ^ i ≤ R) : N = (2 * Q + 1) * (M * 2 ^ i) + (R - M * 2 ^ i) := by
  rw [dv_s0 e, Nat.add_mul, Nat.one_mul]
  omega
theorem dv_q {N M Q R i : Nat} (hM : 0 < M) (e : N = Q * (M * 2 ^ (i + 1)) + R) : 2 * Q ≤ N := by
  have h1 := pw_pos hM i
  have h2 : Q * 1 ≤ Q * (M * 2 ^ i) := Nat.mul_le_mul_left Q h1
  have h3 := pw_s M i
  have h4 : Q * (M * 2 ^ (i + 1)) = 2 * (Q * (M * 2 ^ i)) := by rw [h3, ← Nat.mul_assoc, Nat.mul_comm Q 2, Nat.mul_assoc]
  omega
theorem dv_end {N M Q R : Nat} (hM : 0 < M) (e : N = Q * (M * 2 ^ 0) + R) (h : R < M * 2 ^ 0) : Q = N / M ∧ R = N % M := by
  rw [Nat.pow_zero, Nat.mul_one] at e h
  have := (Nat.div_mod_unique (a := N) (b := M) (c := R) (d := Q) hM).mpr ⟨by rw [e, Nat.mul_comm]; omega, h⟩
  exact ⟨this.1.symm, this.2.symm⟩
theorem ni_pt {x : Int32} {j : Nat} (hj : j < 2 ^ 31) (e : x = nI j - 1) (c : x < 0) : j = 0 := by
  cases j with
  | zero => rfl
  | succ i => rw [e, nI_pred] at c; exact absurd c (nI_pos (by omega))
theorem ni_pf {x : Int32} {j : Nat} (hj : j < 2 ^ 31) (e : x = nI j - 1) (c : ¬ x < 0) : ∃ i, j = i + 1 ∧ x = nI i := by
  cases j with
  | zero => rw [e] at c; exact absurd (by decide) c
  | succ i => exact ⟨i, rfl, by rw [e, nI_pred]⟩
theorem ni_m (x : Int32) : x + (-1) = x - 1 := (Int32.sub_eq_add_neg x 1).symm
/-! greatest common divisors by halves and differences -/
theorem cop2 {n : Nat} (h : n % 2 = 1) : Nat.Coprime 2 n := by
  show Nat.gcd 2 n = 1
  rw [Nat.gcd_rec, h]
  decide
theorem g_ee {R C : Nat} (h1 : R % 2 = 0) (h2 : C % 2 = 0) : Nat.gcd R C = 2 * Nat.gcd (R / 2) (C / 2) := by
  rw [← Nat.gcd_mul_left, show 2 * (R / 2) = R by omega, show 2 * (C / 2) = C by omega]
theorem g_eo {R C : Nat} (h1 : R % 2 = 0) (h2 : C % 2 = 1) : Nat.gcd (R / 2) C = Nat.gcd R C := by
  have := Nat.Coprime.gcd_mul_left_cancel (R / 2) (cop2 h2)
  rw [show 2 * (R / 2) = R by omega] at this
  exact this.symm
theorem g_oe {R C : Nat} (h1 : R % 2 = 1) (h2 : C % 2 = 0) : Nat.gcd R (C / 2) = Nat.gcd R C := by
  rw [Nat.gcd_comm, g_eo h2 h1, Nat.gcd_comm]
theorem g_oo1 {R C : Nat} (h1 : R % 2 = 1) (h2 : C % 2 = 1) (h : C ≤ R) : Nat.gcd ((R - C) / 2) C = Nat.gcd R C := by
  rw [g_eo (by omega) h2, Nat.gcd_sub_self_left h]
theorem g_oo2 {R C : Nat} (h1 : R % 2 = 1) (h2 : C % 2 = 1) (h : R ≤ C) : Nat.gcd R ((C - R) / 2) = Nat.gcd R C := by
  rw [Nat.gcd_comm, g_oo1 h2 h1 h, Nat.gcd_comm]
theorem pw_half {R a : Nat} (h : R < 2 ^ a) (h0 : 0 < R / 2) : R / 2 < 2 ^ (a - 1) ∧ 0 < a := by
  cases a with
  | zero => rw [Nat.pow_zero] at h; omega
  | succ a => rw [Nat.pow_succ] at h; rw [Nat.add_sub_cancel]; omega
theorem pw_half0 {R a : Nat} (h : R < 2 ^ a) (h0 : 0 < R) : R / 2 < 2 ^ (a - 1) ∧ 0 < a := by
  cases a with
  | zero => rw [Nat.pow_zero] at h; omega
  | succ a => rw [Nat.pow_succ] at h; rw [Nat.add_sub_cancel]; omega
theorem lo_of {h l : Int64} {n : Nat} (e : wv h l = (n : Int)) : l = lN n := by
  refine uN_inj ?_
  have a := uN_lt l
  have b : uN (lN n) = n % 18446744073709551616 := rfl
  unfold wv at e
  rw [b]
  omega
/-! rules of quotients -/
def mN (rule : Int32) (q r m : Nat) : Bool := decide (m < 2 * r) || (decide (2 * r = m) && (decide (rule = 4) || (decide (rule = 6) && decide (q % 2 = 1))))
def mO (rule : Int32) (ng : Bool) (q r m : Nat) : Bool := decide (r ≠ 0) && (if rule = 0 then ng else if rule = 1 then !ng else if rule = 2 then false else if rule = 3 then true else mN rule q r m)
def ngv (a b : Int) : Bool := decide (sg a * sg b < 0)
def rdv (rule : Int32) (a b : Int) : Int64 := if ngv a b = true then -(if mO rule (ngv a b) (a.natAbs / b.natAbs) (a.natAbs % b.natAbs) b.natAbs = true then lN (a.natAbs / b.natAbs) + 1 else lN (a.natAbs / b.natAbs)) else (if mO rule (ngv a b) (a.natAbs / b.natAbs) (a.natAbs % b.natAbs) b.natAbs = true then lN (a.natAbs / b.natAbs) + 1 else lN (a.natAbs / b.natAbs))
theorem mN_iff {rule : Int32} {q r m : Nat} : mN rule q r m = true ↔ m < 2 * r ∨ (2 * r = m ∧ (rule = 4 ∨ (rule = 6 ∧ q % 2 = 1))) := by
  simp only [mN, Bool.or_eq_true, Bool.and_eq_true, decide_eq_true_eq]
theorem mO_0 {rule : Int32} {ng : Bool} {q r m : Nat} (h : r = 0) : ¬ mO rule ng q r m = true := by simp [mO, h]
theorem mO_c {rule : Int32} {ng : Bool} {q r m : Nat} (h : r ≠ 0) : mO rule ng q r m = (if rule = 0 then ng else if rule = 1 then !ng else if rule = 2 then false else if rule = 3 then true else mN rule q r m) := by simp [mO, h]
theorem i32_of {x : Int32} {k : Int32} (h : x.toInt = k.toInt) : x = k := Int32.toInt_inj.mp h
theorem i32_ne {x : Int32} {k : Int32} (h : ¬ x.toInt = k.toInt) : ¬ x = k := fun q => h (by rw [q])
theorem sw_3 (x : Int32) : x.toInt = 0 ∨ x.toInt = 1 ∨ x.toInt = 2 ∨ x.toInt = 3 ∨ (x.toInt < 0 ∨ 3 < x.toInt) := by omega
theorem sw_2 (x : Int32) : x.toInt = 0 ∨ x.toInt = 1 ∨ x.toInt = 2 ∨ (x.toInt < 0 ∨ 2 < x.toInt) := by omega
theorem bz_c {p q : Prop} [Decidable p] [Decidable q] (h : p ↔ q) : bz p = bz q := by
  by_cases hp : p
  · rw [← bz_t hp, ← bz_t (h.mp hp)]
  · rw [← bz_f hp, ← bz_f (fun z => hp (h.mpr z))]
theorem ng_f {a b : Int} (c : 0 ≤ sg a * sg b) : ¬ ngv a b = true := by
  unfold ngv
  simp only [decide_eq_true_eq]
  exact Int32.not_lt.mpr c
theorem ng_t {a b : Int} (c : ¬ 0 ≤ sg a * sg b) : ngv a b = true := by
  unfold ngv
  simp only [decide_eq_true_eq]
  exact Int32.not_le.mp c
theorem exd0 {A : Int} {G : Nat} (h0 : 0 < G) (hA : 0 ≤ A) : A / (G : Int) = ((A.natAbs / G : Nat) : Int) := by
  rw [Int.natCast_ediv, Int.natAbs_of_nonneg hA]
theorem exd1 {A : Int} {G : Nat} (h : G ∣ A.natAbs) (h0 : 0 < G) (hA : A < 0) : A / (G : Int) = -((A.natAbs / G : Nat) : Int) := by
  obtain ⟨k, hk⟩ := h
  have e : A = (G : Int) * (-(k : Int)) := by
    rw [Int.mul_neg, ← Int.natCast_mul, ← hk]; omega
  have e2 : A.natAbs / G = k := by rw [hk]; exact Nat.mul_div_cancel_left k h0
  rw [e2]
  conv => lhs; rw [e]
  exact Int.mul_ediv_cancel_left _ (by omega)
