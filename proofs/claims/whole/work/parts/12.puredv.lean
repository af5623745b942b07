/-! branch facts of compare and sign -/
theorem cm_eqt {a b : Int} (c : cm a b = 0) : a = b := by
  unfold cm at c; split at c
  · exact absurd c (by decide)
  · split at c
    · assumption
    · exact absurd c (by decide)
theorem cm_eqf {a b : Int} (c : ¬ cm a b = 0) : a ≠ b := fun e => c (by unfold cm; rw [if_neg (by omega), if_pos e])
theorem cm_net {a b : Int} (c : ¬ cm a b = 0) : a ≠ b := cm_eqf c
theorem cm_nef {a b : Int} (c : cm a b = 0) : a = b := cm_eqt c
theorem cm_ltt {a b : Int} (c : cm a b < 0) : a < b := by
  unfold cm at c; split at c
  · assumption
  · split at c <;> exact absurd c (by decide)
theorem cm_ltf {a b : Int} (c : ¬ cm a b < 0) : b ≤ a := Int.not_lt.mp (fun e => c (by unfold cm; rw [if_pos e]; decide))
theorem cm_gtt {a b : Int} (c : 0 < cm a b) : b < a := by
  unfold cm at c; split at c
  · exact absurd c (by decide)
  · split at c
    · exact absurd c (by decide)
    · omega
theorem cm_gtf {a b : Int} (c : ¬ 0 < cm a b) : a ≤ b := Int.not_lt.mp (fun e => c (by unfold cm; rw [if_neg (by omega), if_neg (by omega)]; decide))
theorem cm_get {a b : Int} (c : 0 ≤ cm a b) : b ≤ a := by
  unfold cm at c; split at c
  · exact absurd c (by decide)
  · omega
theorem cm_gef {a b : Int} (c : ¬ 0 ≤ cm a b) : a < b := Int.not_le.mp (fun e => c (by
  unfold cm; rw [if_neg (by omega)]; split <;> decide))
theorem cm_let {a b : Int} (c : cm a b ≤ 0) : a ≤ b := by
  unfold cm at c; split at c
  · omega
  · split at c
    · omega
    · exact absurd c (by decide)
theorem cm_lef {a b : Int} (c : ¬ cm a b ≤ 0) : b < a := Int.not_le.mp (fun e => c (by
  unfold cm; split
  · decide
  · rw [if_pos (by omega)]; decide))
theorem sg_cm (z : Int) : sg z = cm z 0 := rfl
theorem sg_eqt {z : Int} (c : sg z = 0) : z = 0 := cm_eqt c
theorem sg_eqf {z : Int} (c : ¬ sg z = 0) : z ≠ 0 := cm_eqf c
theorem sg_net {z : Int} (c : ¬ sg z = 0) : z ≠ 0 := cm_eqf c
theorem sg_nef {z : Int} (c : sg z = 0) : z = 0 := cm_eqt c
theorem sg_ltt {z : Int} (c : sg z < 0) : z < 0 := cm_ltt c
theorem sg_ltf {z : Int} (c : ¬ sg z < 0) : 0 ≤ z := cm_ltf c
theorem sg_gtt {z : Int} (c : 0 < sg z) : 0 < z := cm_gtt c
theorem sg_gtf {z : Int} (c : ¬ 0 < sg z) : z ≤ 0 := cm_gtf c
theorem sg_get {z : Int} (c : 0 ≤ sg z) : 0 ≤ z := cm_get c
theorem sg_gef {z : Int} (c : ¬ 0 ≤ sg z) : z < 0 := cm_gef c
theorem sg_let {z : Int} (c : sg z ≤ 0) : z ≤ 0 := cm_let c
theorem sg_lef {z : Int} (c : ¬ sg z ≤ 0) : 0 < z := cm_lef c
/-! division bit by bit -/
theorem pw_s (M k : Nat) : M * 2 ^ (k + 1) = 2 * (M * 2 ^ k) := by rw [Nat.pow_succ, ← Nat.mul_assoc, Nat.mul_comm]
theorem pw_pos {M : Nat} (h : 0 < M) (k : Nat) : 0 < M * 2 ^ k := Nat.mul_pos h (Nat.two_pow_pos k)
theorem pw_ge {M : Nat} (h : 0 < M) (k : Nat) : 2 ^ k ≤ M * 2 ^ k := by
  have := Nat.mul_le_mul_right (2 ^ k) h
  omega
theorem dv_s0 {N M Q R i : Nat} (e : N = Q * (M * 2 ^ (i + 1)) + R) : N = (2 * Q) * (M * 2 ^ i) + R := by
  rw [e, pw_s, ← Nat.mul_assoc, Nat.mul_comm Q 2]
theorem dv_s1 {N M Q R i : Nat} (e : N = Q * (M * 2 ^ (i + 1)) + R) (h : M * 2 ^ i ≤ R) : N = (2 * Q + 1) * (M * 2 ^ i) + (R - M * 2 ^ i) := by
  rw [dv_s0 e, Nat.add_mul, Nat.one_mul]
  omega
theorem dv_q {N M Q R i : Nat} (hM : 0 < M) (e : N = Q * (M * 2 ^ (i + 1)) + R) : 2 * Q ≤ N := by
  have h1 := pw_pos hM i
  have h2 : Q * 1 ≤ Q * (M * 2 ^ i) := Nat.mul_le_mul_left Q h1
  have h3 := pw_s M i
  have h4 : Q * (M * 2 ^ (i + 1)) = 2 * (Q * (M * 2 ^ i)) := by rw [h3, ← Nat.mul_assoc, Nat.mul_comm Q 2, Nat.mul_assoc]
  omega
theorem dv_end {N M Q R : Nat} (hM : 0 < M) (e : N = Q * (M * 2 ^ 0) + R) (h : R < M * 2 ^ 0) : Q = N / M ∧ R = N % M := by
  rw [Nat.pow_zero, Nat.mul_one] at e h
  have := (Nat.div_mod_unique (a := N) (b := M) (c := R) (d := Q) hM).mpr ⟨by rw [e, Nat.mul_comm]; omega, h⟩
  exact ⟨this.1.symm, this.2.symm⟩
theorem ni_pt {x : Int32} {j : Nat} (hj : j < 2 ^ 31) (e : x = nI j - 1) (c : x < 0) : j = 0 := by
  cases j with
  | zero => rfl
  | succ i => rw [e, nI_pred] at c; exact absurd c (nI_pos (by omega))
theorem ni_pf {x : Int32} {j : Nat} (hj : j < 2 ^ 31) (e : x = nI j - 1) (c : ¬ x < 0) : ∃ i, j = i + 1 ∧ x = nI i := by
  cases j with
  | zero => rw [e] at c; exact absurd (by decide) c
  | succ i => exact ⟨i, rfl, by rw [e, nI_pred]⟩
theorem ni_m (x : Int32) : x + (-1) = x - 1 := (Int32.sub_eq_add_neg x 1).symm
