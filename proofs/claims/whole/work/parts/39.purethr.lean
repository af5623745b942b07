/-! floor division, shares, digits on the side of the code -/
theorem xor_sg {x y : Int64} (hy : 0 < y.toInt) : (0 ≤ (x ^^^ y).toInt → 0 ≤ x.toInt) ∧ ((x ^^^ y).toInt < 0 → x.toInt < 0) := by
  have h : ((x ^^^ y).toInt < 0) = (x.toInt < 0) := by
    have e1 : ∀ z : Int64, z.toInt < 0 ↔ z.toBitVec.msb = true := fun z => by
      rw [BitVec.msb_eq_toInt, decide_eq_true_iff]; rfl
    have hm : y.toBitVec.msb = false := Bool.eq_false_iff.mpr (fun q => by have := (e1 y).mpr q; omega)
    have hx : (x ^^^ y).toBitVec.msb = (x.toBitVec.msb ^^ y.toBitVec.msb) := by
      rw [show (x ^^^ y).toBitVec = x.toBitVec ^^^ y.toBitVec from rfl, BitVec.msb_xor]
    rw [propext (e1 (x ^^^ y)), propext (e1 x), hx, hm, Bool.xor_false]
  exact ⟨fun c => Int.not_lt.mp (fun q => by rw [← h] at q; omega), fun c => by rw [← h]; exact c⟩
theorem rem_nn {x y : Int64} (hy : 0 < y.toInt) (hr : (x - x / y * y).toInt = x.toInt - (x / y).toInt * y.toInt) (hq : (x / y).toInt = Int.tdiv x.toInt y.toInt) (h : 0 ≤ x.toInt) : 0 ≤ (x - x / y * y).toInt := by
  rw [hr, hq, Int.tdiv_eq_ediv_of_nonneg h]
  have h1 := Int.emod_nonneg x.toInt (show y.toInt ≠ 0 by omega)
  have h3 := Int.emod_def x.toInt y.toInt
  rw [Int.mul_comm] at h3
  omega
theorem rem_np {x y : Int64} (hy : 0 < y.toInt) (hr : (x - x / y * y).toInt = x.toInt - (x / y).toInt * y.toInt) (hq : (x / y).toInt = Int.tdiv x.toInt y.toInt) (h : x.toInt < 0) : (x - x / y * y).toInt ≤ 0 := by
  have e : Int.tdiv x.toInt y.toInt = -((-x.toInt) / y.toInt) := by
    rw [← Int.tdiv_eq_ediv_of_nonneg (by omega), Int.neg_tdiv, Int.neg_neg]
  rw [hr, hq, e, Int.neg_mul]
  have h1 := Int.emod_nonneg (-x.toInt) (show y.toInt ≠ 0 by omega)
  have h3 := Int.emod_def (-x.toInt) y.toInt
  rw [Int.mul_comm] at h3
  omega
theorem sh_up {A N : Int} (hN : 0 < N) (h : 0 < A % N) (hA : A < 9223372036854775808) : A / N + 1 < 9223372036854775808 := by
  have h3 := Int.emod_def A N
  rw [Int.mul_comm] at h3
  have g := mul_ge1 (q := A / N) (n := N) (by omega)
  rcases Int.le_total 0 (A / N) with c | c
  · have := g.1 c; omega
  · omega
theorem dg_neg {x y : Int64} {n b : Nat} (hx : x.toInt = -((n : Nat) : Int)) (hb : 0 < b) (hy : y.toInt = ((b : Nat) : Int)) : (x / y).toInt = -((n / b : Nat) : Int) := by
  rw [(sh_mul (x := x) (y := y) (by omega)).1, hx, hy, Int.neg_tdiv, Int.tdiv_eq_ediv_of_nonneg (by omega)]
  rfl
theorem dg_rem {x y : Int64} {n b : Nat} (hx : x.toInt = -((n : Nat) : Int)) (hb : 0 < b) (hy : y.toInt = ((b : Nat) : Int)) (hb2 : b < 1000) : (-(x - x / y * y)).toInt32.toInt = ((n % b : Nat) : Int) := by
  have h1 := (sh_mul (x := x) (y := y) (by omega)).2
  have e : Int.tdiv x.toInt y.toInt * y.toInt = -((n / b * b : Nat) : Int) := by
    rw [hx, hy, Int.neg_tdiv, Int.tdiv_eq_ediv_of_nonneg (by omega), Int.neg_mul, ← Int.natCast_ediv, ← Int.natCast_mul]
  rw [e, hx] at h1
  have h2 := Nat.div_add_mod n b
  rw [Nat.mul_comm] at h2
  have h3 := Nat.mod_lt n hb
  have h4 : (x - x / y * y).toInt = -((n % b : Nat) : Int) := by omega
  have h5 : (-(x - x / y * y)).toInt = ((n % b : Nat) : Int) := by rw [neg_rng (by omega), h4, Int.neg_neg]
  rw [l2i_s (by omega) (by omega), h5]
theorem sh_rng {x y : Int64} (h : 0 < y.toInt) : -9223372036854775808 ≤ (x / y).toInt * y.toInt ∧ (x / y).toInt * y.toInt < 9223372036854775808 := by
  have hx := sI_rng x
  rw [(sh_mul (x := x) h).1]
  rcases Int.le_total 0 x.toInt with c | c
  · rw [Int.tdiv_eq_ediv_of_nonneg c]
    have h2 : 0 ≤ x.toInt / y.toInt * y.toInt := Int.mul_nonneg (Int.ediv_nonneg c (by omega)) (by omega)
    have h3 := Int.ediv_mul_le x.toInt (show y.toInt ≠ 0 by omega)
    omega
  · have e2 : Int.tdiv x.toInt y.toInt = -((-x.toInt) / y.toInt) := by
      rw [← Int.tdiv_eq_ediv_of_nonneg (by omega), Int.neg_tdiv, Int.neg_neg]
    rw [e2, Int.neg_mul]
    have h2 : 0 ≤ (-x.toInt) / y.toInt * y.toInt := Int.mul_nonneg (Int.ediv_nonneg (by omega) (by omega)) (by omega)
    have h3 := Int.ediv_mul_le (-x.toInt) (show y.toInt ≠ 0 by omega)
    omega
theorem Rl.ofF {l : Launch} {D : va_G} {cZ cI cJ : ClassId} {y : MethodName} {cc : ByteArray} {maxL : Nat} {rm : Room} {av : List Value} {ws : va_W} {post : Int64 → Prop} (hy : plainFor y = true)
    (body : ∀ p e s m args below meth c Q, St p s m meth c D cZ cI cJ y cc maxL (some .long) args → RtrL p l e rm s m args below meth c cc Q post → va_P D vwCl ws s.heap → W p l e rm s m args below meth c s.heap [] 0 0 Q (entryFrame m av.toArray maxL)) : Rl l D cZ cI cJ y cc maxL (some .long) rm av ws post := by
  refine va_MetF (cc := cc) (maxL := maxL) (ret := some .long) hy rfl ?_
  intro p e s m args below meth c s₁ B hml hv
  obtain ⟨rfl, hP, hK⟩ := hv
  exact body p e s m _ below meth c _ (st_of B hml hK) (fun hu hdg => rr_l B.exec B.bytes B.returns B.notSynchronized hu hdg) hP
