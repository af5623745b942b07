/-! rounding, sums of corners, places on edges -/
theorem kept.fr {f g k : Nat → Int64} {s t : Nat → Int32} {v w : Int32} (h : kept f s g t) (h1 : lim k) (h2 : ∀ e, e < 16 → e ≠ 9 → e ≠ 10 → num k e = num g e) : kept f s k (upd (upd t 9 v) 10 w) := ⟨h1, fun e h3 h4 => ⟨(h2 e h3 (by omega) (by omega)).trans (h.2 e h3 h4).1, by rw [pk_un (by omega), pk_un (by omega)]; exact (h.2 e h3 h4).2⟩⟩
theorem kept.ca {f g k : Nat → Int64} {s t v : Nat → Int32} (h : kept f s g t) (h1 : lim k) (h2 : ∀ e, e < 16 → 11 < e → num k e = num g e ∧ v e = t e) : kept f s k v := h.tr ⟨h1, h2⟩
theorem at_q {u l : Nat} (hl : 0 < l) : (2 * u + l) / (2 * l) = if l ≤ 2 * (u % l) then u / l + 1 else u / l := by
  have e := Nat.div_add_mod u l
  have hr := Nat.mod_lt u hl
  have e2 : 2 * u + l = (2 * (u % l) + l) + (2 * l) * (u / l) := by rw [Nat.mul_assoc]; omega
  rw [e2, Nat.add_mul_div_left _ _ (by omega)]
  split
  · rw [show (2 * (u % l) + l) / (2 * l) = 1 from Nat.div_eq_of_lt_le (by omega) (by omega)]; omega
  · rw [Nat.div_eq_of_lt (by omega)]; omega
theorem mO_4 {ng : Bool} {q r l : Nat} (hl : 0 < l) : mO 4 ng q r l = true ↔ l ≤ 2 * r := by
  by_cases h : r = 0
  · exact ⟨fun q => absurd q (mO_0 h), fun q => by omega⟩
  · rw [mO_c h, if_neg (by decide), if_neg (by decide), if_neg (by decide), if_neg (by decide), mN_iff]
    refine ⟨fun q => by omega, fun q => ?_⟩
    rcases Nat.lt_or_ge l (2 * r) with z | z
    · exact Or.inl z
    · exact Or.inr ⟨by omega, Or.inl rfl⟩
theorem at_in {ng : Bool} {u l : Nat} (hl : 0 < l) : lN ((2 * u + l) / (2 * l)) = if mO 4 ng (u / l) (u % l) l = true then lN (u / l) + 1 else lN (u / l) := by
  rw [at_q hl]
  by_cases h : l ≤ 2 * (u % l)
  · rw [if_pos h, if_pos ((mO_4 hl).mpr h), lN_1]
  · rw [if_neg h, if_neg (fun q => h ((mO_4 hl).mp q))]
theorem at_pos {U L : Int} (hL : 0 < L) (hU : 0 ≤ U) : lN ((2 * U.natAbs + L.natAbs) / (2 * L.natAbs)) = rdv 4 U L := by
  have hn : ¬ ngv U L = true := ng_f (by
    rw [sg_pos hL]
    rcases sg_cases U with ⟨a, q⟩ | ⟨a, q⟩ | ⟨a, q⟩
    · omega
    · rw [q]; decide
    · rw [q]; decide)
  unfold rdv
  rw [if_neg hn]
  exact at_in (by omega)
theorem at_neg {U L : Int} (hL : 0 < L) (hU : U < 0) : -(lN ((2 * U.natAbs + L.natAbs) / (2 * L.natAbs))) = rdv 4 U L := by
  have hn : ngv U L = true := ng_t (by rw [sg_pos hL, sg_neg hU]; decide)
  unfold rdv
  rw [if_pos hn]
  exact congrArg (- ·) (at_in (by omega))
abbrev xok (ah axis part : Int32) : Prop := isa ah axis ∧ (part = 0 ∨ part = 1)
def exZ (axis part : Int32) (xu xl yu yl : Int) : Int := if axis = 0 then (if part = 0 then xu else xl) else (if part = 0 then yu else yl)
def arS (fkx fky : Nat → Int64) (n : Nat) : Nat → Int
  | 0 => 0
  | k + 1 => arS fkx fky n k + spn (fkx k).toInt (fky k).toInt (fkx (nxt k n)).toInt (fky (nxt k n)).toInt
theorem arS_s (fkx fky : Nat → Int64) (n k : Nat) : arS fkx fky n (k + 1) = arS fkx fky n k + spn (fkx k).toInt (fky k).toInt (fkx (nxt k n)).toInt (fky (nxt k n)).toInt := rfl
theorem ar2 {fkx fky : Nat → Int64} {n : Nat} (h : n ≤ 2) : arS fkx fky n n = 0 := by
  rcases (show n = 0 ∨ n = 1 ∨ n = 2 by omega) with rfl | rfl | rfl
  · rfl
  · show (0 : Int) + spn (fkx 0).toInt (fky 0).toInt (fkx 0).toInt (fky 0).toInt = 0
    unfold spn
    rw [Int.mul_comm (fky 0).toInt]; omega
  · show (0 : Int) + spn (fkx 0).toInt (fky 0).toInt (fkx 1).toInt (fky 1).toInt + spn (fkx 1).toInt (fky 1).toInt (fkx 0).toInt (fky 0).toInt = 0
    unfold spn
    rw [Int.mul_comm (fky 0).toInt, Int.mul_comm (fky 1).toInt]; omega
theorem sp_bd {fkx fky : Nat → Int64} {n k : Nat} (h : ∀ j, j < n → ogr (fkx j) (fky j)) (hk : k < n) : (spn (fkx k).toInt (fky k).toInt (fkx (nxt k n)).toInt (fky (nxt k n)).toInt).natAbs ≤ 2417851639229258349412352 := by
  have h1 := h k hk
  have h2 := h (nxt k n) (nxt_lt hk)
  have b := spn_bd (a := (fkx k).toInt) (b := (fky k).toInt) (c := (fkx (nxt k n)).toInt) (d := (fky (nxt k n)).toInt) (X := 1099511627776) (Y := 1099511627776) (by omega) (by omega) (by omega) (by omega) (by omega) (by omega) (by omega) (by omega)
  omega
theorem arS_bd {fkx fky : Nat → Int64} {n k : Nat} (h : ∀ j, j < n → ogr (fkx j) (fky j)) (hk : k ≤ n) : (arS fkx fky n k).natAbs ≤ k * 2417851639229258349412352 := by
  induction k with
  | zero => exact Nat.zero_le _
  | succ k ih =>
    have h1 := ih (by omega)
    have h2 := sp_bd (k := k) h (by omega)
    rw [arS_s]
    omega
theorem rem_nxt : ∀ n, n < 65 → ∀ k, k < n → nI k + 1 - (nI k + 1) / nI n * nI n = nI (nxt k n) := by decide +kernel
theorem btw_i {a v b : Int64} : btw a v b ↔ imn a.toInt b.toInt ≤ v.toInt ∧ v.toInt ≤ imx a.toInt b.toInt := by unfold imn imx; split <;> omega
theorem i32_ne0 {x : Int32} (h : ¬ x = 0) : x.toInt ≠ 0 := fun q => h (i32_of (k := 0) q)
theorem ge32t {x : Int32} (c : (0 : Int) ≤ x.toInt) : 0 ≤ x := Int32.le_iff_toInt_le.mpr c
theorem ge32 {x : Int32} (c : x.toInt < (0 : Int)) : ¬ 0 ≤ x := fun q => by have h : (0 : Int) ≤ x.toInt := Int32.le_iff_toInt_le.mp q; omega
