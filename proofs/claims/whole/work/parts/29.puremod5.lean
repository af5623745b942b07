/-! crossings on the model's side -/
def HF (f : Nat → Int64) (s : Nat → Int32) (d : Nat) (n : Int) (dn : Nat) : Prop := hz f s d (n / ((Nat.gcd n.natAbs dn : Nat) : Int)) ∧ hz f s (d + 1) ((dn : Int) / ((Nat.gcd n.natAbs dn : Nat) : Int))
theorem HF_1 {f : Nat → Int64} {s : Nat → Int32} {d : Nat} {n : Int} (h1 : hz f s d n) (h2 : hz f s (d + 1) 1) : HF f s d n 1 := by
  unfold HF
  rw [Nat.gcd_one_right]
  exact ⟨by rw [show n / ((1 : Nat) : Int) = n by omega]; exact h1, h2⟩
theorem HF.keepP {f g : Nat → Int64} {s t : Nat → Int32} {n : Int} {dn : Nat} (h : HF f s 12 n dn) (k : ∀ e, 11 < e → e < 14 → num g e = num f e ∧ t e = s e) : HF g t 12 n dn :=
  ⟨⟨by rw [(k 12 (by decide) (by decide)).1]; exact h.1.1, by rw [(k 12 (by decide) (by decide)).2]; exact h.1.2⟩, ⟨by rw [(k 13 (by decide) (by decide)).1]; exact h.2.1, by rw [(k 13 (by decide) (by decide)).2]; exact h.2.2⟩⟩
theorem imn_neg (p q : Int) : imn (-p) (-q) = -(imx p q) := by unfold imn imx; split <;> split <;> omega
theorem imx_bd {a b B : Int} (h1 : -B ≤ a) (h2 : a ≤ B) (h3 : -B ≤ b) (h4 : b ≤ B) : -B ≤ imx a b ∧ imx a b ≤ B := by unfold imx; split <;> omega
theorem nat_bd {x : Int64} {n : Int} (h : n.natAbs < 1267650600228229401496703205376) : (x.toInt * n).natAbs < 23384026197294446691258957323460528314494920687616 := by
  rw [Int.natAbs_mul]
  have h1 : x.toInt.natAbs ≤ 9223372036854775808 := by have := sI_rng x; omega
  have h2 := Nat.mul_le_mul h1 (Nat.le_of_lt h)
  omega
theorem sg_nrm {d z : Int} (h : ¬ d = 0) : sg d * sg z = sg (nrm d z) := by
  unfold nrm
  rcases Int.lt_or_le d 0 with c | c
  · rw [if_pos c, sg_neg c, ← sg_negate]
    rcases sg_cases z with ⟨_, q⟩ | ⟨_, q⟩ | ⟨_, q⟩ <;> rw [q] <;> decide
  · rw [if_neg (by omega), sg_pos (by omega)]
    exact Int32.one_mul _
theorem nrm_nat (d z : Int) : (nrm d z).natAbs = z.natAbs := by unfold nrm; split <;> omega
