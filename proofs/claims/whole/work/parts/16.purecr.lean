/-! crossings, in numbers: line a from (X, Y) by the way (U, V), line b from (X2, Y2) by (U2, V2) -/
def spn (a b c d : Int) : Int := a * d - b * c
def nrm (d z : Int) : Int := if d < 0 then -z else z
def imx (a b : Int) : Int := if b < a then a else b
def imn (a b : Int) : Int := if b < a then b else a
abbrev wbd (x y : Int64) : Prop := -2199023255552 ≤ x.toInt ∧ x.toInt ≤ 2199023255552 ∧ -2199023255552 ≤ y.toInt ∧ y.toInt ≤ 2199023255552
abbrev mtc (dn f g : Int) : Prop := 0 ≤ nrm dn f ∧ nrm dn f ≤ nrm dn dn ∧ 0 ≤ nrm dn g ∧ nrm dn g ≤ nrm dn dn
def FR (n : Int) (dn : Nat) (a b : Int) : Prop := a = n / ((Nat.gcd n.natAbs dn : Nat) : Int) ∧ b = (dn : Int) / ((Nat.gcd n.natAbs dn : Nat) : Int)
def ovl (p q r s : Int) : Int32 := if imx (imn p q) (imn r s) = imn (imx p q) (imx r s) then 1 else if imn (imx p q) (imx r s) < imx (imn p q) (imn r s) then 0 else 2
theorem nrm_abs (d : Int) : nrm d d = (d.natAbs : Int) := by unfold nrm; split <;> omega
theorem spn_bd {a b c d X Y : Int} (h1 : -X ≤ a) (h2 : a ≤ X) (h3 : -X ≤ b) (h4 : b ≤ X) (h5 : -Y ≤ c) (h6 : c ≤ Y) (h7 : -Y ≤ d) (h8 : d ≤ Y) : -(2 * (X * Y)) ≤ spn a b c d ∧ spn a b c d ≤ 2 * (X * Y) := by
  have m1 := mul_bd h1 h2 h7 h8
  have m2 := mul_bd h3 h4 h5 h6
  unfold spn
  omega
theorem nrm_bd {d z B : Int} (h1 : -B ≤ z) (h2 : z ≤ B) : -B ≤ nrm d z ∧ nrm d z ≤ B := by unfold nrm; split <;> omega
def ovA (X Y U V X2 Y2 U2 V2 : Int) : Int32 := if U = 0 then ovl Y (Y + V) Y2 (Y2 + V2) else ovl X (X + U) X2 (X2 + U2)
def ovS (X Y U V X2 Y2 U2 V2 : Int) : Int := if U = 0 then Y - imx (imn Y (Y + V)) (imn Y2 (Y2 + V2)) else X - imx (imn X (X + U)) (imn X2 (X2 + U2))
def ovX (X Y U V X2 Y2 U2 V2 : Int) : Int := if ovS X Y U V X2 Y2 U2 V2 = 0 then X else X + U
def ovY (X Y U V X2 Y2 U2 V2 : Int) : Int := if ovS X Y U V X2 Y2 U2 V2 = 0 then Y else Y + V
theorem FR_1 (n : Int) : FR n 1 n 1 := by
  unfold FR
  rw [Nat.gcd_one_right]
  exact ⟨by omega, by omega⟩
def crs (X Y U V X2 Y2 U2 V2 : Int) : Int32 := if spn U V U2 V2 = 0 then (if spn (X2 - X) (Y2 - Y) U V = 0 then ovA X Y U V X2 Y2 U2 V2 else 0) else if mtc (spn U V U2 V2) (spn (X2 - X) (Y2 - Y) U2 V2) (spn (X2 - X) (Y2 - Y) U V) then 1 else 0
def crX (X Y U V X2 Y2 U2 V2 : Int) : Int := if spn U V U2 V2 = 0 then ovX X Y U V X2 Y2 U2 V2 else nrm (spn U V U2 V2) (spn U V U2 V2) * X + nrm (spn U V U2 V2) (spn (X2 - X) (Y2 - Y) U2 V2) * U
def crY (X Y U V X2 Y2 U2 V2 : Int) : Int := if spn U V U2 V2 = 0 then ovY X Y U V X2 Y2 U2 V2 else nrm (spn U V U2 V2) (spn U V U2 V2) * Y + nrm (spn U V U2 V2) (spn (X2 - X) (Y2 - Y) U2 V2) * V
def crD (U V U2 V2 : Int) : Nat := if spn U V U2 V2 = 0 then 1 else (spn U V U2 V2).natAbs
theorem cl_lt {x : Int32} {n : Nat} (h1 : 0 ≤ x.toInt) (h2 : x.toInt < n) : x.toNatClampNeg < n := Nat.not_le.mp fun q => (vp_in_iff.mpr ⟨h1, h2⟩) (Or.inr q)
def onB (f : Nat → Bool) : Nat → Bool
  | 0 => false
  | n + 1 => onB f n || f n
def pab (f : Nat → Bool) : Nat → Bool
  | 0 => false
  | n + 1 => (pab f n) ^^ (f n)
theorem onB_up {f : Nat → Bool} {i n : Nat} (h : i < n) (e : f i = true) : onB f n = true := by
  induction n with
  | zero => omega
  | succ n ih =>
    show (onB f n || f n) = true
    by_cases q : i = n
    · subst q; rw [e]; simp
    · rw [ih (by omega)]; rfl
def eOn (fkx fky : Nat → Int64) (n : Nat) (x y : Int64) (i : Nat) : Bool := decide (det (fkx i).toInt (fky i).toInt (fkx (nxt i n)).toInt (fky (nxt i n)).toInt x.toInt y.toInt = 0 ∧ btw (fkx i) x (fkx (nxt i n)) ∧ btw (fky i) y (fky (nxt i n)))
def eCr (fkx fky : Nat → Int64) (n : Nat) (x y : Int64) (i : Nat) : Bool := decide (mry (fky i) (fky (nxt i n)) y (sg (det (fkx i).toInt (fky i).toInt (fkx (nxt i n)).toInt (fky (nxt i n)).toInt x.toInt y.toInt)))
def insv (n : Nat) (fkx fky : Nat → Int64) (x y : Int64) : Int32 := if n < 3 ∨ ¬ ogr x y then -2 else if onB (eOn fkx fky n x y) n = true then 0 else if pab (eCr fkx fky n x y) n = true then 1 else -1
/-! new arrays of the one class -/
section NWA
variable {p : Program} {l : Launch} {e : Env} {R : Room} {s : State} {m : MethodId} {args : Array Value} {below : List Frame} {meth : Method} {c : Code} {H : Heap} {locs : List Loc} {cells slots : Nat} {Q : State → Prop}
variable {cc : ByteArray} {pc : Nat} {ls : Array Slot} {rest : List Value} {D : va_G} {cZ cI cJ : ClassId} {A : Nat → Prop} {ws : va_W} {n : Int32} {N' : Nat}
theorem nw_J (hx : p.tables.exec = Jvm.exec) (hb : c.code = cc) (harr : (Cond.arrayClass .long).before args s = true) (hK : KK D cZ cI cJ s) (hP : va_P D vwCl ws H) (hD : va_D A ws) (hS : va_S A s.heap H locs) (hA : ∀ q, s.heap.size ≤ q → A q) (hn : ¬ n < 0) (hN : n.toNatClampNeg = N') (hbytes : N' * componentBytes .long ≤ 536870912) (hcells : cells + 1 ≤ R.cells) (hslots : slots + N' ≤ R.slots) (hdg : decode cc pc = .ok (.newarray .long, 2))
    (kk : ∀ (q : Nat) (H1 : Heap), va_P D vwCl (ws ++ [(q, .inl (cJ, N', .inr (.inl (fun _ => 0))))]) H1 → va_D A (ws ++ [(q, .inl (cJ, N', .inr (.inl (fun _ => 0))))]) → va_S A s.heap H1 locs → W p l e R s m args below meth c H1 locs (cells + 1) (slots + N') Q (F0 m (pc + 2) ls (.ref q :: rest))) : W p l e R s m args below meth c H locs cells slots Q (F0 m pc ls (.int n :: rest)) := by
  refine va_newa (atype := .long) (ty := .long) (a0 := (N', .inr (.inl (fun _ => 0)))) hx hb harr rfl hK.1 hP hD hS hA (fun cA => by first | rfl | exact vp_cell_l _ _ _ | simp [vp_cell]) hn hN hbytes hcells hslots hdg (fun q cA H1 hK2 hP2 hD2 hS2 => ?_)
  have e1 : s.vm.findClass ("[" ++ FieldType.long.toString) = some cA := (hK2.2 3 (cA, .long) rfl).2
  have e2 : s.vm.findClass ("[" ++ FieldType.long.toString) = some cJ := (hK.1.2 2 (cJ, .long) rfl).2
  have e3 : cA = cJ := Option.some.inj (e1.symm.trans e2)
  subst e3
  exact kk q H1 hP2 hD2 hS2
theorem nw_I (hx : p.tables.exec = Jvm.exec) (hb : c.code = cc) (harr : (Cond.arrayClass .int).before args s = true) (hK : KK D cZ cI cJ s) (hP : va_P D vwCl ws H) (hD : va_D A ws) (hS : va_S A s.heap H locs) (hA : ∀ q, s.heap.size ≤ q → A q) (hn : ¬ n < 0) (hN : n.toNatClampNeg = N') (hbytes : N' * componentBytes .int ≤ 536870912) (hcells : cells + 1 ≤ R.cells) (hslots : slots + N' ≤ R.slots) (hdg : decode cc pc = .ok (.newarray .int, 2))
    (kk : ∀ (q : Nat) (H1 : Heap), va_P D vwCl (ws ++ [(q, .inl (cI, N', .inl (fun _ => 0)))]) H1 → va_D A (ws ++ [(q, .inl (cI, N', .inl (fun _ => 0)))]) → va_S A s.heap H1 locs → W p l e R s m args below meth c H1 locs (cells + 1) (slots + N') Q (F0 m (pc + 2) ls (.ref q :: rest))) : W p l e R s m args below meth c H locs cells slots Q (F0 m pc ls (.int n :: rest)) := by
  refine va_newa (atype := .int) (ty := .int) (a0 := (N', .inl (fun _ => 0))) hx hb harr rfl hK.1 hP hD hS hA (fun cA => by first | rfl | simp [vp_cell]) hn hN hbytes hcells hslots hdg (fun q cA H1 hK2 hP2 hD2 hS2 => ?_)
  have e1 : s.vm.findClass ("[" ++ FieldType.int.toString) = some cA := (hK2.2 3 (cA, .int) rfl).2
  have e2 : s.vm.findClass ("[" ++ FieldType.int.toString) = some cI := (hK.1.2 1 (cI, .int) rfl).2
  have e3 : cA = cI := Option.some.inj (e1.symm.trans e2)
  subst e3
  exact kk q H1 hP2 hD2 hS2
theorem nw_Z (hx : p.tables.exec = Jvm.exec) (hb : c.code = cc) (harr : (Cond.arrayClass .boolean).before args s = true) (hK : KK D cZ cI cJ s) (hP : va_P D vwCl ws H) (hD : va_D A ws) (hS : va_S A s.heap H locs) (hA : ∀ q, s.heap.size ≤ q → A q) (hn : ¬ n < 0) (hN : n.toNatClampNeg = N') (hbytes : N' * componentBytes .boolean ≤ 536870912) (hcells : cells + 1 ≤ R.cells) (hslots : slots + N' ≤ R.slots) (hdg : decode cc pc = .ok (.newarray .boolean, 2))
    (kk : ∀ (q : Nat) (H1 : Heap), va_P D vwCl (ws ++ [(q, .inl (cZ, N', .inl (fun _ => 0)))]) H1 → va_D A (ws ++ [(q, .inl (cZ, N', .inl (fun _ => 0)))]) → va_S A s.heap H1 locs → W p l e R s m args below meth c H1 locs (cells + 1) (slots + N') Q (F0 m (pc + 2) ls (.ref q :: rest))) : W p l e R s m args below meth c H locs cells slots Q (F0 m pc ls (.int n :: rest)) := by
  refine va_newa (atype := .boolean) (ty := .boolean) (a0 := (N', .inl (fun _ => 0))) hx hb harr rfl hK.1 hP hD hS hA (fun cA => by first | rfl | simp [vp_cell]) hn hN hbytes hcells hslots hdg (fun q cA H1 hK2 hP2 hD2 hS2 => ?_)
  have e1 : s.vm.findClass ("[" ++ FieldType.boolean.toString) = some cA := (hK2.2 3 (cA, .boolean) rfl).2
  have e2 : s.vm.findClass ("[" ++ FieldType.boolean.toString) = some cZ := (hK.1.2 0 (cZ, .boolean) rfl).2
  have e3 : cA = cZ := Option.some.inj (e1.symm.trans e2)
  subst e3
  exact kk q H1 hP2 hD2 hS2
end NWA
