/-! THE TWO SIDES SIDE BY SIDE: what the law's loop keeps -/
def FX (f : Nat → Int64) (s : Nat → Int32) (d : Nat) (U L : Int) : Prop := (hz f s d U ∧ hz f s (d + 1) L) ∧ 0 < L ∧ U.natAbs < 170141183460469231731687303715884105728 ∧ L.natAbs < 85070591730234615865843651857942052864
def REL (ft ft2 : Nat → Int32) (fsx fsy fwx fwy ftx fty fkx fky : Nat → Int64) (n : Nat) (ph ln : Int32) (XU XL YU YL : Int) (fw : Nat → Int64) (fs : Nat → Int32) : Prop :=
  (∀ k, k < 16 → ft2 k = ft k) ∧ ln = nI (cnt ft 16) ∧ (∀ k, k < 16 → ft k ≠ 0 → ogr (fsx k) (fsy k) ∧ ogr (ftx k) (fty k) ∧ fwx k = ftx k - fsx k ∧ fwy k = fty k - fsy k) ∧ n ≤ 64 ∧ (∀ k, k < n → ogr (fkx k) (fky k)) ∧ lim fw ∧ (ph ≠ 0 → FX fw fs 12 XU XL ∧ FX fw fs 14 YU YL)
section RELS
variable {ft ft2 : Nat → Int32} {fsx fsy fwx fwy ftx fty fkx fky : Nat → Int64} {n : Nat} {ph ln : Int32} {XU XL YU YL : Int} {fw : Nat → Int64} {fs : Nat → Int32}
theorem FX.kp {g : Nat → Int64} {t : Nat → Int32} {d : Nat} {U L : Int} (h : FX fw fs d U L) (k : kept fw fs g t) (h1 : 11 < d) (h2 : d < 15) : FX g t d U L := ⟨⟨k.hz h.1.1 (by omega) h1, k.hz h.1.2 (by omega) (by omega)⟩, h.2⟩
theorem REL.kp {g : Nat → Int64} {t : Nat → Int32} (h : REL ft ft2 fsx fsy fwx fwy ftx fty fkx fky n ph ln XU XL YU YL fw fs) (k : kept fw fs g t) : REL ft ft2 fsx fsy fwx fwy ftx fty fkx fky n ph ln XU XL YU YL g t :=
  ⟨h.1, h.2.1, h.2.2.1, h.2.2.2.1, h.2.2.2.2.1, k.1, fun q => ⟨(h.2.2.2.2.2.2 q).1.kp k (by decide) (by decide), (h.2.2.2.2.2.2 q).2.kp k (by decide) (by decide)⟩⟩
theorem REL.lm (h : REL ft ft2 fsx fsy fwx fwy ftx fty fkx fky n ph ln XU XL YU YL fw fs) : lim fw := h.2.2.2.2.2.1
theorem REL.n64 (h : REL ft ft2 fsx fsy fwx fwy ftx fty fkx fky n ph ln XU XL YU YL fw fs) : n ≤ 64 := h.2.2.2.1
theorem REL.kb (h : REL ft ft2 fsx fsy fwx fwy ftx fty fkx fky n ph ln XU XL YU YL fw fs) : ∀ k, k < n → ogr (fkx k) (fky k) := h.2.2.2.2.1
theorem REL.fX (h : REL ft ft2 fsx fsy fwx fwy ftx fty fkx fky n ph ln XU XL YU YL fw fs) : ph ≠ 0 → (hz fw fs 12 XU ∧ hz fw fs 13 XL) ∧ 0 < XL ∧ XU.natAbs < 170141183460469231731687303715884105728 ∧ XL.natAbs < 85070591730234615865843651857942052864 := fun q => (h.2.2.2.2.2.2 q).1
theorem REL.fY (h : REL ft ft2 fsx fsy fwx fwy ftx fty fkx fky n ph ln XU XL YU YL fw fs) : ph ≠ 0 → (hz fw fs 14 YU ∧ hz fw fs 15 YL) ∧ 0 < YL ∧ YU.natAbs < 170141183460469231731687303715884105728 ∧ YL.natAbs < 85070591730234615865843651857942052864 := fun q => (h.2.2.2.2.2.2 q).2
theorem REL.cX (h : REL ft ft2 fsx fsy fwx fwy ftx fty fkx fky n ph ln XU XL YU YL fw fs) : ph ≠ 0 → 0 < XL.natAbs ∧ XU.natAbs < 170141183460469231731687303715884105728 ∧ XL.natAbs < 85070591730234615865843651857942052864 := fun q => by have := h.fX q; omega
theorem REL.cY (h : REL ft ft2 fsx fsy fwx fwy ftx fty fkx fky n ph ln XU XL YU YL fw fs) : ph ≠ 0 → 0 < YL.natAbs ∧ YU.natAbs < 170141183460469231731687303715884105728 ∧ YL.natAbs < 85070591730234615865843651857942052864 := fun q => by have := h.fY q; omega
theorem way_i {x y : Int64} {w : Int64} (hx : -1099511627776 ≤ x.toInt ∧ x.toInt ≤ 1099511627776) (hy : -1099511627776 ≤ y.toInt ∧ y.toInt ≤ 1099511627776) (e : w = y - x) : w.toInt = y.toInt - x.toInt := by rw [e]; exact sub_rng (by omega) (by omega)
theorem REL.cbd (h : REL ft ft2 fsx fsy fwx fwy ftx fty fkx fky n ph ln XU XL YU YL fw fs) : ∀ k, k < 16 → ft k ≠ 0 → ogr (fsx k) (fsy k) ∧ wbd (fwx k) (fwy k) := fun k h1 h2 => by
  obtain ⟨a, b, c, d⟩ := h.2.2.1 k h1 h2
  have e1 := way_i (x := fsx k) (y := ftx k) (by omega) (by omega) c
  have e2 := way_i (x := fsy k) (y := fty k) (by omega) (by omega) d
  exact ⟨a, by omega⟩
theorem REL.mbd (h : REL ft ft2 fsx fsy fwx fwy ftx fty fkx fky n ph ln XU XL YU YL fw fs) : ∀ k, k < 16 → ft2 k ≠ 0 → ogr (fsx k) (fsy k) ∧ ogr (ftx k) (fty k) := fun k h1 h2 => by
  rw [h.1 k h1] at h2
  obtain ⟨a, b, c, d⟩ := h.2.2.1 k h1 h2
  exact ⟨a, b⟩
theorem REL.told (h : REL ft ft2 fsx fsy fwx fwy ftx fty fkx fky n ph ln XU XL YU YL fw fs) (k : Int32) : ist ft2 k ↔ ist ft k := by
  refine ⟨fun q => ⟨q.1, q.2.1, ?_⟩, fun q => ⟨q.1, q.2.1, ?_⟩⟩
  · rw [← h.1 _ (cl_lt q.1 q.2.1)]; exact q.2.2
  · rw [h.1 _ (cl_lt q.1 q.2.1)]; exact q.2.2
theorem REL.line (h : REL ft ft2 fsx fsy fwx fwy ftx fty fkx fky n ph ln XU XL YU YL fw fs) {k : Int32} {x0 y0 x1 y1 : Int64} {a1 b1 : Nat → Int32} {a2 a3 a4 a5 b2 b3 b4 b5 : Nat → Int64} {b0 : Int32}
    (c1 : lnok k x0 y0 x1 y1 → (a1, a2, a3, a4, a5) = (upd ft k.toNatClampNeg 1, vp_updL fsx k.toNatClampNeg x0, vp_updL fsy k.toNatClampNeg y0, vp_updL fwx k.toNatClampNeg (x1 - x0), vp_updL fwy k.toNatClampNeg (y1 - y0))) (c2 : ¬ lnok k x0 y0 x1 y1 → (a1, a2, a3, a4, a5) = (ft, fsx, fsy, fwx, fwy))
    (m1 : lnok k x0 y0 x1 y1 → (b0, b1, b2, b3, b4, b5) = (if ft2 k.toNatClampNeg = 0 then ln + 1 else ln, upd ft2 k.toNatClampNeg 1, vp_updL fsx k.toNatClampNeg x0, vp_updL fsy k.toNatClampNeg y0, vp_updL ftx k.toNatClampNeg x1, vp_updL fty k.toNatClampNeg y1)) (m2 : ¬ lnok k x0 y0 x1 y1 → (b0, b1, b2, b3, b4, b5) = (ln, ft2, fsx, fsy, ftx, fty)) :
    a2 = b2 ∧ a3 = b3 ∧ REL a1 b1 a2 a3 a4 a5 b4 b5 fkx fky n ph b0 XU XL YU YL fw fs := by
  by_cases hk : lnok k x0 y0 x1 y1
  · have e1 := c1 hk
    have e2 := m1 hk
    simp only [Prod.mk.injEq] at e1 e2
    obtain ⟨rfl, rfl, rfl, rfl, rfl⟩ := e1
    obtain ⟨rfl, rfl, rfl, rfl, rfl, rfl⟩ := e2
    have hK : k.toNatClampNeg < 16 := cl_lt hk.1 hk.2.1
    refine ⟨rfl, rfl, fun j hj => ?_, ?_, fun j hj hz => ?_, h.2.2.2⟩
    · by_cases q : j = k.toNatClampNeg
      · rw [q, pk_us, pk_us]
      · rw [pk_un q, pk_un q]; exact h.1 j hj
    · rw [h.1 _ hK]
      by_cases q : ft k.toNatClampNeg = 0
      · rw [if_pos q, cnt_u1 q hK, h.2.1, nI_1]
      · rw [if_neg q, cnt_u0 q]; exact h.2.1
    · by_cases q : j = k.toNatClampNeg
      · rw [q, pk_uLs, pk_uLs, pk_uLs, pk_uLs, pk_uLs, pk_uLs]; exact ⟨hk.2.2.1, hk.2.2.2.1, rfl, rfl⟩
      · rw [pk_un q] at hz
        rw [pk_uLn q, pk_uLn q, pk_uLn q, pk_uLn q, pk_uLn q, pk_uLn q]; exact h.2.2.1 j hj hz
  · have e1 := c2 hk
    have e2 := m2 hk
    simp only [Prod.mk.injEq] at e1 e2
    obtain ⟨rfl, rfl, rfl, rfl, rfl⟩ := e1
    obtain ⟨rfl, rfl, rfl, rfl, rfl, rfl⟩ := e2
    exact ⟨rfl, rfl, h⟩
theorem REL.corner (h : REL ft ft2 fsx fsy fwx fwy ftx fty fkx fky n ph ln XU XL YU YL fw fs) {x y : Int64} {u v : Nat × (Nat → Int64) × (Nat → Int64)}
    (c1 : n < 64 ∧ ogr x y → u = (n + 1, vp_updL fkx n x, vp_updL fky n y)) (c2 : ¬ (n < 64 ∧ ogr x y) → u = (n, fkx, fky)) (m1 : n < 64 ∧ ogr x y → v = (n + 1, vp_updL fkx n x, vp_updL fky n y)) (m2 : ¬ (n < 64 ∧ ogr x y) → v = (n, fkx, fky)) :
    u = v ∧ REL ft ft2 fsx fsy fwx fwy ftx fty u.2.1 u.2.2 u.1 ph ln XU XL YU YL fw fs := by
  by_cases hk : n < 64 ∧ ogr x y
  · rw [c1 hk, m1 hk]
    refine ⟨rfl, h.1, h.2.1, h.2.2.1, by show n + 1 ≤ 64; omega, fun j hj => ?_, h.2.2.2.2.2⟩
    show ogr (vp_updL fkx n x j) (vp_updL fky n y j)
    have hj : j < n + 1 := hj
    by_cases q : j = n
    · rw [q, pk_uLs, pk_uLs]; exact hk.2
    · rw [pk_uLn q, pk_uLn q]; exact h.kb j (by omega)
  · rw [c2 hk, m2 hk]
    exact ⟨rfl, h⟩
theorem REL.clear (h : REL ft ft2 fsx fsy fwx fwy ftx fty fkx fky n ph ln XU XL YU YL fw fs) {u v : Nat → Int32} (hu : ∀ j, j < 16 → u j = 0) (hv : ∀ j, j < 16 → v j = 0) : REL u v fsx fsy fwx fwy ftx fty fkx fky 0 0 0 XU XL YU YL fw fs :=
  ⟨fun k hk => by rw [hu k hk, hv k hk], by rw [cnt_z hu]; rfl, fun k hk hz => absurd (hu k hk) hz, by omega, fun k hk => by omega, h.lm, fun q => absurd rfl q⟩
theorem FX_of {f : Nat → Int64} {s : Nat → Int32} {d dn : Nat} {nn a b : Int} (hF : FR nn dn a b) (hH : HF f s d nn dn) (h0 : 0 < dn) (hn : nn.natAbs < 170141183460469231731687303715884105728) (hd : dn < 85070591730234615865843651857942052864) : FX f s d a b := by
  obtain ⟨ea, eb⟩ := hF
  have hg : 0 < Nat.gcd nn.natAbs dn := Nat.gcd_pos_of_pos_right _ h0
  have hgd : Nat.gcd nn.natAbs dn ∣ nn.natAbs := Nat.gcd_dvd_left _ _
  have b1 : b = ((dn / Nat.gcd nn.natAbs dn : Nat) : Int) := by rw [eb]; exact (Int.natCast_ediv _ _).symm
  have b2 : 0 < dn / Nat.gcd nn.natAbs dn := Nat.div_pos (Nat.gcd_le_right _ h0) hg
  have b3 : dn / Nat.gcd nn.natAbs dn ≤ dn := Nat.div_le_self _ _
  have a1 : a.natAbs = nn.natAbs / Nat.gcd nn.natAbs dn := by
    rw [ea]
    rcases Int.lt_or_le nn 0 with c | c
    · rw [exd1 hgd hg c]; generalize nn.natAbs / Nat.gcd nn.natAbs dn = k9; omega
    · rw [exd0 hg c]; generalize nn.natAbs / Nat.gcd nn.natAbs dn = k9; omega
  have a2 : nn.natAbs / Nat.gcd nn.natAbs dn ≤ nn.natAbs := Nat.div_le_self _ _
  refine ⟨⟨by rw [ea]; exact hH.1, by rw [eb]; exact hH.2⟩, by omega, by omega, by omega⟩
theorem cr_bd {X Y U V X2 Y2 U2 V2 : Int} (hX : -1099511627776 ≤ X ∧ X ≤ 1099511627776 ∧ -1099511627776 ≤ Y ∧ Y ≤ 1099511627776 ∧ -1099511627776 ≤ X2 ∧ X2 ≤ 1099511627776 ∧ -1099511627776 ≤ Y2 ∧ Y2 ≤ 1099511627776) (hU : -2199023255552 ≤ U ∧ U ≤ 2199023255552 ∧ -2199023255552 ≤ V ∧ V ≤ 2199023255552 ∧ -2199023255552 ≤ U2 ∧ U2 ≤ 2199023255552 ∧ -2199023255552 ≤ V2 ∧ V2 ≤ 2199023255552) :
    (crX X Y U V X2 Y2 U2 V2).natAbs < 170141183460469231731687303715884105728 ∧ (crY X Y U V X2 Y2 U2 V2).natAbs < 170141183460469231731687303715884105728 ∧ 0 < crD U V U2 V2 ∧ crD U V U2 V2 < 85070591730234615865843651857942052864 := by
  unfold crX crY crD
  by_cases h : spn U V U2 V2 = 0
  · rw [if_pos h, if_pos h, if_pos h]
    unfold ovX ovY
    split <;> omega
  · rw [if_neg h, if_neg h, if_neg h]
    have d := spn_bd (a := U) (b := V) (c := U2) (d := V2) (X := 2199023255552) (Y := 2199023255552) (by omega) (by omega) (by omega) (by omega) (by omega) (by omega) (by omega) (by omega)
    have f := spn_bd (a := X2 - X) (b := Y2 - Y) (c := U2) (d := V2) (X := 2199023255552) (Y := 2199023255552) (by omega) (by omega) (by omega) (by omega) (by omega) (by omega) (by omega) (by omega)
    have d2 := nrm_bd (d := spn U V U2 V2) d.1 d.2
    have f2 := nrm_bd (d := spn U V U2 V2) f.1 f.2
    have t1 := mul_bd (x := nrm (spn U V U2 V2) (spn U V U2 V2)) (y := X) (X := 9671406556917033397649408) (Y := 1099511627776) (by omega) (by omega) (by omega) (by omega)
    have t2 := mul_bd (x := nrm (spn U V U2 V2) (spn (X2 - X) (Y2 - Y) U2 V2)) (y := U) (X := 9671406556917033397649408) (Y := 2199023255552) (by omega) (by omega) (by omega) (by omega)
    have t3 := mul_bd (x := nrm (spn U V U2 V2) (spn U V U2 V2)) (y := Y) (X := 9671406556917033397649408) (Y := 1099511627776) (by omega) (by omega) (by omega) (by omega)
    have t4 := mul_bd (x := nrm (spn U V U2 V2) (spn (X2 - X) (Y2 - Y) U2 V2)) (y := V) (X := 9671406556917033397649408) (Y := 2199023255552) (by omega) (by omega) (by omega) (by omega)
    omega
theorem REL.cross (h : REL ft ft2 fsx fsy fwx fwy ftx fty fkx fky n ph ln XU XL YU YL fw fs) {a b z z2 ph' ah' : Int32} {XU' XL' YU' YL' : Int} {fw' : Nat → Int64} {fs' : Nat → Int32}
    (c1 : ¬ (ist ft a ∧ ist ft b) → z = -1 ∧ ph' = ph ∧ XU' = XU ∧ XL' = XL ∧ YU' = YU ∧ YL' = YL)
    (c2 : (ist ft a ∧ ist ft b) → z = crs (fsx (a.toNatClampNeg)).toInt (fsy (a.toNatClampNeg)).toInt (fwx (a.toNatClampNeg)).toInt (fwy (a.toNatClampNeg)).toInt (fsx (b.toNatClampNeg)).toInt (fsy (b.toNatClampNeg)).toInt (fwx (b.toNatClampNeg)).toInt (fwy (b.toNatClampNeg)).toInt ∧ ph' = bz (z = 1) ∧ (z = 1 → FR (crX (fsx (a.toNatClampNeg)).toInt (fsy (a.toNatClampNeg)).toInt (fwx (a.toNatClampNeg)).toInt (fwy (a.toNatClampNeg)).toInt (fsx (b.toNatClampNeg)).toInt (fsy (b.toNatClampNeg)).toInt (fwx (b.toNatClampNeg)).toInt (fwy (b.toNatClampNeg)).toInt) (crD (fwx (a.toNatClampNeg)).toInt (fwy (a.toNatClampNeg)).toInt (fwx (b.toNatClampNeg)).toInt (fwy (b.toNatClampNeg)).toInt) XU' XL' ∧ FR (crY (fsx (a.toNatClampNeg)).toInt (fsy (a.toNatClampNeg)).toInt (fwx (a.toNatClampNeg)).toInt (fwy (a.toNatClampNeg)).toInt (fsx (b.toNatClampNeg)).toInt (fsy (b.toNatClampNeg)).toInt (fwx (b.toNatClampNeg)).toInt (fwy (b.toNatClampNeg)).toInt) (crD (fwx (a.toNatClampNeg)).toInt (fwy (a.toNatClampNeg)).toInt (fwx (b.toNatClampNeg)).toInt (fwy (b.toNatClampNeg)).toInt) YU' YL'))
    (m1 : ¬ (ist ft2 a ∧ ist ft2 b) → z2 = -1 ∧ ah' = ph ∧ fw' = fw ∧ fs' = fs)
    (m2 : (ist ft2 a ∧ ist ft2 b) → z2 = crs (fsx (a.toNatClampNeg)).toInt (fsy (a.toNatClampNeg)).toInt ((ftx (a.toNatClampNeg)).toInt - (fsx (a.toNatClampNeg)).toInt) ((fty (a.toNatClampNeg)).toInt - (fsy (a.toNatClampNeg)).toInt) (fsx (b.toNatClampNeg)).toInt (fsy (b.toNatClampNeg)).toInt ((ftx (b.toNatClampNeg)).toInt - (fsx (b.toNatClampNeg)).toInt) ((fty (b.toNatClampNeg)).toInt - (fsy (b.toNatClampNeg)).toInt) ∧ ah' = bz (z2 = 1) ∧ (z2 = 1 → HF fw' fs' 12 (crX (fsx (a.toNatClampNeg)).toInt (fsy (a.toNatClampNeg)).toInt ((ftx (a.toNatClampNeg)).toInt - (fsx (a.toNatClampNeg)).toInt) ((fty (a.toNatClampNeg)).toInt - (fsy (a.toNatClampNeg)).toInt) (fsx (b.toNatClampNeg)).toInt (fsy (b.toNatClampNeg)).toInt ((ftx (b.toNatClampNeg)).toInt - (fsx (b.toNatClampNeg)).toInt) ((fty (b.toNatClampNeg)).toInt - (fsy (b.toNatClampNeg)).toInt)) (crD ((ftx (a.toNatClampNeg)).toInt - (fsx (a.toNatClampNeg)).toInt) ((fty (a.toNatClampNeg)).toInt - (fsy (a.toNatClampNeg)).toInt) ((ftx (b.toNatClampNeg)).toInt - (fsx (b.toNatClampNeg)).toInt) ((fty (b.toNatClampNeg)).toInt - (fsy (b.toNatClampNeg)).toInt)) ∧ HF fw' fs' 14 (crY (fsx (a.toNatClampNeg)).toInt (fsy (a.toNatClampNeg)).toInt ((ftx (a.toNatClampNeg)).toInt - (fsx (a.toNatClampNeg)).toInt) ((fty (a.toNatClampNeg)).toInt - (fsy (a.toNatClampNeg)).toInt) (fsx (b.toNatClampNeg)).toInt (fsy (b.toNatClampNeg)).toInt ((ftx (b.toNatClampNeg)).toInt - (fsx (b.toNatClampNeg)).toInt) ((fty (b.toNatClampNeg)).toInt - (fsy (b.toNatClampNeg)).toInt)) (crD ((ftx (a.toNatClampNeg)).toInt - (fsx (a.toNatClampNeg)).toInt) ((fty (a.toNatClampNeg)).toInt - (fsy (a.toNatClampNeg)).toInt) ((ftx (b.toNatClampNeg)).toInt - (fsx (b.toNatClampNeg)).toInt) ((fty (b.toNatClampNeg)).toInt - (fsy (b.toNatClampNeg)).toInt))) ∧ lim fw') :
    z = z2 ∧ ph' = ah' ∧ REL ft ft2 fsx fsy fwx fwy ftx fty fkx fky n ph' ln XU' XL' YU' YL' fw' fs' := by
  by_cases hk : ist ft a ∧ ist ft b
  · have hk2 : ist ft2 a ∧ ist ft2 b := ⟨(h.told a).mpr hk.1, (h.told b).mpr hk.2⟩
    obtain ⟨e1, e2, e3⟩ := c2 hk
    obtain ⟨g1, g2, g3, g4⟩ := m2 hk2
    obtain ⟨oa, pa, wa1, wa2⟩ := h.2.2.1 _ (cl_lt hk.1.1 hk.1.2.1) hk.1.2.2
    obtain ⟨ob, pb, wb1, wb2⟩ := h.2.2.1 _ (cl_lt hk.2.1 hk.2.2.1) hk.2.2.2
    have i1 := way_i (x := fsx a.toNatClampNeg) (y := ftx a.toNatClampNeg) (by omega) (by omega) wa1
    have i2 := way_i (x := fsy a.toNatClampNeg) (y := fty a.toNatClampNeg) (by omega) (by omega) wa2
    have i3 := way_i (x := fsx b.toNatClampNeg) (y := ftx b.toNatClampNeg) (by omega) (by omega) wb1
    have i4 := way_i (x := fsy b.toNatClampNeg) (y := fty b.toNatClampNeg) (by omega) (by omega) wb2
    rw [i1, i2, i3, i4] at e1 e3
    have hz2 : z = z2 := e1.trans g1.symm
    have bd := cr_bd (X := (fsx a.toNatClampNeg).toInt) (Y := (fsy a.toNatClampNeg).toInt) (U := (ftx a.toNatClampNeg).toInt - (fsx a.toNatClampNeg).toInt) (V := (fty a.toNatClampNeg).toInt - (fsy a.toNatClampNeg).toInt) (X2 := (fsx b.toNatClampNeg).toInt) (Y2 := (fsy b.toNatClampNeg).toInt) (U2 := (ftx b.toNatClampNeg).toInt - (fsx b.toNatClampNeg).toInt) (V2 := (fty b.toNatClampNeg).toInt - (fsy b.toNatClampNeg).toInt) (by omega) (by omega)
    refine ⟨hz2, by rw [e2, g2, hz2], h.1, h.2.1, h.2.2.1, h.2.2.2.1, h.2.2.2.2.1, g4, fun q => ?_⟩
    rw [e2] at q
    have q1 : z = 1 := bz_1 q
    have f1 := e3 q1
    have f2 := g3 (by rw [← hz2]; exact q1)
    exact ⟨FX_of f1.1 f2.1 bd.2.2.1 bd.1 bd.2.2.2, FX_of f1.2 f2.2 bd.2.2.1 bd.2.1 bd.2.2.2⟩
  · have hk2 : ¬ (ist ft2 a ∧ ist ft2 b) := fun q => hk ⟨(h.told a).mp q.1, (h.told b).mp q.2⟩
    obtain ⟨e1, e2, rfl, rfl, rfl, rfl⟩ := c1 hk
    obtain ⟨g1, g2, rfl, rfl⟩ := m1 hk2
    exact ⟨e1.trans g1.symm, e2.trans g2.symm, by rw [e2]; exact h⟩
end RELS
theorem ex_eq {ok bad : Prop} {z u : Int32} {f v w0 w1 : Int64} (h : (z = 0 ∧ ((ok → ¬ bad ∧ f = w1) ∧ (¬ ok → f = w0))) ∨ (z = 1 ∧ (ok ∧ bad))) (g : (ok → (bad → u = 1) ∧ (¬ bad → u = 0 ∧ v = w1)) ∧ (¬ ok → u = 0 ∧ v = w0)) : u = z ∧ (z = 0 → f = v) := by
  rcases h with ⟨rfl, h1, h2⟩ | ⟨rfl, h1, h2⟩
  · by_cases q : ok
    · obtain ⟨a, b⟩ := h1 q
      obtain ⟨c, d⟩ := (g.1 q).2 a
      exact ⟨c, fun _ => b.trans d.symm⟩
    · obtain ⟨c, d⟩ := g.2 q
      exact ⟨c, fun _ => (h2 q).trans d.symm⟩
  · exact ⟨(g.1 h1).1 h2, fun q => absurd q (by decide)⟩
theorem li_eq {bad : Prop} {z u : Int32} {f v w1 : Int64} (h : (z = 0 ∧ (¬ bad ∧ f = w1)) ∨ (z = 1 ∧ bad)) (g : (bad → u = 1) ∧ (¬ bad → u = 0 ∧ v = w1)) : u = z ∧ (z = 0 → f = v) := by
  rcases h with ⟨rfl, h1, h2⟩ | ⟨rfl, h1⟩
  · obtain ⟨c, d⟩ := g.2 h1
    exact ⟨c, fun _ => h2.trans d.symm⟩
  · exact ⟨g.1 h1, fun q => absurd q (by decide)⟩
theorem ra_eq {ok : Prop} {c0 : Int} {z u : Int32} {f v w0 w1 : Int64} (h : (z = 0 ∧ ((¬ ok → f = w0) ∧ (ok → c0 ≠ 0 ∧ f = w1))) ∨ (z = 1 ∧ (ok ∧ c0 = 0))) (g1 : ¬ ok → u = 0 ∧ v = w0) (g2 : ok → (c0 = 0 → u = 1) ∧ (c0 ≠ 0 → u = 0 ∧ v = w1)) : u = z ∧ (z = 0 → f = v) := by
  rcases h with ⟨rfl, h1, h2⟩ | ⟨rfl, h1, h2⟩
  · by_cases q : ok
    · obtain ⟨a, b⟩ := h2 q
      obtain ⟨c, d⟩ := (g2 q).2 a
      exact ⟨c, fun _ => b.trans d.symm⟩
    · obtain ⟨c, d⟩ := g1 q
      exact ⟨c, fun _ => (h1 q).trans d.symm⟩
  · exact ⟨(g2 h1).1 h2, fun q => absurd q (by decide)⟩
theorem sh_eq {ok bad : Prop} {z u : Int32} {f v w0 : Int64} {w1 : Int} (h : (z = 0 ∧ ((¬ ok → f = w0) ∧ (ok → ¬ bad ∧ f.toInt = w1))) ∨ (z = 1 ∧ (ok ∧ bad))) (g : (¬ ok → u = 0 ∧ v = w0) ∧ (ok → (bad → u = 1) ∧ (¬ bad → u = 0 ∧ v.toInt = w1))) : u = z ∧ (z = 0 → f = v) := by
  rcases h with ⟨rfl, h1, h2⟩ | ⟨rfl, h1, h2⟩
  · by_cases q : ok
    · obtain ⟨a, b⟩ := h2 q
      obtain ⟨c, d⟩ := (g.2 q).2 a
      exact ⟨c, fun _ => i64_eq.mpr (b.trans d.symm)⟩
    · obtain ⟨c, d⟩ := g.1 q
      exact ⟨c, fun _ => (h1 q).trans d.symm⟩
  · exact ⟨(g.2 h1).1 h2, fun q => absurd q (by decide)⟩
theorem dg_eq {ok bad : Prop} {z u v : Int32} {f : Int64} {w1 : Int} (h : (z = 0 ∧ ((¬ ok → f.toInt = -1) ∧ (ok → ¬ bad ∧ f.toInt = w1))) ∨ (z = 1 ∧ (ok ∧ bad))) (g : (¬ ok → u = 0 ∧ v = -1) ∧ (ok → (bad → u = 1) ∧ (¬ bad → u = 0 ∧ v.toInt = w1))) : u = z ∧ (z = 0 → f = v.toInt64) := by
  rcases h with ⟨rfl, h1, h2⟩ | ⟨rfl, h1, h2⟩
  · by_cases q : ok
    · obtain ⟨a, b⟩ := h2 q
      obtain ⟨c, d⟩ := (g.2 q).2 a
      exact ⟨c, fun _ => i64_eq.mpr (by rw [b, i2l, d])⟩
    · obtain ⟨c, d⟩ := g.1 q
      exact ⟨c, fun _ => i64_eq.mpr (by rw [h1 q, i2l, d]; rfl)⟩
  · exact ⟨(g.2 h1).1 h2, fun q => absurd q (by decide)⟩
abbrev lg (a b : Int32) : Int64 := a.toInt64 <<< ((32 : Int32).toInt64 &&& 63) ||| b.toInt64 &&& 4294967295
theorem sx_cl {j k : Nat} (h : 13 * j + k < 2 ^ 31) : (nI (13 * j) + nI k).toNatClampNeg = 13 * j + k := by rw [nI_add]; exact nI_clamp h
theorem sx_in {j k L : Nat} (h : 13 * j + k < L) (hL : L ≤ 6656) : vp_in (nI (13 * j) + nI k) L := by rw [nI_add]; exact vp_in_nI h (by omega)
theorem i13 {L : Nat} (h : L ≤ 6656) : (nI L - 13).toInt = (L : Int) - 13 := by
  have h1 := nI_toInt (n := L) (by omega)
  rw [Int32.toInt_sub, h1, show (13 : Int32).toInt = 13 from rfl]
  exact Int.bmod_eq_of_le (by omega) (by omega)
theorem sw_14 (x : Int32) : x.toInt = 0 ∨ x.toInt = 1 ∨ x.toInt = 2 ∨ x.toInt = 3 ∨ x.toInt = 4 ∨ x.toInt = 5 ∨ x.toInt = 6 ∨ x.toInt = 7 ∨ x.toInt = 8 ∨ x.toInt = 9 ∨ x.toInt = 10 ∨ x.toInt = 11 ∨ x.toInt = 12 ∨ x.toInt = 13 ∨ x.toInt = 14 ∨ (x.toInt < 0 ∨ 14 < x.toInt) := by omega
