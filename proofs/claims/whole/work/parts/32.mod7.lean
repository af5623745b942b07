set_option maxHeartbeats 4000000 in
set_option maxRecDepth 100000 in
theorem c_X4_cross (l : Launch) (D : va_G) (cZ cI cJ : ClassId) (o wa sa ma tl gx gy tx tz kx ky : Nat) (cd ln cn ah : Int32) (fw : Nat → Int64) (fs : Nat → Int32) (fm : Nat → Int64) (ft : Nat → Int32) (fgx fgy ftx fty : Nat → Int64) (a b : Int32) (hlim : lim fw) (hbd : ∀ k, k < 16 → ft k ≠ 0 → ogr (fgx k) (fgy k) ∧ ogr (ftx k) (fty k)) : Ci l D cZ cI cJ yX4_cross cX4_cross 4 (some .int) { frames := 6, cells := 0, slots := 0, locals := 156 } [.ref o, .int a, .int b] [(o, .inr (4, [.int cd, .ref wa, .ref sa, .ref ma, .ref tl, .ref gx, .ref gy, .ref tx, .ref tz, .int ln, .ref kx, .ref ky, .int cn, .int ah])), (wa, .inl (cJ, 96, .inr (.inl fw))), (sa, .inl (cI, 16, .inl fs)), (ma, .inl (cJ, 12, .inr (.inl fm))), (tl, .inl (cZ, 16, .inl ft)), (gx, .inl (cJ, 16, .inr (.inl fgx))), (gy, .inl (cJ, 16, .inr (.inl fgy))), (tx, .inl (cJ, 16, .inr (.inl ftx))), (tz, .inl (cJ, 16, .inr (.inl fty)))] (S := Int32 × (Nat → Int64) × (Nat → Int32) × (Nat → Int64)) (fun z u => (¬ (ist ft a ∧ ist ft b) → z = -1 ∧ u = (ah, fw, fs, fm)) ∧ ((ist ft a ∧ ist ft b) → z = crs (fgx (a.toNatClampNeg)).toInt (fgy (a.toNatClampNeg)).toInt ((ftx (a.toNatClampNeg)).toInt - (fgx (a.toNatClampNeg)).toInt) ((fty (a.toNatClampNeg)).toInt - (fgy (a.toNatClampNeg)).toInt) (fgx (b.toNatClampNeg)).toInt (fgy (b.toNatClampNeg)).toInt ((ftx (b.toNatClampNeg)).toInt - (fgx (b.toNatClampNeg)).toInt) ((fty (b.toNatClampNeg)).toInt - (fgy (b.toNatClampNeg)).toInt) ∧ u.1 = bz (z = 1) ∧ (z = 1 → HF u.2.1 u.2.2.1 12 (crX (fgx (a.toNatClampNeg)).toInt (fgy (a.toNatClampNeg)).toInt ((ftx (a.toNatClampNeg)).toInt - (fgx (a.toNatClampNeg)).toInt) ((fty (a.toNatClampNeg)).toInt - (fgy (a.toNatClampNeg)).toInt) (fgx (b.toNatClampNeg)).toInt (fgy (b.toNatClampNeg)).toInt ((ftx (b.toNatClampNeg)).toInt - (fgx (b.toNatClampNeg)).toInt) ((fty (b.toNatClampNeg)).toInt - (fgy (b.toNatClampNeg)).toInt)) (crD ((ftx (a.toNatClampNeg)).toInt - (fgx (a.toNatClampNeg)).toInt) ((fty (a.toNatClampNeg)).toInt - (fgy (a.toNatClampNeg)).toInt) ((ftx (b.toNatClampNeg)).toInt - (fgx (b.toNatClampNeg)).toInt) ((fty (b.toNatClampNeg)).toInt - (fgy (b.toNatClampNeg)).toInt)) ∧ HF u.2.1 u.2.2.1 14 (crY (fgx (a.toNatClampNeg)).toInt (fgy (a.toNatClampNeg)).toInt ((ftx (a.toNatClampNeg)).toInt - (fgx (a.toNatClampNeg)).toInt) ((fty (a.toNatClampNeg)).toInt - (fgy (a.toNatClampNeg)).toInt) (fgx (b.toNatClampNeg)).toInt (fgy (b.toNatClampNeg)).toInt ((ftx (b.toNatClampNeg)).toInt - (fgx (b.toNatClampNeg)).toInt) ((fty (b.toNatClampNeg)).toInt - (fgy (b.toNatClampNeg)).toInt)) (crD ((ftx (a.toNatClampNeg)).toInt - (fgx (a.toNatClampNeg)).toInt) ((fty (a.toNatClampNeg)).toInt - (fgy (a.toNatClampNeg)).toInt) ((ftx (b.toNatClampNeg)).toInt - (fgx (b.toNatClampNeg)).toInt) ((fty (b.toNatClampNeg)).toInt - (fgy (b.toNatClampNeg)).toInt))) ∧ lim u.2.1)) (fun u => [(o, .inr (4, [.int 0, .ref wa, .ref sa, .ref ma, .ref tl, .ref gx, .ref gy, .ref tx, .ref tz, .int ln, .ref kx, .ref ky, .int cn, .int u.1])), (wa, .inl (cJ, 96, .inr (.inl u.2.1))), (sa, .inl (cI, 16, .inl u.2.2.1)), (ma, .inl (cJ, 12, .inr (.inl u.2.2.2))), (tl, .inl (cZ, 16, .inl ft)), (gx, .inl (cJ, 16, .inr (.inl fgx))), (gy, .inl (cJ, 16, .inr (.inl fgy))), (tx, .inl (cJ, 16, .inr (.inl ftx))), (tz, .inl (cJ, 16, .inr (.inl fty)))]) := by
  refine Ci.of (by decide) ?_
  intro p e s m args below meth c A Q hB hret hP hD hA
  obtain ⟨hx, hb, hr, hlocks, hml, hown, hnm, hTB, hK⟩ := hB
  have hown : s.vm.findClass RX4 = some m.cls := hown
  have hS : va_S A s.heap s.heap [] := va_S.rf
  have hl := lv_entry ([.ref o, .int a, .int b]) (n := 4) (Nat.le_of_ble_eq_true rfl)
  rw [lg_entry_eq]
  generalize (lg_sl ([.ref o, .int a, .int b]) ++ List.replicate (4 - (lg_sl ([.ref o, .int a, .int b])).length) Slot.unset).toArray = ls at hl ⊢
  have hl : lv_has ls 4 [(0, .ref o), (1, .int a), (2, .int b)] := hl
  refine lv_aload_n hx hb dX4_cross_0 rfl (lv_at hl 0 rfl) ?_
  refine lv_iconst (v := 0) hx hb dX4_cross_1 (by decide) ?_
  refine va_put (D := D) (ci := 4) (v := .int 0) (ty := .int) (C := RX4) (T := TX4) (N := 14) hx hb hTB tb_X4 tyX4 tyX4_ok nmX4 hown hK.1 hP hD hS 0 rfl rfl 0 (by decide) (hTB _ tb_6_4) (fun _ h9 => h9) rfl (by decide +kernel) rfl rfl (Nat.le_of_ble_eq_true rfl) dX4_cross_2 (fun H locs hP hD hS => ?_)
  have hP : va_P D vwCl [(o, .inr (4, [.int 0, .ref wa, .ref sa, .ref ma, .ref tl, .ref gx, .ref gy, .ref tx, .ref tz, .int ln, .ref kx, .ref ky, .int cn, .int ah])), (wa, .inl (cJ, 96, .inr (.inl fw))), (sa, .inl (cI, 16, .inl fs)), (ma, .inl (cJ, 12, .inr (.inl fm))), (tl, .inl (cZ, 16, .inl ft)), (gx, .inl (cJ, 16, .inr (.inl fgx))), (gy, .inl (cJ, 16, .inr (.inl fgy))), (tx, .inl (cJ, 16, .inr (.inl ftx))), (tz, .inl (cJ, 16, .inr (.inl fty)))] H := hP
  have hD : va_D A [(o, .inr (4, [.int 0, .ref wa, .ref sa, .ref ma, .ref tl, .ref gx, .ref gy, .ref tx, .ref tz, .int ln, .ref kx, .ref ky, .int cn, .int ah])), (wa, .inl (cJ, 96, .inr (.inl fw))), (sa, .inl (cI, 16, .inl fs)), (ma, .inl (cJ, 12, .inr (.inl fm))), (tl, .inl (cZ, 16, .inl ft)), (gx, .inl (cJ, 16, .inr (.inl fgx))), (gy, .inl (cJ, 16, .inr (.inl fgy))), (tx, .inl (cJ, 16, .inr (.inl ftx))), (tz, .inl (cJ, 16, .inr (.inl fty)))] := hD
  refine lv_iload_n hx hb dX4_cross_5 rfl (lv_at hl 1 rfl) ?_
  refine vp_callSi (va_runS (As := [.int a]) (rest := []) ⟨hx, hb, hml, hown, hTB⟩ (c_X4_isLine l D cZ cI cJ a) (cw_S hTB tb_8_6 tb_1_5 tb_8_4 tb_8_5 nd_X4_isLine rfl rfl ⟨Nat.le_of_ble_eq_true rfl, Nat.le_of_ble_eq_true rfl⟩) (prr_S hK hP [] rfl) rfl rfl hl.1 rfl (lv_room (Nat.le_of_ble_eq_true rfl)) dX4_cross_6 ⟨Nat.le_of_ble_eq_true rfl, Nat.le_of_ble_eq_true rfl⟩).run (fun r6 hc6 => ?_)
  subst hc6
  refine lv_if_eq (tgt := 37) hx hb dX4_cross_9 (by decide) (fun c_9 => ?_) (fun c_9 => ?_)
  · have c_9 := bz_0 c_9
    refine lv_iconst (v := (-1)) hx hb dX4_cross_37 (by decide) ?_
    exact hret hP hD hS rfl (ah, fw, fs, fm) (⟨fun _ => ⟨rfl, rfl⟩, fun q => absurd q (fun q => c_9 ⟨q.1.1, q.1.2.1⟩)⟩) [0, 1, 2, 3, 4, 5, 6, 7, 8] rfl (by decide) dX4_cross_38 (Nat.le_of_ble_eq_true rfl) (Nat.le_of_ble_eq_true rfl)
  · have c_9 := bz_1 c_9
    refine lv_iload_n hx hb dX4_cross_12 rfl (lv_at hl 2 rfl) ?_
    refine vp_callSi (va_runS (As := [.int b]) (rest := []) ⟨hx, hb, hml, hown, hTB⟩ (c_X4_isLine l D cZ cI cJ b) (cw_S hTB tb_8_6 tb_1_5 tb_8_4 tb_8_5 nd_X4_isLine rfl rfl ⟨Nat.le_of_ble_eq_true rfl, Nat.le_of_ble_eq_true rfl⟩) (prr_S hK hP [] rfl) rfl rfl hl.1 rfl (lv_room (Nat.le_of_ble_eq_true rfl)) dX4_cross_13 ⟨Nat.le_of_ble_eq_true rfl, Nat.le_of_ble_eq_true rfl⟩).run (fun r13 hc13 => ?_)
    subst hc13
    refine lv_if_eq (tgt := 37) hx hb dX4_cross_16 (by decide) (fun c_16 => ?_) (fun c_16 => ?_)
    · have c_16 := bz_0 c_16
      refine lv_iconst (v := (-1)) hx hb dX4_cross_37 (by decide) ?_
      exact hret hP hD hS rfl (ah, fw, fs, fm) (⟨fun _ => ⟨rfl, rfl⟩, fun q => absurd q (fun q => c_16 ⟨q.2.1, q.2.2.1⟩)⟩) [0, 1, 2, 3, 4, 5, 6, 7, 8] rfl (by decide) dX4_cross_38 (Nat.le_of_ble_eq_true rfl) (Nat.le_of_ble_eq_true rfl)
    · have c_16 := bz_1 c_16
      refine lv_aload_n hx hb dX4_cross_19 rfl (lv_at hl 0 rfl) ?_
      refine va_get (D := D) (ci := 4) (v := .ref tl) (C := RX4) (T := TX4) (N := 14) hx hb hTB tb_X4 hown hK.1 hP 0 rfl rfl 4 (by decide) (hTB _ tb_3_17) (fun _ h9 => h9) rfl dX4_cross_20 ?_
      refine lv_iload_n hx hb dX4_cross_23 rfl (lv_at hl 1 rfl) ?_
      refine va_zald (f := ft) hx hb hK.1 hP 4 0 rfl rfl (vp_in_iff.mpr ⟨by omega, by omega⟩) dX4_cross_24 ?_
      refine lv_if_eq (tgt := 37) hx hb dX4_cross_25 (by decide) (fun c_25 => ?_) (fun c_25 => ?_)
      · refine lv_iconst (v := (-1)) hx hb dX4_cross_37 (by decide) ?_
        exact hret hP hD hS rfl (ah, fw, fs, fm) (⟨fun _ => ⟨rfl, rfl⟩, fun q => absurd q (fun q => q.1.2.2 c_25)⟩) [0, 1, 2, 3, 4, 5, 6, 7, 8] rfl (by decide) dX4_cross_38 (Nat.le_of_ble_eq_true rfl) (Nat.le_of_ble_eq_true rfl)
      · refine lv_aload_n hx hb dX4_cross_28 rfl (lv_at hl 0 rfl) ?_
        refine va_get (D := D) (ci := 4) (v := .ref tl) (C := RX4) (T := TX4) (N := 14) hx hb hTB tb_X4 hown hK.1 hP 0 rfl rfl 4 (by decide) (hTB _ tb_3_17) (fun _ h9 => h9) rfl dX4_cross_29 ?_
        refine lv_iload_n hx hb dX4_cross_32 rfl (lv_at hl 2 rfl) ?_
        refine va_zald (f := ft) hx hb hK.1 hP 4 0 rfl rfl (vp_in_iff.mpr ⟨by omega, by omega⟩) dX4_cross_33 ?_
        refine lv_if_ne (tgt := 39) hx hb dX4_cross_34 (by decide) (fun c_34 => ?_) (fun c_34 => ?_)
        · have hina : inr a 16 := c_9
          have hinb : inr b 16 := c_16
          obtain ⟨hsa, hta⟩ := hbd _ (cl_lt hina.1 hina.2) c_25
          obtain ⟨hsb, htb⟩ := hbd _ (cl_lt hinb.1 hinb.2) c_34
          refine lv_aload_n hx hb dX4_cross_39 rfl (lv_at hl 0 rfl) ?_
          refine lv_iload_n hx hb dX4_cross_40 rfl (lv_at hl 1 rfl) ?_
          refine lv_iload_n hx hb dX4_cross_41 rfl (lv_at hl 2 rfl) ?_
          refine fin_i (wr := [(tl, .inl (cZ, 16, .inl ft))]) (va_runV (As := [.int a, .int b]) (rest := []) ⟨hx, hb, hml, hown, hTB⟩ (c_X4_meet l D cZ cI cJ o wa sa ma tl gx gy tx tz kx ky 0 ln cn ah fw fs fm fgx fgy ftx fty a b hlim hina hinb hsa hsb hta htb _) (cw_V hTB tb_13_2 tb_1_5 tb_12_23 tb_13_0 tb_13_1 nd_X4_meet rfl rfl ⟨Nat.le_of_ble_eq_true rfl, Nat.le_of_ble_eq_true rfl⟩) (pre_V (q0 := 0) hK hP hD [0, 1, 2, 3, 5, 6, 7, 8] rfl rfl rfl rfl) rfl rfl hl.1 rfl (lv_room (Nat.le_of_ble_eq_true rfl)) dX4_cross_42 ⟨Nat.le_of_ble_eq_true rfl, Nat.le_of_ble_eq_true rfl⟩) hP hD hS hA [0, 1, 2, 3, 5, 6, 7, 8] [4] rfl rfl rfl (by decide) (fun r42 u42 H locs hc42 hP hD hS => ?_)
          obtain ⟨g42, s42, m42⟩ := u42
          dsimp only at hc42
          have hP : va_P D vwCl [(tl, .inl (cZ, 16, .inl ft)), (o, .inr (4, [.int 0, .ref wa, .ref sa, .ref ma, .ref tl, .ref gx, .ref gy, .ref tx, .ref tz, .int ln, .ref kx, .ref ky, .int cn, .int ah])), (wa, .inl (cJ, 96, .inr (.inl g42))), (sa, .inl (cI, 16, .inl s42)), (ma, .inl (cJ, 12, .inr (.inl m42))), (gx, .inl (cJ, 16, .inr (.inl fgx))), (gy, .inl (cJ, 16, .inr (.inl fgy))), (tx, .inl (cJ, 16, .inr (.inl ftx))), (tz, .inl (cJ, 16, .inr (.inl fty)))] H := hP
          have hD : va_D A [(tl, .inl (cZ, 16, .inl ft)), (o, .inr (4, [.int 0, .ref wa, .ref sa, .ref ma, .ref tl, .ref gx, .ref gy, .ref tx, .ref tz, .int ln, .ref kx, .ref ky, .int cn, .int ah])), (wa, .inl (cJ, 96, .inr (.inl g42))), (sa, .inl (cI, 16, .inl s42)), (ma, .inl (cJ, 12, .inr (.inl m42))), (gx, .inl (cJ, 16, .inr (.inl fgx))), (gy, .inl (cJ, 16, .inr (.inl fgy))), (tx, .inl (cJ, 16, .inr (.inl ftx))), (tz, .inl (cJ, 16, .inr (.inl fty)))] := hD
          refine lv_istore_n (lv' := [(3, .int r42), (0, .ref o), (1, .int a), (2, .int b)]) hx hb dX4_cross_45 rfl hl (by decide) rfl (fun ls hl => ?_)
          refine lv_aload_n hx hb dX4_cross_46 rfl (lv_at hl 1 rfl) ?_
          refine lv_iload_n hx hb dX4_cross_47 rfl (lv_at hl 0 rfl) ?_
          refine lv_iconst (v := 1) hx hb dX4_cross_48 (by decide) ?_
          refine lv_icmp_ne (tgt := 56) hx hb dX4_cross_49 (by decide) (fun c_49 => ?_) (fun c_49 => ?_)
          · refine lv_iconst (v := 0) hx hb dX4_cross_56 (by decide) ?_
            refine va_put (D := D) (ci := 4) (v := .int 0) (ty := .boolean) (C := RX4) (T := TX4) (N := 14) hx hb hTB tb_X4 tyX4 tyX4_ok nmX4 hown hK.1 hP hD hS 1 rfl rfl 13 (by decide) (hTB _ tb_12_22) (fun _ h9 => h9) rfl (by decide +kernel) rfl rfl (Nat.le_of_ble_eq_true rfl) dX4_cross_57 (fun H locs hP hD hS => ?_)
            have hP : va_P D vwCl [(tl, .inl (cZ, 16, .inl ft)), (o, .inr (4, [.int 0, .ref wa, .ref sa, .ref ma, .ref tl, .ref gx, .ref gy, .ref tx, .ref tz, .int ln, .ref kx, .ref ky, .int cn, .int 0])), (wa, .inl (cJ, 96, .inr (.inl g42))), (sa, .inl (cI, 16, .inl s42)), (ma, .inl (cJ, 12, .inr (.inl m42))), (gx, .inl (cJ, 16, .inr (.inl fgx))), (gy, .inl (cJ, 16, .inr (.inl fgy))), (tx, .inl (cJ, 16, .inr (.inl ftx))), (tz, .inl (cJ, 16, .inr (.inl fty)))] H := hP
            have hD : va_D A [(tl, .inl (cZ, 16, .inl ft)), (o, .inr (4, [.int 0, .ref wa, .ref sa, .ref ma, .ref tl, .ref gx, .ref gy, .ref tx, .ref tz, .int ln, .ref kx, .ref ky, .int cn, .int 0])), (wa, .inl (cJ, 96, .inr (.inl g42))), (sa, .inl (cI, 16, .inl s42)), (ma, .inl (cJ, 12, .inr (.inl m42))), (gx, .inl (cJ, 16, .inr (.inl fgx))), (gy, .inl (cJ, 16, .inr (.inl fgy))), (tx, .inl (cJ, 16, .inr (.inl ftx))), (tz, .inl (cJ, 16, .inr (.inl fty)))] := hD
            refine lv_iload_n hx hb dX4_cross_60 rfl (lv_at hl 0 rfl) ?_
            exact hret hP hD hS rfl (0, g42, s42, m42) (⟨fun q => absurd ⟨⟨hina.1, hina.2, c_25⟩, hinb.1, hinb.2, c_34⟩ q, fun _ => ⟨hc42.1, bz_f c_49, hc42.2.1, hc42.2.2⟩⟩) [1, 2, 3, 4, 0, 5, 6, 7, 8] rfl (by decide) dX4_cross_61 (Nat.le_of_ble_eq_true rfl) (Nat.le_of_ble_eq_true rfl)
          · refine lv_iconst (v := 1) hx hb dX4_cross_52 (by decide) ?_
            refine lv_goto (tgt := 57) hx hb dX4_cross_53 (by decide) ?_
            refine va_put (D := D) (ci := 4) (v := .int 1) (ty := .boolean) (C := RX4) (T := TX4) (N := 14) hx hb hTB tb_X4 tyX4 tyX4_ok nmX4 hown hK.1 hP hD hS 1 rfl rfl 13 (by decide) (hTB _ tb_12_22) (fun _ h9 => h9) rfl (by decide +kernel) rfl rfl (Nat.le_of_ble_eq_true rfl) dX4_cross_57 (fun H locs hP hD hS => ?_)
            have hP : va_P D vwCl [(tl, .inl (cZ, 16, .inl ft)), (o, .inr (4, [.int 0, .ref wa, .ref sa, .ref ma, .ref tl, .ref gx, .ref gy, .ref tx, .ref tz, .int ln, .ref kx, .ref ky, .int cn, .int 1])), (wa, .inl (cJ, 96, .inr (.inl g42))), (sa, .inl (cI, 16, .inl s42)), (ma, .inl (cJ, 12, .inr (.inl m42))), (gx, .inl (cJ, 16, .inr (.inl fgx))), (gy, .inl (cJ, 16, .inr (.inl fgy))), (tx, .inl (cJ, 16, .inr (.inl ftx))), (tz, .inl (cJ, 16, .inr (.inl fty)))] H := hP
            have hD : va_D A [(tl, .inl (cZ, 16, .inl ft)), (o, .inr (4, [.int 0, .ref wa, .ref sa, .ref ma, .ref tl, .ref gx, .ref gy, .ref tx, .ref tz, .int ln, .ref kx, .ref ky, .int cn, .int 1])), (wa, .inl (cJ, 96, .inr (.inl g42))), (sa, .inl (cI, 16, .inl s42)), (ma, .inl (cJ, 12, .inr (.inl m42))), (gx, .inl (cJ, 16, .inr (.inl fgx))), (gy, .inl (cJ, 16, .inr (.inl fgy))), (tx, .inl (cJ, 16, .inr (.inl ftx))), (tz, .inl (cJ, 16, .inr (.inl fty)))] := hD
            refine lv_iload_n hx hb dX4_cross_60 rfl (lv_at hl 0 rfl) ?_
            exact hret hP hD hS rfl (1, g42, s42, m42) (⟨fun q => absurd ⟨⟨hina.1, hina.2, c_25⟩, hinb.1, hinb.2, c_34⟩ q, fun _ => ⟨hc42.1, bz_t c_49, hc42.2.1, hc42.2.2⟩⟩) [1, 2, 3, 4, 0, 5, 6, 7, 8] rfl (by decide) dX4_cross_61 (Nat.le_of_ble_eq_true rfl) (Nat.le_of_ble_eq_true rfl)
        · refine lv_iconst (v := (-1)) hx hb dX4_cross_37 (by decide) ?_
          exact hret hP hD hS rfl (ah, fw, fs, fm) (⟨fun _ => ⟨rfl, rfl⟩, fun q => absurd q (fun q => q.2.2.2 c_34)⟩) [0, 1, 2, 3, 4, 5, 6, 7, 8] rfl (by decide) dX4_cross_38 (Nat.le_of_ble_eq_true rfl) (Nat.le_of_ble_eq_true rfl)

set_option maxHeartbeats 4000000 in
set_option maxRecDepth 100000 in
theorem c_X4_at (l : Launch) (D : va_G) (cZ cI cJ : ClassId) (o wa sa ma tl gx gy tx tz kx ky : Nat) (cd ln cn ah : Int32) (fw : Nat → Int64) (fs : Nat → Int32) (XU XL YU YL : Int) (axis : Int32) (hlim : lim fw) (hX : ah ≠ 0 → (hz fw fs 12 XU ∧ hz fw fs 13 XL) ∧ 0 < XL ∧ XU.natAbs < 170141183460469231731687303715884105728 ∧ XL.natAbs < 85070591730234615865843651857942052864) (hY : ah ≠ 0 → (hz fw fs 14 YU ∧ hz fw fs 15 YL) ∧ 0 < YL ∧ YU.natAbs < 170141183460469231731687303715884105728 ∧ YL.natAbs < 85070591730234615865843651857942052864) : Cl l D cZ cI cJ yX4_at cX4_at 3 (some .long) { frames := 3, cells := 0, slots := 0, locals := 73 } [.ref o, .int axis] [(o, .inr (4, [.int cd, .ref wa, .ref sa, .ref ma, .ref tl, .ref gx, .ref gy, .ref tx, .ref tz, .int ln, .ref kx, .ref ky, .int cn, .int ah])), (wa, .inl (cJ, 96, .inr (.inl fw))), (sa, .inl (cI, 16, .inl fs))] (S := (Nat → Int64) × (Nat → Int32)) (fun z u => z = (if isa ah axis then (if axis = 0 then rdv 4 XU XL else rdv 4 YU YL) else -4611686018427387904) ∧ kept fw fs u.1 u.2) (fun u => [(o, .inr (4, [.int 0, .ref wa, .ref sa, .ref ma, .ref tl, .ref gx, .ref gy, .ref tx, .ref tz, .int ln, .ref kx, .ref ky, .int cn, .int ah])), (wa, .inl (cJ, 96, .inr (.inl u.1))), (sa, .inl (cI, 16, .inl u.2))]) := by
  refine Cl.of (by decide) ?_
  intro p e s m args below meth c A Q hB hret hP hD hA
  obtain ⟨hx, hb, hr, hlocks, hml, hown, hnm, hTB, hK⟩ := hB
  have hown : s.vm.findClass RX4 = some m.cls := hown
  have hS : va_S A s.heap s.heap [] := va_S.rf
  have hl := lv_entry ([.ref o, .int axis]) (n := 3) (Nat.le_of_ble_eq_true rfl)
  rw [lg_entry_eq]
  generalize (lg_sl ([.ref o, .int axis]) ++ List.replicate (3 - (lg_sl ([.ref o, .int axis])).length) Slot.unset).toArray = ls at hl ⊢
  have hl : lv_has ls 3 [(0, .ref o), (1, .int axis)] := hl
  refine lv_aload_n hx hb dX4_at_0 rfl (lv_at hl 0 rfl) ?_
  refine lv_iconst (v := 0) hx hb dX4_at_1 (by decide) ?_
  refine va_put (D := D) (ci := 4) (v := .int 0) (ty := .int) (C := RX4) (T := TX4) (N := 14) hx hb hTB tb_X4 tyX4 tyX4_ok nmX4 hown hK.1 hP hD hS 0 rfl rfl 0 (by decide) (hTB _ tb_6_4) (fun _ h9 => h9) rfl (by decide +kernel) rfl rfl (Nat.le_of_ble_eq_true rfl) dX4_at_2 (fun H locs hP hD hS => ?_)
  have hP : va_P D vwCl [(o, .inr (4, [.int 0, .ref wa, .ref sa, .ref ma, .ref tl, .ref gx, .ref gy, .ref tx, .ref tz, .int ln, .ref kx, .ref ky, .int cn, .int ah])), (wa, .inl (cJ, 96, .inr (.inl fw))), (sa, .inl (cI, 16, .inl fs))] H := hP
  have hD : va_D A [(o, .inr (4, [.int 0, .ref wa, .ref sa, .ref ma, .ref tl, .ref gx, .ref gy, .ref tx, .ref tz, .int ln, .ref kx, .ref ky, .int cn, .int ah])), (wa, .inl (cJ, 96, .inr (.inl fw))), (sa, .inl (cI, 16, .inl fs))] := hD
  refine lv_aload_n hx hb dX4_at_5 rfl (lv_at hl 0 rfl) ?_
  refine va_get (D := D) (ci := 4) (v := .int ah) (C := RX4) (T := TX4) (N := 14) hx hb hTB tb_X4 hown hK.1 hP 0 rfl rfl 13 (by decide) (hTB _ tb_12_22) (fun _ h9 => h9) rfl dX4_at_6 ?_
  refine lv_if_eq (tgt := 21) hx hb dX4_at_9 (by decide) (fun c_9 => ?_) (fun c_9 => ?_)
  · have c_9 : ah.toInt = (0 : Int) := ic_eq c_9
    refine lv_ldc2 (v := (-4611686018427387904)) hx hb hown (hTB _ tb_15_19) dX4_at_21 ?_
    exact hret hP hD hS (fw, fs) (⟨by rw [if_neg (fun q => q.1 (i32_of (k := 0) c_9))], kept.rf hlim⟩) [0, 1, 2] rfl (by decide) dX4_at_24 (Nat.le_of_ble_eq_true rfl) (Nat.le_of_ble_eq_true rfl)
  · have c_9 : ah.toInt ≠ (0 : Int) := ic_ne c_9
    refine lv_iload_n hx hb dX4_at_12 rfl (lv_at hl 1 rfl) ?_
    refine lv_if_lt (tgt := 21) hx hb dX4_at_13 (by decide) (fun c_13 => ?_) (fun c_13 => ?_)
    · have c_13 : axis.toInt < (0 : Int) := ic_lt c_13
      refine lv_ldc2 (v := (-4611686018427387904)) hx hb hown (hTB _ tb_15_19) dX4_at_21 ?_
      exact hret hP hD hS (fw, fs) (⟨by rw [if_neg (fun q => by rcases q.2 with z | z <;> (rw [z] at c_13; revert c_13; decide))], kept.rf hlim⟩) [0, 1, 2] rfl (by decide) dX4_at_24 (Nat.le_of_ble_eq_true rfl) (Nat.le_of_ble_eq_true rfl)
    · have c_13 : (0 : Int) ≤ axis.toInt := ic_nlt c_13
      refine lv_iload_n hx hb dX4_at_16 rfl (lv_at hl 1 rfl) ?_
      refine lv_iconst (v := 1) hx hb dX4_at_17 (by decide) ?_
      refine lv_icmp_le (tgt := 25) hx hb dX4_at_18 (by decide) (fun c_18 => ?_) (fun c_18 => ?_)
      · have c_18 : axis.toInt ≤ (1 : Int) := ic_le c_18
        refine lv_iload_n hx hb dX4_at_25 rfl (lv_at hl 1 rfl) ?_
        refine lv_if_ne (tgt := 34) hx hb dX4_at_26 (by decide) (fun c_26 => ?_) (fun c_26 => ?_)
        · have c_26 : axis.toInt ≠ (0 : Int) := ic_ne c_26
          have ha0 : ¬ ah = 0 := fun q => c_9 (by rw [q]; rfl)
          obtain ⟨⟨hu, hw⟩, hL, hb1, hb2⟩ := hY ha0
          refine lv_bipush (v := 14) hx hb dX4_at_34 (by decide) ?_
          refine lv_istore_n (lv' := [(2, .int 14), (0, .ref o), (1, .int axis)]) hx hb dX4_at_36 rfl hl (by decide) rfl (fun ls hl => ?_)
          refine lv_aload_n hx hb dX4_at_37 rfl (lv_at hl 1 rfl) ?_
          refine lv_iconst (v := 0) hx hb dX4_at_38 (by decide) ?_
          refine lv_iload_n hx hb dX4_at_39 rfl (lv_at hl 0 rfl) ?_
          refine fin_v (wr := []) (va_runV (As := [.int 0, .int 14]) (rest := []) ⟨hx, hb, hml, hown, hTB⟩ (c_X4_copy l D cZ cI cJ o wa sa ma tl gx gy tx tz kx ky 0 ln cn ah fw fs 0 14 hlim (by decide) (by decide) (by decide) _) (cw_V hTB tb_13_17 tb_1_5 tb_13_14 tb_13_15 tb_13_16 nd_X4_copy rfl rfl ⟨Nat.le_of_ble_eq_true rfl, Nat.le_of_ble_eq_true rfl⟩) (pre_V (q0 := 0) hK hP hD [0, 1, 2] rfl rfl rfl rfl) rfl rfl hl.1 rfl (lv_room (Nat.le_of_ble_eq_true rfl)) dX4_at_40 ⟨Nat.le_of_ble_eq_true rfl, Nat.le_of_ble_eq_true rfl⟩) hP hD hS hA [0, 1, 2] [] rfl rfl rfl (by decide) (fun u40 H locs hc40 hP hD hS => ?_)
          obtain ⟨g40, s40⟩ := u40
          dsimp only at hc40
          obtain ⟨up40, rfl⟩ := hc40
          have hP : va_P D vwCl [(o, .inr (4, [.int 0, .ref wa, .ref sa, .ref ma, .ref tl, .ref gx, .ref gy, .ref tx, .ref tz, .int ln, .ref kx, .ref ky, .int cn, .int ah])), (wa, .inl (cJ, 96, .inr (.inl g40))), (sa, .inl (cI, 16, .inl (upd fs 0 (fs 14))))] H := hP
          have hD : va_D A [(o, .inr (4, [.int 0, .ref wa, .ref sa, .ref ma, .ref tl, .ref gx, .ref gy, .ref tx, .ref tz, .int ln, .ref kx, .ref ky, .int cn, .int ah])), (wa, .inl (cJ, 96, .inr (.inl g40))), (sa, .inl (cI, 16, .inl (upd fs 0 (fs 14))))] := hD
          refine lv_aload_n hx hb dX4_at_43 rfl (lv_at hl 1 rfl) ?_
          refine lv_iconst (v := 0) hx hb dX4_at_44 (by decide) ?_
          refine fin_v (wr := [(sa, .inl (cI, 16, .inl (upd fs 0 (fs 14))))]) (va_runV (As := [.int 0]) (rest := []) ⟨hx, hb, hml, hown, hTB⟩ (c_X4_twice l D cZ cI cJ o wa sa ma tl gx gy tx tz kx ky 0 ln cn ah g40 0 up40.1 (by decide) (by rw [up40.2.1, hu.1]; omega) _) (cw_V hTB tb_14_13 tb_1_5 tb_14_10 tb_14_11 tb_14_12 nd_X4_twice rfl rfl ⟨Nat.le_of_ble_eq_true rfl, Nat.le_of_ble_eq_true rfl⟩) (pre_V (q0 := 0) hK hP hD [0, 1] rfl rfl rfl rfl) rfl rfl hl.1 rfl (lv_room (Nat.le_of_ble_eq_true rfl)) dX4_at_45 ⟨Nat.le_of_ble_eq_true rfl, Nat.le_of_ble_eq_true rfl⟩) hP hD hS hA [0, 1] [2] rfl rfl rfl (by decide) (fun u45 H locs hc45 hP hD hS => ?_)
          have hP : va_P D vwCl [(sa, .inl (cI, 16, .inl (upd fs 0 (fs 14)))), (o, .inr (4, [.int 0, .ref wa, .ref sa, .ref ma, .ref tl, .ref gx, .ref gy, .ref tx, .ref tz, .int ln, .ref kx, .ref ky, .int cn, .int ah])), (wa, .inl (cJ, 96, .inr (.inl u45)))] H := hP
          have hD : va_D A [(sa, .inl (cI, 16, .inl (upd fs 0 (fs 14)))), (o, .inr (4, [.int 0, .ref wa, .ref sa, .ref ma, .ref tl, .ref gx, .ref gy, .ref tx, .ref tz, .int ln, .ref kx, .ref ky, .int cn, .int ah])), (wa, .inl (cJ, 96, .inr (.inl u45)))] := hD
          refine lv_aload_n hx hb dX4_at_48 rfl (lv_at hl 1 rfl) ?_
          refine lv_iconst (v := 0) hx hb dX4_at_49 (by decide) ?_
          refine lv_iconst (v := 0) hx hb dX4_at_50 (by decide) ?_
          refine lv_iload_n hx hb dX4_at_51 rfl (lv_at hl 0 rfl) ?_
          refine lv_iconst (v := 1) hx hb dX4_at_52 (by decide) ?_
          refine lv_iadd hx hb dX4_at_53 ?_
          rw [show (14 : Int32) + 1 = 15 from rfl]
          refine lv_iconst (v := 1) hx hb dX4_at_54 (by decide) ?_
          refine fin_v (wr := [(sa, .inl (cI, 16, .inl (upd fs 0 (fs 14))))]) (va_runV (As := [.int 0, .int 0, .int 15, .int 1]) (rest := []) ⟨hx, hb, hml, hown, hTB⟩ (c_X4_change_p l D cZ cI cJ o wa sa ma tl gx gy tx tz kx ky 0 ln cn ah u45 (0) (0) (15) hc45.1 (by decide) (by decide) (by decide) (by rw [hc45.2.1, hc45.other (by decide), up40.2.1, up40.other (by decide), hu.1, hw.1]; omega) _) (cw_V hTB tb_7_10 tb_1_5 tb_7_7 tb_7_8 tb_7_9 nd_X4_change rfl rfl ⟨Nat.le_of_ble_eq_true rfl, Nat.le_of_ble_eq_true rfl⟩) (pre_V (q0 := 1) hK hP hD [1, 2] rfl rfl rfl rfl) rfl rfl hl.1 rfl (lv_room (Nat.le_of_ble_eq_true rfl)) dX4_at_55 ⟨Nat.le_of_ble_eq_true rfl, Nat.le_of_ble_eq_true rfl⟩) hP hD hS hA [1, 2] [0] rfl rfl rfl (by decide) (fun u55 H locs hc55 hP hD hS => ?_)
          have hP : va_P D vwCl [(sa, .inl (cI, 16, .inl (upd fs 0 (fs 14)))), (o, .inr (4, [.int 0, .ref wa, .ref sa, .ref ma, .ref tl, .ref gx, .ref gy, .ref tx, .ref tz, .int ln, .ref kx, .ref ky, .int cn, .int ah])), (wa, .inl (cJ, 96, .inr (.inl u55)))] H := hP
          have hD : va_D A [(sa, .inl (cI, 16, .inl (upd fs 0 (fs 14)))), (o, .inr (4, [.int 0, .ref wa, .ref sa, .ref ma, .ref tl, .ref gx, .ref gy, .ref tx, .ref tz, .int ln, .ref kx, .ref ky, .int cn, .int ah])), (wa, .inl (cJ, 96, .inr (.inl u55)))] := hD
          refine lv_aload_n hx hb dX4_at_58 rfl (lv_at hl 1 rfl) ?_
          refine lv_iconst (v := 1) hx hb dX4_at_59 (by decide) ?_
          refine lv_iload_n hx hb dX4_at_60 rfl (lv_at hl 0 rfl) ?_
          refine lv_iconst (v := 1) hx hb dX4_at_61 (by decide) ?_
          refine lv_iadd hx hb dX4_at_62 ?_
          rw [show (14 : Int32) + 1 = 15 from rfl]
          refine fin_v (wr := []) (va_runV (As := [.int 1, .int 15]) (rest := []) ⟨hx, hb, hml, hown, hTB⟩ (c_X4_copy l D cZ cI cJ o wa sa ma tl gx gy tx tz kx ky 0 ln cn ah u55 (upd fs 0 (fs 14)) 1 15 hc55.1 (by decide) (by decide) (by decide) _) (cw_V hTB tb_13_17 tb_1_5 tb_13_14 tb_13_15 tb_13_16 nd_X4_copy rfl rfl ⟨Nat.le_of_ble_eq_true rfl, Nat.le_of_ble_eq_true rfl⟩) (pre_V (q0 := 1) hK hP hD [1, 2, 0] rfl rfl rfl rfl) rfl rfl hl.1 rfl (lv_room (Nat.le_of_ble_eq_true rfl)) dX4_at_63 ⟨Nat.le_of_ble_eq_true rfl, Nat.le_of_ble_eq_true rfl⟩) hP hD hS hA [1, 2, 0] [] rfl rfl rfl (by decide) (fun u63 H locs hc63 hP hD hS => ?_)
          obtain ⟨g63, s63⟩ := u63
          dsimp only at hc63
          obtain ⟨up63, rfl⟩ := hc63
          have hP : va_P D vwCl [(o, .inr (4, [.int 0, .ref wa, .ref sa, .ref ma, .ref tl, .ref gx, .ref gy, .ref tx, .ref tz, .int ln, .ref kx, .ref ky, .int cn, .int ah])), (wa, .inl (cJ, 96, .inr (.inl g63))), (sa, .inl (cI, 16, .inl (upd (upd fs 0 (fs 14)) 1 ((upd fs 0 (fs 14)) 15))))] H := hP
          have hD : va_D A [(o, .inr (4, [.int 0, .ref wa, .ref sa, .ref ma, .ref tl, .ref gx, .ref gy, .ref tx, .ref tz, .int ln, .ref kx, .ref ky, .int cn, .int ah])), (wa, .inl (cJ, 96, .inr (.inl g63))), (sa, .inl (cI, 16, .inl (upd (upd fs 0 (fs 14)) 1 ((upd fs 0 (fs 14)) 15))))] := hD
          refine lv_aload_n hx hb dX4_at_66 rfl (lv_at hl 1 rfl) ?_
          refine lv_iconst (v := 1) hx hb dX4_at_67 (by decide) ?_
          refine fin_v (wr := [(sa, .inl (cI, 16, .inl (upd (upd fs 0 (fs 14)) 1 ((upd fs 0 (fs 14)) 15))))]) (va_runV (As := [.int 1]) (rest := []) ⟨hx, hb, hml, hown, hTB⟩ (c_X4_twice l D cZ cI cJ o wa sa ma tl gx gy tx tz kx ky 0 ln cn ah g63 1 up63.1 (by decide) (by rw [up63.2.1, hc55.other (by decide), hc45.other (by decide), up40.other (by decide), hw.1]; omega) _) (cw_V hTB tb_14_13 tb_1_5 tb_14_10 tb_14_11 tb_14_12 nd_X4_twice rfl rfl ⟨Nat.le_of_ble_eq_true rfl, Nat.le_of_ble_eq_true rfl⟩) (pre_V (q0 := 0) hK hP hD [0, 1] rfl rfl rfl rfl) rfl rfl hl.1 rfl (lv_room (Nat.le_of_ble_eq_true rfl)) dX4_at_68 ⟨Nat.le_of_ble_eq_true rfl, Nat.le_of_ble_eq_true rfl⟩) hP hD hS hA [0, 1] [2] rfl rfl rfl (by decide) (fun u68 H locs hc68 hP hD hS => ?_)
          have hP : va_P D vwCl [(sa, .inl (cI, 16, .inl (upd (upd fs 0 (fs 14)) 1 ((upd fs 0 (fs 14)) 15)))), (o, .inr (4, [.int 0, .ref wa, .ref sa, .ref ma, .ref tl, .ref gx, .ref gy, .ref tx, .ref tz, .int ln, .ref kx, .ref ky, .int cn, .int ah])), (wa, .inl (cJ, 96, .inr (.inl u68)))] H := hP
          have hD : va_D A [(sa, .inl (cI, 16, .inl (upd (upd fs 0 (fs 14)) 1 ((upd fs 0 (fs 14)) 15)))), (o, .inr (4, [.int 0, .ref wa, .ref sa, .ref ma, .ref tl, .ref gx, .ref gy, .ref tx, .ref tz, .int ln, .ref kx, .ref ky, .int cn, .int ah])), (wa, .inl (cJ, 96, .inr (.inl u68)))] := hD
          refine lv_aload_n hx hb dX4_at_71 rfl (lv_at hl 1 rfl) ?_
          refine lv_iconst (v := 0) hx hb dX4_at_72 (by decide) ?_
          refine lv_iconst (v := 1) hx hb dX4_at_73 (by decide) ?_
          refine fin_v (wr := []) (va_runV (As := [.int 0, .int 1]) (rest := []) ⟨hx, hb, hml, hown, hTB⟩ (c_X4_divide l D cZ cI cJ o wa sa ma tl gx gy tx tz kx ky 0 ln cn ah u68 (upd (upd fs 0 (fs 14)) 1 ((upd fs 0 (fs 14)) 15)) 0 1 hc68.1 (by decide) (by decide) (by decide) (by decide) (by decide) (by decide) (by rw [hc68.2.1, up63.2.1, hc55.other (by decide), hc45.other (by decide), up40.other (by decide), hw.1]; omega) (by rw [hc68.2.1, up63.2.1, hc55.other (by decide), hc45.other (by decide), up40.other (by decide), hw.1]; omega) _) (cw_V hTB tb_14_17 tb_1_5 tb_14_14 tb_14_15 tb_14_16 nd_X4_divide rfl rfl ⟨Nat.le_of_ble_eq_true rfl, Nat.le_of_ble_eq_true rfl⟩) (pre_V (q0 := 1) hK hP hD [1, 2, 0] rfl rfl rfl rfl) rfl rfl hl.1 rfl (lv_room (Nat.le_of_ble_eq_true rfl)) dX4_at_74 ⟨Nat.le_of_ble_eq_true rfl, Nat.le_of_ble_eq_true rfl⟩) hP hD hS hA [1, 2, 0] [] rfl rfl rfl (by decide) (fun u74 H locs hc74 hP hD hS => ?_)
          obtain ⟨g74, s74⟩ := u74
          dsimp only at hc74
          obtain ⟨lm74, nq74, nr74, fr74, rfl⟩ := hc74
          have hP : va_P D vwCl [(o, .inr (4, [.int 0, .ref wa, .ref sa, .ref ma, .ref tl, .ref gx, .ref gy, .ref tx, .ref tz, .int ln, .ref kx, .ref ky, .int cn, .int ah])), (wa, .inl (cJ, 96, .inr (.inl g74))), (sa, .inl (cI, 16, .inl (upd (upd (upd (upd fs 0 (fs 14)) 1 ((upd fs 0 (fs 14)) 15)) 9 0) 10 0)))] H := hP
          have hD : va_D A [(o, .inr (4, [.int 0, .ref wa, .ref sa, .ref ma, .ref tl, .ref gx, .ref gy, .ref tx, .ref tz, .int ln, .ref kx, .ref ky, .int cn, .int ah])), (wa, .inl (cJ, 96, .inr (.inl g74))), (sa, .inl (cI, 16, .inl (upd (upd (upd (upd fs 0 (fs 14)) 1 ((upd fs 0 (fs 14)) 15)) 9 0) 10 0)))] := hD
          refine lv_aload_n hx hb dX4_at_77 rfl (lv_at hl 1 rfl) ?_
          refine lv_bipush (v := 9) hx hb dX4_at_78 (by decide) ?_
          refine lv_aload_n hx hb dX4_at_80 rfl (lv_at hl 1 rfl) ?_
          refine va_get (D := D) (ci := 4) (v := .ref sa) (C := RX4) (T := TX4) (N := 14) hx hb hTB tb_X4 hown hK.1 hP 0 rfl rfl 2 (by decide) (hTB _ tb_3_15) (fun _ h9 => h9) rfl dX4_at_81 ?_
          refine lv_iload_n hx hb dX4_at_84 rfl (lv_at hl 0 rfl) ?_
          refine va_iald (f := (upd (upd (upd (upd fs 0 (fs 14)) 1 ((upd fs 0 (fs 14)) 15)) 9 0) 10 0)) hx hb hK.1 hP 2 1 rfl rfl (vp_in_nI (n := 14) (by decide) (by decide)) dX4_at_85 ?_
          rw [show (14 : Int32).toNatClampNeg = 14 from rfl]
          refine lv_if_ge (tgt := 93) hx hb dX4_at_86 (by decide) (fun c_86 => ?_) (fun c_86 => ?_)
          · have c_86 : (0 : Int) ≤ ((upd (upd (upd (upd fs 0 (fs 14)) 1 ((upd fs 0 (fs 14)) 15)) 9 0) 10 0) 14).toInt := ic_le c_86
            refine lv_iconst (v := 0) hx hb dX4_at_93 (by decide) ?_
            refine vp_callSl (va_runV (As := [.int 9, .int 0]) (rest := []) ⟨hx, hb, hml, hown, hTB⟩ (c_X4_bits l D cZ cI cJ o wa sa ma tl gx gy tx tz kx ky 0 ln cn ah g74 9 0 lm74 (by decide)) (cw_V hTB tb_15_23 tb_1_5 tb_15_20 tb_15_21 tb_15_22 nd_X4_bits rfl rfl ⟨Nat.le_of_ble_eq_true rfl, Nat.le_of_ble_eq_true rfl⟩) (prr_V (q0 := 0) hK hP [0, 1] rfl rfl rfl) rfl rfl hl.1 rfl (lv_room (Nat.le_of_ble_eq_true rfl)) dX4_at_94 ⟨Nat.le_of_ble_eq_true rfl, Nat.le_of_ble_eq_true rfl⟩).run (fun r94 hc94 => ?_)
            have n0 : num u68 0 = 2 * YU.natAbs + YL.natAbs := by rw [hc68.other (by decide), up63.other (by decide), hc55.2.1, hc45.2.1, hc45.other (by decide), up40.2.1, up40.other (by decide), hu.1, hw.1]
            have n1 : num u68 1 = 2 * YL.natAbs := by rw [hc68.2.1, up63.2.1, hc55.other (by decide), hc45.other (by decide), up40.other (by decide), hw.1]
            rw [nq74, n0, n1] at hc94
            have hkp : kept fw fs g74 (upd (upd (upd (upd fs 0 (fs 14)) 1 ((upd fs 0 (fs 14)) 15)) 9 0) 10 0) := (((((kept.rf hlim).up up40 (by decide)).upw hc45 (by decide)).upw hc55 (by decide)).up up63 (by decide)).upw hc68 (by decide) |>.fr lm74 fr74
            have hs : (upd (upd (upd (upd fs 0 (fs 14)) 1 ((upd fs 0 (fs 14)) 15)) 9 0) 10 0) 14 = sg YU := (hkp.2 14 (by decide) (by decide)).2.trans hu.2
            rw [hs] at c_86
            exact hret hP hD hS (g74, upd (upd (upd (upd fs 0 (fs 14)) 1 ((upd fs 0 (fs 14)) 15)) 9 0) 10 0) (⟨by rw [if_pos (show isa ah axis from ⟨ha0, Or.inr (i32_of (k := 1) (by show axis.toInt = 1; omega))⟩), if_neg (fun q => c_26 (by rw [q]; rfl))]; rw [hc94, if_pos rfl]; exact at_pos hL (sg_get (ge32t c_86)), hkp⟩) [0, 1, 2] rfl (by decide) dX4_at_97 (Nat.le_of_ble_eq_true rfl) (Nat.le_of_ble_eq_true rfl)
          · have c_86 : ((upd (upd (upd (upd fs 0 (fs 14)) 1 ((upd fs 0 (fs 14)) 15)) 9 0) 10 0) 14).toInt < (0 : Int) := ic_nle c_86
            refine lv_iconst (v := 1) hx hb dX4_at_89 (by decide) ?_
            refine lv_goto (tgt := 94) hx hb dX4_at_90 (by decide) ?_
            refine vp_callSl (va_runV (As := [.int 9, .int 1]) (rest := []) ⟨hx, hb, hml, hown, hTB⟩ (c_X4_bits l D cZ cI cJ o wa sa ma tl gx gy tx tz kx ky 0 ln cn ah g74 9 1 lm74 (by decide)) (cw_V hTB tb_15_23 tb_1_5 tb_15_20 tb_15_21 tb_15_22 nd_X4_bits rfl rfl ⟨Nat.le_of_ble_eq_true rfl, Nat.le_of_ble_eq_true rfl⟩) (prr_V (q0 := 0) hK hP [0, 1] rfl rfl rfl) rfl rfl hl.1 rfl (lv_room (Nat.le_of_ble_eq_true rfl)) dX4_at_94 ⟨Nat.le_of_ble_eq_true rfl, Nat.le_of_ble_eq_true rfl⟩).run (fun r94 hc94 => ?_)
            have n0 : num u68 0 = 2 * YU.natAbs + YL.natAbs := by rw [hc68.other (by decide), up63.other (by decide), hc55.2.1, hc45.2.1, hc45.other (by decide), up40.2.1, up40.other (by decide), hu.1, hw.1]
            have n1 : num u68 1 = 2 * YL.natAbs := by rw [hc68.2.1, up63.2.1, hc55.other (by decide), hc45.other (by decide), up40.other (by decide), hw.1]
            rw [nq74, n0, n1] at hc94
            have hkp : kept fw fs g74 (upd (upd (upd (upd fs 0 (fs 14)) 1 ((upd fs 0 (fs 14)) 15)) 9 0) 10 0) := (((((kept.rf hlim).up up40 (by decide)).upw hc45 (by decide)).upw hc55 (by decide)).up up63 (by decide)).upw hc68 (by decide) |>.fr lm74 fr74
            have hs : (upd (upd (upd (upd fs 0 (fs 14)) 1 ((upd fs 0 (fs 14)) 15)) 9 0) 10 0) 14 = sg YU := (hkp.2 14 (by decide) (by decide)).2.trans hu.2
            rw [hs] at c_86
            exact hret hP hD hS (g74, upd (upd (upd (upd fs 0 (fs 14)) 1 ((upd fs 0 (fs 14)) 15)) 9 0) 10 0) (⟨by rw [if_pos (show isa ah axis from ⟨ha0, Or.inr (i32_of (k := 1) (by show axis.toInt = 1; omega))⟩), if_neg (fun q => c_26 (by rw [q]; rfl))]; rw [hc94, if_neg (by decide)]; exact at_neg hL (sg_gef (ge32 c_86)), hkp⟩) [0, 1, 2] rfl (by decide) dX4_at_97 (Nat.le_of_ble_eq_true rfl) (Nat.le_of_ble_eq_true rfl)
        · have c_26 : axis.toInt = (0 : Int) := ic_eq c_26
          have ha0 : ¬ ah = 0 := fun q => c_9 (by rw [q]; rfl)
          obtain ⟨⟨hu, hw⟩, hL, hb1, hb2⟩ := hX ha0
          refine lv_bipush (v := 12) hx hb dX4_at_29 (by decide) ?_
          refine lv_goto (tgt := 36) hx hb dX4_at_31 (by decide) ?_
          refine lv_istore_n (lv' := [(2, .int 12), (0, .ref o), (1, .int axis)]) hx hb dX4_at_36 rfl hl (by decide) rfl (fun ls hl => ?_)
          refine lv_aload_n hx hb dX4_at_37 rfl (lv_at hl 1 rfl) ?_
          refine lv_iconst (v := 0) hx hb dX4_at_38 (by decide) ?_
          refine lv_iload_n hx hb dX4_at_39 rfl (lv_at hl 0 rfl) ?_
          refine fin_v (wr := []) (va_runV (As := [.int 0, .int 12]) (rest := []) ⟨hx, hb, hml, hown, hTB⟩ (c_X4_copy l D cZ cI cJ o wa sa ma tl gx gy tx tz kx ky 0 ln cn ah fw fs 0 12 hlim (by decide) (by decide) (by decide) _) (cw_V hTB tb_13_17 tb_1_5 tb_13_14 tb_13_15 tb_13_16 nd_X4_copy rfl rfl ⟨Nat.le_of_ble_eq_true rfl, Nat.le_of_ble_eq_true rfl⟩) (pre_V (q0 := 0) hK hP hD [0, 1, 2] rfl rfl rfl rfl) rfl rfl hl.1 rfl (lv_room (Nat.le_of_ble_eq_true rfl)) dX4_at_40 ⟨Nat.le_of_ble_eq_true rfl, Nat.le_of_ble_eq_true rfl⟩) hP hD hS hA [0, 1, 2] [] rfl rfl rfl (by decide) (fun u40 H locs hc40 hP hD hS => ?_)
          obtain ⟨g40, s40⟩ := u40
          dsimp only at hc40
          obtain ⟨up40, rfl⟩ := hc40
          have hP : va_P D vwCl [(o, .inr (4, [.int 0, .ref wa, .ref sa, .ref ma, .ref tl, .ref gx, .ref gy, .ref tx, .ref tz, .int ln, .ref kx, .ref ky, .int cn, .int ah])), (wa, .inl (cJ, 96, .inr (.inl g40))), (sa, .inl (cI, 16, .inl (upd fs 0 (fs 12))))] H := hP
          have hD : va_D A [(o, .inr (4, [.int 0, .ref wa, .ref sa, .ref ma, .ref tl, .ref gx, .ref gy, .ref tx, .ref tz, .int ln, .ref kx, .ref ky, .int cn, .int ah])), (wa, .inl (cJ, 96, .inr (.inl g40))), (sa, .inl (cI, 16, .inl (upd fs 0 (fs 12))))] := hD
          refine lv_aload_n hx hb dX4_at_43 rfl (lv_at hl 1 rfl) ?_
          refine lv_iconst (v := 0) hx hb dX4_at_44 (by decide) ?_
          refine fin_v (wr := [(sa, .inl (cI, 16, .inl (upd fs 0 (fs 12))))]) (va_runV (As := [.int 0]) (rest := []) ⟨hx, hb, hml, hown, hTB⟩ (c_X4_twice l D cZ cI cJ o wa sa ma tl gx gy tx tz kx ky 0 ln cn ah g40 0 up40.1 (by decide) (by rw [up40.2.1, hu.1]; omega) _) (cw_V hTB tb_14_13 tb_1_5 tb_14_10 tb_14_11 tb_14_12 nd_X4_twice rfl rfl ⟨Nat.le_of_ble_eq_true rfl, Nat.le_of_ble_eq_true rfl⟩) (pre_V (q0 := 0) hK hP hD [0, 1] rfl rfl rfl rfl) rfl rfl hl.1 rfl (lv_room (Nat.le_of_ble_eq_true rfl)) dX4_at_45 ⟨Nat.le_of_ble_eq_true rfl, Nat.le_of_ble_eq_true rfl⟩) hP hD hS hA [0, 1] [2] rfl rfl rfl (by decide) (fun u45 H locs hc45 hP hD hS => ?_)
          have hP : va_P D vwCl [(sa, .inl (cI, 16, .inl (upd fs 0 (fs 12)))), (o, .inr (4, [.int 0, .ref wa, .ref sa, .ref ma, .ref tl, .ref gx, .ref gy, .ref tx, .ref tz, .int ln, .ref kx, .ref ky, .int cn, .int ah])), (wa, .inl (cJ, 96, .inr (.inl u45)))] H := hP
          have hD : va_D A [(sa, .inl (cI, 16, .inl (upd fs 0 (fs 12)))), (o, .inr (4, [.int 0, .ref wa, .ref sa, .ref ma, .ref tl, .ref gx, .ref gy, .ref tx, .ref tz, .int ln, .ref kx, .ref ky, .int cn, .int ah])), (wa, .inl (cJ, 96, .inr (.inl u45)))] := hD
          refine lv_aload_n hx hb dX4_at_48 rfl (lv_at hl 1 rfl) ?_
          refine lv_iconst (v := 0) hx hb dX4_at_49 (by decide) ?_
          refine lv_iconst (v := 0) hx hb dX4_at_50 (by decide) ?_
          refine lv_iload_n hx hb dX4_at_51 rfl (lv_at hl 0 rfl) ?_
          refine lv_iconst (v := 1) hx hb dX4_at_52 (by decide) ?_
          refine lv_iadd hx hb dX4_at_53 ?_
          rw [show (12 : Int32) + 1 = 13 from rfl]
          refine lv_iconst (v := 1) hx hb dX4_at_54 (by decide) ?_
          refine fin_v (wr := [(sa, .inl (cI, 16, .inl (upd fs 0 (fs 12))))]) (va_runV (As := [.int 0, .int 0, .int 13, .int 1]) (rest := []) ⟨hx, hb, hml, hown, hTB⟩ (c_X4_change_p l D cZ cI cJ o wa sa ma tl gx gy tx tz kx ky 0 ln cn ah u45 (0) (0) (13) hc45.1 (by decide) (by decide) (by decide) (by rw [hc45.2.1, hc45.other (by decide), up40.2.1, up40.other (by decide), hu.1, hw.1]; omega) _) (cw_V hTB tb_7_10 tb_1_5 tb_7_7 tb_7_8 tb_7_9 nd_X4_change rfl rfl ⟨Nat.le_of_ble_eq_true rfl, Nat.le_of_ble_eq_true rfl⟩) (pre_V (q0 := 1) hK hP hD [1, 2] rfl rfl rfl rfl) rfl rfl hl.1 rfl (lv_room (Nat.le_of_ble_eq_true rfl)) dX4_at_55 ⟨Nat.le_of_ble_eq_true rfl, Nat.le_of_ble_eq_true rfl⟩) hP hD hS hA [1, 2] [0] rfl rfl rfl (by decide) (fun u55 H locs hc55 hP hD hS => ?_)
          have hP : va_P D vwCl [(sa, .inl (cI, 16, .inl (upd fs 0 (fs 12)))), (o, .inr (4, [.int 0, .ref wa, .ref sa, .ref ma, .ref tl, .ref gx, .ref gy, .ref tx, .ref tz, .int ln, .ref kx, .ref ky, .int cn, .int ah])), (wa, .inl (cJ, 96, .inr (.inl u55)))] H := hP
          have hD : va_D A [(sa, .inl (cI, 16, .inl (upd fs 0 (fs 12)))), (o, .inr (4, [.int 0, .ref wa, .ref sa, .ref ma, .ref tl, .ref gx, .ref gy, .ref tx, .ref tz, .int ln, .ref kx, .ref ky, .int cn, .int ah])), (wa, .inl (cJ, 96, .inr (.inl u55)))] := hD
          refine lv_aload_n hx hb dX4_at_58 rfl (lv_at hl 1 rfl) ?_
          refine lv_iconst (v := 1) hx hb dX4_at_59 (by decide) ?_
          refine lv_iload_n hx hb dX4_at_60 rfl (lv_at hl 0 rfl) ?_
          refine lv_iconst (v := 1) hx hb dX4_at_61 (by decide) ?_
          refine lv_iadd hx hb dX4_at_62 ?_
          rw [show (12 : Int32) + 1 = 13 from rfl]
          refine fin_v (wr := []) (va_runV (As := [.int 1, .int 13]) (rest := []) ⟨hx, hb, hml, hown, hTB⟩ (c_X4_copy l D cZ cI cJ o wa sa ma tl gx gy tx tz kx ky 0 ln cn ah u55 (upd fs 0 (fs 12)) 1 13 hc55.1 (by decide) (by decide) (by decide) _) (cw_V hTB tb_13_17 tb_1_5 tb_13_14 tb_13_15 tb_13_16 nd_X4_copy rfl rfl ⟨Nat.le_of_ble_eq_true rfl, Nat.le_of_ble_eq_true rfl⟩) (pre_V (q0 := 1) hK hP hD [1, 2, 0] rfl rfl rfl rfl) rfl rfl hl.1 rfl (lv_room (Nat.le_of_ble_eq_true rfl)) dX4_at_63 ⟨Nat.le_of_ble_eq_true rfl, Nat.le_of_ble_eq_true rfl⟩) hP hD hS hA [1, 2, 0] [] rfl rfl rfl (by decide) (fun u63 H locs hc63 hP hD hS => ?_)
          obtain ⟨g63, s63⟩ := u63
          dsimp only at hc63
          obtain ⟨up63, rfl⟩ := hc63
          have hP : va_P D vwCl [(o, .inr (4, [.int 0, .ref wa, .ref sa, .ref ma, .ref tl, .ref gx, .ref gy, .ref tx, .ref tz, .int ln, .ref kx, .ref ky, .int cn, .int ah])), (wa, .inl (cJ, 96, .inr (.inl g63))), (sa, .inl (cI, 16, .inl (upd (upd fs 0 (fs 12)) 1 ((upd fs 0 (fs 12)) 13))))] H := hP
          have hD : va_D A [(o, .inr (4, [.int 0, .ref wa, .ref sa, .ref ma, .ref tl, .ref gx, .ref gy, .ref tx, .ref tz, .int ln, .ref kx, .ref ky, .int cn, .int ah])), (wa, .inl (cJ, 96, .inr (.inl g63))), (sa, .inl (cI, 16, .inl (upd (upd fs 0 (fs 12)) 1 ((upd fs 0 (fs 12)) 13))))] := hD
          refine lv_aload_n hx hb dX4_at_66 rfl (lv_at hl 1 rfl) ?_
          refine lv_iconst (v := 1) hx hb dX4_at_67 (by decide) ?_
          refine fin_v (wr := [(sa, .inl (cI, 16, .inl (upd (upd fs 0 (fs 12)) 1 ((upd fs 0 (fs 12)) 13))))]) (va_runV (As := [.int 1]) (rest := []) ⟨hx, hb, hml, hown, hTB⟩ (c_X4_twice l D cZ cI cJ o wa sa ma tl gx gy tx tz kx ky 0 ln cn ah g63 1 up63.1 (by decide) (by rw [up63.2.1, hc55.other (by decide), hc45.other (by decide), up40.other (by decide), hw.1]; omega) _) (cw_V hTB tb_14_13 tb_1_5 tb_14_10 tb_14_11 tb_14_12 nd_X4_twice rfl rfl ⟨Nat.le_of_ble_eq_true rfl, Nat.le_of_ble_eq_true rfl⟩) (pre_V (q0 := 0) hK hP hD [0, 1] rfl rfl rfl rfl) rfl rfl hl.1 rfl (lv_room (Nat.le_of_ble_eq_true rfl)) dX4_at_68 ⟨Nat.le_of_ble_eq_true rfl, Nat.le_of_ble_eq_true rfl⟩) hP hD hS hA [0, 1] [2] rfl rfl rfl (by decide) (fun u68 H locs hc68 hP hD hS => ?_)
          have hP : va_P D vwCl [(sa, .inl (cI, 16, .inl (upd (upd fs 0 (fs 12)) 1 ((upd fs 0 (fs 12)) 13)))), (o, .inr (4, [.int 0, .ref wa, .ref sa, .ref ma, .ref tl, .ref gx, .ref gy, .ref tx, .ref tz, .int ln, .ref kx, .ref ky, .int cn, .int ah])), (wa, .inl (cJ, 96, .inr (.inl u68)))] H := hP
          have hD : va_D A [(sa, .inl (cI, 16, .inl (upd (upd fs 0 (fs 12)) 1 ((upd fs 0 (fs 12)) 13)))), (o, .inr (4, [.int 0, .ref wa, .ref sa, .ref ma, .ref tl, .ref gx, .ref gy, .ref tx, .ref tz, .int ln, .ref kx, .ref ky, .int cn, .int ah])), (wa, .inl (cJ, 96, .inr (.inl u68)))] := hD
          refine lv_aload_n hx hb dX4_at_71 rfl (lv_at hl 1 rfl) ?_
          refine lv_iconst (v := 0) hx hb dX4_at_72 (by decide) ?_
          refine lv_iconst (v := 1) hx hb dX4_at_73 (by decide) ?_
          refine fin_v (wr := []) (va_runV (As := [.int 0, .int 1]) (rest := []) ⟨hx, hb, hml, hown, hTB⟩ (c_X4_divide l D cZ cI cJ o wa sa ma tl gx gy tx tz kx ky 0 ln cn ah u68 (upd (upd fs 0 (fs 12)) 1 ((upd fs 0 (fs 12)) 13)) 0 1 hc68.1 (by decide) (by decide) (by decide) (by decide) (by decide) (by decide) (by rw [hc68.2.1, up63.2.1, hc55.other (by decide), hc45.other (by decide), up40.other (by decide), hw.1]; omega) (by rw [hc68.2.1, up63.2.1, hc55.other (by decide), hc45.other (by decide), up40.other (by decide), hw.1]; omega) _) (cw_V hTB tb_14_17 tb_1_5 tb_14_14 tb_14_15 tb_14_16 nd_X4_divide rfl rfl ⟨Nat.le_of_ble_eq_true rfl, Nat.le_of_ble_eq_true rfl⟩) (pre_V (q0 := 1) hK hP hD [1, 2, 0] rfl rfl rfl rfl) rfl rfl hl.1 rfl (lv_room (Nat.le_of_ble_eq_true rfl)) dX4_at_74 ⟨Nat.le_of_ble_eq_true rfl, Nat.le_of_ble_eq_true rfl⟩) hP hD hS hA [1, 2, 0] [] rfl rfl rfl (by decide) (fun u74 H locs hc74 hP hD hS => ?_)
          obtain ⟨g74, s74⟩ := u74
          dsimp only at hc74
          obtain ⟨lm74, nq74, nr74, fr74, rfl⟩ := hc74
          have hP : va_P D vwCl [(o, .inr (4, [.int 0, .ref wa, .ref sa, .ref ma, .ref tl, .ref gx, .ref gy, .ref tx, .ref tz, .int ln, .ref kx, .ref ky, .int cn, .int ah])), (wa, .inl (cJ, 96, .inr (.inl g74))), (sa, .inl (cI, 16, .inl (upd (upd (upd (upd fs 0 (fs 12)) 1 ((upd fs 0 (fs 12)) 13)) 9 0) 10 0)))] H := hP
          have hD : va_D A [(o, .inr (4, [.int 0, .ref wa, .ref sa, .ref ma, .ref tl, .ref gx, .ref gy, .ref tx, .ref tz, .int ln, .ref kx, .ref ky, .int cn, .int ah])), (wa, .inl (cJ, 96, .inr (.inl g74))), (sa, .inl (cI, 16, .inl (upd (upd (upd (upd fs 0 (fs 12)) 1 ((upd fs 0 (fs 12)) 13)) 9 0) 10 0)))] := hD
          refine lv_aload_n hx hb dX4_at_77 rfl (lv_at hl 1 rfl) ?_
          refine lv_bipush (v := 9) hx hb dX4_at_78 (by decide) ?_
          refine lv_aload_n hx hb dX4_at_80 rfl (lv_at hl 1 rfl) ?_
          refine va_get (D := D) (ci := 4) (v := .ref sa) (C := RX4) (T := TX4) (N := 14) hx hb hTB tb_X4 hown hK.1 hP 0 rfl rfl 2 (by decide) (hTB _ tb_3_15) (fun _ h9 => h9) rfl dX4_at_81 ?_
          refine lv_iload_n hx hb dX4_at_84 rfl (lv_at hl 0 rfl) ?_
          refine va_iald (f := (upd (upd (upd (upd fs 0 (fs 12)) 1 ((upd fs 0 (fs 12)) 13)) 9 0) 10 0)) hx hb hK.1 hP 2 1 rfl rfl (vp_in_nI (n := 12) (by decide) (by decide)) dX4_at_85 ?_
          rw [show (12 : Int32).toNatClampNeg = 12 from rfl]
          refine lv_if_ge (tgt := 93) hx hb dX4_at_86 (by decide) (fun c_86 => ?_) (fun c_86 => ?_)
          · have c_86 : (0 : Int) ≤ ((upd (upd (upd (upd fs 0 (fs 12)) 1 ((upd fs 0 (fs 12)) 13)) 9 0) 10 0) 12).toInt := ic_le c_86
            refine lv_iconst (v := 0) hx hb dX4_at_93 (by decide) ?_
            refine vp_callSl (va_runV (As := [.int 9, .int 0]) (rest := []) ⟨hx, hb, hml, hown, hTB⟩ (c_X4_bits l D cZ cI cJ o wa sa ma tl gx gy tx tz kx ky 0 ln cn ah g74 9 0 lm74 (by decide)) (cw_V hTB tb_15_23 tb_1_5 tb_15_20 tb_15_21 tb_15_22 nd_X4_bits rfl rfl ⟨Nat.le_of_ble_eq_true rfl, Nat.le_of_ble_eq_true rfl⟩) (prr_V (q0 := 0) hK hP [0, 1] rfl rfl rfl) rfl rfl hl.1 rfl (lv_room (Nat.le_of_ble_eq_true rfl)) dX4_at_94 ⟨Nat.le_of_ble_eq_true rfl, Nat.le_of_ble_eq_true rfl⟩).run (fun r94 hc94 => ?_)
            have n0 : num u68 0 = 2 * XU.natAbs + XL.natAbs := by rw [hc68.other (by decide), up63.other (by decide), hc55.2.1, hc45.2.1, hc45.other (by decide), up40.2.1, up40.other (by decide), hu.1, hw.1]
            have n1 : num u68 1 = 2 * XL.natAbs := by rw [hc68.2.1, up63.2.1, hc55.other (by decide), hc45.other (by decide), up40.other (by decide), hw.1]
            rw [nq74, n0, n1] at hc94
            have hkp : kept fw fs g74 (upd (upd (upd (upd fs 0 (fs 12)) 1 ((upd fs 0 (fs 12)) 13)) 9 0) 10 0) := (((((kept.rf hlim).up up40 (by decide)).upw hc45 (by decide)).upw hc55 (by decide)).up up63 (by decide)).upw hc68 (by decide) |>.fr lm74 fr74
            have hs : (upd (upd (upd (upd fs 0 (fs 12)) 1 ((upd fs 0 (fs 12)) 13)) 9 0) 10 0) 12 = sg XU := (hkp.2 12 (by decide) (by decide)).2.trans hu.2
            rw [hs] at c_86
            exact hret hP hD hS (g74, upd (upd (upd (upd fs 0 (fs 12)) 1 ((upd fs 0 (fs 12)) 13)) 9 0) 10 0) (⟨by rw [if_pos (show isa ah axis from ⟨ha0, Or.inl (i32_of (k := 0) c_26)⟩), if_pos (i32_of (k := 0) c_26)]; rw [hc94, if_pos rfl]; exact at_pos hL (sg_get (ge32t c_86)), hkp⟩) [0, 1, 2] rfl (by decide) dX4_at_97 (Nat.le_of_ble_eq_true rfl) (Nat.le_of_ble_eq_true rfl)
          · have c_86 : ((upd (upd (upd (upd fs 0 (fs 12)) 1 ((upd fs 0 (fs 12)) 13)) 9 0) 10 0) 12).toInt < (0 : Int) := ic_nle c_86
            refine lv_iconst (v := 1) hx hb dX4_at_89 (by decide) ?_
            refine lv_goto (tgt := 94) hx hb dX4_at_90 (by decide) ?_
            refine vp_callSl (va_runV (As := [.int 9, .int 1]) (rest := []) ⟨hx, hb, hml, hown, hTB⟩ (c_X4_bits l D cZ cI cJ o wa sa ma tl gx gy tx tz kx ky 0 ln cn ah g74 9 1 lm74 (by decide)) (cw_V hTB tb_15_23 tb_1_5 tb_15_20 tb_15_21 tb_15_22 nd_X4_bits rfl rfl ⟨Nat.le_of_ble_eq_true rfl, Nat.le_of_ble_eq_true rfl⟩) (prr_V (q0 := 0) hK hP [0, 1] rfl rfl rfl) rfl rfl hl.1 rfl (lv_room (Nat.le_of_ble_eq_true rfl)) dX4_at_94 ⟨Nat.le_of_ble_eq_true rfl, Nat.le_of_ble_eq_true rfl⟩).run (fun r94 hc94 => ?_)
            have n0 : num u68 0 = 2 * XU.natAbs + XL.natAbs := by rw [hc68.other (by decide), up63.other (by decide), hc55.2.1, hc45.2.1, hc45.other (by decide), up40.2.1, up40.other (by decide), hu.1, hw.1]
            have n1 : num u68 1 = 2 * XL.natAbs := by rw [hc68.2.1, up63.2.1, hc55.other (by decide), hc45.other (by decide), up40.other (by decide), hw.1]
            rw [nq74, n0, n1] at hc94
            have hkp : kept fw fs g74 (upd (upd (upd (upd fs 0 (fs 12)) 1 ((upd fs 0 (fs 12)) 13)) 9 0) 10 0) := (((((kept.rf hlim).up up40 (by decide)).upw hc45 (by decide)).upw hc55 (by decide)).up up63 (by decide)).upw hc68 (by decide) |>.fr lm74 fr74
            have hs : (upd (upd (upd (upd fs 0 (fs 12)) 1 ((upd fs 0 (fs 12)) 13)) 9 0) 10 0) 12 = sg XU := (hkp.2 12 (by decide) (by decide)).2.trans hu.2
            rw [hs] at c_86
            exact hret hP hD hS (g74, upd (upd (upd (upd fs 0 (fs 12)) 1 ((upd fs 0 (fs 12)) 13)) 9 0) 10 0) (⟨by rw [if_pos (show isa ah axis from ⟨ha0, Or.inl (i32_of (k := 0) c_26)⟩), if_pos (i32_of (k := 0) c_26)]; rw [hc94, if_neg (by decide)]; exact at_neg hL (sg_gef (ge32 c_86)), hkp⟩) [0, 1, 2] rfl (by decide) dX4_at_97 (Nat.le_of_ble_eq_true rfl) (Nat.le_of_ble_eq_true rfl)
      · have c_18 : (1 : Int) < axis.toInt := ic_nle c_18
        refine lv_ldc2 (v := (-4611686018427387904)) hx hb hown (hTB _ tb_15_19) dX4_at_21 ?_
        exact hret hP hD hS (fw, fs) (⟨by rw [if_neg (fun q => by rcases q.2 with z | z <;> (rw [z] at c_18; revert c_18; decide))], kept.rf hlim⟩) [0, 1, 2] rfl (by decide) dX4_at_24 (Nat.le_of_ble_eq_true rfl) (Nat.le_of_ble_eq_true rfl)

set_option maxHeartbeats 4000000 in
set_option maxRecDepth 100000 in
theorem c_X4_exact (l : Launch) (D : va_G) (cZ cI cJ : ClassId) (o wa sa ma tl gx gy tx tz kx ky : Nat) (cd ln cn ah : Int32) (fw : Nat → Int64) (fs : Nat → Int32) (XU XL YU YL : Int) (axis part limb : Int32) (hlim : lim fw) (hX : ah ≠ 0 → (hz fw fs 12 XU ∧ hz fw fs 13 XL) ∧ 0 < XL ∧ XU.natAbs < 170141183460469231731687303715884105728 ∧ XL.natAbs < 85070591730234615865843651857942052864) (hY : ah ≠ 0 → (hz fw fs 14 YU ∧ hz fw fs 15 YL) ∧ 0 < YL ∧ YU.natAbs < 170141183460469231731687303715884105728 ∧ YL.natAbs < 85070591730234615865843651857942052864) : Cl l D cZ cI cJ yX4_exact cX4_exact 4 (some .long) { frames := 2, cells := 0, slots := 0, locals := 44 } [.ref o, .int axis, .int part, .int limb] [(o, .inr (4, [.int cd, .ref wa, .ref sa, .ref ma, .ref tl, .ref gx, .ref gy, .ref tx, .ref tz, .int ln, .ref kx, .ref ky, .int cn, .int ah])), (wa, .inl (cJ, 96, .inr (.inl fw))), (sa, .inl (cI, 16, .inl fs))] (S := Int32) (fun z u => (xok ah axis part → (lbad (exZ axis part XU XL YU YL) limb → u = 1) ∧ (¬ lbad (exZ axis part XU XL YU YL) limb → u = 0 ∧ z = lval (exZ axis part XU XL YU YL) limb)) ∧ (¬ xok ah axis part → u = 0 ∧ z = -4611686018427387904)) (fun u => [(o, .inr (4, [.int u, .ref wa, .ref sa, .ref ma, .ref tl, .ref gx, .ref gy, .ref tx, .ref tz, .int ln, .ref kx, .ref ky, .int cn, .int ah])), (wa, .inl (cJ, 96, .inr (.inl fw))), (sa, .inl (cI, 16, .inl fs))]) := by
  refine Cl.of (by decide) ?_
  intro p e s m args below meth c A Q hB hret hP hD hA
  obtain ⟨hx, hb, hr, hlocks, hml, hown, hnm, hTB, hK⟩ := hB
  have hown : s.vm.findClass RX4 = some m.cls := hown
  have hS : va_S A s.heap s.heap [] := va_S.rf
  have hl := lv_entry ([.ref o, .int axis, .int part, .int limb]) (n := 4) (Nat.le_of_ble_eq_true rfl)
  rw [lg_entry_eq]
  generalize (lg_sl ([.ref o, .int axis, .int part, .int limb]) ++ List.replicate (4 - (lg_sl ([.ref o, .int axis, .int part, .int limb])).length) Slot.unset).toArray = ls at hl ⊢
  have hl : lv_has ls 4 [(0, .ref o), (1, .int axis), (2, .int part), (3, .int limb)] := hl
  refine lv_aload_n hx hb dX4_exact_0 rfl (lv_at hl 0 rfl) ?_
  refine lv_iconst (v := 0) hx hb dX4_exact_1 (by decide) ?_
  refine va_put (D := D) (ci := 4) (v := .int 0) (ty := .int) (C := RX4) (T := TX4) (N := 14) hx hb hTB tb_X4 tyX4 tyX4_ok nmX4 hown hK.1 hP hD hS 0 rfl rfl 0 (by decide) (hTB _ tb_6_4) (fun _ h9 => h9) rfl (by decide +kernel) rfl rfl (Nat.le_of_ble_eq_true rfl) dX4_exact_2 (fun H locs hP hD hS => ?_)
  have hP : va_P D vwCl [(o, .inr (4, [.int 0, .ref wa, .ref sa, .ref ma, .ref tl, .ref gx, .ref gy, .ref tx, .ref tz, .int ln, .ref kx, .ref ky, .int cn, .int ah])), (wa, .inl (cJ, 96, .inr (.inl fw))), (sa, .inl (cI, 16, .inl fs))] H := hP
  have hD : va_D A [(o, .inr (4, [.int 0, .ref wa, .ref sa, .ref ma, .ref tl, .ref gx, .ref gy, .ref tx, .ref tz, .int ln, .ref kx, .ref ky, .int cn, .int ah])), (wa, .inl (cJ, 96, .inr (.inl fw))), (sa, .inl (cI, 16, .inl fs))] := hD
  refine lv_aload_n hx hb dX4_exact_5 rfl (lv_at hl 0 rfl) ?_
  refine va_get (D := D) (ci := 4) (v := .int ah) (C := RX4) (T := TX4) (N := 14) hx hb hTB tb_X4 hown hK.1 hP 0 rfl rfl 13 (by decide) (hTB _ tb_12_22) (fun _ h9 => h9) rfl dX4_exact_6 ?_
  refine lv_if_eq (tgt := 30) hx hb dX4_exact_9 (by decide) (fun c_9 => ?_) (fun c_9 => ?_)
  · have c_9 : ah.toInt = (0 : Int) := ic_eq c_9
    refine lv_ldc2 (v := (-4611686018427387904)) hx hb hown (hTB _ tb_15_19) dX4_exact_30 ?_
    exact hret hP hD hS 0 (⟨fun q => absurd q (fun q => q.1.1 (i32_of (k := 0) c_9)), fun _ => ⟨rfl, rfl⟩⟩) [0, 1, 2] rfl (by decide) dX4_exact_33 (Nat.le_of_ble_eq_true rfl) (Nat.le_of_ble_eq_true rfl)
  · have c_9 : ah.toInt ≠ (0 : Int) := ic_ne c_9
    refine lv_iload_n hx hb dX4_exact_12 rfl (lv_at hl 1 rfl) ?_
    refine lv_if_lt (tgt := 30) hx hb dX4_exact_13 (by decide) (fun c_13 => ?_) (fun c_13 => ?_)
    · have c_13 : axis.toInt < (0 : Int) := ic_lt c_13
      refine lv_ldc2 (v := (-4611686018427387904)) hx hb hown (hTB _ tb_15_19) dX4_exact_30 ?_
      exact hret hP hD hS 0 (⟨fun q => absurd q (fun q => by rcases q.1.2 with z | z <;> (rw [z] at c_13; revert c_13; decide)), fun _ => ⟨rfl, rfl⟩⟩) [0, 1, 2] rfl (by decide) dX4_exact_33 (Nat.le_of_ble_eq_true rfl) (Nat.le_of_ble_eq_true rfl)
    · have c_13 : (0 : Int) ≤ axis.toInt := ic_nlt c_13
      refine lv_iload_n hx hb dX4_exact_16 rfl (lv_at hl 1 rfl) ?_
      refine lv_iconst (v := 1) hx hb dX4_exact_17 (by decide) ?_
      refine lv_icmp_gt (tgt := 30) hx hb dX4_exact_18 (by decide) (fun c_18 => ?_) (fun c_18 => ?_)
      · have c_18 : (1 : Int) < axis.toInt := ic_lt c_18
        refine lv_ldc2 (v := (-4611686018427387904)) hx hb hown (hTB _ tb_15_19) dX4_exact_30 ?_
        exact hret hP hD hS 0 (⟨fun q => absurd q (fun q => by rcases q.1.2 with z | z <;> (rw [z] at c_18; revert c_18; decide)), fun _ => ⟨rfl, rfl⟩⟩) [0, 1, 2] rfl (by decide) dX4_exact_33 (Nat.le_of_ble_eq_true rfl) (Nat.le_of_ble_eq_true rfl)
      · have c_18 : axis.toInt ≤ (1 : Int) := ic_nlt c_18
        refine lv_iload_n hx hb dX4_exact_21 rfl (lv_at hl 2 rfl) ?_
        refine lv_if_lt (tgt := 30) hx hb dX4_exact_22 (by decide) (fun c_22 => ?_) (fun c_22 => ?_)
        · have c_22 : part.toInt < (0 : Int) := ic_lt c_22
          refine lv_ldc2 (v := (-4611686018427387904)) hx hb hown (hTB _ tb_15_19) dX4_exact_30 ?_
          exact hret hP hD hS 0 (⟨fun q => absurd q (fun q => by rcases q.2 with z | z <;> (rw [z] at c_22; revert c_22; decide)), fun _ => ⟨rfl, rfl⟩⟩) [0, 1, 2] rfl (by decide) dX4_exact_33 (Nat.le_of_ble_eq_true rfl) (Nat.le_of_ble_eq_true rfl)
        · have c_22 : (0 : Int) ≤ part.toInt := ic_nlt c_22
          refine lv_iload_n hx hb dX4_exact_25 rfl (lv_at hl 2 rfl) ?_
          refine lv_iconst (v := 1) hx hb dX4_exact_26 (by decide) ?_
          refine lv_icmp_le (tgt := 34) hx hb dX4_exact_27 (by decide) (fun c_27 => ?_) (fun c_27 => ?_)
          · have c_27 : part.toInt ≤ (1 : Int) := ic_le c_27
            refine lv_aload_n hx hb dX4_exact_34 rfl (lv_at hl 0 rfl) ?_
            refine lv_iload_n hx hb dX4_exact_35 rfl (lv_at hl 1 rfl) ?_
            refine lv_if_ne (tgt := 44) hx hb dX4_exact_36 (by decide) (fun c_36 => ?_) (fun c_36 => ?_)
            · have c_36 : axis.toInt ≠ (0 : Int) := ic_ne c_36
              have ha0 : ¬ ah = 0 := fun q => c_9 (by rw [q]; rfl)
              obtain ⟨⟨hu, hw⟩, hL, hb1, hb2⟩ := hY ha0
              have pa01 : part = 0 ∨ part = 1 := by
                by_cases h : part = 0
                · exact Or.inl h
                · exact Or.inr (i32_of (k := 1) (by have := i32_ne0 h; show part.toInt = 1; omega))
              refine lv_bipush (v := 14) hx hb dX4_exact_44 (by decide) ?_
              refine lv_iload_n hx hb dX4_exact_46 rfl (lv_at hl 2 rfl) ?_
              refine lv_iadd hx hb dX4_exact_47 ?_
              obtain ⟨pp, hp1, hp2, hp3, hp4⟩ : ∃ pp : Nat, pp < 2 ∧ (14 : Int32) + part = nI (14 + pp) ∧ hz fw fs (14 + pp) (exZ axis part XU XL YU YL) ∧ (exZ axis part XU XL YU YL).natAbs < 340282366920938463463374607431768211456 := by
                unfold exZ
                rw [if_neg (fun q => c_36 (by rw [q]; rfl))]
                by_cases h : part = 0
                · subst h; exact ⟨0, by decide, rfl, by rw [if_pos rfl]; exact hu, by rw [if_pos rfl]; omega⟩
                · have h1 : part = 1 := i32_of (k := 1) (by have := i32_ne0 h; show part.toInt = 1; omega)
                  subst h1; exact ⟨1, by decide, rfl, by rw [if_neg (by decide)]; exact hw, by rw [if_neg (by decide)]; omega⟩
              rw [hp2]
              refine lv_iload_n hx hb dX4_exact_48 rfl (lv_at hl 3 rfl) ?_
              refine fin_l (wr := []) (va_runV (As := [.int (nI (14 + pp)), .int limb]) (rest := []) ⟨hx, hb, hml, hown, hTB⟩ (c_X4_limbOf l D cZ cI cJ o wa sa ma tl gx gy tx tz kx ky 0 ln cn ah fw fs (14 + pp) limb (exZ axis part XU XL YU YL) hlim (by omega) hp3 hp4 _) (cw_V hTB tb_17_13 tb_1_5 tb_17_10 tb_17_11 tb_17_12 nd_X4_limbOf rfl rfl ⟨Nat.le_of_ble_eq_true rfl, Nat.le_of_ble_eq_true rfl⟩) (pre_V (q0 := 0) hK hP hD [0, 1, 2] rfl rfl rfl rfl) rfl rfl hl.1 rfl (lv_room (Nat.le_of_ble_eq_true rfl)) dX4_exact_49 ⟨Nat.le_of_ble_eq_true rfl, Nat.le_of_ble_eq_true rfl⟩) hP hD hS hA [0, 1, 2] [] rfl rfl rfl (by decide) (fun r49 u49 H locs hc49 hP hD hS => ?_)
              have hP : va_P D vwCl [(o, .inr (4, [.int u49, .ref wa, .ref sa, .ref ma, .ref tl, .ref gx, .ref gy, .ref tx, .ref tz, .int ln, .ref kx, .ref ky, .int cn, .int ah])), (wa, .inl (cJ, 96, .inr (.inl fw))), (sa, .inl (cI, 16, .inl fs))] H := hP
              have hD : va_D A [(o, .inr (4, [.int u49, .ref wa, .ref sa, .ref ma, .ref tl, .ref gx, .ref gy, .ref tx, .ref tz, .int ln, .ref kx, .ref ky, .int cn, .int ah])), (wa, .inl (cJ, 96, .inr (.inl fw))), (sa, .inl (cI, 16, .inl fs))] := hD
              exact hret hP hD hS u49 (⟨fun _ => hc49, fun q => absurd ⟨⟨ha0, Or.inr (i32_of (k := 1) (by show axis.toInt = 1; have := i32_ne0 (x := axis) (fun q => c_36 (by rw [q]; rfl)); omega))⟩, pa01⟩ q⟩) [0, 1, 2] rfl (by decide) dX4_exact_52 (Nat.le_of_ble_eq_true rfl) (Nat.le_of_ble_eq_true rfl)
            · have c_36 : axis.toInt = (0 : Int) := ic_eq c_36
              have ha0 : ¬ ah = 0 := fun q => c_9 (by rw [q]; rfl)
              obtain ⟨⟨hu, hw⟩, hL, hb1, hb2⟩ := hX ha0
              have pa01 : part = 0 ∨ part = 1 := by
                by_cases h : part = 0
                · exact Or.inl h
                · exact Or.inr (i32_of (k := 1) (by have := i32_ne0 h; show part.toInt = 1; omega))
              refine lv_bipush (v := 12) hx hb dX4_exact_39 (by decide) ?_
              refine lv_goto (tgt := 46) hx hb dX4_exact_41 (by decide) ?_
              refine lv_iload_n hx hb dX4_exact_46 rfl (lv_at hl 2 rfl) ?_
              refine lv_iadd hx hb dX4_exact_47 ?_
              obtain ⟨pp, hp1, hp2, hp3, hp4⟩ : ∃ pp : Nat, pp < 2 ∧ (12 : Int32) + part = nI (12 + pp) ∧ hz fw fs (12 + pp) (exZ axis part XU XL YU YL) ∧ (exZ axis part XU XL YU YL).natAbs < 340282366920938463463374607431768211456 := by
                unfold exZ
                rw [if_pos (i32_of (k := 0) c_36)]
                by_cases h : part = 0
                · subst h; exact ⟨0, by decide, rfl, by rw [if_pos rfl]; exact hu, by rw [if_pos rfl]; omega⟩
                · have h1 : part = 1 := i32_of (k := 1) (by have := i32_ne0 h; show part.toInt = 1; omega)
                  subst h1; exact ⟨1, by decide, rfl, by rw [if_neg (by decide)]; exact hw, by rw [if_neg (by decide)]; omega⟩
              rw [hp2]
              refine lv_iload_n hx hb dX4_exact_48 rfl (lv_at hl 3 rfl) ?_
              refine fin_l (wr := []) (va_runV (As := [.int (nI (12 + pp)), .int limb]) (rest := []) ⟨hx, hb, hml, hown, hTB⟩ (c_X4_limbOf l D cZ cI cJ o wa sa ma tl gx gy tx tz kx ky 0 ln cn ah fw fs (12 + pp) limb (exZ axis part XU XL YU YL) hlim (by omega) hp3 hp4 _) (cw_V hTB tb_17_13 tb_1_5 tb_17_10 tb_17_11 tb_17_12 nd_X4_limbOf rfl rfl ⟨Nat.le_of_ble_eq_true rfl, Nat.le_of_ble_eq_true rfl⟩) (pre_V (q0 := 0) hK hP hD [0, 1, 2] rfl rfl rfl rfl) rfl rfl hl.1 rfl (lv_room (Nat.le_of_ble_eq_true rfl)) dX4_exact_49 ⟨Nat.le_of_ble_eq_true rfl, Nat.le_of_ble_eq_true rfl⟩) hP hD hS hA [0, 1, 2] [] rfl rfl rfl (by decide) (fun r49 u49 H locs hc49 hP hD hS => ?_)
              have hP : va_P D vwCl [(o, .inr (4, [.int u49, .ref wa, .ref sa, .ref ma, .ref tl, .ref gx, .ref gy, .ref tx, .ref tz, .int ln, .ref kx, .ref ky, .int cn, .int ah])), (wa, .inl (cJ, 96, .inr (.inl fw))), (sa, .inl (cI, 16, .inl fs))] H := hP
              have hD : va_D A [(o, .inr (4, [.int u49, .ref wa, .ref sa, .ref ma, .ref tl, .ref gx, .ref gy, .ref tx, .ref tz, .int ln, .ref kx, .ref ky, .int cn, .int ah])), (wa, .inl (cJ, 96, .inr (.inl fw))), (sa, .inl (cI, 16, .inl fs))] := hD
              exact hret hP hD hS u49 (⟨fun _ => hc49, fun q => absurd ⟨⟨ha0, Or.inl (i32_of (k := 0) c_36)⟩, pa01⟩ q⟩) [0, 1, 2] rfl (by decide) dX4_exact_52 (Nat.le_of_ble_eq_true rfl) (Nat.le_of_ble_eq_true rfl)
          · have c_27 : (1 : Int) < part.toInt := ic_nle c_27
            refine lv_ldc2 (v := (-4611686018427387904)) hx hb hown (hTB _ tb_15_19) dX4_exact_30 ?_
            exact hret hP hD hS 0 (⟨fun q => absurd q (fun q => by rcases q.2 with z | z <;> (rw [z] at c_27; revert c_27; decide)), fun _ => ⟨rfl, rfl⟩⟩) [0, 1, 2] rfl (by decide) dX4_exact_33 (Nat.le_of_ble_eq_true rfl) (Nat.le_of_ble_eq_true rfl)

set_option maxHeartbeats 4000000 in
set_option maxRecDepth 100000 in
theorem c_X4_area2 (l : Launch) (D : va_G) (cZ cI cJ : ClassId) (o wa sa ma tl gx gy tx tz kx ky : Nat) (cd ln ah : Int32) (fw : Nat → Int64) (fs : Nat → Int32) (fm : Nat → Int64) (n : Nat) (fkx fky : Nat → Int64) (limb : Int32) (hlim : lim fw) (hn64 : n ≤ 64) (hkb : ∀ k, k < n → ogr (fkx k) (fky k)) : Cl l D cZ cI cJ yX4_area2 cX4_area2 4 (some .long) { frames := 3, cells := 0, slots := 0, locals := 83 } [.ref o, .int limb] [(o, .inr (4, [.int cd, .ref wa, .ref sa, .ref ma, .ref tl, .ref gx, .ref gy, .ref tx, .ref tz, .int ln, .ref kx, .ref ky, .int (nI n), .int ah])), (wa, .inl (cJ, 96, .inr (.inl fw))), (sa, .inl (cI, 16, .inl fs)), (ma, .inl (cJ, 12, .inr (.inl fm))), (kx, .inl (cJ, 64, .inr (.inl fkx))), (ky, .inl (cJ, 64, .inr (.inl fky)))] (S := Int32 × (Nat → Int64) × (Nat → Int32) × (Nat → Int64)) (fun z u => ((lbad (arS fkx fky n n) limb → u.1 = 1) ∧ (¬ lbad (arS fkx fky n n) limb → u.1 = 0 ∧ z = lval (arS fkx fky n n) limb)) ∧ kept fw fs u.2.1 u.2.2.1) (fun u => [(o, .inr (4, [.int u.1, .ref wa, .ref sa, .ref ma, .ref tl, .ref gx, .ref gy, .ref tx, .ref tz, .int ln, .ref kx, .ref ky, .int (nI n), .int ah])), (wa, .inl (cJ, 96, .inr (.inl u.2.1))), (sa, .inl (cI, 16, .inl u.2.2.1)), (ma, .inl (cJ, 12, .inr (.inl u.2.2.2))), (kx, .inl (cJ, 64, .inr (.inl fkx))), (ky, .inl (cJ, 64, .inr (.inl fky)))]) := by
  refine Cl.of (by decide) ?_
  intro p e s m args below meth c A Q hB hret hP hD hA
  obtain ⟨hx, hb, hr, hlocks, hml, hown, hnm, hTB, hK⟩ := hB
  have hown : s.vm.findClass RX4 = some m.cls := hown
  have hS : va_S A s.heap s.heap [] := va_S.rf
  have hl := lv_entry ([.ref o, .int limb]) (n := 4) (Nat.le_of_ble_eq_true rfl)
  rw [lg_entry_eq]
  generalize (lg_sl ([.ref o, .int limb]) ++ List.replicate (4 - (lg_sl ([.ref o, .int limb])).length) Slot.unset).toArray = ls at hl ⊢
  have hl : lv_has ls 4 [(0, .ref o), (1, .int limb)] := hl
  refine lv_aload_n hx hb dX4_area2_0 rfl (lv_at hl 0 rfl) ?_
  refine lv_bipush (v := 11) hx hb dX4_area2_1 (by decide) ?_
  refine lv_lconst (v := 0) hx hb dX4_area2_3 (by decide) ?_
  refine fin_v (wr := [(ma, .inl (cJ, 12, .inr (.inl fm))), (kx, .inl (cJ, 64, .inr (.inl fkx))), (ky, .inl (cJ, 64, .inr (.inl fky)))]) (va_runV (As := [.int 11, .long 0]) (rest := []) ⟨hx, hb, hml, hown, hTB⟩ (c_X4_put l D cZ cI cJ o wa sa ma tl gx gy tx tz kx ky cd ln (nI n) ah fw fs 11 0 hlim (by decide) _) (cw_V hTB tb_6_21 tb_1_5 tb_6_18 tb_6_19 tb_6_20 nd_X4_put rfl rfl ⟨Nat.le_of_ble_eq_true rfl, Nat.le_of_ble_eq_true rfl⟩) (pre_V (q0 := 0) hK hP hD [0, 1, 2] rfl rfl rfl rfl) rfl rfl hl.1 rfl (lv_room (Nat.le_of_ble_eq_true rfl)) dX4_area2_4 ⟨Nat.le_of_ble_eq_true rfl, Nat.le_of_ble_eq_true rfl⟩) hP hD hS hA [0, 1, 2] [3, 4, 5] rfl rfl rfl (by decide) (fun u4 H locs hc4 hP hD hS => ?_)
  obtain ⟨g4, s4⟩ := u4
  dsimp only at hc4
  obtain ⟨up4, rfl⟩ := hc4
  have hP : va_P D vwCl [(ma, .inl (cJ, 12, .inr (.inl fm))), (kx, .inl (cJ, 64, .inr (.inl fkx))), (ky, .inl (cJ, 64, .inr (.inl fky))), (o, .inr (4, [.int cd, .ref wa, .ref sa, .ref ma, .ref tl, .ref gx, .ref gy, .ref tx, .ref tz, .int ln, .ref kx, .ref ky, .int (nI n), .int ah])), (wa, .inl (cJ, 96, .inr (.inl g4))), (sa, .inl (cI, 16, .inl (upd fs 11 (sg ((0 : Int64).toInt)))))] H := hP
  have hD : va_D A [(ma, .inl (cJ, 12, .inr (.inl fm))), (kx, .inl (cJ, 64, .inr (.inl fkx))), (ky, .inl (cJ, 64, .inr (.inl fky))), (o, .inr (4, [.int cd, .ref wa, .ref sa, .ref ma, .ref tl, .ref gx, .ref gy, .ref tx, .ref tz, .int ln, .ref kx, .ref ky, .int (nI n), .int ah])), (wa, .inl (cJ, 96, .inr (.inl g4))), (sa, .inl (cI, 16, .inl (upd fs 11 (sg ((0 : Int64).toInt)))))] := hD
  refine lv_iconst (v := 0) hx hb dX4_area2_7 (by decide) ?_
  refine lv_istore_n (lv' := [(2, .int 0), (0, .ref o), (1, .int limb)]) hx hb dX4_area2_8 rfl hl (by decide) rfl (fun ls hl => ?_)
  have L9 : ∀ (n9 : Nat) (k : Nat) (g : Nat → Int64) (s9 : Nat → Int32) (m9 : Nat → Int64), (n < k + n9 ∧ k ≤ n) → (n ≤ 2 → k = 0) → (hz g s9 11 (arS fkx fky n k)) → (kept fw fs g s9) → ∀ (H : Heap) (locs : List Loc), va_P D vwCl [(ma, .inl (cJ, 12, .inr (.inl m9))), (kx, .inl (cJ, 64, .inr (.inl fkx))), (ky, .inl (cJ, 64, .inr (.inl fky))), (o, .inr (4, [.int cd, .ref wa, .ref sa, .ref ma, .ref tl, .ref gx, .ref gy, .ref tx, .ref tz, .int ln, .ref kx, .ref ky, .int (nI n), .int ah])), (wa, .inl (cJ, 96, .inr (.inl g))), (sa, .inl (cI, 16, .inl s9))] H → va_D A [(ma, .inl (cJ, 12, .inr (.inl m9))), (kx, .inl (cJ, 64, .inr (.inl fkx))), (ky, .inl (cJ, 64, .inr (.inl fky))), (o, .inr (4, [.int cd, .ref wa, .ref sa, .ref ma, .ref tl, .ref gx, .ref gy, .ref tx, .ref tz, .int ln, .ref kx, .ref ky, .int (nI n), .int ah])), (wa, .inl (cJ, 96, .inr (.inl g))), (sa, .inl (cI, 16, .inl s9))] → va_S A s.heap H locs → ∀ (ls : Array Slot), lv_has ls 4 [(0, .ref o), (1, .int limb), (2, .int (nI k))] → W p l e { frames := 3, cells := 0, slots := 0, locals := 83 } s m args below meth c H locs 0 0 Q (F0 m 9 ls []) := by
    intro n9
    induction n9 with
    | zero =>
      intro k g s9 m9 g1 g2 g3 g4
      exfalso; omega
    | succ n9 ih9 =>
      intro k g s9 m9 g1 g2 g3 g4 H locs hP hD hS ls hl
      refine lv_iload_n hx hb dX4_area2_9 rfl (lv_at hl 2 rfl) ?_
      refine lv_aload_n hx hb dX4_area2_10 rfl (lv_at hl 0 rfl) ?_
      refine va_get (D := D) (ci := 4) (v := .int (nI n)) (C := RX4) (T := TX4) (N := 14) hx hb hTB tb_X4 hown hK.1 hP 3 rfl rfl 12 (by decide) (hTB _ tb_18_6) (fun _ h9 => h9) rfl dX4_area2_11 ?_
      refine lv_icmp_ge (tgt := 86) hx hb dX4_area2_14 (by decide) (fun c_14 => ?_) (fun c_14 => ?_)
      · have hAr : arS fkx fky n k = arS fkx fky n n := by rw [show k = n from (by have := (nI_leI (a := n) (b := k) (by omega) (by omega)).mp c_14; omega)]
        have bA := arS_bd hkb (Nat.le_refl n)
        rw [hAr] at g3
        refine lv_aload_n hx hb dX4_area2_86 rfl (lv_at hl 0 rfl) ?_
        refine lv_bipush (v := 11) hx hb dX4_area2_87 (by decide) ?_
        refine lv_iload_n hx hb dX4_area2_89 rfl (lv_at hl 1 rfl) ?_
        refine fin_l (wr := [(ma, .inl (cJ, 12, .inr (.inl m9))), (kx, .inl (cJ, 64, .inr (.inl fkx))), (ky, .inl (cJ, 64, .inr (.inl fky)))]) (va_runV (As := [.int 11, .int limb]) (rest := []) ⟨hx, hb, hml, hown, hTB⟩ (c_X4_limbOf l D cZ cI cJ o wa sa ma tl gx gy tx tz kx ky cd ln (nI n) ah g s9 11 limb (arS fkx fky n n) g4.1 (by decide) g3 (by omega) _) (cw_V hTB tb_17_13 tb_1_5 tb_17_10 tb_17_11 tb_17_12 nd_X4_limbOf rfl rfl ⟨Nat.le_of_ble_eq_true rfl, Nat.le_of_ble_eq_true rfl⟩) (pre_V (q0 := 3) hK hP hD [3, 4, 5] rfl rfl rfl rfl) rfl rfl hl.1 rfl (lv_room (Nat.le_of_ble_eq_true rfl)) dX4_area2_90 ⟨Nat.le_of_ble_eq_true rfl, Nat.le_of_ble_eq_true rfl⟩) hP hD hS hA [3, 4, 5] [0, 1, 2] rfl rfl rfl (by decide) (fun r90 u90 H locs hc90 hP hD hS => ?_)
        have hP : va_P D vwCl [(ma, .inl (cJ, 12, .inr (.inl m9))), (kx, .inl (cJ, 64, .inr (.inl fkx))), (ky, .inl (cJ, 64, .inr (.inl fky))), (o, .inr (4, [.int u90, .ref wa, .ref sa, .ref ma, .ref tl, .ref gx, .ref gy, .ref tx, .ref tz, .int ln, .ref kx, .ref ky, .int (nI n), .int ah])), (wa, .inl (cJ, 96, .inr (.inl g))), (sa, .inl (cI, 16, .inl s9))] H := hP
        have hD : va_D A [(ma, .inl (cJ, 12, .inr (.inl m9))), (kx, .inl (cJ, 64, .inr (.inl fkx))), (ky, .inl (cJ, 64, .inr (.inl fky))), (o, .inr (4, [.int u90, .ref wa, .ref sa, .ref ma, .ref tl, .ref gx, .ref gy, .ref tx, .ref tz, .int ln, .ref kx, .ref ky, .int (nI n), .int ah])), (wa, .inl (cJ, 96, .inr (.inl g))), (sa, .inl (cI, 16, .inl s9))] := hD
        exact hret hP hD hS (u90, g, s9, m9) (⟨hc90, g4⟩) [3, 4, 5, 0, 1, 2] rfl (by decide) dX4_area2_93 (Nat.le_of_ble_eq_true rfl) (Nat.le_of_ble_eq_true rfl)
      · have hk : k < n := Nat.not_le.mp (fun q => c_14 ((nI_leI (by omega) (by omega)).mpr q))
        have hj := nxt_lt hk
        refine lv_aload_n hx hb dX4_area2_17 rfl (lv_at hl 0 rfl) ?_
        refine va_get (D := D) (ci := 4) (v := .int (nI n)) (C := RX4) (T := TX4) (N := 14) hx hb hTB tb_X4 hown hK.1 hP 3 rfl rfl 12 (by decide) (hTB _ tb_18_6) (fun _ h9 => h9) rfl dX4_area2_18 ?_
        refine lv_iconst (v := 2) hx hb dX4_area2_21 (by decide) ?_
        refine lv_icmp_le (tgt := 86) hx hb dX4_area2_22 (by decide) (fun c_22 => ?_) (fun c_22 => ?_)
        · have hn2 : n ≤ 2 := (nI_leI (a := n) (b := 2) (by omega) (by omega)).mp c_22
          have hAr : arS fkx fky n k = arS fkx fky n n := by rw [g2 hn2, ar2 hn2]; rfl
          have bA := arS_bd hkb (Nat.le_refl n)
          rw [hAr] at g3
          refine lv_aload_n hx hb dX4_area2_86 rfl (lv_at hl 0 rfl) ?_
          refine lv_bipush (v := 11) hx hb dX4_area2_87 (by decide) ?_
          refine lv_iload_n hx hb dX4_area2_89 rfl (lv_at hl 1 rfl) ?_
          refine fin_l (wr := [(ma, .inl (cJ, 12, .inr (.inl m9))), (kx, .inl (cJ, 64, .inr (.inl fkx))), (ky, .inl (cJ, 64, .inr (.inl fky)))]) (va_runV (As := [.int 11, .int limb]) (rest := []) ⟨hx, hb, hml, hown, hTB⟩ (c_X4_limbOf l D cZ cI cJ o wa sa ma tl gx gy tx tz kx ky cd ln (nI n) ah g s9 11 limb (arS fkx fky n n) g4.1 (by decide) g3 (by omega) _) (cw_V hTB tb_17_13 tb_1_5 tb_17_10 tb_17_11 tb_17_12 nd_X4_limbOf rfl rfl ⟨Nat.le_of_ble_eq_true rfl, Nat.le_of_ble_eq_true rfl⟩) (pre_V (q0 := 3) hK hP hD [3, 4, 5] rfl rfl rfl rfl) rfl rfl hl.1 rfl (lv_room (Nat.le_of_ble_eq_true rfl)) dX4_area2_90 ⟨Nat.le_of_ble_eq_true rfl, Nat.le_of_ble_eq_true rfl⟩) hP hD hS hA [3, 4, 5] [0, 1, 2] rfl rfl rfl (by decide) (fun r90 u90 H locs hc90 hP hD hS => ?_)
          have hP : va_P D vwCl [(ma, .inl (cJ, 12, .inr (.inl m9))), (kx, .inl (cJ, 64, .inr (.inl fkx))), (ky, .inl (cJ, 64, .inr (.inl fky))), (o, .inr (4, [.int u90, .ref wa, .ref sa, .ref ma, .ref tl, .ref gx, .ref gy, .ref tx, .ref tz, .int ln, .ref kx, .ref ky, .int (nI n), .int ah])), (wa, .inl (cJ, 96, .inr (.inl g))), (sa, .inl (cI, 16, .inl s9))] H := hP
          have hD : va_D A [(ma, .inl (cJ, 12, .inr (.inl m9))), (kx, .inl (cJ, 64, .inr (.inl fkx))), (ky, .inl (cJ, 64, .inr (.inl fky))), (o, .inr (4, [.int u90, .ref wa, .ref sa, .ref ma, .ref tl, .ref gx, .ref gy, .ref tx, .ref tz, .int ln, .ref kx, .ref ky, .int (nI n), .int ah])), (wa, .inl (cJ, 96, .inr (.inl g))), (sa, .inl (cI, 16, .inl s9))] := hD
          exact hret hP hD hS (u90, g, s9, m9) (⟨hc90, g4⟩) [3, 4, 5, 0, 1, 2] rfl (by decide) dX4_area2_93 (Nat.le_of_ble_eq_true rfl) (Nat.le_of_ble_eq_true rfl)
        · have hn2 : ¬ n ≤ 2 := fun q => c_22 ((nI_leI (b := 2) (by omega) (by omega)).mpr q)
          have bA := arS_bd hkb (show k ≤ n by omega)
          have bS := sp_bd hkb hk
          refine lv_iload_n hx hb dX4_area2_25 rfl (lv_at hl 2 rfl) ?_
          refine lv_iconst (v := 1) hx hb dX4_area2_26 (by decide) ?_
          refine lv_iadd hx hb dX4_area2_27 ?_
          refine lv_aload_n hx hb dX4_area2_28 rfl (lv_at hl 0 rfl) ?_
          refine va_get (D := D) (ci := 4) (v := .int (nI n)) (C := RX4) (T := TX4) (N := 14) hx hb hTB tb_X4 hown hK.1 hP 3 rfl rfl 12 (by decide) (hTB _ tb_18_6) (fun _ h9 => h9) rfl dX4_area2_29 ?_
          refine lv_irem hx hb dX4_area2_32 (nI_ne0 (by omega) (by omega)) ?_
          rw [rem_nxt n (by omega) k hk]
          refine lv_istore_n (lv' := [(3, .int (nI (nxt k n))), (0, .ref o), (1, .int limb), (2, .int (nI k))]) hx hb dX4_area2_33 rfl hl (by decide) rfl (fun ls hl => ?_)
          refine lv_aload_n hx hb dX4_area2_34 rfl (lv_at hl 1 rfl) ?_
          refine lv_iconst (v := 5) hx hb dX4_area2_35 (by decide) ?_
          refine lv_aload_n hx hb dX4_area2_36 rfl (lv_at hl 1 rfl) ?_
          refine va_get (D := D) (ci := 4) (v := .ref kx) (C := RX4) (T := TX4) (N := 14) hx hb hTB tb_X4 hown hK.1 hP 3 rfl rfl 10 (by decide) (hTB _ tb_3_22) (fun _ h9 => h9) rfl dX4_area2_37 ?_
          refine lv_iload_n hx hb dX4_area2_40 rfl (lv_at hl 3 rfl) ?_
          refine va_lald (f := fkx) hx hb hK.1 hP 1 2 rfl rfl (vp_in_nI (show k < 64 by omega) (by decide)) dX4_area2_41 ?_
          rw [show (nI k).toNatClampNeg = k from nI_clamp (by omega)]
          refine lv_aload_n hx hb dX4_area2_42 rfl (lv_at hl 1 rfl) ?_
          refine va_get (D := D) (ci := 4) (v := .ref ky) (C := RX4) (T := TX4) (N := 14) hx hb hTB tb_X4 hown hK.1 hP 3 rfl rfl 11 (by decide) (hTB _ tb_3_23) (fun _ h9 => h9) rfl dX4_area2_43 ?_
          refine lv_iload_n hx hb dX4_area2_46 rfl (lv_at hl 3 rfl) ?_
          refine va_lald (f := fky) hx hb hK.1 hP 2 2 rfl rfl (vp_in_nI (show k < 64 by omega) (by decide)) dX4_area2_47 ?_
          rw [show (nI k).toNatClampNeg = k from nI_clamp (by omega)]
          refine lv_aload_n hx hb dX4_area2_48 rfl (lv_at hl 1 rfl) ?_
          refine va_get (D := D) (ci := 4) (v := .ref kx) (C := RX4) (T := TX4) (N := 14) hx hb hTB tb_X4 hown hK.1 hP 3 rfl rfl 10 (by decide) (hTB _ tb_3_22) (fun _ h9 => h9) rfl dX4_area2_49 ?_
          refine lv_iload_n hx hb dX4_area2_52 rfl (lv_at hl 0 rfl) ?_
          refine va_lald (f := fkx) hx hb hK.1 hP 1 2 rfl rfl (vp_in_nI (show nxt k n < 64 by omega) (by decide)) dX4_area2_53 ?_
          rw [show (nI (nxt k n)).toNatClampNeg = nxt k n from nI_clamp (by omega)]
          refine lv_aload_n hx hb dX4_area2_54 rfl (lv_at hl 1 rfl) ?_
          refine va_get (D := D) (ci := 4) (v := .ref ky) (C := RX4) (T := TX4) (N := 14) hx hb hTB tb_X4 hown hK.1 hP 3 rfl rfl 11 (by decide) (hTB _ tb_3_23) (fun _ h9 => h9) rfl dX4_area2_55 ?_
          refine lv_iload_n hx hb dX4_area2_58 rfl (lv_at hl 0 rfl) ?_
          refine va_lald (f := fky) hx hb hK.1 hP 2 2 rfl rfl (vp_in_nI (show nxt k n < 64 by omega) (by decide)) dX4_area2_59 ?_
          rw [show (nI (nxt k n)).toNatClampNeg = nxt k n from nI_clamp (by omega)]
          refine fin_v (wr := [(kx, .inl (cJ, 64, .inr (.inl fkx))), (ky, .inl (cJ, 64, .inr (.inl fky)))]) (va_runV (As := [.int 5, .long (fkx k), .long (fky k), .long (fkx (nxt k n)), .long (fky (nxt k n))]) (rest := []) ⟨hx, hb, hml, hown, hTB⟩ (c_X4_determinant l D cZ cI cJ o wa sa ma tl gx gy tx tz kx ky cd ln (nI n) ah g s9 m9 5 (fkx k) (fky k) (fkx (nxt k n)) (fky (nxt k n)) g4.1 (by decide) (by decide) _) (cw_V hTB tb_6_17 tb_1_5 tb_6_14 tb_6_15 tb_6_16 nd_X4_determinant rfl rfl ⟨Nat.le_of_ble_eq_true rfl, Nat.le_of_ble_eq_true rfl⟩) (pre_V (q0 := 3) hK hP hD [3, 4, 5, 0] rfl rfl rfl rfl) rfl rfl hl.1 rfl (lv_room (Nat.le_of_ble_eq_true rfl)) dX4_area2_60 ⟨Nat.le_of_ble_eq_true rfl, Nat.le_of_ble_eq_true rfl⟩) hP hD hS hA [3, 4, 5, 0] [1, 2] rfl rfl rfl (by decide) (fun u60 H locs hc60 hP hD hS => ?_)
          obtain ⟨g60, s60, m60⟩ := u60
          dsimp only at hc60
          obtain ⟨lm60, hz60, kp60⟩ := hc60
          have hP : va_P D vwCl [(kx, .inl (cJ, 64, .inr (.inl fkx))), (ky, .inl (cJ, 64, .inr (.inl fky))), (o, .inr (4, [.int cd, .ref wa, .ref sa, .ref ma, .ref tl, .ref gx, .ref gy, .ref tx, .ref tz, .int ln, .ref kx, .ref ky, .int (nI n), .int ah])), (wa, .inl (cJ, 96, .inr (.inl g60))), (sa, .inl (cI, 16, .inl s60)), (ma, .inl (cJ, 12, .inr (.inl m60)))] H := hP
          have hD : va_D A [(kx, .inl (cJ, 64, .inr (.inl fkx))), (ky, .inl (cJ, 64, .inr (.inl fky))), (o, .inr (4, [.int cd, .ref wa, .ref sa, .ref ma, .ref tl, .ref gx, .ref gy, .ref tx, .ref tz, .int ln, .ref kx, .ref ky, .int (nI n), .int ah])), (wa, .inl (cJ, 96, .inr (.inl g60))), (sa, .inl (cI, 16, .inl s60)), (ma, .inl (cJ, 12, .inr (.inl m60)))] := hD
          refine lv_aload_n hx hb dX4_area2_63 rfl (lv_at hl 1 rfl) ?_
          refine lv_bipush (v := 6) hx hb dX4_area2_64 (by decide) ?_
          refine lv_bipush (v := 11) hx hb dX4_area2_66 (by decide) ?_
          refine fin_v (wr := [(kx, .inl (cJ, 64, .inr (.inl fkx))), (ky, .inl (cJ, 64, .inr (.inl fky))), (ma, .inl (cJ, 12, .inr (.inl m60)))]) (va_runV (As := [.int 6, .int 11]) (rest := []) ⟨hx, hb, hml, hown, hTB⟩ (c_X4_copy l D cZ cI cJ o wa sa ma tl gx gy tx tz kx ky cd ln (nI n) ah g60 s60 6 11 lm60 (by decide) (by decide) (by decide) _) (cw_V hTB tb_13_17 tb_1_5 tb_13_14 tb_13_15 tb_13_16 nd_X4_copy rfl rfl ⟨Nat.le_of_ble_eq_true rfl, Nat.le_of_ble_eq_true rfl⟩) (pre_V (q0 := 2) hK hP hD [2, 3, 4] rfl rfl rfl rfl) rfl rfl hl.1 rfl (lv_room (Nat.le_of_ble_eq_true rfl)) dX4_area2_68 ⟨Nat.le_of_ble_eq_true rfl, Nat.le_of_ble_eq_true rfl⟩) hP hD hS hA [2, 3, 4] [0, 1, 5] rfl rfl rfl (by decide) (fun u68 H locs hc68 hP hD hS => ?_)
          obtain ⟨g68, s68⟩ := u68
          dsimp only at hc68
          obtain ⟨up68, rfl⟩ := hc68
          have hP : va_P D vwCl [(kx, .inl (cJ, 64, .inr (.inl fkx))), (ky, .inl (cJ, 64, .inr (.inl fky))), (ma, .inl (cJ, 12, .inr (.inl m60))), (o, .inr (4, [.int cd, .ref wa, .ref sa, .ref ma, .ref tl, .ref gx, .ref gy, .ref tx, .ref tz, .int ln, .ref kx, .ref ky, .int (nI n), .int ah])), (wa, .inl (cJ, 96, .inr (.inl g68))), (sa, .inl (cI, 16, .inl (upd s60 6 (s60 11))))] H := hP
          have hD : va_D A [(kx, .inl (cJ, 64, .inr (.inl fkx))), (ky, .inl (cJ, 64, .inr (.inl fky))), (ma, .inl (cJ, 12, .inr (.inl m60))), (o, .inr (4, [.int cd, .ref wa, .ref sa, .ref ma, .ref tl, .ref gx, .ref gy, .ref tx, .ref tz, .int ln, .ref kx, .ref ky, .int (nI n), .int ah])), (wa, .inl (cJ, 96, .inr (.inl g68))), (sa, .inl (cI, 16, .inl (upd s60 6 (s60 11))))] := hD
          refine lv_aload_n hx hb dX4_area2_71 rfl (lv_at hl 1 rfl) ?_
          refine lv_bipush (v := 11) hx hb dX4_area2_72 (by decide) ?_
          refine lv_bipush (v := 6) hx hb dX4_area2_74 (by decide) ?_
          refine lv_iconst (v := 5) hx hb dX4_area2_76 (by decide) ?_
          refine fin_v (wr := [(kx, .inl (cJ, 64, .inr (.inl fkx))), (ky, .inl (cJ, 64, .inr (.inl fky))), (ma, .inl (cJ, 12, .inr (.inl m60)))]) (va_runV (As := [.int 11, .int 6, .int 5]) (rest := []) ⟨hx, hb, hml, hown, hTB⟩ (c_X4_sum l D cZ cI cJ o wa sa ma tl gx gy tx tz kx ky cd ln (nI n) ah g68 (upd s60 6 (s60 11)) 11 6 5 (arS fkx fky n k) (spn (fkx k).toInt (fky k).toInt (fkx (nxt k n)).toInt (fky (nxt k n)).toInt) up68.1 (by decide) (by decide) (by decide) (by decide) (by decide) (⟨by rw [up68.2.1, (kp60 11 (by decide) (by decide) (by decide)).1]; exact g3.1, by rw [pk_us, (kp60 11 (by decide) (by decide) (by decide)).2]; exact g3.2⟩) (hz60.keep up68 (by decide)) (by omega) _) (cw_V hTB tb_7_6 tb_1_5 tb_7_3 tb_7_4 tb_7_5 nd_X4_sum rfl rfl ⟨Nat.le_of_ble_eq_true rfl, Nat.le_of_ble_eq_true rfl⟩) (pre_V (q0 := 3) hK hP hD [3, 4, 5] rfl rfl rfl rfl) rfl rfl hl.1 rfl (lv_room (Nat.le_of_ble_eq_true rfl)) dX4_area2_77 ⟨Nat.le_of_ble_eq_true rfl, Nat.le_of_ble_eq_true rfl⟩) hP hD hS hA [3, 4, 5] [0, 1, 2] rfl rfl rfl (by decide) (fun u77 H locs hc77 hP hD hS => ?_)
          obtain ⟨g77, s77⟩ := u77
          dsimp only at hc77
          obtain ⟨up77, rfl⟩ := hc77
          have hP : va_P D vwCl [(kx, .inl (cJ, 64, .inr (.inl fkx))), (ky, .inl (cJ, 64, .inr (.inl fky))), (ma, .inl (cJ, 12, .inr (.inl m60))), (o, .inr (4, [.int cd, .ref wa, .ref sa, .ref ma, .ref tl, .ref gx, .ref gy, .ref tx, .ref tz, .int ln, .ref kx, .ref ky, .int (nI n), .int ah])), (wa, .inl (cJ, 96, .inr (.inl g77))), (sa, .inl (cI, 16, .inl (upd (upd s60 6 (s60 11)) 11 (sg ((arS fkx fky n k) + (spn (fkx k).toInt (fky k).toInt (fkx (nxt k n)).toInt (fky (nxt k n)).toInt))))))] H := hP
          have hD : va_D A [(kx, .inl (cJ, 64, .inr (.inl fkx))), (ky, .inl (cJ, 64, .inr (.inl fky))), (ma, .inl (cJ, 12, .inr (.inl m60))), (o, .inr (4, [.int cd, .ref wa, .ref sa, .ref ma, .ref tl, .ref gx, .ref gy, .ref tx, .ref tz, .int ln, .ref kx, .ref ky, .int (nI n), .int ah])), (wa, .inl (cJ, 96, .inr (.inl g77))), (sa, .inl (cI, 16, .inl (upd (upd s60 6 (s60 11)) 11 (sg ((arS fkx fky n k) + (spn (fkx k).toInt (fky k).toInt (fkx (nxt k n)).toInt (fky (nxt k n)).toInt))))))] := hD
          obtain ⟨i2_1, ei2_1⟩ : ∃ y : Int32, y = (nI k) + 1 := ⟨_, rfl⟩
          refine lv_iinc (v := i2_1) (lv' := [(2, .int i2_1), (3, .int (nI (nxt k n))), (0, .ref o), (1, .int limb)]) hx hb dX4_area2_80 hl (k := 3) rfl (by rw [ei2_1]; rfl) (by decide) rfl (fun ls hl => ?_)
          refine lv_goto (tgt := 9) hx hb dX4_area2_83 (by decide) ?_
          have q2 : i2_1 = nI (k + 1) := by rw [ei2_1]; exact nI_1 k
          subst q2
          refine ih9 (k + 1) g77 (upd (upd s60 6 (s60 11)) 11 (sg ((arS fkx fky n k) + (spn (fkx k).toInt (fky k).toInt (fkx (nxt k n)).toInt (fky (nxt k n)).toInt)))) m60 ?_ ?_ ?_ ?_ _ _ (hP.sub [2, 0, 1, 3, 4, 5] rfl) (hD.sub [2, 0, 1, 3, 4, 5] (by decide) rfl) hS _ (lv_sub hl [2, 3, 0] rfl)
          · omega
          · omega
          · rw [arS_s]; exact hz.new up77
          · exact ((g4.ca lm60 (fun e h1 h2 => kp60 e h1 (by omega) (by omega))).up up68 (by decide)).up up77 (by decide)
  refine L9 (n + 1) 0 g4 (upd fs 11 (sg ((0 : Int64).toInt))) fm ?_ ?_ ?_ ?_ _ _ hP hD hS _ (lv_sub hl [1, 2, 0] rfl)
  · omega
  · omega
  · exact hz.new (z := 0) up4
  · exact (kept.rf hlim).up up4 (by decide)
