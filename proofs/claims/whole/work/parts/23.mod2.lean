set_option maxHeartbeats 4000000 in
set_option maxRecDepth 100000 in
theorem c_X4_determinant (l : Launch) (D : va_G) (cZ cI cJ : ClassId) (o wa sa ma tl gx gy tx tz kx ky : Nat) (cd ln cn ah : Int32) (fw : Nat → Int64) (fs : Nat → Int32) (fm : Nat → Int64) (d : Nat) (vp vq vr vs : Int64) (hlim : lim fw) (hd : d < 16) (hd3 : 3 < d) : Cv l D cZ cI cJ yX4_determinant cX4_determinant 10 { frames := 2, cells := 0, slots := 0, locals := 54 } [.ref o, .int (nI d), .long vp, .long vq, .long vr, .long vs] [(o, .inr (4, [.int cd, .ref wa, .ref sa, .ref ma, .ref tl, .ref gx, .ref gy, .ref tx, .ref tz, .int ln, .ref kx, .ref ky, .int cn, .int ah])), (wa, .inl (cJ, 96, .inr (.inl fw))), (sa, .inl (cI, 16, .inl fs)), (ma, .inl (cJ, 12, .inr (.inl fm)))] (S := (Nat → Int64) × (Nat → Int32) × (Nat → Int64)) (fun u => lim u.1 ∧ hz u.1 u.2.1 d (spn vp.toInt vq.toInt vr.toInt vs.toInt) ∧ ∀ e, e < 16 → 3 < e → e ≠ d → num u.1 e = num fw e ∧ u.2.1 e = fs e) (fun u => [(o, .inr (4, [.int cd, .ref wa, .ref sa, .ref ma, .ref tl, .ref gx, .ref gy, .ref tx, .ref tz, .int ln, .ref kx, .ref ky, .int cn, .int ah])), (wa, .inl (cJ, 96, .inr (.inl u.1))), (sa, .inl (cI, 16, .inl u.2.1)), (ma, .inl (cJ, 12, .inr (.inl u.2.2)))]) := by
  refine Cv.of (by decide) ?_
  intro p e s m args below meth c A Q hB hret hP hD hA
  obtain ⟨hx, hb, hr, hlocks, hml, hown, hnm, hTB, hK⟩ := hB
  have hown : s.vm.findClass RX4 = some m.cls := hown
  have hS : va_S A s.heap s.heap [] := va_S.rf
  have hl := lv_entry ([.ref o, .int (nI d), .long vp, .long vq, .long vr, .long vs]) (n := 10) (Nat.le_of_ble_eq_true rfl)
  rw [lg_entry_eq]
  generalize (lg_sl ([.ref o, .int (nI d), .long vp, .long vq, .long vr, .long vs]) ++ List.replicate (10 - (lg_sl ([.ref o, .int (nI d), .long vp, .long vq, .long vr, .long vs])).length) Slot.unset).toArray = ls at hl ⊢
  have hl : lv_has ls 10 [(0, .ref o), (1, .int (nI d)), (2, .long vp), (4, .long vq), (6, .long vr), (8, .long vs)] := hl
  refine lv_aload_n hx hb dX4_determinant_0 rfl (lv_at hl 0 rfl) ?_
  refine lv_iconst (v := 0) hx hb dX4_determinant_1 (by decide) ?_
  refine lv_lload_n hx hb dX4_determinant_2 rfl (lv_at hl 2 rfl) ?_
  refine fin_v (wr := [(ma, .inl (cJ, 12, .inr (.inl fm)))]) (va_runV (As := [.int 0, .long vp]) (rest := []) ⟨hx, hb, hml, hown, hTB⟩ (c_X4_put l D cZ cI cJ o wa sa ma tl gx gy tx tz kx ky cd ln cn ah fw fs 0 vp hlim (by decide) _) (cw_V hTB tb_6_21 tb_1_5 tb_6_18 tb_6_19 tb_6_20 nd_X4_put rfl rfl ⟨Nat.le_of_ble_eq_true rfl, Nat.le_of_ble_eq_true rfl⟩) (pre_V (q0 := 0) hK hP hD [0, 1, 2] rfl rfl rfl rfl) rfl rfl hl.1 rfl (lv_room (Nat.le_of_ble_eq_true rfl)) dX4_determinant_3 ⟨Nat.le_of_ble_eq_true rfl, Nat.le_of_ble_eq_true rfl⟩) hP hD hS hA [0, 1, 2] [3] rfl rfl rfl (by decide) (fun u3 H locs hc3 hP hD hS => ?_)
  obtain ⟨g3, s3⟩ := u3
  dsimp only at hc3
  obtain ⟨up3, rfl⟩ := hc3
  have hP : va_P D vwCl [(ma, .inl (cJ, 12, .inr (.inl fm))), (o, .inr (4, [.int cd, .ref wa, .ref sa, .ref ma, .ref tl, .ref gx, .ref gy, .ref tx, .ref tz, .int ln, .ref kx, .ref ky, .int cn, .int ah])), (wa, .inl (cJ, 96, .inr (.inl g3))), (sa, .inl (cI, 16, .inl (upd fs 0 (sg (vp.toInt)))))] H := hP
  have hD : va_D A [(ma, .inl (cJ, 12, .inr (.inl fm))), (o, .inr (4, [.int cd, .ref wa, .ref sa, .ref ma, .ref tl, .ref gx, .ref gy, .ref tx, .ref tz, .int ln, .ref kx, .ref ky, .int cn, .int ah])), (wa, .inl (cJ, 96, .inr (.inl g3))), (sa, .inl (cI, 16, .inl (upd fs 0 (sg (vp.toInt)))))] := hD
  refine lv_aload_n hx hb dX4_determinant_6 rfl (lv_at hl 0 rfl) ?_
  refine lv_iconst (v := 1) hx hb dX4_determinant_7 (by decide) ?_
  refine lv_lload hx hb dX4_determinant_8 (lv_at hl 5 rfl) ?_
  refine fin_v (wr := [(ma, .inl (cJ, 12, .inr (.inl fm)))]) (va_runV (As := [.int 1, .long vs]) (rest := []) ⟨hx, hb, hml, hown, hTB⟩ (c_X4_put l D cZ cI cJ o wa sa ma tl gx gy tx tz kx ky cd ln cn ah g3 (upd fs 0 (sg (vp.toInt))) 1 vs up3.1 (by decide) _) (cw_V hTB tb_6_21 tb_1_5 tb_6_18 tb_6_19 tb_6_20 nd_X4_put rfl rfl ⟨Nat.le_of_ble_eq_true rfl, Nat.le_of_ble_eq_true rfl⟩) (pre_V (q0 := 1) hK hP hD [1, 2, 3] rfl rfl rfl rfl) rfl rfl hl.1 rfl (lv_room (Nat.le_of_ble_eq_true rfl)) dX4_determinant_10 ⟨Nat.le_of_ble_eq_true rfl, Nat.le_of_ble_eq_true rfl⟩) hP hD hS hA [1, 2, 3] [0] rfl rfl rfl (by decide) (fun u10 H locs hc10 hP hD hS => ?_)
  obtain ⟨g10, s10⟩ := u10
  dsimp only at hc10
  obtain ⟨up10, rfl⟩ := hc10
  have hP : va_P D vwCl [(ma, .inl (cJ, 12, .inr (.inl fm))), (o, .inr (4, [.int cd, .ref wa, .ref sa, .ref ma, .ref tl, .ref gx, .ref gy, .ref tx, .ref tz, .int ln, .ref kx, .ref ky, .int cn, .int ah])), (wa, .inl (cJ, 96, .inr (.inl g10))), (sa, .inl (cI, 16, .inl (upd (upd fs 0 (sg (vp.toInt))) 1 (sg (vs.toInt)))))] H := hP
  have hD : va_D A [(ma, .inl (cJ, 12, .inr (.inl fm))), (o, .inr (4, [.int cd, .ref wa, .ref sa, .ref ma, .ref tl, .ref gx, .ref gy, .ref tx, .ref tz, .int ln, .ref kx, .ref ky, .int cn, .int ah])), (wa, .inl (cJ, 96, .inr (.inl g10))), (sa, .inl (cI, 16, .inl (upd (upd fs 0 (sg (vp.toInt))) 1 (sg (vs.toInt)))))] := hD
  refine lv_aload_n hx hb dX4_determinant_13 rfl (lv_at hl 0 rfl) ?_
  refine lv_iconst (v := 2) hx hb dX4_determinant_14 (by decide) ?_
  refine lv_iconst (v := 0) hx hb dX4_determinant_15 (by decide) ?_
  refine lv_iconst (v := 1) hx hb dX4_determinant_16 (by decide) ?_
  refine fin_v (wr := []) (va_runV (As := [.int 2, .int 0, .int 1]) (rest := []) ⟨hx, hb, hml, hown, hTB⟩ (c_X4_times l D cZ cI cJ o wa sa ma tl gx gy tx tz kx ky cd ln cn ah g10 (upd (upd fs 0 (sg (vp.toInt))) 1 (sg (vs.toInt))) fm 2 0 1 vp.toInt vs.toInt up10.1 (by decide) (by decide) (by decide) ((hz.new up3).keep up10 (by decide)) (hz.new up10) (by have := p63 (x := vp) (y := vs); omega) _) (cw_V hTB tb_7_2 tb_1_5 tb_6_23 tb_7_0 tb_7_1 nd_X4_times rfl rfl ⟨Nat.le_of_ble_eq_true rfl, Nat.le_of_ble_eq_true rfl⟩) (pre_V (q0 := 1) hK hP hD [1, 2, 3, 0] rfl rfl rfl rfl) rfl rfl hl.1 rfl (lv_room (Nat.le_of_ble_eq_true rfl)) dX4_determinant_17 ⟨Nat.le_of_ble_eq_true rfl, Nat.le_of_ble_eq_true rfl⟩) hP hD hS hA [1, 2, 3, 0] [] rfl rfl rfl (by decide) (fun u17 H locs hc17 hP hD hS => ?_)
  obtain ⟨g17, s17, m17⟩ := u17
  dsimp only at hc17
  obtain ⟨up17, rfl⟩ := hc17
  have hP : va_P D vwCl [(o, .inr (4, [.int cd, .ref wa, .ref sa, .ref ma, .ref tl, .ref gx, .ref gy, .ref tx, .ref tz, .int ln, .ref kx, .ref ky, .int cn, .int ah])), (wa, .inl (cJ, 96, .inr (.inl g17))), (sa, .inl (cI, 16, .inl (upd (upd (upd fs 0 (sg (vp.toInt))) 1 (sg (vs.toInt))) 2 (sg (vp.toInt * vs.toInt))))), (ma, .inl (cJ, 12, .inr (.inl m17)))] H := hP
  have hD : va_D A [(o, .inr (4, [.int cd, .ref wa, .ref sa, .ref ma, .ref tl, .ref gx, .ref gy, .ref tx, .ref tz, .int ln, .ref kx, .ref ky, .int cn, .int ah])), (wa, .inl (cJ, 96, .inr (.inl g17))), (sa, .inl (cI, 16, .inl (upd (upd (upd fs 0 (sg (vp.toInt))) 1 (sg (vs.toInt))) 2 (sg (vp.toInt * vs.toInt))))), (ma, .inl (cJ, 12, .inr (.inl m17)))] := hD
  refine lv_aload_n hx hb dX4_determinant_20 rfl (lv_at hl 0 rfl) ?_
  refine lv_iconst (v := 0) hx hb dX4_determinant_21 (by decide) ?_
  refine lv_lload hx hb dX4_determinant_22 (lv_at hl 3 rfl) ?_
  refine fin_v (wr := [(ma, .inl (cJ, 12, .inr (.inl m17)))]) (va_runV (As := [.int 0, .long vq]) (rest := []) ⟨hx, hb, hml, hown, hTB⟩ (c_X4_put l D cZ cI cJ o wa sa ma tl gx gy tx tz kx ky cd ln cn ah g17 (upd (upd (upd fs 0 (sg (vp.toInt))) 1 (sg (vs.toInt))) 2 (sg (vp.toInt * vs.toInt))) 0 vq up17.1 (by decide) _) (cw_V hTB tb_6_21 tb_1_5 tb_6_18 tb_6_19 tb_6_20 nd_X4_put rfl rfl ⟨Nat.le_of_ble_eq_true rfl, Nat.le_of_ble_eq_true rfl⟩) (pre_V (q0 := 0) hK hP hD [0, 1, 2] rfl rfl rfl rfl) rfl rfl hl.1 rfl (lv_room (Nat.le_of_ble_eq_true rfl)) dX4_determinant_24 ⟨Nat.le_of_ble_eq_true rfl, Nat.le_of_ble_eq_true rfl⟩) hP hD hS hA [0, 1, 2] [3] rfl rfl rfl (by decide) (fun u24 H locs hc24 hP hD hS => ?_)
  obtain ⟨g24, s24⟩ := u24
  dsimp only at hc24
  obtain ⟨up24, rfl⟩ := hc24
  have hP : va_P D vwCl [(ma, .inl (cJ, 12, .inr (.inl m17))), (o, .inr (4, [.int cd, .ref wa, .ref sa, .ref ma, .ref tl, .ref gx, .ref gy, .ref tx, .ref tz, .int ln, .ref kx, .ref ky, .int cn, .int ah])), (wa, .inl (cJ, 96, .inr (.inl g24))), (sa, .inl (cI, 16, .inl (upd (upd (upd (upd fs 0 (sg (vp.toInt))) 1 (sg (vs.toInt))) 2 (sg (vp.toInt * vs.toInt))) 0 (sg (vq.toInt)))))] H := hP
  have hD : va_D A [(ma, .inl (cJ, 12, .inr (.inl m17))), (o, .inr (4, [.int cd, .ref wa, .ref sa, .ref ma, .ref tl, .ref gx, .ref gy, .ref tx, .ref tz, .int ln, .ref kx, .ref ky, .int cn, .int ah])), (wa, .inl (cJ, 96, .inr (.inl g24))), (sa, .inl (cI, 16, .inl (upd (upd (upd (upd fs 0 (sg (vp.toInt))) 1 (sg (vs.toInt))) 2 (sg (vp.toInt * vs.toInt))) 0 (sg (vq.toInt)))))] := hD
  refine lv_aload_n hx hb dX4_determinant_27 rfl (lv_at hl 0 rfl) ?_
  refine lv_iconst (v := 1) hx hb dX4_determinant_28 (by decide) ?_
  refine lv_lload hx hb dX4_determinant_29 (lv_at hl 4 rfl) ?_
  refine fin_v (wr := [(ma, .inl (cJ, 12, .inr (.inl m17)))]) (va_runV (As := [.int 1, .long vr]) (rest := []) ⟨hx, hb, hml, hown, hTB⟩ (c_X4_put l D cZ cI cJ o wa sa ma tl gx gy tx tz kx ky cd ln cn ah g24 (upd (upd (upd (upd fs 0 (sg (vp.toInt))) 1 (sg (vs.toInt))) 2 (sg (vp.toInt * vs.toInt))) 0 (sg (vq.toInt))) 1 vr up24.1 (by decide) _) (cw_V hTB tb_6_21 tb_1_5 tb_6_18 tb_6_19 tb_6_20 nd_X4_put rfl rfl ⟨Nat.le_of_ble_eq_true rfl, Nat.le_of_ble_eq_true rfl⟩) (pre_V (q0 := 1) hK hP hD [1, 2, 3] rfl rfl rfl rfl) rfl rfl hl.1 rfl (lv_room (Nat.le_of_ble_eq_true rfl)) dX4_determinant_31 ⟨Nat.le_of_ble_eq_true rfl, Nat.le_of_ble_eq_true rfl⟩) hP hD hS hA [1, 2, 3] [0] rfl rfl rfl (by decide) (fun u31 H locs hc31 hP hD hS => ?_)
  obtain ⟨g31, s31⟩ := u31
  dsimp only at hc31
  obtain ⟨up31, rfl⟩ := hc31
  have hP : va_P D vwCl [(ma, .inl (cJ, 12, .inr (.inl m17))), (o, .inr (4, [.int cd, .ref wa, .ref sa, .ref ma, .ref tl, .ref gx, .ref gy, .ref tx, .ref tz, .int ln, .ref kx, .ref ky, .int cn, .int ah])), (wa, .inl (cJ, 96, .inr (.inl g31))), (sa, .inl (cI, 16, .inl (upd (upd (upd (upd (upd fs 0 (sg (vp.toInt))) 1 (sg (vs.toInt))) 2 (sg (vp.toInt * vs.toInt))) 0 (sg (vq.toInt))) 1 (sg (vr.toInt)))))] H := hP
  have hD : va_D A [(ma, .inl (cJ, 12, .inr (.inl m17))), (o, .inr (4, [.int cd, .ref wa, .ref sa, .ref ma, .ref tl, .ref gx, .ref gy, .ref tx, .ref tz, .int ln, .ref kx, .ref ky, .int cn, .int ah])), (wa, .inl (cJ, 96, .inr (.inl g31))), (sa, .inl (cI, 16, .inl (upd (upd (upd (upd (upd fs 0 (sg (vp.toInt))) 1 (sg (vs.toInt))) 2 (sg (vp.toInt * vs.toInt))) 0 (sg (vq.toInt))) 1 (sg (vr.toInt)))))] := hD
  refine lv_aload_n hx hb dX4_determinant_34 rfl (lv_at hl 0 rfl) ?_
  refine lv_iconst (v := 3) hx hb dX4_determinant_35 (by decide) ?_
  refine lv_iconst (v := 0) hx hb dX4_determinant_36 (by decide) ?_
  refine lv_iconst (v := 1) hx hb dX4_determinant_37 (by decide) ?_
  refine fin_v (wr := []) (va_runV (As := [.int 3, .int 0, .int 1]) (rest := []) ⟨hx, hb, hml, hown, hTB⟩ (c_X4_times l D cZ cI cJ o wa sa ma tl gx gy tx tz kx ky cd ln cn ah g31 (upd (upd (upd (upd (upd fs 0 (sg (vp.toInt))) 1 (sg (vs.toInt))) 2 (sg (vp.toInt * vs.toInt))) 0 (sg (vq.toInt))) 1 (sg (vr.toInt))) m17 3 0 1 vq.toInt vr.toInt up31.1 (by decide) (by decide) (by decide) ((hz.new up24).keep up31 (by decide)) (hz.new up31) (by have := p63 (x := vq) (y := vr); omega) _) (cw_V hTB tb_7_2 tb_1_5 tb_6_23 tb_7_0 tb_7_1 nd_X4_times rfl rfl ⟨Nat.le_of_ble_eq_true rfl, Nat.le_of_ble_eq_true rfl⟩) (pre_V (q0 := 1) hK hP hD [1, 2, 3, 0] rfl rfl rfl rfl) rfl rfl hl.1 rfl (lv_room (Nat.le_of_ble_eq_true rfl)) dX4_determinant_38 ⟨Nat.le_of_ble_eq_true rfl, Nat.le_of_ble_eq_true rfl⟩) hP hD hS hA [1, 2, 3, 0] [] rfl rfl rfl (by decide) (fun u38 H locs hc38 hP hD hS => ?_)
  obtain ⟨g38, s38, m38⟩ := u38
  dsimp only at hc38
  obtain ⟨up38, rfl⟩ := hc38
  have hP : va_P D vwCl [(o, .inr (4, [.int cd, .ref wa, .ref sa, .ref ma, .ref tl, .ref gx, .ref gy, .ref tx, .ref tz, .int ln, .ref kx, .ref ky, .int cn, .int ah])), (wa, .inl (cJ, 96, .inr (.inl g38))), (sa, .inl (cI, 16, .inl (upd (upd (upd (upd (upd (upd fs 0 (sg (vp.toInt))) 1 (sg (vs.toInt))) 2 (sg (vp.toInt * vs.toInt))) 0 (sg (vq.toInt))) 1 (sg (vr.toInt))) 3 (sg (vq.toInt * vr.toInt))))), (ma, .inl (cJ, 12, .inr (.inl m38)))] H := hP
  have hD : va_D A [(o, .inr (4, [.int cd, .ref wa, .ref sa, .ref ma, .ref tl, .ref gx, .ref gy, .ref tx, .ref tz, .int ln, .ref kx, .ref ky, .int cn, .int ah])), (wa, .inl (cJ, 96, .inr (.inl g38))), (sa, .inl (cI, 16, .inl (upd (upd (upd (upd (upd (upd fs 0 (sg (vp.toInt))) 1 (sg (vs.toInt))) 2 (sg (vp.toInt * vs.toInt))) 0 (sg (vq.toInt))) 1 (sg (vr.toInt))) 3 (sg (vq.toInt * vr.toInt))))), (ma, .inl (cJ, 12, .inr (.inl m38)))] := hD
  refine lv_aload_n hx hb dX4_determinant_41 rfl (lv_at hl 0 rfl) ?_
  refine va_get (D := D) (ci := 4) (v := .ref sa) (C := RX4) (T := TX4) (N := 14) hx hb hTB tb_X4 hown hK.1 hP 0 rfl rfl 2 (by decide) (hTB _ tb_3_15) (fun _ h9 => h9) rfl dX4_determinant_42 ?_
  refine lv_iconst (v := 3) hx hb dX4_determinant_45 (by decide) ?_
  refine lv_aload_n hx hb dX4_determinant_46 rfl (lv_at hl 0 rfl) ?_
  refine va_get (D := D) (ci := 4) (v := .ref sa) (C := RX4) (T := TX4) (N := 14) hx hb hTB tb_X4 hown hK.1 hP 0 rfl rfl 2 (by decide) (hTB _ tb_3_15) (fun _ h9 => h9) rfl dX4_determinant_47 ?_
  refine lv_iconst (v := 3) hx hb dX4_determinant_50 (by decide) ?_
  refine va_iald (f := (upd (upd (upd (upd (upd (upd fs 0 (sg (vp.toInt))) 1 (sg (vs.toInt))) 2 (sg (vp.toInt * vs.toInt))) 0 (sg (vq.toInt))) 1 (sg (vr.toInt))) 3 (sg (vq.toInt * vr.toInt)))) hx hb hK.1 hP 2 1 rfl rfl (vp_in_nI (n := 3) (by decide) (by decide)) dX4_determinant_51 ?_
  rw [show (3 : Int32).toNatClampNeg = 3 from rfl]
  refine lv_ineg hx hb dX4_determinant_52 ?_
  rw [pk_us]
  refine va_iast (f := (upd (upd (upd (upd (upd (upd fs 0 (sg (vp.toInt))) 1 (sg (vs.toInt))) 2 (sg (vp.toInt * vs.toInt))) 0 (sg (vq.toInt))) 1 (sg (vr.toInt))) 3 (sg (vq.toInt * vr.toInt)))) hx hb hK.1 hP hD hS 2 1 rfl rfl (vp_in_nI (n := 3) (by decide) (by decide)) dX4_determinant_53 (fun H locs hP hD hS => ?_)
  rw [show (3 : Int32).toNatClampNeg = 3 from rfl] at hP hD
  have hP : va_P D vwCl [(o, .inr (4, [.int cd, .ref wa, .ref sa, .ref ma, .ref tl, .ref gx, .ref gy, .ref tx, .ref tz, .int ln, .ref kx, .ref ky, .int cn, .int ah])), (wa, .inl (cJ, 96, .inr (.inl g38))), (sa, .inl (cI, 16, .inl (upd (upd (upd (upd (upd (upd (upd fs 0 (sg (vp.toInt))) 1 (sg (vs.toInt))) 2 (sg (vp.toInt * vs.toInt))) 0 (sg (vq.toInt))) 1 (sg (vr.toInt))) 3 (sg (vq.toInt * vr.toInt))) 3 (-(sg (vq.toInt * vr.toInt)))))), (ma, .inl (cJ, 12, .inr (.inl m38)))] H := hP
  have hD : va_D A [(o, .inr (4, [.int cd, .ref wa, .ref sa, .ref ma, .ref tl, .ref gx, .ref gy, .ref tx, .ref tz, .int ln, .ref kx, .ref ky, .int cn, .int ah])), (wa, .inl (cJ, 96, .inr (.inl g38))), (sa, .inl (cI, 16, .inl (upd (upd (upd (upd (upd (upd (upd fs 0 (sg (vp.toInt))) 1 (sg (vs.toInt))) 2 (sg (vp.toInt * vs.toInt))) 0 (sg (vq.toInt))) 1 (sg (vr.toInt))) 3 (sg (vq.toInt * vr.toInt))) 3 (-(sg (vq.toInt * vr.toInt)))))), (ma, .inl (cJ, 12, .inr (.inl m38)))] := hD
  have hz2 := ((((hz.new (s := upd (upd fs 0 (sg vp.toInt)) 1 (sg vs.toInt)) up17).keep up24 (v := sg vq.toInt) (by decide)).keep up31 (v := sg vr.toInt) (by decide)).keep up38 (v := sg (vq.toInt * vr.toInt)) (by decide)).sgn (v := -(sg (vq.toInt * vr.toInt))) (show 2 ≠ 3 by decide)
  have hz3 := hz_neg (hz.new (s := upd (upd (upd (upd (upd fs 0 (sg vp.toInt)) 1 (sg vs.toInt)) 2 (sg (vp.toInt * vs.toInt))) 0 (sg vq.toInt)) 1 (sg vr.toInt)) up38)
  rw [pk_us] at hz3
  refine lv_aload_n hx hb dX4_determinant_54 rfl (lv_at hl 0 rfl) ?_
  refine lv_iload_n hx hb dX4_determinant_55 rfl (lv_at hl 1 rfl) ?_
  refine lv_iconst (v := 2) hx hb dX4_determinant_56 (by decide) ?_
  refine lv_iconst (v := 3) hx hb dX4_determinant_57 (by decide) ?_
  refine fin_v (wr := [(ma, .inl (cJ, 12, .inr (.inl m38)))]) (va_runV (As := [.int (nI d), .int 2, .int 3]) (rest := []) ⟨hx, hb, hml, hown, hTB⟩ (c_X4_sum l D cZ cI cJ o wa sa ma tl gx gy tx tz kx ky cd ln cn ah g38 (upd (upd (upd (upd (upd (upd (upd fs 0 (sg (vp.toInt))) 1 (sg (vs.toInt))) 2 (sg (vp.toInt * vs.toInt))) 0 (sg (vq.toInt))) 1 (sg (vr.toInt))) 3 (sg (vq.toInt * vr.toInt))) 3 (-(sg (vq.toInt * vr.toInt)))) d 2 3 (vp.toInt * vs.toInt) (-(vq.toInt * vr.toInt)) up38.1 hd (by decide) (by decide) (by omega) (by omega) hz2 hz3 (by have := p63 (x := vq) (y := vr); have := p63 (x := vp) (y := vs); omega) _) (cw_V hTB tb_7_6 tb_1_5 tb_7_3 tb_7_4 tb_7_5 nd_X4_sum rfl rfl ⟨Nat.le_of_ble_eq_true rfl, Nat.le_of_ble_eq_true rfl⟩) (pre_V (q0 := 0) hK hP hD [0, 1, 2] rfl rfl rfl rfl) rfl rfl hl.1 rfl (lv_room (Nat.le_of_ble_eq_true rfl)) dX4_determinant_58 ⟨Nat.le_of_ble_eq_true rfl, Nat.le_of_ble_eq_true rfl⟩) hP hD hS hA [0, 1, 2] [3] rfl rfl rfl (by decide) (fun u58 H locs hc58 hP hD hS => ?_)
  obtain ⟨g58, s58⟩ := u58
  dsimp only at hc58
  obtain ⟨up58, rfl⟩ := hc58
  have hP : va_P D vwCl [(ma, .inl (cJ, 12, .inr (.inl m38))), (o, .inr (4, [.int cd, .ref wa, .ref sa, .ref ma, .ref tl, .ref gx, .ref gy, .ref tx, .ref tz, .int ln, .ref kx, .ref ky, .int cn, .int ah])), (wa, .inl (cJ, 96, .inr (.inl g58))), (sa, .inl (cI, 16, .inl (upd (upd (upd (upd (upd (upd (upd (upd fs 0 (sg (vp.toInt))) 1 (sg (vs.toInt))) 2 (sg (vp.toInt * vs.toInt))) 0 (sg (vq.toInt))) 1 (sg (vr.toInt))) 3 (sg (vq.toInt * vr.toInt))) 3 (-(sg (vq.toInt * vr.toInt)))) d (sg ((vp.toInt * vs.toInt) + (-(vq.toInt * vr.toInt)))))))] H := hP
  have hD : va_D A [(ma, .inl (cJ, 12, .inr (.inl m38))), (o, .inr (4, [.int cd, .ref wa, .ref sa, .ref ma, .ref tl, .ref gx, .ref gy, .ref tx, .ref tz, .int ln, .ref kx, .ref ky, .int cn, .int ah])), (wa, .inl (cJ, 96, .inr (.inl g58))), (sa, .inl (cI, 16, .inl (upd (upd (upd (upd (upd (upd (upd (upd fs 0 (sg (vp.toInt))) 1 (sg (vs.toInt))) 2 (sg (vp.toInt * vs.toInt))) 0 (sg (vq.toInt))) 1 (sg (vr.toInt))) 3 (sg (vq.toInt * vr.toInt))) 3 (-(sg (vq.toInt * vr.toInt)))) d (sg ((vp.toInt * vs.toInt) + (-(vq.toInt * vr.toInt)))))))] := hD
  exact hret hP hD hS (g58, upd (upd (upd (upd (upd (upd (upd (upd fs 0 (sg (vp.toInt))) 1 (sg (vs.toInt))) 2 (sg (vp.toInt * vs.toInt))) 0 (sg (vq.toInt))) 1 (sg (vr.toInt))) 3 (sg (vq.toInt * vr.toInt))) 3 (-(sg (vq.toInt * vr.toInt)))) d (sg ((vp.toInt * vs.toInt) + (-(vq.toInt * vr.toInt)))), m38) (⟨up58.1, (by have h := hz.new (s := upd (upd (upd (upd (upd (upd (upd fs 0 (sg vp.toInt)) 1 (sg vs.toInt)) 2 (sg (vp.toInt * vs.toInt))) 0 (sg vq.toInt)) 1 (sg vr.toInt)) 3 (sg (vq.toInt * vr.toInt))) 3 (-(sg (vq.toInt * vr.toInt)))) up58; unfold spn; rw [Int.sub_eq_add_neg]; exact h), fun e h1 h2 h3 => ⟨by dsimp only; rw [up58.other h3, up38.other (by omega), up31.other (by omega), up24.other (by omega), up17.other (by omega), up10.other (by omega), up3.other (by omega)], by dsimp only; rw [pk_un h3, pk_un (by omega), pk_un (by omega), pk_un (by omega), pk_un (by omega), pk_un (by omega), pk_un (by omega), pk_un (by omega)]⟩⟩) [1, 2, 3, 0] rfl (by decide) dX4_determinant_61 (Nat.le_of_ble_eq_true rfl) (Nat.le_of_ble_eq_true rfl)

set_option maxHeartbeats 4000000 in
set_option maxRecDepth 100000 in
theorem c_X4_limbs (l : Launch) (D : va_G) (cZ cI cJ : ClassId) (o wa sa ma tl gx gy tx tz kx ky : Nat) (cd ln cn ah : Int32) (fw : Nat → Int64) (a : Nat) (hlim : lim fw) (ha : a < 16) (hsz : num fw a < 340282366920938463463374607431768211456) : Ri l D cZ cI cJ yX4_limbs cX4_limbs 3 (some .int) { frames := 0, cells := 0, slots := 0, locals := 0 } [.ref o, .int (nI a)] [(o, .inr (4, [.int cd, .ref wa, .ref sa, .ref ma, .ref tl, .ref gx, .ref gy, .ref tx, .ref tz, .int ln, .ref kx, .ref ky, .int cn, .int ah])), (wa, .inl (cJ, 96, .inr (.inl fw)))] (fun r => r = nI (nl (num fw a))) := by
  refine Ri.of (by decide) ?_
  intro p e s m args below meth c Q hB hret hP
  obtain ⟨hx, hb, hr, hlocks, hml, hown, hnm, hTB, hK⟩ := hB
  have hown : s.vm.findClass RX4 = some m.cls := hown
  have hl := lv_entry ([.ref o, .int (nI a)]) (n := 3) (Nat.le_of_ble_eq_true rfl)
  rw [lg_entry_eq]
  generalize (lg_sl ([.ref o, .int (nI a)]) ++ List.replicate (3 - (lg_sl ([.ref o, .int (nI a)])).length) Slot.unset).toArray = ls at hl ⊢
  have hl : lv_has ls 3 [(0, .ref o), (1, .int (nI a))] := hl
  refine lv_bipush (v := 6) hx hb dX4_limbs_0 (by decide) ?_
  refine lv_istore_n (lv' := [(2, .int 6), (0, .ref o), (1, .int (nI a))]) hx hb dX4_limbs_2 rfl hl (by decide) rfl (fun ls hl => ?_)
  have L3 : ∀ (n3 : Nat) (n : Nat), (n < n3 ∧ 1 ≤ n ∧ n ≤ 6) → (∀ t, n ≤ t → t < 6 → fw (6 * a + t) = 0) → ∀ (ls : Array Slot), lv_has ls 3 [(0, .ref o), (1, .int (nI a)), (2, .int (nI n))] → W p l e { frames := 0, cells := 0, slots := 0, locals := 0 } s m args below meth c s.heap [] 0 0 Q (F0 m 3 ls []) := by
    intro n3
    induction n3 with
    | zero =>
      intro n g1 g2
      exfalso; omega
    | succ n3 ih3 =>
      intro n g1 g2 ls hl
      refine lv_iload_n hx hb dX4_limbs_3 rfl (lv_at hl 2 rfl) ?_
      refine lv_iconst (v := 1) hx hb dX4_limbs_4 (by decide) ?_
      refine lv_icmp_le (tgt := 32) hx hb dX4_limbs_5 (by decide) (fun c_5 => ?_) (fun c_5 => ?_)
      · refine lv_iload_n hx hb dX4_limbs_32 rfl (lv_at hl 2 rfl) ?_
        exact hret rfl (by have hn : n = 1 := (by have := (nI_leI (a := n) (b := 1) (by omega) (by omega)).mp c_5; omega); subst hn; have l0 := hlim (6 * a) (by omega); have l1 := hlim (6 * a + 1) (by omega); have l2 := hlim (6 * a + 2) (by omega); have l3 := hlim (6 * a + 3) (by omega); have l4 := hlim (6 * a + 4) (by omega); have l5 := hlim (6 * a + 5) (by omega); have e := num_eq fw a; rw [g2 1 (by omega) (by omega), g2 2 (by omega) (by omega), g2 3 (by omega) (by omega), g2 4 (by omega) (by omega), g2 5 (by omega) (by omega), un0] at e; rw [show nl (num fw a) = 1 by (unfold nl; rw [if_pos (by omega)])]) dX4_limbs_33
      · have hn2 : ¬ n ≤ 1 := fun q => c_5 ((nI_leI (b := 1) (by omega) (by omega)).mpr q)
        obtain ⟨mm, rfl⟩ : ∃ mm, n = mm + 1 := ⟨n - 1, by omega⟩
        refine lv_aload_n hx hb dX4_limbs_8 rfl (lv_at hl 0 rfl) ?_
        refine va_get (D := D) (ci := 4) (v := .ref wa) (C := RX4) (T := TX4) (N := 14) hx hb hTB tb_X4 hown hK.1 hP 0 rfl rfl 1 (by decide) (hTB _ tb_3_13) (fun _ h9 => h9) rfl dX4_limbs_9 ?_
        refine lv_bipush (v := 6) hx hb dX4_limbs_12 (by decide) ?_
        refine lv_iload_n hx hb dX4_limbs_14 rfl (lv_at hl 1 rfl) ?_
        refine lv_imul hx hb dX4_limbs_15 ?_
        refine lv_iload_n hx hb dX4_limbs_16 rfl (lv_at hl 2 rfl) ?_
        refine lv_iadd hx hb dX4_limbs_17 ?_
        refine lv_iconst (v := 1) hx hb dX4_limbs_18 (by decide) ?_
        refine lv_isub hx hb dX4_limbs_19 ?_
        refine va_lald (f := fw) hx hb hK.1 hP 1 2 rfl rfl (by rw [ix_m1]; exact ix_in (d := a) (k := mm) (by omega)) dX4_limbs_20 ?_
        rw [show (((6 * (nI a)) + (nI (mm + 1))) - 1).toNatClampNeg = 6 * a + mm from by rw [ix_m1]; exact ix_cl (by omega)]
        refine lv_lconst (v := 0) hx hb dX4_limbs_21 (by decide) ?_
        refine W.lcmp hx hb dX4_limbs_22 ?_
        refine lv_if_ne (tgt := 32) hx hb dX4_limbs_23 (by decide) (fun c_23 => ?_) (fun c_23 => ?_)
        · have c_23 : (fw (6 * a + mm)).toInt ≠ (0 : Int) := lc_ne c_23
          refine lv_iload_n hx hb dX4_limbs_32 rfl (lv_at hl 2 rfl) ?_
          exact hret rfl (by have l0 := hlim (6 * a) (by omega); have l1 := hlim (6 * a + 1) (by omega); have l2 := hlim (6 * a + 2) (by omega); have l3 := hlim (6 * a + 3) (by omega); have l4 := hlim (6 * a + 4) (by omega); have l5 := hlim (6 * a + 5) (by omega); have e := num_eq fw a; have cz := u64_ne0 (fun q => c_23 (i64_eq.mp q)); rcases (show mm = 1 ∨ mm = 2 ∨ mm = 3 ∨ mm = 4 ∨ mm = 5 by omega) with rfl | rfl | rfl | rfl | rfl; exact (by rw [g2 2 (by omega) (by omega), g2 3 (by omega) (by omega), g2 4 (by omega) (by omega), g2 5 (by omega) (by omega), un0] at e; rw [show nl (num fw a) = 2 by (unfold nl; rw [if_neg (by omega), if_pos (by omega)])]); exact (by rw [g2 3 (by omega) (by omega), g2 4 (by omega) (by omega), g2 5 (by omega) (by omega), un0] at e; rw [show nl (num fw a) = 3 by (unfold nl; rw [if_neg (by omega), if_neg (by omega), if_pos (by omega)])]); exact (by rw [g2 4 (by omega) (by omega), g2 5 (by omega) (by omega), un0] at e; rw [show nl (num fw a) = 4 by (unfold nl; rw [if_neg (by omega), if_neg (by omega), if_neg (by omega)])]); exact (by rw [g2 5 (by omega) (by omega), un0] at e; exfalso; omega); exact (by skip; exfalso; omega)) dX4_limbs_33
        · have c_23 : (fw (6 * a + mm)).toInt = (0 : Int) := lc_eq c_23
          obtain ⟨i2_1, ei2_1⟩ : ∃ y : Int32, y = (nI (mm + 1)) + (-1) := ⟨_, rfl⟩
          refine lv_iinc (v := i2_1) (lv' := [(2, .int i2_1), (0, .ref o), (1, .int (nI a))]) hx hb dX4_limbs_26 hl (k := 2) rfl (by rw [ei2_1]; rfl) (by decide) rfl (fun ls hl => ?_)
          refine lv_goto (tgt := 3) hx hb dX4_limbs_29 (by decide) ?_
          have q9 : i2_1 = nI mm := by rw [ei2_1, ni_m, nI_pred]
          subst q9
          refine ih3 mm ?_ ?_ _ (lv_sub hl [1, 2, 0] rfl)
          · omega
          · intro t h1 h2
            by_cases h : t = mm
            · subst h; exact i64_eq.mpr c_23
            · exact g2 t (by omega) h2
  refine L3 7 6 ?_ ?_ _ (lv_sub hl [1, 2, 0] rfl)
  · omega
  · intro t h1 h2; omega

set_option maxHeartbeats 4000000 in
set_option maxRecDepth 100000 in
theorem c_X4_limbOf (l : Launch) (D : va_G) (cZ cI cJ : ClassId) (o wa sa ma tl gx gy tx tz kx ky : Nat) (cd ln cn ah : Int32) (fw : Nat → Int64) (fs : Nat → Int32) (a : Nat) (limb : Int32) (Z : Int) (hlim : lim fw) (ha : a < 16) (hza : hz fw fs a Z) (hsz : Z.natAbs < 340282366920938463463374607431768211456) : Cl l D cZ cI cJ yX4_limbOf cX4_limbOf 3 (some .long) { frames := 1, cells := 0, slots := 0, locals := 22 } [.ref o, .int (nI a), .int limb] [(o, .inr (4, [.int cd, .ref wa, .ref sa, .ref ma, .ref tl, .ref gx, .ref gy, .ref tx, .ref tz, .int ln, .ref kx, .ref ky, .int cn, .int ah])), (wa, .inl (cJ, 96, .inr (.inl fw))), (sa, .inl (cI, 16, .inl fs))] (S := Int32) (fun z u => (lbad Z limb → u = 1) ∧ (¬ lbad Z limb → u = 0 ∧ z = lval Z limb)) (fun u => [(o, .inr (4, [.int u, .ref wa, .ref sa, .ref ma, .ref tl, .ref gx, .ref gy, .ref tx, .ref tz, .int ln, .ref kx, .ref ky, .int cn, .int ah])), (wa, .inl (cJ, 96, .inr (.inl fw))), (sa, .inl (cI, 16, .inl fs))]) := by
  refine Cl.of (by decide) ?_
  intro p e s m args below meth c A Q hB hret hP hD hA
  obtain ⟨hx, hb, hr, hlocks, hml, hown, hnm, hTB, hK⟩ := hB
  have hown : s.vm.findClass RX4 = some m.cls := hown
  have hS : va_S A s.heap s.heap [] := va_S.rf
  have hnl : nl (num fw a) ≤ 4 ∧ (nI (nl (num fw a))).toInt = (nl (num fw a) : Int) := by
    have h4 : nl (num fw a) ≤ 4 := by unfold nl; split <;> (try split) <;> (try split) <;> omega
    exact ⟨h4, nI_toInt (by omega)⟩
  have hl := lv_entry ([.ref o, .int (nI a), .int limb]) (n := 3) (Nat.le_of_ble_eq_true rfl)
  rw [lg_entry_eq]
  generalize (lg_sl ([.ref o, .int (nI a), .int limb]) ++ List.replicate (3 - (lg_sl ([.ref o, .int (nI a), .int limb])).length) Slot.unset).toArray = ls at hl ⊢
  have hl : lv_has ls 3 [(0, .ref o), (1, .int (nI a)), (2, .int limb)] := hl
  refine lv_aload_n hx hb dX4_limbOf_0 rfl (lv_at hl 0 rfl) ?_
  refine lv_iload_n hx hb dX4_limbOf_1 rfl (lv_at hl 2 rfl) ?_
  refine lv_iconst (v := (-1)) hx hb dX4_limbOf_2 (by decide) ?_
  refine lv_icmp_lt (tgt := 15) hx hb dX4_limbOf_3 (by decide) (fun c_3 => ?_) (fun c_3 => ?_)
  · have c_3 : limb.toInt < (-1 : Int) := ic_lt c_3
    refine lv_iconst (v := 1) hx hb dX4_limbOf_15 (by decide) ?_
    refine lv_goto (tgt := 20) hx hb dX4_limbOf_16 (by decide) ?_
    refine va_put (D := D) (ci := 4) (v := .int 1) (ty := .int) (C := RX4) (T := TX4) (N := 14) hx hb hTB tb_X4 tyX4 tyX4_ok nmX4 hown hK.1 hP hD hS 0 rfl rfl 0 (by decide) (hTB _ tb_6_4) (fun _ h9 => h9) rfl (by decide +kernel) rfl rfl (Nat.le_of_ble_eq_true rfl) dX4_limbOf_20 (fun H locs hP hD hS => ?_)
    have hP : va_P D vwCl [(o, .inr (4, [.int 1, .ref wa, .ref sa, .ref ma, .ref tl, .ref gx, .ref gy, .ref tx, .ref tz, .int ln, .ref kx, .ref ky, .int cn, .int ah])), (wa, .inl (cJ, 96, .inr (.inl fw))), (sa, .inl (cI, 16, .inl fs))] H := hP
    have hD : va_D A [(o, .inr (4, [.int 1, .ref wa, .ref sa, .ref ma, .ref tl, .ref gx, .ref gy, .ref tx, .ref tz, .int ln, .ref kx, .ref ky, .int cn, .int ah])), (wa, .inl (cJ, 96, .inr (.inl fw))), (sa, .inl (cI, 16, .inl fs))] := hD
    refine lv_aload_n hx hb dX4_limbOf_23 rfl (lv_at hl 0 rfl) ?_
    refine va_get (D := D) (ci := 4) (v := .int 1) (C := RX4) (T := TX4) (N := 14) hx hb hTB tb_X4 hown hK.1 hP 0 rfl rfl 0 (by decide) (hTB _ tb_6_4) (fun _ h9 => h9) rfl dX4_limbOf_24 ?_
    refine lv_if_le (tgt := 34) hx hb dX4_limbOf_27 (by decide) (fun c_27 => absurd c_27 (by decide)) (fun c_27 => ?_)
    refine lv_lconst (v := 0) hx hb dX4_limbOf_30 (by decide) ?_
    refine lv_goto (tgt := 59) hx hb dX4_limbOf_31 (by decide) ?_
    exact hret hP hD hS 1 (⟨fun _ => rfl, fun q => absurd (Or.inl (by omega)) q⟩) [0, 1, 2] rfl (by decide) dX4_limbOf_59 (Nat.le_of_ble_eq_true rfl) (Nat.le_of_ble_eq_true rfl)
  · have c_3 : (-1 : Int) ≤ limb.toInt := ic_nlt c_3
    refine lv_iload_n hx hb dX4_limbOf_6 rfl (lv_at hl 2 rfl) ?_
    refine lv_aload_n hx hb dX4_limbOf_7 rfl (lv_at hl 0 rfl) ?_
    refine lv_iload_n hx hb dX4_limbOf_8 rfl (lv_at hl 1 rfl) ?_
    refine vp_callSi (va_runV (As := [.int (nI a)]) (rest := [.int limb, .ref o]) ⟨hx, hb, hml, hown, hTB⟩ (c_X4_limbs l D cZ cI cJ o wa sa ma tl gx gy tx tz kx ky cd ln cn ah fw a hlim ha (by rw [hza.1]; omega)) (cw_V hTB tb_17_17 tb_1_5 tb_17_14 tb_17_15 tb_17_16 nd_X4_limbs rfl rfl ⟨Nat.le_of_ble_eq_true rfl, Nat.le_of_ble_eq_true rfl⟩) (prr_V (q0 := 0) hK hP [0, 1] rfl rfl rfl) rfl rfl hl.1 rfl (lv_room (Nat.le_of_ble_eq_true rfl)) dX4_limbOf_9 ⟨Nat.le_of_ble_eq_true rfl, Nat.le_of_ble_eq_true rfl⟩).run (fun r9 hc9 => ?_)
    subst hc9
    refine lv_icmp_lt (tgt := 19) hx hb dX4_limbOf_12 (by decide) (fun c_12 => ?_) (fun c_12 => ?_)
    · have c_12 : limb.toInt < (nI (nl (num fw a))).toInt := ic_lt c_12
      refine lv_iconst (v := 0) hx hb dX4_limbOf_19 (by decide) ?_
      refine va_put (D := D) (ci := 4) (v := .int 0) (ty := .int) (C := RX4) (T := TX4) (N := 14) hx hb hTB tb_X4 tyX4 tyX4_ok nmX4 hown hK.1 hP hD hS 0 rfl rfl 0 (by decide) (hTB _ tb_6_4) (fun _ h9 => h9) rfl (by decide +kernel) rfl rfl (Nat.le_of_ble_eq_true rfl) dX4_limbOf_20 (fun H locs hP hD hS => ?_)
      have hP : va_P D vwCl [(o, .inr (4, [.int 0, .ref wa, .ref sa, .ref ma, .ref tl, .ref gx, .ref gy, .ref tx, .ref tz, .int ln, .ref kx, .ref ky, .int cn, .int ah])), (wa, .inl (cJ, 96, .inr (.inl fw))), (sa, .inl (cI, 16, .inl fs))] H := hP
      have hD : va_D A [(o, .inr (4, [.int 0, .ref wa, .ref sa, .ref ma, .ref tl, .ref gx, .ref gy, .ref tx, .ref tz, .int ln, .ref kx, .ref ky, .int cn, .int ah])), (wa, .inl (cJ, 96, .inr (.inl fw))), (sa, .inl (cI, 16, .inl fs))] := hD
      refine lv_aload_n hx hb dX4_limbOf_23 rfl (lv_at hl 0 rfl) ?_
      refine va_get (D := D) (ci := 4) (v := .int 0) (C := RX4) (T := TX4) (N := 14) hx hb hTB tb_X4 hown hK.1 hP 0 rfl rfl 0 (by decide) (hTB _ tb_6_4) (fun _ h9 => h9) rfl dX4_limbOf_24 ?_
      refine lv_if_le (tgt := 34) hx hb dX4_limbOf_27 (by decide) (fun c_27 => ?_) (fun c_27 => absurd c_27 (by decide))
      refine lv_iload_n hx hb dX4_limbOf_34 rfl (lv_at hl 2 rfl) ?_
      refine lv_if_ge (tgt := 48) hx hb dX4_limbOf_35 (by decide) (fun c_35 => ?_) (fun c_35 => ?_)
      · have c_35 : (0 : Int) ≤ limb.toInt := ic_le c_35
        have hl6 : limb.toNatClampNeg < 6 := cl_lt (by omega) (by omega)
        have hlk : limb = nI limb.toNatClampNeg := by
          obtain ⟨j, h1, h2⟩ := vp_in_of (x := limb) (n := 6) (vp_in_iff.mpr ⟨by omega, by omega⟩) (by decide)
          rw [h2, nI_clamp (by omega)]
        have hlc : (6 * nI a + limb).toNatClampNeg = 6 * a + limb.toNatClampNeg := by
          conv => lhs; rw [hlk]
          exact ix_cl (by omega)
        refine lv_aload_n hx hb dX4_limbOf_48 rfl (lv_at hl 0 rfl) ?_
        refine va_get (D := D) (ci := 4) (v := .ref wa) (C := RX4) (T := TX4) (N := 14) hx hb hTB tb_X4 hown hK.1 hP 0 rfl rfl 1 (by decide) (hTB _ tb_3_13) (fun _ h9 => h9) rfl dX4_limbOf_49 ?_
        refine lv_bipush (v := 6) hx hb dX4_limbOf_52 (by decide) ?_
        refine lv_iload_n hx hb dX4_limbOf_54 rfl (lv_at hl 1 rfl) ?_
        refine lv_imul hx hb dX4_limbOf_55 ?_
        refine lv_iload_n hx hb dX4_limbOf_56 rfl (lv_at hl 2 rfl) ?_
        refine lv_iadd hx hb dX4_limbOf_57 ?_
        refine va_lald (f := fw) hx hb hK.1 hP 1 2 rfl rfl (by rw [show limb = nI limb.toNatClampNeg from hlk]; exact ix_in (d := a) (by omega)) dX4_limbOf_58 ?_
        rw [show ((6 * (nI a)) + limb).toNatClampNeg = 6 * a + limb.toNatClampNeg from by rw [show nI a = nI a from rfl]; exact hlc]
        exact hret hP hD hS 0 (⟨fun q => absurd q (fun q => q.elim (fun z => by omega) (fun z => by rw [← hza.1] at z; omega)), fun _ => ⟨rfl, by unfold lval; rw [if_neg (fun q => by rw [q] at c_35; revert c_35; decide), ← hza.1, ← limb_eq hlim ha (show limb.toNatClampNeg < 6 from cl_lt (by omega) (by omega)), lN_un]⟩⟩) [0, 1, 2] rfl (by decide) dX4_limbOf_59 (Nat.le_of_ble_eq_true rfl) (Nat.le_of_ble_eq_true rfl)
      · have c_35 : limb.toInt < (0 : Int) := ic_nle c_35
        refine lv_aload_n hx hb dX4_limbOf_38 rfl (lv_at hl 0 rfl) ?_
        refine va_get (D := D) (ci := 4) (v := .ref sa) (C := RX4) (T := TX4) (N := 14) hx hb hTB tb_X4 hown hK.1 hP 0 rfl rfl 2 (by decide) (hTB _ tb_3_15) (fun _ h9 => h9) rfl dX4_limbOf_39 ?_
        refine lv_iload_n hx hb dX4_limbOf_42 rfl (lv_at hl 1 rfl) ?_
        refine va_iald (f := fs) hx hb hK.1 hP 2 1 rfl rfl (vp_in_nI (show a < 16 by omega) (by decide)) dX4_limbOf_43 ?_
        rw [show (nI a).toNatClampNeg = a from nI_clamp (by omega)]
        refine lv_i2l (v := (fs a).toInt64) hx hb dX4_limbOf_44 rfl ?_
        refine lv_goto (tgt := 59) hx hb dX4_limbOf_45 (by decide) ?_
        exact hret hP hD hS 0 (⟨fun q => absurd q (fun q => q.elim (fun z => by omega) (fun z => by rw [← hza.1] at z; omega)), fun _ => ⟨rfl, by unfold lval; rw [if_pos (i32_of (k := -1) (by show limb.toInt = -1; omega)), hza.2]⟩⟩) [0, 1, 2] rfl (by decide) dX4_limbOf_59 (Nat.le_of_ble_eq_true rfl) (Nat.le_of_ble_eq_true rfl)
    · have c_12 : (nI (nl (num fw a))).toInt ≤ limb.toInt := ic_nlt c_12
      refine lv_iconst (v := 1) hx hb dX4_limbOf_15 (by decide) ?_
      refine lv_goto (tgt := 20) hx hb dX4_limbOf_16 (by decide) ?_
      refine va_put (D := D) (ci := 4) (v := .int 1) (ty := .int) (C := RX4) (T := TX4) (N := 14) hx hb hTB tb_X4 tyX4 tyX4_ok nmX4 hown hK.1 hP hD hS 0 rfl rfl 0 (by decide) (hTB _ tb_6_4) (fun _ h9 => h9) rfl (by decide +kernel) rfl rfl (Nat.le_of_ble_eq_true rfl) dX4_limbOf_20 (fun H locs hP hD hS => ?_)
      have hP : va_P D vwCl [(o, .inr (4, [.int 1, .ref wa, .ref sa, .ref ma, .ref tl, .ref gx, .ref gy, .ref tx, .ref tz, .int ln, .ref kx, .ref ky, .int cn, .int ah])), (wa, .inl (cJ, 96, .inr (.inl fw))), (sa, .inl (cI, 16, .inl fs))] H := hP
      have hD : va_D A [(o, .inr (4, [.int 1, .ref wa, .ref sa, .ref ma, .ref tl, .ref gx, .ref gy, .ref tx, .ref tz, .int ln, .ref kx, .ref ky, .int cn, .int ah])), (wa, .inl (cJ, 96, .inr (.inl fw))), (sa, .inl (cI, 16, .inl fs))] := hD
      refine lv_aload_n hx hb dX4_limbOf_23 rfl (lv_at hl 0 rfl) ?_
      refine va_get (D := D) (ci := 4) (v := .int 1) (C := RX4) (T := TX4) (N := 14) hx hb hTB tb_X4 hown hK.1 hP 0 rfl rfl 0 (by decide) (hTB _ tb_6_4) (fun _ h9 => h9) rfl dX4_limbOf_24 ?_
      refine lv_if_le (tgt := 34) hx hb dX4_limbOf_27 (by decide) (fun c_27 => absurd c_27 (by decide)) (fun c_27 => ?_)
      refine lv_lconst (v := 0) hx hb dX4_limbOf_30 (by decide) ?_
      refine lv_goto (tgt := 59) hx hb dX4_limbOf_31 (by decide) ?_
      exact hret hP hD hS 1 (⟨fun _ => rfl, fun q => absurd (Or.inr (by rw [← hza.1]; omega)) q⟩) [0, 1, 2] rfl (by decide) dX4_limbOf_59 (Nat.le_of_ble_eq_true rfl) (Nat.le_of_ble_eq_true rfl)

set_option maxHeartbeats 4000000 in
set_option maxRecDepth 100000 in
theorem c_X4_bits (l : Launch) (D : va_G) (cZ cI cJ : ClassId) (o wa sa ma tl gx gy tx tz kx ky : Nat) (cd ln cn ah : Int32) (fw : Nat → Int64) (a : Nat) (bl : Int32) (hlim : lim fw) (ha : a < 16) : Rl l D cZ cI cJ yX4_bits cX4_bits 5 (some .long) { frames := 0, cells := 0, slots := 0, locals := 0 } [.ref o, .int (nI a), .int bl] [(o, .inr (4, [.int cd, .ref wa, .ref sa, .ref ma, .ref tl, .ref gx, .ref gy, .ref tx, .ref tz, .int ln, .ref kx, .ref ky, .int cn, .int ah])), (wa, .inl (cJ, 96, .inr (.inl fw)))] (fun r => r = if bl = 0 then lN (num fw a) else -(lN (num fw a))) := by
  refine Rl.of (by decide) ?_
  intro p e s m args below meth c Q hB hret hP
  obtain ⟨hx, hb, hr, hlocks, hml, hown, hnm, hTB, hK⟩ := hB
  have hown : s.vm.findClass RX4 = some m.cls := hown
  have hl := lv_entry ([.ref o, .int (nI a), .int bl]) (n := 5) (Nat.le_of_ble_eq_true rfl)
  rw [lg_entry_eq]
  generalize (lg_sl ([.ref o, .int (nI a), .int bl]) ++ List.replicate (5 - (lg_sl ([.ref o, .int (nI a), .int bl])).length) Slot.unset).toArray = ls at hl ⊢
  have hl : lv_has ls 5 [(0, .ref o), (1, .int (nI a)), (2, .int bl)] := hl
  refine lv_aload_n hx hb dX4_bits_0 rfl (lv_at hl 0 rfl) ?_
  refine va_get (D := D) (ci := 4) (v := .ref wa) (C := RX4) (T := TX4) (N := 14) hx hb hTB tb_X4 hown hK.1 hP 0 rfl rfl 1 (by decide) (hTB _ tb_3_13) (fun _ h9 => h9) rfl dX4_bits_1 ?_
  refine lv_bipush (v := 6) hx hb dX4_bits_4 (by decide) ?_
  refine lv_iload_n hx hb dX4_bits_6 rfl (lv_at hl 1 rfl) ?_
  refine lv_imul hx hb dX4_bits_7 ?_
  refine lv_iconst (v := 1) hx hb dX4_bits_8 (by decide) ?_
  refine lv_iadd hx hb dX4_bits_9 ?_
  refine va_lald (f := fw) hx hb hK.1 hP 1 2 rfl rfl (ix_in (d := a) (k := 1) (by omega)) dX4_bits_10 ?_
  rw [show ((6 * (nI a)) + 1).toNatClampNeg = 6 * a + 1 from ix_cl (k := 1) (by omega)]
  refine lv_bipush (v := 32) hx hb dX4_bits_11 (by decide) ?_
  refine lv_lshl (v := (fw (6 * a + 1)) <<< ((32 : Int32).toInt64 &&& 63)) hx hb dX4_bits_13 rfl ?_
  refine lv_aload_n hx hb dX4_bits_14 rfl (lv_at hl 0 rfl) ?_
  refine va_get (D := D) (ci := 4) (v := .ref wa) (C := RX4) (T := TX4) (N := 14) hx hb hTB tb_X4 hown hK.1 hP 0 rfl rfl 1 (by decide) (hTB _ tb_3_13) (fun _ h9 => h9) rfl dX4_bits_15 ?_
  refine lv_bipush (v := 6) hx hb dX4_bits_18 (by decide) ?_
  refine lv_iload_n hx hb dX4_bits_20 rfl (lv_at hl 1 rfl) ?_
  refine lv_imul hx hb dX4_bits_21 ?_
  refine va_lald (f := fw) hx hb hK.1 hP 1 2 rfl rfl (ix0_in (d := a) (by omega)) dX4_bits_22 ?_
  rw [show (6 * (nI a)).toNatClampNeg = 6 * a from ix0_cl (by omega)]
  refine lv_lor hx hb dX4_bits_23 ?_
  refine lv_lstore_n (lv' := [(3, .long (((fw (6 * a + 1)) <<< ((32 : Int32).toInt64 &&& 63)) ||| (fw (6 * a)))), (0, .ref o), (1, .int (nI a)), (2, .int bl)]) hx hb dX4_bits_24 rfl hl (by decide) rfl (fun ls hl => ?_)
  refine lv_iload_n hx hb dX4_bits_25 rfl (lv_at hl 3 rfl) ?_
  refine lv_if_eq (tgt := 34) hx hb dX4_bits_26 (by decide) (fun c_26 => ?_) (fun c_26 => ?_)
  · refine lv_lload_n hx hb dX4_bits_34 rfl (lv_at hl 0 rfl) ?_
    exact hret (by rw [if_pos c_26, bits_eq hlim ha]) dX4_bits_35
  · refine lv_lload_n hx hb dX4_bits_29 rfl (lv_at hl 0 rfl) ?_
    refine lv_lneg hx hb dX4_bits_30 ?_
    refine lv_goto (tgt := 35) hx hb dX4_bits_31 (by decide) ?_
    exact hret (by rw [if_neg c_26, bits_eq hlim ha]) dX4_bits_35
