set_option maxHeartbeats 4000000 in
set_option maxRecDepth 100000 in
theorem c_X4_overlap (l : Launch) (D : va_G) (cZ cI cJ : ClassId) (o wa sa ma tl gx gy tx tz kx ky : Nat) (cd ln cn ah : Int32) (fw : Nat → Int64) (fs : Nat → Int32) (fgx fgy ftx fty : Nat → Int64) (a b : Int32) (hlim : lim fw) (hina : inr a 16) (hinb : inr b 16) (hsa : ogr (fgx (a.toNatClampNeg)) (fgy (a.toNatClampNeg))) (hsb : ogr (fgx (b.toNatClampNeg)) (fgy (b.toNatClampNeg))) (hta : ogr (ftx (a.toNatClampNeg)) (fty (a.toNatClampNeg))) (htb : ogr (ftx (b.toNatClampNeg)) (fty (b.toNatClampNeg))) : Ci l D cZ cI cJ yX4_overlap cX4_overlap 17 (some .int) { frames := 1, cells := 0, slots := 0, locals := 26 } [.ref o, .int a, .int b] [(o, .inr (4, [.int cd, .ref wa, .ref sa, .ref ma, .ref tl, .ref gx, .ref gy, .ref tx, .ref tz, .int ln, .ref kx, .ref ky, .int cn, .int ah])), (wa, .inl (cJ, 96, .inr (.inl fw))), (sa, .inl (cI, 16, .inl fs)), (gx, .inl (cJ, 16, .inr (.inl fgx))), (gy, .inl (cJ, 16, .inr (.inl fgy))), (tx, .inl (cJ, 16, .inr (.inl ftx))), (tz, .inl (cJ, 16, .inr (.inl fty)))] (S := (Nat → Int64) × (Nat → Int32)) (fun z u => z = ovA (fgx (a.toNatClampNeg)).toInt (fgy (a.toNatClampNeg)).toInt ((ftx (a.toNatClampNeg)).toInt - (fgx (a.toNatClampNeg)).toInt) ((fty (a.toNatClampNeg)).toInt - (fgy (a.toNatClampNeg)).toInt) (fgx (b.toNatClampNeg)).toInt (fgy (b.toNatClampNeg)).toInt ((ftx (b.toNatClampNeg)).toInt - (fgx (b.toNatClampNeg)).toInt) ((fty (b.toNatClampNeg)).toInt - (fgy (b.toNatClampNeg)).toInt) ∧ (z = 1 → HF u.1 u.2 12 (ovX (fgx (a.toNatClampNeg)).toInt (fgy (a.toNatClampNeg)).toInt ((ftx (a.toNatClampNeg)).toInt - (fgx (a.toNatClampNeg)).toInt) ((fty (a.toNatClampNeg)).toInt - (fgy (a.toNatClampNeg)).toInt) (fgx (b.toNatClampNeg)).toInt (fgy (b.toNatClampNeg)).toInt ((ftx (b.toNatClampNeg)).toInt - (fgx (b.toNatClampNeg)).toInt) ((fty (b.toNatClampNeg)).toInt - (fgy (b.toNatClampNeg)).toInt)) 1 ∧ HF u.1 u.2 14 (ovY (fgx (a.toNatClampNeg)).toInt (fgy (a.toNatClampNeg)).toInt ((ftx (a.toNatClampNeg)).toInt - (fgx (a.toNatClampNeg)).toInt) ((fty (a.toNatClampNeg)).toInt - (fgy (a.toNatClampNeg)).toInt) (fgx (b.toNatClampNeg)).toInt (fgy (b.toNatClampNeg)).toInt ((ftx (b.toNatClampNeg)).toInt - (fgx (b.toNatClampNeg)).toInt) ((fty (b.toNatClampNeg)).toInt - (fgy (b.toNatClampNeg)).toInt)) 1) ∧ lim u.1) (fun u => [(o, .inr (4, [.int cd, .ref wa, .ref sa, .ref ma, .ref tl, .ref gx, .ref gy, .ref tx, .ref tz, .int ln, .ref kx, .ref ky, .int cn, .int ah])), (wa, .inl (cJ, 96, .inr (.inl u.1))), (sa, .inl (cI, 16, .inl u.2)), (gx, .inl (cJ, 16, .inr (.inl fgx))), (gy, .inl (cJ, 16, .inr (.inl fgy))), (tx, .inl (cJ, 16, .inr (.inl ftx))), (tz, .inl (cJ, 16, .inr (.inl fty)))]) := by
  refine Ci.of (by decide) ?_
  intro p e s m args below meth c A Q hB hret hP hD hA
  obtain ⟨hx, hb, hr, hlocks, hml, hown, hnm, hTB, hK⟩ := hB
  have hown : s.vm.findClass RX4 = some m.cls := hown
  have hS : va_S A s.heap s.heap [] := va_S.rf
  have ng0 : (-(fgx (a.toNatClampNeg))).toInt = -(fgx (a.toNatClampNeg)).toInt := neg_rng (by omega)
  have ng1 : (-(ftx (a.toNatClampNeg))).toInt = -(ftx (a.toNatClampNeg)).toInt := neg_rng (by omega)
  have ng2 : (-(fgx (b.toNatClampNeg))).toInt = -(fgx (b.toNatClampNeg)).toInt := neg_rng (by omega)
  have ng3 : (-(ftx (b.toNatClampNeg))).toInt = -(ftx (b.toNatClampNeg)).toInt := neg_rng (by omega)
  have ng4 : (-(fgy (a.toNatClampNeg))).toInt = -(fgy (a.toNatClampNeg)).toInt := neg_rng (by omega)
  have ng5 : (-(fty (a.toNatClampNeg))).toInt = -(fty (a.toNatClampNeg)).toInt := neg_rng (by omega)
  have ng6 : (-(fgy (b.toNatClampNeg))).toInt = -(fgy (b.toNatClampNeg)).toInt := neg_rng (by omega)
  have ng7 : (-(fty (b.toNatClampNeg))).toInt = -(fty (b.toNatClampNeg)).toInt := neg_rng (by omega)
  have qq0 : (fgx (a.toNatClampNeg)).toInt + ((ftx (a.toNatClampNeg)).toInt - (fgx (a.toNatClampNeg)).toInt) = (ftx (a.toNatClampNeg)).toInt := by omega
  have qq1 : (fgx (b.toNatClampNeg)).toInt + ((ftx (b.toNatClampNeg)).toInt - (fgx (b.toNatClampNeg)).toInt) = (ftx (b.toNatClampNeg)).toInt := by omega
  have qq2 : (fgy (a.toNatClampNeg)).toInt + ((fty (a.toNatClampNeg)).toInt - (fgy (a.toNatClampNeg)).toInt) = (fty (a.toNatClampNeg)).toInt := by omega
  have qq3 : (fgy (b.toNatClampNeg)).toInt + ((fty (b.toNatClampNeg)).toInt - (fgy (b.toNatClampNeg)).toInt) = (fty (b.toNatClampNeg)).toInt := by omega
  have hl := lv_entry ([.ref o, .int a, .int b]) (n := 17) (Nat.le_of_ble_eq_true rfl)
  rw [lg_entry_eq]
  generalize (lg_sl ([.ref o, .int a, .int b]) ++ List.replicate (17 - (lg_sl ([.ref o, .int a, .int b])).length) Slot.unset).toArray = ls at hl ⊢
  have hl : lv_has ls 17 [(0, .ref o), (1, .int a), (2, .int b)] := hl
  refine lv_aload_n hx hb dX4_overlap_0 rfl (lv_at hl 0 rfl) ?_
  refine va_get (D := D) (ci := 4) (v := .ref gx) (C := RX4) (T := TX4) (N := 14) hx hb hTB tb_X4 hown hK.1 hP 0 rfl rfl 5 (by decide) (hTB _ tb_3_18) (fun _ h9 => h9) rfl dX4_overlap_1 ?_
  refine lv_iload_n hx hb dX4_overlap_4 rfl (lv_at hl 1 rfl) ?_
  refine va_lald (f := fgx) hx hb hK.1 hP 3 2 rfl rfl (vp_in_iff.mpr ⟨by omega, by omega⟩) dX4_overlap_5 ?_
  refine lv_aload_n hx hb dX4_overlap_6 rfl (lv_at hl 0 rfl) ?_
  refine va_get (D := D) (ci := 4) (v := .ref tx) (C := RX4) (T := TX4) (N := 14) hx hb hTB tb_X4 hown hK.1 hP 0 rfl rfl 7 (by decide) (hTB _ tb_3_20) (fun _ h9 => h9) rfl dX4_overlap_7 ?_
  refine lv_iload_n hx hb dX4_overlap_10 rfl (lv_at hl 1 rfl) ?_
  refine va_lald (f := ftx) hx hb hK.1 hP 5 2 rfl rfl (vp_in_iff.mpr ⟨by omega, by omega⟩) dX4_overlap_11 ?_
  refine W.lcmp hx hb dX4_overlap_12 ?_
  refine lv_if_eq (tgt := 20) hx hb dX4_overlap_13 (by decide) (fun c_13 => ?_) (fun c_13 => ?_)
  · have c_13 : (fgx (a.toNatClampNeg)).toInt = (ftx (a.toNatClampNeg)).toInt := lc_eq c_13
    refine lv_iconst (v := 0) hx hb dX4_overlap_20 (by decide) ?_
    refine lv_istore_n (lv' := [(3, .int 0), (0, .ref o), (1, .int a), (2, .int b)]) hx hb dX4_overlap_21 rfl hl (by decide) rfl (fun ls hl => ?_)
    refine lv_iload_n hx hb dX4_overlap_22 rfl (lv_at hl 0 rfl) ?_
    refine lv_if_eq (tgt := 35) hx hb dX4_overlap_23 (by decide) (fun c_23 => ?_) (fun c_23 => absurd c_23 (by decide))
    refine lv_aload_n hx hb dX4_overlap_35 rfl (lv_at hl 1 rfl) ?_
    refine va_get (D := D) (ci := 4) (v := .ref gy) (C := RX4) (T := TX4) (N := 14) hx hb hTB tb_X4 hown hK.1 hP 0 rfl rfl 6 (by decide) (hTB _ tb_3_19) (fun _ h9 => h9) rfl dX4_overlap_36 ?_
    refine lv_iload_n hx hb dX4_overlap_39 rfl (lv_at hl 2 rfl) ?_
    refine va_lald (f := fgy) hx hb hK.1 hP 4 2 rfl rfl (vp_in_iff.mpr ⟨by omega, by omega⟩) dX4_overlap_40 ?_
    refine lv_lstore (lv' := [(4, .long (fgy (a.toNatClampNeg))), (3, .int 0), (0, .ref o), (1, .int a), (2, .int b)]) hx hb dX4_overlap_41 hl (by decide) rfl (fun ls hl => ?_)
    refine lv_iload_n hx hb dX4_overlap_43 rfl (lv_at hl 1 rfl) ?_
    refine lv_if_eq (tgt := 56) hx hb dX4_overlap_44 (by decide) (fun c_44 => ?_) (fun c_44 => absurd c_44 (by decide))
    refine lv_aload_n hx hb dX4_overlap_56 rfl (lv_at hl 2 rfl) ?_
    refine va_get (D := D) (ci := 4) (v := .ref tz) (C := RX4) (T := TX4) (N := 14) hx hb hTB tb_X4 hown hK.1 hP 0 rfl rfl 8 (by decide) (hTB _ tb_3_21) (fun _ h9 => h9) rfl dX4_overlap_57 ?_
    refine lv_iload_n hx hb dX4_overlap_60 rfl (lv_at hl 3 rfl) ?_
    refine va_lald (f := fty) hx hb hK.1 hP 6 2 rfl rfl (vp_in_iff.mpr ⟨by omega, by omega⟩) dX4_overlap_61 ?_
    refine lv_lstore (lv' := [(6, .long (fty (a.toNatClampNeg))), (4, .long (fgy (a.toNatClampNeg))), (3, .int 0), (0, .ref o), (1, .int a), (2, .int b)]) hx hb dX4_overlap_62 hl (by decide) rfl (fun ls hl => ?_)
    refine lv_iload_n hx hb dX4_overlap_64 rfl (lv_at hl 2 rfl) ?_
    refine lv_if_eq (tgt := 77) hx hb dX4_overlap_65 (by decide) (fun c_65 => ?_) (fun c_65 => absurd c_65 (by decide))
    refine lv_aload_n hx hb dX4_overlap_77 rfl (lv_at hl 3 rfl) ?_
    refine va_get (D := D) (ci := 4) (v := .ref gy) (C := RX4) (T := TX4) (N := 14) hx hb hTB tb_X4 hown hK.1 hP 0 rfl rfl 6 (by decide) (hTB _ tb_3_19) (fun _ h9 => h9) rfl dX4_overlap_78 ?_
    refine lv_iload_n hx hb dX4_overlap_81 rfl (lv_at hl 5 rfl) ?_
    refine va_lald (f := fgy) hx hb hK.1 hP 4 2 rfl rfl (vp_in_iff.mpr ⟨by omega, by omega⟩) dX4_overlap_82 ?_
    refine lv_lstore (lv' := [(8, .long (fgy (b.toNatClampNeg))), (6, .long (fty (a.toNatClampNeg))), (4, .long (fgy (a.toNatClampNeg))), (3, .int 0), (0, .ref o), (1, .int a), (2, .int b)]) hx hb dX4_overlap_83 hl (by decide) rfl (fun ls hl => ?_)
    refine lv_iload_n hx hb dX4_overlap_85 rfl (lv_at hl 3 rfl) ?_
    refine lv_if_eq (tgt := 98) hx hb dX4_overlap_86 (by decide) (fun c_86 => ?_) (fun c_86 => absurd c_86 (by decide))
    refine lv_aload_n hx hb dX4_overlap_98 rfl (lv_at hl 4 rfl) ?_
    refine va_get (D := D) (ci := 4) (v := .ref tz) (C := RX4) (T := TX4) (N := 14) hx hb hTB tb_X4 hown hK.1 hP 0 rfl rfl 8 (by decide) (hTB _ tb_3_21) (fun _ h9 => h9) rfl dX4_overlap_99 ?_
    refine lv_iload_n hx hb dX4_overlap_102 rfl (lv_at hl 6 rfl) ?_
    refine va_lald (f := fty) hx hb hK.1 hP 6 2 rfl rfl (vp_in_iff.mpr ⟨by omega, by omega⟩) dX4_overlap_103 ?_
    refine lv_lstore (lv' := [(10, .long (fty (b.toNatClampNeg))), (8, .long (fgy (b.toNatClampNeg))), (6, .long (fty (a.toNatClampNeg))), (4, .long (fgy (a.toNatClampNeg))), (3, .int 0), (0, .ref o), (1, .int a), (2, .int b)]) hx hb dX4_overlap_104 hl (by decide) rfl (fun ls hl => ?_)
    refine lv_lload hx hb dX4_overlap_106 (lv_at hl 3 rfl) ?_
    refine lv_lload hx hb dX4_overlap_108 (lv_at hl 2 rfl) ?_
    refine vp_callSl (va_runS (As := [.long (fgy (a.toNatClampNeg)), .long (fty (a.toNatClampNeg))]) (rest := []) ⟨hx, hb, hml, hown, hTB⟩ (c_X4_less l D cZ cI cJ (fgy (a.toNatClampNeg)) (fty (a.toNatClampNeg))) (cw_S hTB tb_13_9 tb_1_5 tb_13_7 tb_13_8 nd_X4_less rfl rfl ⟨Nat.le_of_ble_eq_true rfl, Nat.le_of_ble_eq_true rfl⟩) (prr_S hK hP [] rfl) rfl rfl hl.1 rfl (lv_room (Nat.le_of_ble_eq_true rfl)) dX4_overlap_110 ⟨Nat.le_of_ble_eq_true rfl, Nat.le_of_ble_eq_true rfl⟩).run (fun r110 hc110 => ?_)
    refine lv_lload hx hb dX4_overlap_113 (lv_at hl 1 rfl) ?_
    refine lv_lload hx hb dX4_overlap_115 (lv_at hl 0 rfl) ?_
    refine vp_callSl (va_runS (As := [.long (fgy (b.toNatClampNeg)), .long (fty (b.toNatClampNeg))]) (rest := [.long r110]) ⟨hx, hb, hml, hown, hTB⟩ (c_X4_less l D cZ cI cJ (fgy (b.toNatClampNeg)) (fty (b.toNatClampNeg))) (cw_S hTB tb_13_9 tb_1_5 tb_13_7 tb_13_8 nd_X4_less rfl rfl ⟨Nat.le_of_ble_eq_true rfl, Nat.le_of_ble_eq_true rfl⟩) (prr_S hK hP [] rfl) rfl rfl hl.1 rfl (lv_room (Nat.le_of_ble_eq_true rfl)) dX4_overlap_117 ⟨Nat.le_of_ble_eq_true rfl, Nat.le_of_ble_eq_true rfl⟩).run (fun r117 hc117 => ?_)
    refine W.lcmp hx hb dX4_overlap_120 ?_
    refine lv_if_le (tgt := 134) hx hb dX4_overlap_121 (by decide) (fun c_121 => ?_) (fun c_121 => ?_)
    · have c_121 : r110.toInt ≤ r117.toInt := lc_le c_121
      refine lv_lload hx hb dX4_overlap_134 (lv_at hl 1 rfl) ?_
      refine lv_lload hx hb dX4_overlap_136 (lv_at hl 0 rfl) ?_
      refine vp_callSl (va_runS (As := [.long (fgy (b.toNatClampNeg)), .long (fty (b.toNatClampNeg))]) (rest := []) ⟨hx, hb, hml, hown, hTB⟩ (c_X4_less l D cZ cI cJ (fgy (b.toNatClampNeg)) (fty (b.toNatClampNeg))) (cw_S hTB tb_13_9 tb_1_5 tb_13_7 tb_13_8 nd_X4_less rfl rfl ⟨Nat.le_of_ble_eq_true rfl, Nat.le_of_ble_eq_true rfl⟩) (prr_S hK hP [] rfl) rfl rfl hl.1 rfl (lv_room (Nat.le_of_ble_eq_true rfl)) dX4_overlap_138 ⟨Nat.le_of_ble_eq_true rfl, Nat.le_of_ble_eq_true rfl⟩).run (fun r138 hc138 => ?_)
      refine lv_lstore (lv' := [(12, .long r138), (10, .long (fty (b.toNatClampNeg))), (8, .long (fgy (b.toNatClampNeg))), (6, .long (fty (a.toNatClampNeg))), (4, .long (fgy (a.toNatClampNeg))), (3, .int 0), (0, .ref o), (1, .int a), (2, .int b)]) hx hb dX4_overlap_141 hl (by decide) rfl (fun ls hl => ?_)
      refine lv_lload hx hb dX4_overlap_143 (lv_at hl 4 rfl) ?_
      refine lv_lneg hx hb dX4_overlap_145 ?_
      refine lv_lload hx hb dX4_overlap_146 (lv_at hl 3 rfl) ?_
      refine lv_lneg hx hb dX4_overlap_148 ?_
      refine vp_callSl (va_runS (As := [.long (-(fgy (a.toNatClampNeg))), .long (-(fty (a.toNatClampNeg)))]) (rest := []) ⟨hx, hb, hml, hown, hTB⟩ (c_X4_less l D cZ cI cJ (-(fgy (a.toNatClampNeg))) (-(fty (a.toNatClampNeg)))) (cw_S hTB tb_13_9 tb_1_5 tb_13_7 tb_13_8 nd_X4_less rfl rfl ⟨Nat.le_of_ble_eq_true rfl, Nat.le_of_ble_eq_true rfl⟩) (prr_S hK hP [] rfl) rfl rfl hl.1 rfl (lv_room (Nat.le_of_ble_eq_true rfl)) dX4_overlap_149 ⟨Nat.le_of_ble_eq_true rfl, Nat.le_of_ble_eq_true rfl⟩).run (fun r149 hc149 => ?_)
      refine lv_lneg hx hb dX4_overlap_152 ?_
      refine lv_lload hx hb dX4_overlap_153 (lv_at hl 2 rfl) ?_
      refine lv_lneg hx hb dX4_overlap_155 ?_
      refine lv_lload hx hb dX4_overlap_156 (lv_at hl 1 rfl) ?_
      refine lv_lneg hx hb dX4_overlap_158 ?_
      refine vp_callSl (va_runS (As := [.long (-(fgy (b.toNatClampNeg))), .long (-(fty (b.toNatClampNeg)))]) (rest := [.long (-r149)]) ⟨hx, hb, hml, hown, hTB⟩ (c_X4_less l D cZ cI cJ (-(fgy (b.toNatClampNeg))) (-(fty (b.toNatClampNeg)))) (cw_S hTB tb_13_9 tb_1_5 tb_13_7 tb_13_8 nd_X4_less rfl rfl ⟨Nat.le_of_ble_eq_true rfl, Nat.le_of_ble_eq_true rfl⟩) (prr_S hK hP [] rfl) rfl rfl hl.1 rfl (lv_room (Nat.le_of_ble_eq_true rfl)) dX4_overlap_159 ⟨Nat.le_of_ble_eq_true rfl, Nat.le_of_ble_eq_true rfl⟩).run (fun r159 hc159 => ?_)
      refine lv_lneg hx hb dX4_overlap_162 ?_
      refine vp_callSl (va_runS (As := [.long (-r149), .long (-r159)]) (rest := []) ⟨hx, hb, hml, hown, hTB⟩ (c_X4_less l D cZ cI cJ (-r149) (-r159)) (cw_S hTB tb_13_9 tb_1_5 tb_13_7 tb_13_8 nd_X4_less rfl rfl ⟨Nat.le_of_ble_eq_true rfl, Nat.le_of_ble_eq_true rfl⟩) (prr_S hK hP [] rfl) rfl rfl hl.1 rfl (lv_room (Nat.le_of_ble_eq_true rfl)) dX4_overlap_163 ⟨Nat.le_of_ble_eq_true rfl, Nat.le_of_ble_eq_true rfl⟩).run (fun r163 hc163 => ?_)
      refine lv_lstore (lv' := [(14, .long r163), (12, .long r138), (10, .long (fty (b.toNatClampNeg))), (8, .long (fgy (b.toNatClampNeg))), (6, .long (fty (a.toNatClampNeg))), (4, .long (fgy (a.toNatClampNeg))), (3, .int 0), (0, .ref o), (1, .int a), (2, .int b)]) hx hb dX4_overlap_166 hl (by decide) rfl (fun ls hl => ?_)
      refine lv_lload hx hb dX4_overlap_168 (lv_at hl 1 rfl) ?_
      refine lv_lload hx hb dX4_overlap_170 (lv_at hl 0 rfl) ?_
      refine W.lcmp hx hb dX4_overlap_172 ?_
      refine lv_if_eq (tgt := 190) hx hb dX4_overlap_173 (by decide) (fun c_173 => ?_) (fun c_173 => ?_)
      · have c_173 : r138.toInt = r163.toInt := lc_eq c_173
        have elo : r138.toInt = imx (imn (fgy (a.toNatClampNeg)).toInt (fty (a.toNatClampNeg)).toInt) (imn (fgy (b.toNatClampNeg)).toInt (fty (b.toNatClampNeg)).toInt) := by rw [hc110, hc117] at c_121; unfold imx; rw [if_neg (by omega), hc138]
        have b1 := imx_bd (a := (fgy (a.toNatClampNeg)).toInt) (b := (fty (a.toNatClampNeg)).toInt) (B := 1099511627776) (by omega) (by omega) (by omega) (by omega)
        have b2 := imx_bd (a := (fgy (b.toNatClampNeg)).toInt) (b := (fty (b.toNatClampNeg)).toInt) (B := 1099511627776) (by omega) (by omega) (by omega) (by omega)
        have e149 : r149.toInt = -(imx (fgy (a.toNatClampNeg)).toInt (fty (a.toNatClampNeg)).toInt) := by rw [hc149, ng4, ng5, imn_neg]
        have e159 : r159.toInt = -(imx (fgy (b.toNatClampNeg)).toInt (fty (b.toNatClampNeg)).toInt) := by rw [hc159, ng6, ng7, imn_neg]
        have ehi : r163.toInt = imn (imx (fgy (a.toNatClampNeg)).toInt (fty (a.toNatClampNeg)).toInt) (imx (fgy (b.toNatClampNeg)).toInt (fty (b.toNatClampNeg)).toInt) := by rw [hc163, neg_rng (by omega), neg_rng (by omega), e149, e159, Int.neg_neg, Int.neg_neg]
        rw [elo, ehi] at c_173
        refine lv_lload hx hb dX4_overlap_190 (lv_at hl 5 rfl) ?_
        refine lv_lload hx hb dX4_overlap_192 (lv_at hl 1 rfl) ?_
        refine W.lcmp hx hb dX4_overlap_194 ?_
        refine lv_if_ne (tgt := 202) hx hb dX4_overlap_195 (by decide) (fun c_195 => ?_) (fun c_195 => ?_)
        · have c_195 : (fgy (a.toNatClampNeg)).toInt ≠ r138.toInt := lc_ne c_195
          refine lv_iconst (v := 0) hx hb dX4_overlap_202 (by decide) ?_
          refine lv_istore (lv' := [(16, .int 0), (14, .long r163), (12, .long r138), (10, .long (fty (b.toNatClampNeg))), (8, .long (fgy (b.toNatClampNeg))), (6, .long (fty (a.toNatClampNeg))), (4, .long (fgy (a.toNatClampNeg))), (3, .int 0), (0, .ref o), (1, .int a), (2, .int b)]) hx hb dX4_overlap_203 hl (by decide) rfl (fun ls hl => ?_)
          refine lv_aload_n hx hb dX4_overlap_205 rfl (lv_at hl 8 rfl) ?_
          refine lv_bipush (v := 12) hx hb dX4_overlap_206 (by decide) ?_
          refine lv_iload hx hb dX4_overlap_208 (lv_at hl 0 rfl) ?_
          refine lv_if_eq (tgt := 222) hx hb dX4_overlap_210 (by decide) (fun c_210 => ?_) (fun c_210 => absurd c_210 (by decide))
          refine lv_aload_n hx hb dX4_overlap_222 rfl (lv_at hl 8 rfl) ?_
          refine va_get (D := D) (ci := 4) (v := .ref tx) (C := RX4) (T := TX4) (N := 14) hx hb hTB tb_X4 hown hK.1 hP 0 rfl rfl 7 (by decide) (hTB _ tb_3_20) (fun _ h9 => h9) rfl dX4_overlap_223 ?_
          refine lv_iload_n hx hb dX4_overlap_226 rfl (lv_at hl 9 rfl) ?_
          refine va_lald (f := ftx) hx hb hK.1 hP 5 2 rfl rfl (vp_in_iff.mpr ⟨by omega, by omega⟩) dX4_overlap_227 ?_
          refine fin_v (wr := [(gx, .inl (cJ, 16, .inr (.inl fgx))), (gy, .inl (cJ, 16, .inr (.inl fgy))), (tx, .inl (cJ, 16, .inr (.inl ftx))), (tz, .inl (cJ, 16, .inr (.inl fty)))]) (va_runV (As := [.int 12, .long (ftx (a.toNatClampNeg))]) (rest := []) ⟨hx, hb, hml, hown, hTB⟩ (c_X4_put l D cZ cI cJ o wa sa ma tl gx gy tx tz kx ky cd ln cn ah fw fs 12 (ftx (a.toNatClampNeg)) hlim (by decide) _) (cw_V hTB tb_6_21 tb_1_5 tb_6_18 tb_6_19 tb_6_20 nd_X4_put rfl rfl ⟨Nat.le_of_ble_eq_true rfl, Nat.le_of_ble_eq_true rfl⟩) (pre_V (q0 := 0) hK hP hD [0, 1, 2] rfl rfl rfl rfl) rfl rfl hl.1 rfl (lv_room (Nat.le_of_ble_eq_true rfl)) dX4_overlap_228 ⟨Nat.le_of_ble_eq_true rfl, Nat.le_of_ble_eq_true rfl⟩) hP hD hS hA [0, 1, 2] [3, 4, 5, 6] rfl rfl rfl (by decide) (fun u228 H locs hc228 hP hD hS => ?_)
          obtain ⟨g228, s228⟩ := u228
          dsimp only at hc228
          obtain ⟨up228, rfl⟩ := hc228
          have hP : va_P D vwCl [(gx, .inl (cJ, 16, .inr (.inl fgx))), (gy, .inl (cJ, 16, .inr (.inl fgy))), (tx, .inl (cJ, 16, .inr (.inl ftx))), (tz, .inl (cJ, 16, .inr (.inl fty))), (o, .inr (4, [.int cd, .ref wa, .ref sa, .ref ma, .ref tl, .ref gx, .ref gy, .ref tx, .ref tz, .int ln, .ref kx, .ref ky, .int cn, .int ah])), (wa, .inl (cJ, 96, .inr (.inl g228))), (sa, .inl (cI, 16, .inl (upd fs 12 (sg ((ftx (a.toNatClampNeg)).toInt)))))] H := hP
          have hD : va_D A [(gx, .inl (cJ, 16, .inr (.inl fgx))), (gy, .inl (cJ, 16, .inr (.inl fgy))), (tx, .inl (cJ, 16, .inr (.inl ftx))), (tz, .inl (cJ, 16, .inr (.inl fty))), (o, .inr (4, [.int cd, .ref wa, .ref sa, .ref ma, .ref tl, .ref gx, .ref gy, .ref tx, .ref tz, .int ln, .ref kx, .ref ky, .int cn, .int ah])), (wa, .inl (cJ, 96, .inr (.inl g228))), (sa, .inl (cI, 16, .inl (upd fs 12 (sg ((ftx (a.toNatClampNeg)).toInt)))))] := hD
          refine lv_aload_n hx hb dX4_overlap_231 rfl (lv_at hl 8 rfl) ?_
          refine lv_bipush (v := 13) hx hb dX4_overlap_232 (by decide) ?_
          refine lv_lconst (v := 1) hx hb dX4_overlap_234 (by decide) ?_
          refine fin_v (wr := [(gx, .inl (cJ, 16, .inr (.inl fgx))), (gy, .inl (cJ, 16, .inr (.inl fgy))), (tx, .inl (cJ, 16, .inr (.inl ftx))), (tz, .inl (cJ, 16, .inr (.inl fty)))]) (va_runV (As := [.int 13, .long 1]) (rest := []) ⟨hx, hb, hml, hown, hTB⟩ (c_X4_put l D cZ cI cJ o wa sa ma tl gx gy tx tz kx ky cd ln cn ah g228 (upd fs 12 (sg ((ftx (a.toNatClampNeg)).toInt))) 13 1 up228.1 (by decide) _) (cw_V hTB tb_6_21 tb_1_5 tb_6_18 tb_6_19 tb_6_20 nd_X4_put rfl rfl ⟨Nat.le_of_ble_eq_true rfl, Nat.le_of_ble_eq_true rfl⟩) (pre_V (q0 := 4) hK hP hD [4, 5, 6] rfl rfl rfl rfl) rfl rfl hl.1 rfl (lv_room (Nat.le_of_ble_eq_true rfl)) dX4_overlap_235 ⟨Nat.le_of_ble_eq_true rfl, Nat.le_of_ble_eq_true rfl⟩) hP hD hS hA [4, 5, 6] [0, 1, 2, 3] rfl rfl rfl (by decide) (fun u235 H locs hc235 hP hD hS => ?_)
          obtain ⟨g235, s235⟩ := u235
          dsimp only at hc235
          obtain ⟨up235, rfl⟩ := hc235
          have hP : va_P D vwCl [(gx, .inl (cJ, 16, .inr (.inl fgx))), (gy, .inl (cJ, 16, .inr (.inl fgy))), (tx, .inl (cJ, 16, .inr (.inl ftx))), (tz, .inl (cJ, 16, .inr (.inl fty))), (o, .inr (4, [.int cd, .ref wa, .ref sa, .ref ma, .ref tl, .ref gx, .ref gy, .ref tx, .ref tz, .int ln, .ref kx, .ref ky, .int cn, .int ah])), (wa, .inl (cJ, 96, .inr (.inl g235))), (sa, .inl (cI, 16, .inl (upd (upd fs 12 (sg ((ftx (a.toNatClampNeg)).toInt))) 13 (sg ((1 : Int64).toInt)))))] H := hP
          have hD : va_D A [(gx, .inl (cJ, 16, .inr (.inl fgx))), (gy, .inl (cJ, 16, .inr (.inl fgy))), (tx, .inl (cJ, 16, .inr (.inl ftx))), (tz, .inl (cJ, 16, .inr (.inl fty))), (o, .inr (4, [.int cd, .ref wa, .ref sa, .ref ma, .ref tl, .ref gx, .ref gy, .ref tx, .ref tz, .int ln, .ref kx, .ref ky, .int cn, .int ah])), (wa, .inl (cJ, 96, .inr (.inl g235))), (sa, .inl (cI, 16, .inl (upd (upd fs 12 (sg ((ftx (a.toNatClampNeg)).toInt))) 13 (sg ((1 : Int64).toInt)))))] := hD
          refine lv_aload_n hx hb dX4_overlap_238 rfl (lv_at hl 8 rfl) ?_
          refine lv_bipush (v := 14) hx hb dX4_overlap_239 (by decide) ?_
          refine lv_iload hx hb dX4_overlap_241 (lv_at hl 0 rfl) ?_
          refine lv_if_eq (tgt := 255) hx hb dX4_overlap_243 (by decide) (fun c_243 => ?_) (fun c_243 => absurd c_243 (by decide))
          refine lv_aload_n hx hb dX4_overlap_255 rfl (lv_at hl 8 rfl) ?_
          refine va_get (D := D) (ci := 4) (v := .ref tz) (C := RX4) (T := TX4) (N := 14) hx hb hTB tb_X4 hown hK.1 hP 4 rfl rfl 8 (by decide) (hTB _ tb_3_21) (fun _ h9 => h9) rfl dX4_overlap_256 ?_
          refine lv_iload_n hx hb dX4_overlap_259 rfl (lv_at hl 9 rfl) ?_
          refine va_lald (f := fty) hx hb hK.1 hP 3 2 rfl rfl (vp_in_iff.mpr ⟨by omega, by omega⟩) dX4_overlap_260 ?_
          refine fin_v (wr := [(gx, .inl (cJ, 16, .inr (.inl fgx))), (gy, .inl (cJ, 16, .inr (.inl fgy))), (tx, .inl (cJ, 16, .inr (.inl ftx))), (tz, .inl (cJ, 16, .inr (.inl fty)))]) (va_runV (As := [.int 14, .long (fty (a.toNatClampNeg))]) (rest := []) ⟨hx, hb, hml, hown, hTB⟩ (c_X4_put l D cZ cI cJ o wa sa ma tl gx gy tx tz kx ky cd ln cn ah g235 (upd (upd fs 12 (sg ((ftx (a.toNatClampNeg)).toInt))) 13 (sg ((1 : Int64).toInt))) 14 (fty (a.toNatClampNeg)) up235.1 (by decide) _) (cw_V hTB tb_6_21 tb_1_5 tb_6_18 tb_6_19 tb_6_20 nd_X4_put rfl rfl ⟨Nat.le_of_ble_eq_true rfl, Nat.le_of_ble_eq_true rfl⟩) (pre_V (q0 := 4) hK hP hD [4, 5, 6] rfl rfl rfl rfl) rfl rfl hl.1 rfl (lv_room (Nat.le_of_ble_eq_true rfl)) dX4_overlap_261 ⟨Nat.le_of_ble_eq_true rfl, Nat.le_of_ble_eq_true rfl⟩) hP hD hS hA [4, 5, 6] [0, 1, 2, 3] rfl rfl rfl (by decide) (fun u261 H locs hc261 hP hD hS => ?_)
          obtain ⟨g261, s261⟩ := u261
          dsimp only at hc261
          obtain ⟨up261, rfl⟩ := hc261
          have hP : va_P D vwCl [(gx, .inl (cJ, 16, .inr (.inl fgx))), (gy, .inl (cJ, 16, .inr (.inl fgy))), (tx, .inl (cJ, 16, .inr (.inl ftx))), (tz, .inl (cJ, 16, .inr (.inl fty))), (o, .inr (4, [.int cd, .ref wa, .ref sa, .ref ma, .ref tl, .ref gx, .ref gy, .ref tx, .ref tz, .int ln, .ref kx, .ref ky, .int cn, .int ah])), (wa, .inl (cJ, 96, .inr (.inl g261))), (sa, .inl (cI, 16, .inl (upd (upd (upd fs 12 (sg ((ftx (a.toNatClampNeg)).toInt))) 13 (sg ((1 : Int64).toInt))) 14 (sg ((fty (a.toNatClampNeg)).toInt)))))] H := hP
          have hD : va_D A [(gx, .inl (cJ, 16, .inr (.inl fgx))), (gy, .inl (cJ, 16, .inr (.inl fgy))), (tx, .inl (cJ, 16, .inr (.inl ftx))), (tz, .inl (cJ, 16, .inr (.inl fty))), (o, .inr (4, [.int cd, .ref wa, .ref sa, .ref ma, .ref tl, .ref gx, .ref gy, .ref tx, .ref tz, .int ln, .ref kx, .ref ky, .int cn, .int ah])), (wa, .inl (cJ, 96, .inr (.inl g261))), (sa, .inl (cI, 16, .inl (upd (upd (upd fs 12 (sg ((ftx (a.toNatClampNeg)).toInt))) 13 (sg ((1 : Int64).toInt))) 14 (sg ((fty (a.toNatClampNeg)).toInt)))))] := hD
          refine lv_aload_n hx hb dX4_overlap_264 rfl (lv_at hl 8 rfl) ?_
          refine lv_bipush (v := 15) hx hb dX4_overlap_265 (by decide) ?_
          refine lv_lconst (v := 1) hx hb dX4_overlap_267 (by decide) ?_
          refine fin_v (wr := [(gx, .inl (cJ, 16, .inr (.inl fgx))), (gy, .inl (cJ, 16, .inr (.inl fgy))), (tx, .inl (cJ, 16, .inr (.inl ftx))), (tz, .inl (cJ, 16, .inr (.inl fty)))]) (va_runV (As := [.int 15, .long 1]) (rest := []) ⟨hx, hb, hml, hown, hTB⟩ (c_X4_put l D cZ cI cJ o wa sa ma tl gx gy tx tz kx ky cd ln cn ah g261 (upd (upd (upd fs 12 (sg ((ftx (a.toNatClampNeg)).toInt))) 13 (sg ((1 : Int64).toInt))) 14 (sg ((fty (a.toNatClampNeg)).toInt))) 15 1 up261.1 (by decide) _) (cw_V hTB tb_6_21 tb_1_5 tb_6_18 tb_6_19 tb_6_20 nd_X4_put rfl rfl ⟨Nat.le_of_ble_eq_true rfl, Nat.le_of_ble_eq_true rfl⟩) (pre_V (q0 := 4) hK hP hD [4, 5, 6] rfl rfl rfl rfl) rfl rfl hl.1 rfl (lv_room (Nat.le_of_ble_eq_true rfl)) dX4_overlap_268 ⟨Nat.le_of_ble_eq_true rfl, Nat.le_of_ble_eq_true rfl⟩) hP hD hS hA [4, 5, 6] [0, 1, 2, 3] rfl rfl rfl (by decide) (fun u268 H locs hc268 hP hD hS => ?_)
          obtain ⟨g268, s268⟩ := u268
          dsimp only at hc268
          obtain ⟨up268, rfl⟩ := hc268
          have hP : va_P D vwCl [(gx, .inl (cJ, 16, .inr (.inl fgx))), (gy, .inl (cJ, 16, .inr (.inl fgy))), (tx, .inl (cJ, 16, .inr (.inl ftx))), (tz, .inl (cJ, 16, .inr (.inl fty))), (o, .inr (4, [.int cd, .ref wa, .ref sa, .ref ma, .ref tl, .ref gx, .ref gy, .ref tx, .ref tz, .int ln, .ref kx, .ref ky, .int cn, .int ah])), (wa, .inl (cJ, 96, .inr (.inl g268))), (sa, .inl (cI, 16, .inl (upd (upd (upd (upd fs 12 (sg ((ftx (a.toNatClampNeg)).toInt))) 13 (sg ((1 : Int64).toInt))) 14 (sg ((fty (a.toNatClampNeg)).toInt))) 15 (sg ((1 : Int64).toInt)))))] H := hP
          have hD : va_D A [(gx, .inl (cJ, 16, .inr (.inl fgx))), (gy, .inl (cJ, 16, .inr (.inl fgy))), (tx, .inl (cJ, 16, .inr (.inl ftx))), (tz, .inl (cJ, 16, .inr (.inl fty))), (o, .inr (4, [.int cd, .ref wa, .ref sa, .ref ma, .ref tl, .ref gx, .ref gy, .ref tx, .ref tz, .int ln, .ref kx, .ref ky, .int cn, .int ah])), (wa, .inl (cJ, 96, .inr (.inl g268))), (sa, .inl (cI, 16, .inl (upd (upd (upd (upd fs 12 (sg ((ftx (a.toNatClampNeg)).toInt))) 13 (sg ((1 : Int64).toInt))) 14 (sg ((fty (a.toNatClampNeg)).toInt))) 15 (sg ((1 : Int64).toInt)))))] := hD
          refine lv_iconst (v := 1) hx hb dX4_overlap_271 (by decide) ?_
          have os : ovS (fgx (a.toNatClampNeg)).toInt (fgy (a.toNatClampNeg)).toInt ((ftx (a.toNatClampNeg)).toInt - (fgx (a.toNatClampNeg)).toInt) ((fty (a.toNatClampNeg)).toInt - (fgy (a.toNatClampNeg)).toInt) (fgx (b.toNatClampNeg)).toInt (fgy (b.toNatClampNeg)).toInt ((ftx (b.toNatClampNeg)).toInt - (fgx (b.toNatClampNeg)).toInt) ((fty (b.toNatClampNeg)).toInt - (fgy (b.toNatClampNeg)).toInt) ≠ 0 := (by unfold ovS; rw [if_pos (show ((ftx (a.toNatClampNeg)).toInt - (fgx (a.toNatClampNeg)).toInt) = 0 by omega), qq2, qq3]; rw [elo] at c_195; omega)
          exact hret hP hD hS rfl (g268, upd (upd (upd (upd fs 12 (sg ((ftx (a.toNatClampNeg)).toInt))) 13 (sg ((1 : Int64).toInt))) 14 (sg ((fty (a.toNatClampNeg)).toInt))) 15 (sg ((1 : Int64).toInt))) (⟨by unfold ovA; rw [if_pos (show ((ftx (a.toNatClampNeg)).toInt - (fgx (a.toNatClampNeg)).toInt) = 0 by omega)]; unfold ovl; rw [qq2, qq3, if_pos c_173], fun _ => ⟨by rw [show ovX (fgx (a.toNatClampNeg)).toInt (fgy (a.toNatClampNeg)).toInt ((ftx (a.toNatClampNeg)).toInt - (fgx (a.toNatClampNeg)).toInt) ((fty (a.toNatClampNeg)).toInt - (fgy (a.toNatClampNeg)).toInt) (fgx (b.toNatClampNeg)).toInt (fgy (b.toNatClampNeg)).toInt ((ftx (b.toNatClampNeg)).toInt - (fgx (b.toNatClampNeg)).toInt) ((fty (b.toNatClampNeg)).toInt - (fgy (b.toNatClampNeg)).toInt) = (ftx (a.toNatClampNeg)).toInt from (by unfold ovX; rw [if_neg os, qq0])]; exact HF_1 ((((hz.new up228).keep up235 (by decide)).keep up261 (by decide)).keep up268 (by decide)) (((hz.new (z := 1) up235).keep up261 (by decide)).keep up268 (by decide)), by rw [show ovY (fgx (a.toNatClampNeg)).toInt (fgy (a.toNatClampNeg)).toInt ((ftx (a.toNatClampNeg)).toInt - (fgx (a.toNatClampNeg)).toInt) ((fty (a.toNatClampNeg)).toInt - (fgy (a.toNatClampNeg)).toInt) (fgx (b.toNatClampNeg)).toInt (fgy (b.toNatClampNeg)).toInt ((ftx (b.toNatClampNeg)).toInt - (fgx (b.toNatClampNeg)).toInt) ((fty (b.toNatClampNeg)).toInt - (fgy (b.toNatClampNeg)).toInt) = (fty (a.toNatClampNeg)).toInt from (by unfold ovY; rw [if_neg os, qq2])]; exact HF_1 ((hz.new up261).keep up268 (by decide)) (hz.new (z := 1) up268)⟩, up268.1⟩) [4, 5, 6, 0, 1, 2, 3] rfl (by decide) dX4_overlap_272 (Nat.le_of_ble_eq_true rfl) (Nat.le_of_ble_eq_true rfl)
        · have c_195 : (fgy (a.toNatClampNeg)).toInt = r138.toInt := lc_eq c_195
          refine lv_iconst (v := 1) hx hb dX4_overlap_198 (by decide) ?_
          refine lv_goto (tgt := 203) hx hb dX4_overlap_199 (by decide) ?_
          refine lv_istore (lv' := [(16, .int 1), (14, .long r163), (12, .long r138), (10, .long (fty (b.toNatClampNeg))), (8, .long (fgy (b.toNatClampNeg))), (6, .long (fty (a.toNatClampNeg))), (4, .long (fgy (a.toNatClampNeg))), (3, .int 0), (0, .ref o), (1, .int a), (2, .int b)]) hx hb dX4_overlap_203 hl (by decide) rfl (fun ls hl => ?_)
          refine lv_aload_n hx hb dX4_overlap_205 rfl (lv_at hl 8 rfl) ?_
          refine lv_bipush (v := 12) hx hb dX4_overlap_206 (by decide) ?_
          refine lv_iload hx hb dX4_overlap_208 (lv_at hl 0 rfl) ?_
          refine lv_if_eq (tgt := 222) hx hb dX4_overlap_210 (by decide) (fun c_210 => absurd c_210 (by decide)) (fun c_210 => ?_)
          refine lv_aload_n hx hb dX4_overlap_213 rfl (lv_at hl 8 rfl) ?_
          refine va_get (D := D) (ci := 4) (v := .ref gx) (C := RX4) (T := TX4) (N := 14) hx hb hTB tb_X4 hown hK.1 hP 0 rfl rfl 5 (by decide) (hTB _ tb_3_18) (fun _ h9 => h9) rfl dX4_overlap_214 ?_
          refine lv_iload_n hx hb dX4_overlap_217 rfl (lv_at hl 9 rfl) ?_
          refine va_lald (f := fgx) hx hb hK.1 hP 3 2 rfl rfl (vp_in_iff.mpr ⟨by omega, by omega⟩) dX4_overlap_218 ?_
          refine lv_goto (tgt := 228) hx hb dX4_overlap_219 (by decide) ?_
          refine fin_v (wr := [(gx, .inl (cJ, 16, .inr (.inl fgx))), (gy, .inl (cJ, 16, .inr (.inl fgy))), (tx, .inl (cJ, 16, .inr (.inl ftx))), (tz, .inl (cJ, 16, .inr (.inl fty)))]) (va_runV (As := [.int 12, .long (fgx (a.toNatClampNeg))]) (rest := []) ⟨hx, hb, hml, hown, hTB⟩ (c_X4_put l D cZ cI cJ o wa sa ma tl gx gy tx tz kx ky cd ln cn ah fw fs 12 (fgx (a.toNatClampNeg)) hlim (by decide) _) (cw_V hTB tb_6_21 tb_1_5 tb_6_18 tb_6_19 tb_6_20 nd_X4_put rfl rfl ⟨Nat.le_of_ble_eq_true rfl, Nat.le_of_ble_eq_true rfl⟩) (pre_V (q0 := 0) hK hP hD [0, 1, 2] rfl rfl rfl rfl) rfl rfl hl.1 rfl (lv_room (Nat.le_of_ble_eq_true rfl)) dX4_overlap_228 ⟨Nat.le_of_ble_eq_true rfl, Nat.le_of_ble_eq_true rfl⟩) hP hD hS hA [0, 1, 2] [3, 4, 5, 6] rfl rfl rfl (by decide) (fun u228 H locs hc228 hP hD hS => ?_)
          obtain ⟨g228, s228⟩ := u228
          dsimp only at hc228
          obtain ⟨up228, rfl⟩ := hc228
          have hP : va_P D vwCl [(gx, .inl (cJ, 16, .inr (.inl fgx))), (gy, .inl (cJ, 16, .inr (.inl fgy))), (tx, .inl (cJ, 16, .inr (.inl ftx))), (tz, .inl (cJ, 16, .inr (.inl fty))), (o, .inr (4, [.int cd, .ref wa, .ref sa, .ref ma, .ref tl, .ref gx, .ref gy, .ref tx, .ref tz, .int ln, .ref kx, .ref ky, .int cn, .int ah])), (wa, .inl (cJ, 96, .inr (.inl g228))), (sa, .inl (cI, 16, .inl (upd fs 12 (sg ((fgx (a.toNatClampNeg)).toInt)))))] H := hP
          have hD : va_D A [(gx, .inl (cJ, 16, .inr (.inl fgx))), (gy, .inl (cJ, 16, .inr (.inl fgy))), (tx, .inl (cJ, 16, .inr (.inl ftx))), (tz, .inl (cJ, 16, .inr (.inl fty))), (o, .inr (4, [.int cd, .ref wa, .ref sa, .ref ma, .ref tl, .ref gx, .ref gy, .ref tx, .ref tz, .int ln, .ref kx, .ref ky, .int cn, .int ah])), (wa, .inl (cJ, 96, .inr (.inl g228))), (sa, .inl (cI, 16, .inl (upd fs 12 (sg ((fgx (a.toNatClampNeg)).toInt)))))] := hD
          refine lv_aload_n hx hb dX4_overlap_231 rfl (lv_at hl 8 rfl) ?_
          refine lv_bipush (v := 13) hx hb dX4_overlap_232 (by decide) ?_
          refine lv_lconst (v := 1) hx hb dX4_overlap_234 (by decide) ?_
          refine fin_v (wr := [(gx, .inl (cJ, 16, .inr (.inl fgx))), (gy, .inl (cJ, 16, .inr (.inl fgy))), (tx, .inl (cJ, 16, .inr (.inl ftx))), (tz, .inl (cJ, 16, .inr (.inl fty)))]) (va_runV (As := [.int 13, .long 1]) (rest := []) ⟨hx, hb, hml, hown, hTB⟩ (c_X4_put l D cZ cI cJ o wa sa ma tl gx gy tx tz kx ky cd ln cn ah g228 (upd fs 12 (sg ((fgx (a.toNatClampNeg)).toInt))) 13 1 up228.1 (by decide) _) (cw_V hTB tb_6_21 tb_1_5 tb_6_18 tb_6_19 tb_6_20 nd_X4_put rfl rfl ⟨Nat.le_of_ble_eq_true rfl, Nat.le_of_ble_eq_true rfl⟩) (pre_V (q0 := 4) hK hP hD [4, 5, 6] rfl rfl rfl rfl) rfl rfl hl.1 rfl (lv_room (Nat.le_of_ble_eq_true rfl)) dX4_overlap_235 ⟨Nat.le_of_ble_eq_true rfl, Nat.le_of_ble_eq_true rfl⟩) hP hD hS hA [4, 5, 6] [0, 1, 2, 3] rfl rfl rfl (by decide) (fun u235 H locs hc235 hP hD hS => ?_)
          obtain ⟨g235, s235⟩ := u235
          dsimp only at hc235
          obtain ⟨up235, rfl⟩ := hc235
          have hP : va_P D vwCl [(gx, .inl (cJ, 16, .inr (.inl fgx))), (gy, .inl (cJ, 16, .inr (.inl fgy))), (tx, .inl (cJ, 16, .inr (.inl ftx))), (tz, .inl (cJ, 16, .inr (.inl fty))), (o, .inr (4, [.int cd, .ref wa, .ref sa, .ref ma, .ref tl, .ref gx, .ref gy, .ref tx, .ref tz, .int ln, .ref kx, .ref ky, .int cn, .int ah])), (wa, .inl (cJ, 96, .inr (.inl g235))), (sa, .inl (cI, 16, .inl (upd (upd fs 12 (sg ((fgx (a.toNatClampNeg)).toInt))) 13 (sg ((1 : Int64).toInt)))))] H := hP
          have hD : va_D A [(gx, .inl (cJ, 16, .inr (.inl fgx))), (gy, .inl (cJ, 16, .inr (.inl fgy))), (tx, .inl (cJ, 16, .inr (.inl ftx))), (tz, .inl (cJ, 16, .inr (.inl fty))), (o, .inr (4, [.int cd, .ref wa, .ref sa, .ref ma, .ref tl, .ref gx, .ref gy, .ref tx, .ref tz, .int ln, .ref kx, .ref ky, .int cn, .int ah])), (wa, .inl (cJ, 96, .inr (.inl g235))), (sa, .inl (cI, 16, .inl (upd (upd fs 12 (sg ((fgx (a.toNatClampNeg)).toInt))) 13 (sg ((1 : Int64).toInt)))))] := hD
          refine lv_aload_n hx hb dX4_overlap_238 rfl (lv_at hl 8 rfl) ?_
          refine lv_bipush (v := 14) hx hb dX4_overlap_239 (by decide) ?_
          refine lv_iload hx hb dX4_overlap_241 (lv_at hl 0 rfl) ?_
          refine lv_if_eq (tgt := 255) hx hb dX4_overlap_243 (by decide) (fun c_243 => absurd c_243 (by decide)) (fun c_243 => ?_)
          refine lv_aload_n hx hb dX4_overlap_246 rfl (lv_at hl 8 rfl) ?_
          refine va_get (D := D) (ci := 4) (v := .ref gy) (C := RX4) (T := TX4) (N := 14) hx hb hTB tb_X4 hown hK.1 hP 4 rfl rfl 6 (by decide) (hTB _ tb_3_19) (fun _ h9 => h9) rfl dX4_overlap_247 ?_
          refine lv_iload_n hx hb dX4_overlap_250 rfl (lv_at hl 9 rfl) ?_
          refine va_lald (f := fgy) hx hb hK.1 hP 1 2 rfl rfl (vp_in_iff.mpr ⟨by omega, by omega⟩) dX4_overlap_251 ?_
          refine lv_goto (tgt := 261) hx hb dX4_overlap_252 (by decide) ?_
          refine fin_v (wr := [(gx, .inl (cJ, 16, .inr (.inl fgx))), (gy, .inl (cJ, 16, .inr (.inl fgy))), (tx, .inl (cJ, 16, .inr (.inl ftx))), (tz, .inl (cJ, 16, .inr (.inl fty)))]) (va_runV (As := [.int 14, .long (fgy (a.toNatClampNeg))]) (rest := []) ⟨hx, hb, hml, hown, hTB⟩ (c_X4_put l D cZ cI cJ o wa sa ma tl gx gy tx tz kx ky cd ln cn ah g235 (upd (upd fs 12 (sg ((fgx (a.toNatClampNeg)).toInt))) 13 (sg ((1 : Int64).toInt))) 14 (fgy (a.toNatClampNeg)) up235.1 (by decide) _) (cw_V hTB tb_6_21 tb_1_5 tb_6_18 tb_6_19 tb_6_20 nd_X4_put rfl rfl ⟨Nat.le_of_ble_eq_true rfl, Nat.le_of_ble_eq_true rfl⟩) (pre_V (q0 := 4) hK hP hD [4, 5, 6] rfl rfl rfl rfl) rfl rfl hl.1 rfl (lv_room (Nat.le_of_ble_eq_true rfl)) dX4_overlap_261 ⟨Nat.le_of_ble_eq_true rfl, Nat.le_of_ble_eq_true rfl⟩) hP hD hS hA [4, 5, 6] [0, 1, 2, 3] rfl rfl rfl (by decide) (fun u261 H locs hc261 hP hD hS => ?_)
          obtain ⟨g261, s261⟩ := u261
          dsimp only at hc261
          obtain ⟨up261, rfl⟩ := hc261
          have hP : va_P D vwCl [(gx, .inl (cJ, 16, .inr (.inl fgx))), (gy, .inl (cJ, 16, .inr (.inl fgy))), (tx, .inl (cJ, 16, .inr (.inl ftx))), (tz, .inl (cJ, 16, .inr (.inl fty))), (o, .inr (4, [.int cd, .ref wa, .ref sa, .ref ma, .ref tl, .ref gx, .ref gy, .ref tx, .ref tz, .int ln, .ref kx, .ref ky, .int cn, .int ah])), (wa, .inl (cJ, 96, .inr (.inl g261))), (sa, .inl (cI, 16, .inl (upd (upd (upd fs 12 (sg ((fgx (a.toNatClampNeg)).toInt))) 13 (sg ((1 : Int64).toInt))) 14 (sg ((fgy (a.toNatClampNeg)).toInt)))))] H := hP
          have hD : va_D A [(gx, .inl (cJ, 16, .inr (.inl fgx))), (gy, .inl (cJ, 16, .inr (.inl fgy))), (tx, .inl (cJ, 16, .inr (.inl ftx))), (tz, .inl (cJ, 16, .inr (.inl fty))), (o, .inr (4, [.int cd, .ref wa, .ref sa, .ref ma, .ref tl, .ref gx, .ref gy, .ref tx, .ref tz, .int ln, .ref kx, .ref ky, .int cn, .int ah])), (wa, .inl (cJ, 96, .inr (.inl g261))), (sa, .inl (cI, 16, .inl (upd (upd (upd fs 12 (sg ((fgx (a.toNatClampNeg)).toInt))) 13 (sg ((1 : Int64).toInt))) 14 (sg ((fgy (a.toNatClampNeg)).toInt)))))] := hD
          refine lv_aload_n hx hb dX4_overlap_264 rfl (lv_at hl 8 rfl) ?_
          refine lv_bipush (v := 15) hx hb dX4_overlap_265 (by decide) ?_
          refine lv_lconst (v := 1) hx hb dX4_overlap_267 (by decide) ?_
          refine fin_v (wr := [(gx, .inl (cJ, 16, .inr (.inl fgx))), (gy, .inl (cJ, 16, .inr (.inl fgy))), (tx, .inl (cJ, 16, .inr (.inl ftx))), (tz, .inl (cJ, 16, .inr (.inl fty)))]) (va_runV (As := [.int 15, .long 1]) (rest := []) ⟨hx, hb, hml, hown, hTB⟩ (c_X4_put l D cZ cI cJ o wa sa ma tl gx gy tx tz kx ky cd ln cn ah g261 (upd (upd (upd fs 12 (sg ((fgx (a.toNatClampNeg)).toInt))) 13 (sg ((1 : Int64).toInt))) 14 (sg ((fgy (a.toNatClampNeg)).toInt))) 15 1 up261.1 (by decide) _) (cw_V hTB tb_6_21 tb_1_5 tb_6_18 tb_6_19 tb_6_20 nd_X4_put rfl rfl ⟨Nat.le_of_ble_eq_true rfl, Nat.le_of_ble_eq_true rfl⟩) (pre_V (q0 := 4) hK hP hD [4, 5, 6] rfl rfl rfl rfl) rfl rfl hl.1 rfl (lv_room (Nat.le_of_ble_eq_true rfl)) dX4_overlap_268 ⟨Nat.le_of_ble_eq_true rfl, Nat.le_of_ble_eq_true rfl⟩) hP hD hS hA [4, 5, 6] [0, 1, 2, 3] rfl rfl rfl (by decide) (fun u268 H locs hc268 hP hD hS => ?_)
          obtain ⟨g268, s268⟩ := u268
          dsimp only at hc268
          obtain ⟨up268, rfl⟩ := hc268
          have hP : va_P D vwCl [(gx, .inl (cJ, 16, .inr (.inl fgx))), (gy, .inl (cJ, 16, .inr (.inl fgy))), (tx, .inl (cJ, 16, .inr (.inl ftx))), (tz, .inl (cJ, 16, .inr (.inl fty))), (o, .inr (4, [.int cd, .ref wa, .ref sa, .ref ma, .ref tl, .ref gx, .ref gy, .ref tx, .ref tz, .int ln, .ref kx, .ref ky, .int cn, .int ah])), (wa, .inl (cJ, 96, .inr (.inl g268))), (sa, .inl (cI, 16, .inl (upd (upd (upd (upd fs 12 (sg ((fgx (a.toNatClampNeg)).toInt))) 13 (sg ((1 : Int64).toInt))) 14 (sg ((fgy (a.toNatClampNeg)).toInt))) 15 (sg ((1 : Int64).toInt)))))] H := hP
          have hD : va_D A [(gx, .inl (cJ, 16, .inr (.inl fgx))), (gy, .inl (cJ, 16, .inr (.inl fgy))), (tx, .inl (cJ, 16, .inr (.inl ftx))), (tz, .inl (cJ, 16, .inr (.inl fty))), (o, .inr (4, [.int cd, .ref wa, .ref sa, .ref ma, .ref tl, .ref gx, .ref gy, .ref tx, .ref tz, .int ln, .ref kx, .ref ky, .int cn, .int ah])), (wa, .inl (cJ, 96, .inr (.inl g268))), (sa, .inl (cI, 16, .inl (upd (upd (upd (upd fs 12 (sg ((fgx (a.toNatClampNeg)).toInt))) 13 (sg ((1 : Int64).toInt))) 14 (sg ((fgy (a.toNatClampNeg)).toInt))) 15 (sg ((1 : Int64).toInt)))))] := hD
          refine lv_iconst (v := 1) hx hb dX4_overlap_271 (by decide) ?_
          have os : ovS (fgx (a.toNatClampNeg)).toInt (fgy (a.toNatClampNeg)).toInt ((ftx (a.toNatClampNeg)).toInt - (fgx (a.toNatClampNeg)).toInt) ((fty (a.toNatClampNeg)).toInt - (fgy (a.toNatClampNeg)).toInt) (fgx (b.toNatClampNeg)).toInt (fgy (b.toNatClampNeg)).toInt ((ftx (b.toNatClampNeg)).toInt - (fgx (b.toNatClampNeg)).toInt) ((fty (b.toNatClampNeg)).toInt - (fgy (b.toNatClampNeg)).toInt) = 0 := (by unfold ovS; rw [if_pos (show ((ftx (a.toNatClampNeg)).toInt - (fgx (a.toNatClampNeg)).toInt) = 0 by omega), qq2, qq3]; rw [elo] at c_195; omega)
          exact hret hP hD hS rfl (g268, upd (upd (upd (upd fs 12 (sg ((fgx (a.toNatClampNeg)).toInt))) 13 (sg ((1 : Int64).toInt))) 14 (sg ((fgy (a.toNatClampNeg)).toInt))) 15 (sg ((1 : Int64).toInt))) (⟨by unfold ovA; rw [if_pos (show ((ftx (a.toNatClampNeg)).toInt - (fgx (a.toNatClampNeg)).toInt) = 0 by omega)]; unfold ovl; rw [qq2, qq3, if_pos c_173], fun _ => ⟨by rw [show ovX (fgx (a.toNatClampNeg)).toInt (fgy (a.toNatClampNeg)).toInt ((ftx (a.toNatClampNeg)).toInt - (fgx (a.toNatClampNeg)).toInt) ((fty (a.toNatClampNeg)).toInt - (fgy (a.toNatClampNeg)).toInt) (fgx (b.toNatClampNeg)).toInt (fgy (b.toNatClampNeg)).toInt ((ftx (b.toNatClampNeg)).toInt - (fgx (b.toNatClampNeg)).toInt) ((fty (b.toNatClampNeg)).toInt - (fgy (b.toNatClampNeg)).toInt) = (fgx (a.toNatClampNeg)).toInt from (by unfold ovX; rw [if_pos os])]; exact HF_1 ((((hz.new up228).keep up235 (by decide)).keep up261 (by decide)).keep up268 (by decide)) (((hz.new (z := 1) up235).keep up261 (by decide)).keep up268 (by decide)), by rw [show ovY (fgx (a.toNatClampNeg)).toInt (fgy (a.toNatClampNeg)).toInt ((ftx (a.toNatClampNeg)).toInt - (fgx (a.toNatClampNeg)).toInt) ((fty (a.toNatClampNeg)).toInt - (fgy (a.toNatClampNeg)).toInt) (fgx (b.toNatClampNeg)).toInt (fgy (b.toNatClampNeg)).toInt ((ftx (b.toNatClampNeg)).toInt - (fgx (b.toNatClampNeg)).toInt) ((fty (b.toNatClampNeg)).toInt - (fgy (b.toNatClampNeg)).toInt) = (fgy (a.toNatClampNeg)).toInt from (by unfold ovY; rw [if_pos os])]; exact HF_1 ((hz.new up261).keep up268 (by decide)) (hz.new (z := 1) up268)⟩, up268.1⟩) [4, 5, 6, 0, 1, 2, 3] rfl (by decide) dX4_overlap_272 (Nat.le_of_ble_eq_true rfl) (Nat.le_of_ble_eq_true rfl)
      · have c_173 : r138.toInt ≠ r163.toInt := lc_ne c_173
        have elo : r138.toInt = imx (imn (fgy (a.toNatClampNeg)).toInt (fty (a.toNatClampNeg)).toInt) (imn (fgy (b.toNatClampNeg)).toInt (fty (b.toNatClampNeg)).toInt) := by rw [hc110, hc117] at c_121; unfold imx; rw [if_neg (by omega), hc138]
        have b1 := imx_bd (a := (fgy (a.toNatClampNeg)).toInt) (b := (fty (a.toNatClampNeg)).toInt) (B := 1099511627776) (by omega) (by omega) (by omega) (by omega)
        have b2 := imx_bd (a := (fgy (b.toNatClampNeg)).toInt) (b := (fty (b.toNatClampNeg)).toInt) (B := 1099511627776) (by omega) (by omega) (by omega) (by omega)
        have e149 : r149.toInt = -(imx (fgy (a.toNatClampNeg)).toInt (fty (a.toNatClampNeg)).toInt) := by rw [hc149, ng4, ng5, imn_neg]
        have e159 : r159.toInt = -(imx (fgy (b.toNatClampNeg)).toInt (fty (b.toNatClampNeg)).toInt) := by rw [hc159, ng6, ng7, imn_neg]
        have ehi : r163.toInt = imn (imx (fgy (a.toNatClampNeg)).toInt (fty (a.toNatClampNeg)).toInt) (imx (fgy (b.toNatClampNeg)).toInt (fty (b.toNatClampNeg)).toInt) := by rw [hc163, neg_rng (by omega), neg_rng (by omega), e149, e159, Int.neg_neg, Int.neg_neg]
        rw [elo, ehi] at c_173
        refine lv_lload hx hb dX4_overlap_176 (lv_at hl 1 rfl) ?_
        refine lv_lload hx hb dX4_overlap_178 (lv_at hl 0 rfl) ?_
        refine W.lcmp hx hb dX4_overlap_180 ?_
        refine lv_if_ge (tgt := 188) hx hb dX4_overlap_181 (by decide) (fun c_181 => ?_) (fun c_181 => ?_)
        · have c_181 : r163.toInt ≤ r138.toInt := lc_ge c_181
          refine lv_iconst (v := 0) hx hb dX4_overlap_188 (by decide) ?_
          exact hret hP hD hS rfl (fw, fs) (⟨by unfold ovA; rw [if_pos (show ((ftx (a.toNatClampNeg)).toInt - (fgx (a.toNatClampNeg)).toInt) = 0 by omega)]; unfold ovl; rw [qq2, qq3, if_neg c_173, if_pos (by rw [elo, ehi] at c_181; omega)], fun q => absurd q (by decide), hlim⟩) [0, 1, 2, 3, 4, 5, 6] rfl (by decide) dX4_overlap_189 (Nat.le_of_ble_eq_true rfl) (Nat.le_of_ble_eq_true rfl)
        · have c_181 : r138.toInt < r163.toInt := lc_nge c_181
          refine lv_iconst (v := 2) hx hb dX4_overlap_184 (by decide) ?_
          refine lv_goto (tgt := 189) hx hb dX4_overlap_185 (by decide) ?_
          exact hret hP hD hS rfl (fw, fs) (⟨by unfold ovA; rw [if_pos (show ((ftx (a.toNatClampNeg)).toInt - (fgx (a.toNatClampNeg)).toInt) = 0 by omega)]; unfold ovl; rw [qq2, qq3, if_neg c_173, if_neg (by rw [elo, ehi] at c_181; omega)], fun q => absurd q (by decide), hlim⟩) [0, 1, 2, 3, 4, 5, 6] rfl (by decide) dX4_overlap_189 (Nat.le_of_ble_eq_true rfl) (Nat.le_of_ble_eq_true rfl)
    · have c_121 : r117.toInt < r110.toInt := lc_nle c_121
      refine lv_lload hx hb dX4_overlap_124 (lv_at hl 3 rfl) ?_
      refine lv_lload hx hb dX4_overlap_126 (lv_at hl 2 rfl) ?_
      refine vp_callSl (va_runS (As := [.long (fgy (a.toNatClampNeg)), .long (fty (a.toNatClampNeg))]) (rest := []) ⟨hx, hb, hml, hown, hTB⟩ (c_X4_less l D cZ cI cJ (fgy (a.toNatClampNeg)) (fty (a.toNatClampNeg))) (cw_S hTB tb_13_9 tb_1_5 tb_13_7 tb_13_8 nd_X4_less rfl rfl ⟨Nat.le_of_ble_eq_true rfl, Nat.le_of_ble_eq_true rfl⟩) (prr_S hK hP [] rfl) rfl rfl hl.1 rfl (lv_room (Nat.le_of_ble_eq_true rfl)) dX4_overlap_128 ⟨Nat.le_of_ble_eq_true rfl, Nat.le_of_ble_eq_true rfl⟩).run (fun r128 hc128 => ?_)
      refine lv_goto (tgt := 141) hx hb dX4_overlap_131 (by decide) ?_
      refine lv_lstore (lv' := [(12, .long r128), (10, .long (fty (b.toNatClampNeg))), (8, .long (fgy (b.toNatClampNeg))), (6, .long (fty (a.toNatClampNeg))), (4, .long (fgy (a.toNatClampNeg))), (3, .int 0), (0, .ref o), (1, .int a), (2, .int b)]) hx hb dX4_overlap_141 hl (by decide) rfl (fun ls hl => ?_)
      refine lv_lload hx hb dX4_overlap_143 (lv_at hl 4 rfl) ?_
      refine lv_lneg hx hb dX4_overlap_145 ?_
      refine lv_lload hx hb dX4_overlap_146 (lv_at hl 3 rfl) ?_
      refine lv_lneg hx hb dX4_overlap_148 ?_
      refine vp_callSl (va_runS (As := [.long (-(fgy (a.toNatClampNeg))), .long (-(fty (a.toNatClampNeg)))]) (rest := []) ⟨hx, hb, hml, hown, hTB⟩ (c_X4_less l D cZ cI cJ (-(fgy (a.toNatClampNeg))) (-(fty (a.toNatClampNeg)))) (cw_S hTB tb_13_9 tb_1_5 tb_13_7 tb_13_8 nd_X4_less rfl rfl ⟨Nat.le_of_ble_eq_true rfl, Nat.le_of_ble_eq_true rfl⟩) (prr_S hK hP [] rfl) rfl rfl hl.1 rfl (lv_room (Nat.le_of_ble_eq_true rfl)) dX4_overlap_149 ⟨Nat.le_of_ble_eq_true rfl, Nat.le_of_ble_eq_true rfl⟩).run (fun r149 hc149 => ?_)
      refine lv_lneg hx hb dX4_overlap_152 ?_
      refine lv_lload hx hb dX4_overlap_153 (lv_at hl 2 rfl) ?_
      refine lv_lneg hx hb dX4_overlap_155 ?_
      refine lv_lload hx hb dX4_overlap_156 (lv_at hl 1 rfl) ?_
      refine lv_lneg hx hb dX4_overlap_158 ?_
      refine vp_callSl (va_runS (As := [.long (-(fgy (b.toNatClampNeg))), .long (-(fty (b.toNatClampNeg)))]) (rest := [.long (-r149)]) ⟨hx, hb, hml, hown, hTB⟩ (c_X4_less l D cZ cI cJ (-(fgy (b.toNatClampNeg))) (-(fty (b.toNatClampNeg)))) (cw_S hTB tb_13_9 tb_1_5 tb_13_7 tb_13_8 nd_X4_less rfl rfl ⟨Nat.le_of_ble_eq_true rfl, Nat.le_of_ble_eq_true rfl⟩) (prr_S hK hP [] rfl) rfl rfl hl.1 rfl (lv_room (Nat.le_of_ble_eq_true rfl)) dX4_overlap_159 ⟨Nat.le_of_ble_eq_true rfl, Nat.le_of_ble_eq_true rfl⟩).run (fun r159 hc159 => ?_)
      refine lv_lneg hx hb dX4_overlap_162 ?_
      refine vp_callSl (va_runS (As := [.long (-r149), .long (-r159)]) (rest := []) ⟨hx, hb, hml, hown, hTB⟩ (c_X4_less l D cZ cI cJ (-r149) (-r159)) (cw_S hTB tb_13_9 tb_1_5 tb_13_7 tb_13_8 nd_X4_less rfl rfl ⟨Nat.le_of_ble_eq_true rfl, Nat.le_of_ble_eq_true rfl⟩) (prr_S hK hP [] rfl) rfl rfl hl.1 rfl (lv_room (Nat.le_of_ble_eq_true rfl)) dX4_overlap_163 ⟨Nat.le_of_ble_eq_true rfl, Nat.le_of_ble_eq_true rfl⟩).run (fun r163 hc163 => ?_)
      refine lv_lstore (lv' := [(14, .long r163), (12, .long r128), (10, .long (fty (b.toNatClampNeg))), (8, .long (fgy (b.toNatClampNeg))), (6, .long (fty (a.toNatClampNeg))), (4, .long (fgy (a.toNatClampNeg))), (3, .int 0), (0, .ref o), (1, .int a), (2, .int b)]) hx hb dX4_overlap_166 hl (by decide) rfl (fun ls hl => ?_)
      refine lv_lload hx hb dX4_overlap_168 (lv_at hl 1 rfl) ?_
      refine lv_lload hx hb dX4_overlap_170 (lv_at hl 0 rfl) ?_
      refine W.lcmp hx hb dX4_overlap_172 ?_
      refine lv_if_eq (tgt := 190) hx hb dX4_overlap_173 (by decide) (fun c_173 => ?_) (fun c_173 => ?_)
      · have c_173 : r128.toInt = r163.toInt := lc_eq c_173
        have elo : r128.toInt = imx (imn (fgy (a.toNatClampNeg)).toInt (fty (a.toNatClampNeg)).toInt) (imn (fgy (b.toNatClampNeg)).toInt (fty (b.toNatClampNeg)).toInt) := by rw [hc110, hc117] at c_121; unfold imx; rw [if_pos (by omega), hc128]
        have b1 := imx_bd (a := (fgy (a.toNatClampNeg)).toInt) (b := (fty (a.toNatClampNeg)).toInt) (B := 1099511627776) (by omega) (by omega) (by omega) (by omega)
        have b2 := imx_bd (a := (fgy (b.toNatClampNeg)).toInt) (b := (fty (b.toNatClampNeg)).toInt) (B := 1099511627776) (by omega) (by omega) (by omega) (by omega)
        have e149 : r149.toInt = -(imx (fgy (a.toNatClampNeg)).toInt (fty (a.toNatClampNeg)).toInt) := by rw [hc149, ng4, ng5, imn_neg]
        have e159 : r159.toInt = -(imx (fgy (b.toNatClampNeg)).toInt (fty (b.toNatClampNeg)).toInt) := by rw [hc159, ng6, ng7, imn_neg]
        have ehi : r163.toInt = imn (imx (fgy (a.toNatClampNeg)).toInt (fty (a.toNatClampNeg)).toInt) (imx (fgy (b.toNatClampNeg)).toInt (fty (b.toNatClampNeg)).toInt) := by rw [hc163, neg_rng (by omega), neg_rng (by omega), e149, e159, Int.neg_neg, Int.neg_neg]
        rw [elo, ehi] at c_173
        refine lv_lload hx hb dX4_overlap_190 (lv_at hl 5 rfl) ?_
        refine lv_lload hx hb dX4_overlap_192 (lv_at hl 1 rfl) ?_
        refine W.lcmp hx hb dX4_overlap_194 ?_
        refine lv_if_ne (tgt := 202) hx hb dX4_overlap_195 (by decide) (fun c_195 => ?_) (fun c_195 => ?_)
        · have c_195 : (fgy (a.toNatClampNeg)).toInt ≠ r128.toInt := lc_ne c_195
          refine lv_iconst (v := 0) hx hb dX4_overlap_202 (by decide) ?_
          refine lv_istore (lv' := [(16, .int 0), (14, .long r163), (12, .long r128), (10, .long (fty (b.toNatClampNeg))), (8, .long (fgy (b.toNatClampNeg))), (6, .long (fty (a.toNatClampNeg))), (4, .long (fgy (a.toNatClampNeg))), (3, .int 0), (0, .ref o), (1, .int a), (2, .int b)]) hx hb dX4_overlap_203 hl (by decide) rfl (fun ls hl => ?_)
          refine lv_aload_n hx hb dX4_overlap_205 rfl (lv_at hl 8 rfl) ?_
          refine lv_bipush (v := 12) hx hb dX4_overlap_206 (by decide) ?_
          refine lv_iload hx hb dX4_overlap_208 (lv_at hl 0 rfl) ?_
          refine lv_if_eq (tgt := 222) hx hb dX4_overlap_210 (by decide) (fun c_210 => ?_) (fun c_210 => absurd c_210 (by decide))
          refine lv_aload_n hx hb dX4_overlap_222 rfl (lv_at hl 8 rfl) ?_
          refine va_get (D := D) (ci := 4) (v := .ref tx) (C := RX4) (T := TX4) (N := 14) hx hb hTB tb_X4 hown hK.1 hP 0 rfl rfl 7 (by decide) (hTB _ tb_3_20) (fun _ h9 => h9) rfl dX4_overlap_223 ?_
          refine lv_iload_n hx hb dX4_overlap_226 rfl (lv_at hl 9 rfl) ?_
          refine va_lald (f := ftx) hx hb hK.1 hP 5 2 rfl rfl (vp_in_iff.mpr ⟨by omega, by omega⟩) dX4_overlap_227 ?_
          refine fin_v (wr := [(gx, .inl (cJ, 16, .inr (.inl fgx))), (gy, .inl (cJ, 16, .inr (.inl fgy))), (tx, .inl (cJ, 16, .inr (.inl ftx))), (tz, .inl (cJ, 16, .inr (.inl fty)))]) (va_runV (As := [.int 12, .long (ftx (a.toNatClampNeg))]) (rest := []) ⟨hx, hb, hml, hown, hTB⟩ (c_X4_put l D cZ cI cJ o wa sa ma tl gx gy tx tz kx ky cd ln cn ah fw fs 12 (ftx (a.toNatClampNeg)) hlim (by decide) _) (cw_V hTB tb_6_21 tb_1_5 tb_6_18 tb_6_19 tb_6_20 nd_X4_put rfl rfl ⟨Nat.le_of_ble_eq_true rfl, Nat.le_of_ble_eq_true rfl⟩) (pre_V (q0 := 0) hK hP hD [0, 1, 2] rfl rfl rfl rfl) rfl rfl hl.1 rfl (lv_room (Nat.le_of_ble_eq_true rfl)) dX4_overlap_228 ⟨Nat.le_of_ble_eq_true rfl, Nat.le_of_ble_eq_true rfl⟩) hP hD hS hA [0, 1, 2] [3, 4, 5, 6] rfl rfl rfl (by decide) (fun u228 H locs hc228 hP hD hS => ?_)
          obtain ⟨g228, s228⟩ := u228
          dsimp only at hc228
          obtain ⟨up228, rfl⟩ := hc228
          have hP : va_P D vwCl [(gx, .inl (cJ, 16, .inr (.inl fgx))), (gy, .inl (cJ, 16, .inr (.inl fgy))), (tx, .inl (cJ, 16, .inr (.inl ftx))), (tz, .inl (cJ, 16, .inr (.inl fty))), (o, .inr (4, [.int cd, .ref wa, .ref sa, .ref ma, .ref tl, .ref gx, .ref gy, .ref tx, .ref tz, .int ln, .ref kx, .ref ky, .int cn, .int ah])), (wa, .inl (cJ, 96, .inr (.inl g228))), (sa, .inl (cI, 16, .inl (upd fs 12 (sg ((ftx (a.toNatClampNeg)).toInt)))))] H := hP
          have hD : va_D A [(gx, .inl (cJ, 16, .inr (.inl fgx))), (gy, .inl (cJ, 16, .inr (.inl fgy))), (tx, .inl (cJ, 16, .inr (.inl ftx))), (tz, .inl (cJ, 16, .inr (.inl fty))), (o, .inr (4, [.int cd, .ref wa, .ref sa, .ref ma, .ref tl, .ref gx, .ref gy, .ref tx, .ref tz, .int ln, .ref kx, .ref ky, .int cn, .int ah])), (wa, .inl (cJ, 96, .inr (.inl g228))), (sa, .inl (cI, 16, .inl (upd fs 12 (sg ((ftx (a.toNatClampNeg)).toInt)))))] := hD
          refine lv_aload_n hx hb dX4_overlap_231 rfl (lv_at hl 8 rfl) ?_
          refine lv_bipush (v := 13) hx hb dX4_overlap_232 (by decide) ?_
          refine lv_lconst (v := 1) hx hb dX4_overlap_234 (by decide) ?_
          refine fin_v (wr := [(gx, .inl (cJ, 16, .inr (.inl fgx))), (gy, .inl (cJ, 16, .inr (.inl fgy))), (tx, .inl (cJ, 16, .inr (.inl ftx))), (tz, .inl (cJ, 16, .inr (.inl fty)))]) (va_runV (As := [.int 13, .long 1]) (rest := []) ⟨hx, hb, hml, hown, hTB⟩ (c_X4_put l D cZ cI cJ o wa sa ma tl gx gy tx tz kx ky cd ln cn ah g228 (upd fs 12 (sg ((ftx (a.toNatClampNeg)).toInt))) 13 1 up228.1 (by decide) _) (cw_V hTB tb_6_21 tb_1_5 tb_6_18 tb_6_19 tb_6_20 nd_X4_put rfl rfl ⟨Nat.le_of_ble_eq_true rfl, Nat.le_of_ble_eq_true rfl⟩) (pre_V (q0 := 4) hK hP hD [4, 5, 6] rfl rfl rfl rfl) rfl rfl hl.1 rfl (lv_room (Nat.le_of_ble_eq_true rfl)) dX4_overlap_235 ⟨Nat.le_of_ble_eq_true rfl, Nat.le_of_ble_eq_true rfl⟩) hP hD hS hA [4, 5, 6] [0, 1, 2, 3] rfl rfl rfl (by decide) (fun u235 H locs hc235 hP hD hS => ?_)
          obtain ⟨g235, s235⟩ := u235
          dsimp only at hc235
          obtain ⟨up235, rfl⟩ := hc235
          have hP : va_P D vwCl [(gx, .inl (cJ, 16, .inr (.inl fgx))), (gy, .inl (cJ, 16, .inr (.inl fgy))), (tx, .inl (cJ, 16, .inr (.inl ftx))), (tz, .inl (cJ, 16, .inr (.inl fty))), (o, .inr (4, [.int cd, .ref wa, .ref sa, .ref ma, .ref tl, .ref gx, .ref gy, .ref tx, .ref tz, .int ln, .ref kx, .ref ky, .int cn, .int ah])), (wa, .inl (cJ, 96, .inr (.inl g235))), (sa, .inl (cI, 16, .inl (upd (upd fs 12 (sg ((ftx (a.toNatClampNeg)).toInt))) 13 (sg ((1 : Int64).toInt)))))] H := hP
          have hD : va_D A [(gx, .inl (cJ, 16, .inr (.inl fgx))), (gy, .inl (cJ, 16, .inr (.inl fgy))), (tx, .inl (cJ, 16, .inr (.inl ftx))), (tz, .inl (cJ, 16, .inr (.inl fty))), (o, .inr (4, [.int cd, .ref wa, .ref sa, .ref ma, .ref tl, .ref gx, .ref gy, .ref tx, .ref tz, .int ln, .ref kx, .ref ky, .int cn, .int ah])), (wa, .inl (cJ, 96, .inr (.inl g235))), (sa, .inl (cI, 16, .inl (upd (upd fs 12 (sg ((ftx (a.toNatClampNeg)).toInt))) 13 (sg ((1 : Int64).toInt)))))] := hD
          refine lv_aload_n hx hb dX4_overlap_238 rfl (lv_at hl 8 rfl) ?_
          refine lv_bipush (v := 14) hx hb dX4_overlap_239 (by decide) ?_
          refine lv_iload hx hb dX4_overlap_241 (lv_at hl 0 rfl) ?_
          refine lv_if_eq (tgt := 255) hx hb dX4_overlap_243 (by decide) (fun c_243 => ?_) (fun c_243 => absurd c_243 (by decide))
          refine lv_aload_n hx hb dX4_overlap_255 rfl (lv_at hl 8 rfl) ?_
          refine va_get (D := D) (ci := 4) (v := .ref tz) (C := RX4) (T := TX4) (N := 14) hx hb hTB tb_X4 hown hK.1 hP 4 rfl rfl 8 (by decide) (hTB _ tb_3_21) (fun _ h9 => h9) rfl dX4_overlap_256 ?_
          refine lv_iload_n hx hb dX4_overlap_259 rfl (lv_at hl 9 rfl) ?_
          refine va_lald (f := fty) hx hb hK.1 hP 3 2 rfl rfl (vp_in_iff.mpr ⟨by omega, by omega⟩) dX4_overlap_260 ?_
          refine fin_v (wr := [(gx, .inl (cJ, 16, .inr (.inl fgx))), (gy, .inl (cJ, 16, .inr (.inl fgy))), (tx, .inl (cJ, 16, .inr (.inl ftx))), (tz, .inl (cJ, 16, .inr (.inl fty)))]) (va_runV (As := [.int 14, .long (fty (a.toNatClampNeg))]) (rest := []) ⟨hx, hb, hml, hown, hTB⟩ (c_X4_put l D cZ cI cJ o wa sa ma tl gx gy tx tz kx ky cd ln cn ah g235 (upd (upd fs 12 (sg ((ftx (a.toNatClampNeg)).toInt))) 13 (sg ((1 : Int64).toInt))) 14 (fty (a.toNatClampNeg)) up235.1 (by decide) _) (cw_V hTB tb_6_21 tb_1_5 tb_6_18 tb_6_19 tb_6_20 nd_X4_put rfl rfl ⟨Nat.le_of_ble_eq_true rfl, Nat.le_of_ble_eq_true rfl⟩) (pre_V (q0 := 4) hK hP hD [4, 5, 6] rfl rfl rfl rfl) rfl rfl hl.1 rfl (lv_room (Nat.le_of_ble_eq_true rfl)) dX4_overlap_261 ⟨Nat.le_of_ble_eq_true rfl, Nat.le_of_ble_eq_true rfl⟩) hP hD hS hA [4, 5, 6] [0, 1, 2, 3] rfl rfl rfl (by decide) (fun u261 H locs hc261 hP hD hS => ?_)
          obtain ⟨g261, s261⟩ := u261
          dsimp only at hc261
          obtain ⟨up261, rfl⟩ := hc261
          have hP : va_P D vwCl [(gx, .inl (cJ, 16, .inr (.inl fgx))), (gy, .inl (cJ, 16, .inr (.inl fgy))), (tx, .inl (cJ, 16, .inr (.inl ftx))), (tz, .inl (cJ, 16, .inr (.inl fty))), (o, .inr (4, [.int cd, .ref wa, .ref sa, .ref ma, .ref tl, .ref gx, .ref gy, .ref tx, .ref tz, .int ln, .ref kx, .ref ky, .int cn, .int ah])), (wa, .inl (cJ, 96, .inr (.inl g261))), (sa, .inl (cI, 16, .inl (upd (upd (upd fs 12 (sg ((ftx (a.toNatClampNeg)).toInt))) 13 (sg ((1 : Int64).toInt))) 14 (sg ((fty (a.toNatClampNeg)).toInt)))))] H := hP
          have hD : va_D A [(gx, .inl (cJ, 16, .inr (.inl fgx))), (gy, .inl (cJ, 16, .inr (.inl fgy))), (tx, .inl (cJ, 16, .inr (.inl ftx))), (tz, .inl (cJ, 16, .inr (.inl fty))), (o, .inr (4, [.int cd, .ref wa, .ref sa, .ref ma, .ref tl, .ref gx, .ref gy, .ref tx, .ref tz, .int ln, .ref kx, .ref ky, .int cn, .int ah])), (wa, .inl (cJ, 96, .inr (.inl g261))), (sa, .inl (cI, 16, .inl (upd (upd (upd fs 12 (sg ((ftx (a.toNatClampNeg)).toInt))) 13 (sg ((1 : Int64).toInt))) 14 (sg ((fty (a.toNatClampNeg)).toInt)))))] := hD
          refine lv_aload_n hx hb dX4_overlap_264 rfl (lv_at hl 8 rfl) ?_
          refine lv_bipush (v := 15) hx hb dX4_overlap_265 (by decide) ?_
          refine lv_lconst (v := 1) hx hb dX4_overlap_267 (by decide) ?_
          refine fin_v (wr := [(gx, .inl (cJ, 16, .inr (.inl fgx))), (gy, .inl (cJ, 16, .inr (.inl fgy))), (tx, .inl (cJ, 16, .inr (.inl ftx))), (tz, .inl (cJ, 16, .inr (.inl fty)))]) (va_runV (As := [.int 15, .long 1]) (rest := []) ⟨hx, hb, hml, hown, hTB⟩ (c_X4_put l D cZ cI cJ o wa sa ma tl gx gy tx tz kx ky cd ln cn ah g261 (upd (upd (upd fs 12 (sg ((ftx (a.toNatClampNeg)).toInt))) 13 (sg ((1 : Int64).toInt))) 14 (sg ((fty (a.toNatClampNeg)).toInt))) 15 1 up261.1 (by decide) _) (cw_V hTB tb_6_21 tb_1_5 tb_6_18 tb_6_19 tb_6_20 nd_X4_put rfl rfl ⟨Nat.le_of_ble_eq_true rfl, Nat.le_of_ble_eq_true rfl⟩) (pre_V (q0 := 4) hK hP hD [4, 5, 6] rfl rfl rfl rfl) rfl rfl hl.1 rfl (lv_room (Nat.le_of_ble_eq_true rfl)) dX4_overlap_268 ⟨Nat.le_of_ble_eq_true rfl, Nat.le_of_ble_eq_true rfl⟩) hP hD hS hA [4, 5, 6] [0, 1, 2, 3] rfl rfl rfl (by decide) (fun u268 H locs hc268 hP hD hS => ?_)
          obtain ⟨g268, s268⟩ := u268
          dsimp only at hc268
          obtain ⟨up268, rfl⟩ := hc268
          have hP : va_P D vwCl [(gx, .inl (cJ, 16, .inr (.inl fgx))), (gy, .inl (cJ, 16, .inr (.inl fgy))), (tx, .inl (cJ, 16, .inr (.inl ftx))), (tz, .inl (cJ, 16, .inr (.inl fty))), (o, .inr (4, [.int cd, .ref wa, .ref sa, .ref ma, .ref tl, .ref gx, .ref gy, .ref tx, .ref tz, .int ln, .ref kx, .ref ky, .int cn, .int ah])), (wa, .inl (cJ, 96, .inr (.inl g268))), (sa, .inl (cI, 16, .inl (upd (upd (upd (upd fs 12 (sg ((ftx (a.toNatClampNeg)).toInt))) 13 (sg ((1 : Int64).toInt))) 14 (sg ((fty (a.toNatClampNeg)).toInt))) 15 (sg ((1 : Int64).toInt)))))] H := hP
          have hD : va_D A [(gx, .inl (cJ, 16, .inr (.inl fgx))), (gy, .inl (cJ, 16, .inr (.inl fgy))), (tx, .inl (cJ, 16, .inr (.inl ftx))), (tz, .inl (cJ, 16, .inr (.inl fty))), (o, .inr (4, [.int cd, .ref wa, .ref sa, .ref ma, .ref tl, .ref gx, .ref gy, .ref tx, .ref tz, .int ln, .ref kx, .ref ky, .int cn, .int ah])), (wa, .inl (cJ, 96, .inr (.inl g268))), (sa, .inl (cI, 16, .inl (upd (upd (upd (upd fs 12 (sg ((ftx (a.toNatClampNeg)).toInt))) 13 (sg ((1 : Int64).toInt))) 14 (sg ((fty (a.toNatClampNeg)).toInt))) 15 (sg ((1 : Int64).toInt)))))] := hD
          refine lv_iconst (v := 1) hx hb dX4_overlap_271 (by decide) ?_
          have os : ovS (fgx (a.toNatClampNeg)).toInt (fgy (a.toNatClampNeg)).toInt ((ftx (a.toNatClampNeg)).toInt - (fgx (a.toNatClampNeg)).toInt) ((fty (a.toNatClampNeg)).toInt - (fgy (a.toNatClampNeg)).toInt) (fgx (b.toNatClampNeg)).toInt (fgy (b.toNatClampNeg)).toInt ((ftx (b.toNatClampNeg)).toInt - (fgx (b.toNatClampNeg)).toInt) ((fty (b.toNatClampNeg)).toInt - (fgy (b.toNatClampNeg)).toInt) ≠ 0 := (by unfold ovS; rw [if_pos (show ((ftx (a.toNatClampNeg)).toInt - (fgx (a.toNatClampNeg)).toInt) = 0 by omega), qq2, qq3]; rw [elo] at c_195; omega)
          exact hret hP hD hS rfl (g268, upd (upd (upd (upd fs 12 (sg ((ftx (a.toNatClampNeg)).toInt))) 13 (sg ((1 : Int64).toInt))) 14 (sg ((fty (a.toNatClampNeg)).toInt))) 15 (sg ((1 : Int64).toInt))) (⟨by unfold ovA; rw [if_pos (show ((ftx (a.toNatClampNeg)).toInt - (fgx (a.toNatClampNeg)).toInt) = 0 by omega)]; unfold ovl; rw [qq2, qq3, if_pos c_173], fun _ => ⟨by rw [show ovX (fgx (a.toNatClampNeg)).toInt (fgy (a.toNatClampNeg)).toInt ((ftx (a.toNatClampNeg)).toInt - (fgx (a.toNatClampNeg)).toInt) ((fty (a.toNatClampNeg)).toInt - (fgy (a.toNatClampNeg)).toInt) (fgx (b.toNatClampNeg)).toInt (fgy (b.toNatClampNeg)).toInt ((ftx (b.toNatClampNeg)).toInt - (fgx (b.toNatClampNeg)).toInt) ((fty (b.toNatClampNeg)).toInt - (fgy (b.toNatClampNeg)).toInt) = (ftx (a.toNatClampNeg)).toInt from (by unfold ovX; rw [if_neg os, qq0])]; exact HF_1 ((((hz.new up228).keep up235 (by decide)).keep up261 (by decide)).keep up268 (by decide)) (((hz.new (z := 1) up235).keep up261 (by decide)).keep up268 (by decide)), by rw [show ovY (fgx (a.toNatClampNeg)).toInt (fgy (a.toNatClampNeg)).toInt ((ftx (a.toNatClampNeg)).toInt - (fgx (a.toNatClampNeg)).toInt) ((fty (a.toNatClampNeg)).toInt - (fgy (a.toNatClampNeg)).toInt) (fgx (b.toNatClampNeg)).toInt (fgy (b.toNatClampNeg)).toInt ((ftx (b.toNatClampNeg)).toInt - (fgx (b.toNatClampNeg)).toInt) ((fty (b.toNatClampNeg)).toInt - (fgy (b.toNatClampNeg)).toInt) = (fty (a.toNatClampNeg)).toInt from (by unfold ovY; rw [if_neg os, qq2])]; exact HF_1 ((hz.new up261).keep up268 (by decide)) (hz.new (z := 1) up268)⟩, up268.1⟩) [4, 5, 6, 0, 1, 2, 3] rfl (by decide) dX4_overlap_272 (Nat.le_of_ble_eq_true rfl) (Nat.le_of_ble_eq_true rfl)
        · have c_195 : (fgy (a.toNatClampNeg)).toInt = r128.toInt := lc_eq c_195
          refine lv_iconst (v := 1) hx hb dX4_overlap_198 (by decide) ?_
          refine lv_goto (tgt := 203) hx hb dX4_overlap_199 (by decide) ?_
          refine lv_istore (lv' := [(16, .int 1), (14, .long r163), (12, .long r128), (10, .long (fty (b.toNatClampNeg))), (8, .long (fgy (b.toNatClampNeg))), (6, .long (fty (a.toNatClampNeg))), (4, .long (fgy (a.toNatClampNeg))), (3, .int 0), (0, .ref o), (1, .int a), (2, .int b)]) hx hb dX4_overlap_203 hl (by decide) rfl (fun ls hl => ?_)
          refine lv_aload_n hx hb dX4_overlap_205 rfl (lv_at hl 8 rfl) ?_
          refine lv_bipush (v := 12) hx hb dX4_overlap_206 (by decide) ?_
          refine lv_iload hx hb dX4_overlap_208 (lv_at hl 0 rfl) ?_
          refine lv_if_eq (tgt := 222) hx hb dX4_overlap_210 (by decide) (fun c_210 => absurd c_210 (by decide)) (fun c_210 => ?_)
          refine lv_aload_n hx hb dX4_overlap_213 rfl (lv_at hl 8 rfl) ?_
          refine va_get (D := D) (ci := 4) (v := .ref gx) (C := RX4) (T := TX4) (N := 14) hx hb hTB tb_X4 hown hK.1 hP 0 rfl rfl 5 (by decide) (hTB _ tb_3_18) (fun _ h9 => h9) rfl dX4_overlap_214 ?_
          refine lv_iload_n hx hb dX4_overlap_217 rfl (lv_at hl 9 rfl) ?_
          refine va_lald (f := fgx) hx hb hK.1 hP 3 2 rfl rfl (vp_in_iff.mpr ⟨by omega, by omega⟩) dX4_overlap_218 ?_
          refine lv_goto (tgt := 228) hx hb dX4_overlap_219 (by decide) ?_
          refine fin_v (wr := [(gx, .inl (cJ, 16, .inr (.inl fgx))), (gy, .inl (cJ, 16, .inr (.inl fgy))), (tx, .inl (cJ, 16, .inr (.inl ftx))), (tz, .inl (cJ, 16, .inr (.inl fty)))]) (va_runV (As := [.int 12, .long (fgx (a.toNatClampNeg))]) (rest := []) ⟨hx, hb, hml, hown, hTB⟩ (c_X4_put l D cZ cI cJ o wa sa ma tl gx gy tx tz kx ky cd ln cn ah fw fs 12 (fgx (a.toNatClampNeg)) hlim (by decide) _) (cw_V hTB tb_6_21 tb_1_5 tb_6_18 tb_6_19 tb_6_20 nd_X4_put rfl rfl ⟨Nat.le_of_ble_eq_true rfl, Nat.le_of_ble_eq_true rfl⟩) (pre_V (q0 := 0) hK hP hD [0, 1, 2] rfl rfl rfl rfl) rfl rfl hl.1 rfl (lv_room (Nat.le_of_ble_eq_true rfl)) dX4_overlap_228 ⟨Nat.le_of_ble_eq_true rfl, Nat.le_of_ble_eq_true rfl⟩) hP hD hS hA [0, 1, 2] [3, 4, 5, 6] rfl rfl rfl (by decide) (fun u228 H locs hc228 hP hD hS => ?_)
          obtain ⟨g228, s228⟩ := u228
          dsimp only at hc228
          obtain ⟨up228, rfl⟩ := hc228
          have hP : va_P D vwCl [(gx, .inl (cJ, 16, .inr (.inl fgx))), (gy, .inl (cJ, 16, .inr (.inl fgy))), (tx, .inl (cJ, 16, .inr (.inl ftx))), (tz, .inl (cJ, 16, .inr (.inl fty))), (o, .inr (4, [.int cd, .ref wa, .ref sa, .ref ma, .ref tl, .ref gx, .ref gy, .ref tx, .ref tz, .int ln, .ref kx, .ref ky, .int cn, .int ah])), (wa, .inl (cJ, 96, .inr (.inl g228))), (sa, .inl (cI, 16, .inl (upd fs 12 (sg ((fgx (a.toNatClampNeg)).toInt)))))] H := hP
          have hD : va_D A [(gx, .inl (cJ, 16, .inr (.inl fgx))), (gy, .inl (cJ, 16, .inr (.inl fgy))), (tx, .inl (cJ, 16, .inr (.inl ftx))), (tz, .inl (cJ, 16, .inr (.inl fty))), (o, .inr (4, [.int cd, .ref wa, .ref sa, .ref ma, .ref tl, .ref gx, .ref gy, .ref tx, .ref tz, .int ln, .ref kx, .ref ky, .int cn, .int ah])), (wa, .inl (cJ, 96, .inr (.inl g228))), (sa, .inl (cI, 16, .inl (upd fs 12 (sg ((fgx (a.toNatClampNeg)).toInt)))))] := hD
          refine lv_aload_n hx hb dX4_overlap_231 rfl (lv_at hl 8 rfl) ?_
          refine lv_bipush (v := 13) hx hb dX4_overlap_232 (by decide) ?_
          refine lv_lconst (v := 1) hx hb dX4_overlap_234 (by decide) ?_
          refine fin_v (wr := [(gx, .inl (cJ, 16, .inr (.inl fgx))), (gy, .inl (cJ, 16, .inr (.inl fgy))), (tx, .inl (cJ, 16, .inr (.inl ftx))), (tz, .inl (cJ, 16, .inr (.inl fty)))]) (va_runV (As := [.int 13, .long 1]) (rest := []) ⟨hx, hb, hml, hown, hTB⟩ (c_X4_put l D cZ cI cJ o wa sa ma tl gx gy tx tz kx ky cd ln cn ah g228 (upd fs 12 (sg ((fgx (a.toNatClampNeg)).toInt))) 13 1 up228.1 (by decide) _) (cw_V hTB tb_6_21 tb_1_5 tb_6_18 tb_6_19 tb_6_20 nd_X4_put rfl rfl ⟨Nat.le_of_ble_eq_true rfl, Nat.le_of_ble_eq_true rfl⟩) (pre_V (q0 := 4) hK hP hD [4, 5, 6] rfl rfl rfl rfl) rfl rfl hl.1 rfl (lv_room (Nat.le_of_ble_eq_true rfl)) dX4_overlap_235 ⟨Nat.le_of_ble_eq_true rfl, Nat.le_of_ble_eq_true rfl⟩) hP hD hS hA [4, 5, 6] [0, 1, 2, 3] rfl rfl rfl (by decide) (fun u235 H locs hc235 hP hD hS => ?_)
          obtain ⟨g235, s235⟩ := u235
          dsimp only at hc235
          obtain ⟨up235, rfl⟩ := hc235
          have hP : va_P D vwCl [(gx, .inl (cJ, 16, .inr (.inl fgx))), (gy, .inl (cJ, 16, .inr (.inl fgy))), (tx, .inl (cJ, 16, .inr (.inl ftx))), (tz, .inl (cJ, 16, .inr (.inl fty))), (o, .inr (4, [.int cd, .ref wa, .ref sa, .ref ma, .ref tl, .ref gx, .ref gy, .ref tx, .ref tz, .int ln, .ref kx, .ref ky, .int cn, .int ah])), (wa, .inl (cJ, 96, .inr (.inl g235))), (sa, .inl (cI, 16, .inl (upd (upd fs 12 (sg ((fgx (a.toNatClampNeg)).toInt))) 13 (sg ((1 : Int64).toInt)))))] H := hP
          have hD : va_D A [(gx, .inl (cJ, 16, .inr (.inl fgx))), (gy, .inl (cJ, 16, .inr (.inl fgy))), (tx, .inl (cJ, 16, .inr (.inl ftx))), (tz, .inl (cJ, 16, .inr (.inl fty))), (o, .inr (4, [.int cd, .ref wa, .ref sa, .ref ma, .ref tl, .ref gx, .ref gy, .ref tx, .ref tz, .int ln, .ref kx, .ref ky, .int cn, .int ah])), (wa, .inl (cJ, 96, .inr (.inl g235))), (sa, .inl (cI, 16, .inl (upd (upd fs 12 (sg ((fgx (a.toNatClampNeg)).toInt))) 13 (sg ((1 : Int64).toInt)))))] := hD
          refine lv_aload_n hx hb dX4_overlap_238 rfl (lv_at hl 8 rfl) ?_
          refine lv_bipush (v := 14) hx hb dX4_overlap_239 (by decide) ?_
          refine lv_iload hx hb dX4_overlap_241 (lv_at hl 0 rfl) ?_
          refine lv_if_eq (tgt := 255) hx hb dX4_overlap_243 (by decide) (fun c_243 => absurd c_243 (by decide)) (fun c_243 => ?_)
          refine lv_aload_n hx hb dX4_overlap_246 rfl (lv_at hl 8 rfl) ?_
          refine va_get (D := D) (ci := 4) (v := .ref gy) (C := RX4) (T := TX4) (N := 14) hx hb hTB tb_X4 hown hK.1 hP 4 rfl rfl 6 (by decide) (hTB _ tb_3_19) (fun _ h9 => h9) rfl dX4_overlap_247 ?_
          refine lv_iload_n hx hb dX4_overlap_250 rfl (lv_at hl 9 rfl) ?_
          refine va_lald (f := fgy) hx hb hK.1 hP 1 2 rfl rfl (vp_in_iff.mpr ⟨by omega, by omega⟩) dX4_overlap_251 ?_
          refine lv_goto (tgt := 261) hx hb dX4_overlap_252 (by decide) ?_
          refine fin_v (wr := [(gx, .inl (cJ, 16, .inr (.inl fgx))), (gy, .inl (cJ, 16, .inr (.inl fgy))), (tx, .inl (cJ, 16, .inr (.inl ftx))), (tz, .inl (cJ, 16, .inr (.inl fty)))]) (va_runV (As := [.int 14, .long (fgy (a.toNatClampNeg))]) (rest := []) ⟨hx, hb, hml, hown, hTB⟩ (c_X4_put l D cZ cI cJ o wa sa ma tl gx gy tx tz kx ky cd ln cn ah g235 (upd (upd fs 12 (sg ((fgx (a.toNatClampNeg)).toInt))) 13 (sg ((1 : Int64).toInt))) 14 (fgy (a.toNatClampNeg)) up235.1 (by decide) _) (cw_V hTB tb_6_21 tb_1_5 tb_6_18 tb_6_19 tb_6_20 nd_X4_put rfl rfl ⟨Nat.le_of_ble_eq_true rfl, Nat.le_of_ble_eq_true rfl⟩) (pre_V (q0 := 4) hK hP hD [4, 5, 6] rfl rfl rfl rfl) rfl rfl hl.1 rfl (lv_room (Nat.le_of_ble_eq_true rfl)) dX4_overlap_261 ⟨Nat.le_of_ble_eq_true rfl, Nat.le_of_ble_eq_true rfl⟩) hP hD hS hA [4, 5, 6] [0, 1, 2, 3] rfl rfl rfl (by decide) (fun u261 H locs hc261 hP hD hS => ?_)
          obtain ⟨g261, s261⟩ := u261
          dsimp only at hc261
          obtain ⟨up261, rfl⟩ := hc261
          have hP : va_P D vwCl [(gx, .inl (cJ, 16, .inr (.inl fgx))), (gy, .inl (cJ, 16, .inr (.inl fgy))), (tx, .inl (cJ, 16, .inr (.inl ftx))), (tz, .inl (cJ, 16, .inr (.inl fty))), (o, .inr (4, [.int cd, .ref wa, .ref sa, .ref ma, .ref tl, .ref gx, .ref gy, .ref tx, .ref tz, .int ln, .ref kx, .ref ky, .int cn, .int ah])), (wa, .inl (cJ, 96, .inr (.inl g261))), (sa, .inl (cI, 16, .inl (upd (upd (upd fs 12 (sg ((fgx (a.toNatClampNeg)).toInt))) 13 (sg ((1 : Int64).toInt))) 14 (sg ((fgy (a.toNatClampNeg)).toInt)))))] H := hP
          have hD : va_D A [(gx, .inl (cJ, 16, .inr (.inl fgx))), (gy, .inl (cJ, 16, .inr (.inl fgy))), (tx, .inl (cJ, 16, .inr (.inl ftx))), (tz, .inl (cJ, 16, .inr (.inl fty))), (o, .inr (4, [.int cd, .ref wa, .ref sa, .ref ma, .ref tl, .ref gx, .ref gy, .ref tx, .ref tz, .int ln, .ref kx, .ref ky, .int cn, .int ah])), (wa, .inl (cJ, 96, .inr (.inl g261))), (sa, .inl (cI, 16, .inl (upd (upd (upd fs 12 (sg ((fgx (a.toNatClampNeg)).toInt))) 13 (sg ((1 : Int64).toInt))) 14 (sg ((fgy (a.toNatClampNeg)).toInt)))))] := hD
          refine lv_aload_n hx hb dX4_overlap_264 rfl (lv_at hl 8 rfl) ?_
          refine lv_bipush (v := 15) hx hb dX4_overlap_265 (by decide) ?_
          refine lv_lconst (v := 1) hx hb dX4_overlap_267 (by decide) ?_
          refine fin_v (wr := [(gx, .inl (cJ, 16, .inr (.inl fgx))), (gy, .inl (cJ, 16, .inr (.inl fgy))), (tx, .inl (cJ, 16, .inr (.inl ftx))), (tz, .inl (cJ, 16, .inr (.inl fty)))]) (va_runV (As := [.int 15, .long 1]) (rest := []) ⟨hx, hb, hml, hown, hTB⟩ (c_X4_put l D cZ cI cJ o wa sa ma tl gx gy tx tz kx ky cd ln cn ah g261 (upd (upd (upd fs 12 (sg ((fgx (a.toNatClampNeg)).toInt))) 13 (sg ((1 : Int64).toInt))) 14 (sg ((fgy (a.toNatClampNeg)).toInt))) 15 1 up261.1 (by decide) _) (cw_V hTB tb_6_21 tb_1_5 tb_6_18 tb_6_19 tb_6_20 nd_X4_put rfl rfl ⟨Nat.le_of_ble_eq_true rfl, Nat.le_of_ble_eq_true rfl⟩) (pre_V (q0 := 4) hK hP hD [4, 5, 6] rfl rfl rfl rfl) rfl rfl hl.1 rfl (lv_room (Nat.le_of_ble_eq_true rfl)) dX4_overlap_268 ⟨Nat.le_of_ble_eq_true rfl, Nat.le_of_ble_eq_true rfl⟩) hP hD hS hA [4, 5, 6] [0, 1, 2, 3] rfl rfl rfl (by decide) (fun u268 H locs hc268 hP hD hS => ?_)
          obtain ⟨g268, s268⟩ := u268
          dsimp only at hc268
          obtain ⟨up268, rfl⟩ := hc268
          have hP : va_P D vwCl [(gx, .inl (cJ, 16, .inr (.inl fgx))), (gy, .inl (cJ, 16, .inr (.inl fgy))), (tx, .inl (cJ, 16, .inr (.inl ftx))), (tz, .inl (cJ, 16, .inr (.inl fty))), (o, .inr (4, [.int cd, .ref wa, .ref sa, .ref ma, .ref tl, .ref gx, .ref gy, .ref tx, .ref tz, .int ln, .ref kx, .ref ky, .int cn, .int ah])), (wa, .inl (cJ, 96, .inr (.inl g268))), (sa, .inl (cI, 16, .inl (upd (upd (upd (upd fs 12 (sg ((fgx (a.toNatClampNeg)).toInt))) 13 (sg ((1 : Int64).toInt))) 14 (sg ((fgy (a.toNatClampNeg)).toInt))) 15 (sg ((1 : Int64).toInt)))))] H := hP
          have hD : va_D A [(gx, .inl (cJ, 16, .inr (.inl fgx))), (gy, .inl (cJ, 16, .inr (.inl fgy))), (tx, .inl (cJ, 16, .inr (.inl ftx))), (tz, .inl (cJ, 16, .inr (.inl fty))), (o, .inr (4, [.int cd, .ref wa, .ref sa, .ref ma, .ref tl, .ref gx, .ref gy, .ref tx, .ref tz, .int ln, .ref kx, .ref ky, .int cn, .int ah])), (wa, .inl (cJ, 96, .inr (.inl g268))), (sa, .inl (cI, 16, .inl (upd (upd (upd (upd fs 12 (sg ((fgx (a.toNatClampNeg)).toInt))) 13 (sg ((1 : Int64).toInt))) 14 (sg ((fgy (a.toNatClampNeg)).toInt))) 15 (sg ((1 : Int64).toInt)))))] := hD
          refine lv_iconst (v := 1) hx hb dX4_overlap_271 (by decide) ?_
          have os : ovS (fgx (a.toNatClampNeg)).toInt (fgy (a.toNatClampNeg)).toInt ((ftx (a.toNatClampNeg)).toInt - (fgx (a.toNatClampNeg)).toInt) ((fty (a.toNatClampNeg)).toInt - (fgy (a.toNatClampNeg)).toInt) (fgx (b.toNatClampNeg)).toInt (fgy (b.toNatClampNeg)).toInt ((ftx (b.toNatClampNeg)).toInt - (fgx (b.toNatClampNeg)).toInt) ((fty (b.toNatClampNeg)).toInt - (fgy (b.toNatClampNeg)).toInt) = 0 := (by unfold ovS; rw [if_pos (show ((ftx (a.toNatClampNeg)).toInt - (fgx (a.toNatClampNeg)).toInt) = 0 by omega), qq2, qq3]; rw [elo] at c_195; omega)
          exact hret hP hD hS rfl (g268, upd (upd (upd (upd fs 12 (sg ((fgx (a.toNatClampNeg)).toInt))) 13 (sg ((1 : Int64).toInt))) 14 (sg ((fgy (a.toNatClampNeg)).toInt))) 15 (sg ((1 : Int64).toInt))) (⟨by unfold ovA; rw [if_pos (show ((ftx (a.toNatClampNeg)).toInt - (fgx (a.toNatClampNeg)).toInt) = 0 by omega)]; unfold ovl; rw [qq2, qq3, if_pos c_173], fun _ => ⟨by rw [show ovX (fgx (a.toNatClampNeg)).toInt (fgy (a.toNatClampNeg)).toInt ((ftx (a.toNatClampNeg)).toInt - (fgx (a.toNatClampNeg)).toInt) ((fty (a.toNatClampNeg)).toInt - (fgy (a.toNatClampNeg)).toInt) (fgx (b.toNatClampNeg)).toInt (fgy (b.toNatClampNeg)).toInt ((ftx (b.toNatClampNeg)).toInt - (fgx (b.toNatClampNeg)).toInt) ((fty (b.toNatClampNeg)).toInt - (fgy (b.toNatClampNeg)).toInt) = (fgx (a.toNatClampNeg)).toInt from (by unfold ovX; rw [if_pos os])]; exact HF_1 ((((hz.new up228).keep up235 (by decide)).keep up261 (by decide)).keep up268 (by decide)) (((hz.new (z := 1) up235).keep up261 (by decide)).keep up268 (by decide)), by rw [show ovY (fgx (a.toNatClampNeg)).toInt (fgy (a.toNatClampNeg)).toInt ((ftx (a.toNatClampNeg)).toInt - (fgx (a.toNatClampNeg)).toInt) ((fty (a.toNatClampNeg)).toInt - (fgy (a.toNatClampNeg)).toInt) (fgx (b.toNatClampNeg)).toInt (fgy (b.toNatClampNeg)).toInt ((ftx (b.toNatClampNeg)).toInt - (fgx (b.toNatClampNeg)).toInt) ((fty (b.toNatClampNeg)).toInt - (fgy (b.toNatClampNeg)).toInt) = (fgy (a.toNatClampNeg)).toInt from (by unfold ovY; rw [if_pos os])]; exact HF_1 ((hz.new up261).keep up268 (by decide)) (hz.new (z := 1) up268)⟩, up268.1⟩) [4, 5, 6, 0, 1, 2, 3] rfl (by decide) dX4_overlap_272 (Nat.le_of_ble_eq_true rfl) (Nat.le_of_ble_eq_true rfl)
      · have c_173 : r128.toInt ≠ r163.toInt := lc_ne c_173
        have elo : r128.toInt = imx (imn (fgy (a.toNatClampNeg)).toInt (fty (a.toNatClampNeg)).toInt) (imn (fgy (b.toNatClampNeg)).toInt (fty (b.toNatClampNeg)).toInt) := by rw [hc110, hc117] at c_121; unfold imx; rw [if_pos (by omega), hc128]
        have b1 := imx_bd (a := (fgy (a.toNatClampNeg)).toInt) (b := (fty (a.toNatClampNeg)).toInt) (B := 1099511627776) (by omega) (by omega) (by omega) (by omega)
        have b2 := imx_bd (a := (fgy (b.toNatClampNeg)).toInt) (b := (fty (b.toNatClampNeg)).toInt) (B := 1099511627776) (by omega) (by omega) (by omega) (by omega)
        have e149 : r149.toInt = -(imx (fgy (a.toNatClampNeg)).toInt (fty (a.toNatClampNeg)).toInt) := by rw [hc149, ng4, ng5, imn_neg]
        have e159 : r159.toInt = -(imx (fgy (b.toNatClampNeg)).toInt (fty (b.toNatClampNeg)).toInt) := by rw [hc159, ng6, ng7, imn_neg]
        have ehi : r163.toInt = imn (imx (fgy (a.toNatClampNeg)).toInt (fty (a.toNatClampNeg)).toInt) (imx (fgy (b.toNatClampNeg)).toInt (fty (b.toNatClampNeg)).toInt) := by rw [hc163, neg_rng (by omega), neg_rng (by omega), e149, e159, Int.neg_neg, Int.neg_neg]
        rw [elo, ehi] at c_173
        refine lv_lload hx hb dX4_overlap_176 (lv_at hl 1 rfl) ?_
        refine lv_lload hx hb dX4_overlap_178 (lv_at hl 0 rfl) ?_
        refine W.lcmp hx hb dX4_overlap_180 ?_
        refine lv_if_ge (tgt := 188) hx hb dX4_overlap_181 (by decide) (fun c_181 => ?_) (fun c_181 => ?_)
        · have c_181 : r163.toInt ≤ r128.toInt := lc_ge c_181
          refine lv_iconst (v := 0) hx hb dX4_overlap_188 (by decide) ?_
          exact hret hP hD hS rfl (fw, fs) (⟨by unfold ovA; rw [if_pos (show ((ftx (a.toNatClampNeg)).toInt - (fgx (a.toNatClampNeg)).toInt) = 0 by omega)]; unfold ovl; rw [qq2, qq3, if_neg c_173, if_pos (by rw [elo, ehi] at c_181; omega)], fun q => absurd q (by decide), hlim⟩) [0, 1, 2, 3, 4, 5, 6] rfl (by decide) dX4_overlap_189 (Nat.le_of_ble_eq_true rfl) (Nat.le_of_ble_eq_true rfl)
        · have c_181 : r128.toInt < r163.toInt := lc_nge c_181
          refine lv_iconst (v := 2) hx hb dX4_overlap_184 (by decide) ?_
          refine lv_goto (tgt := 189) hx hb dX4_overlap_185 (by decide) ?_
          exact hret hP hD hS rfl (fw, fs) (⟨by unfold ovA; rw [if_pos (show ((ftx (a.toNatClampNeg)).toInt - (fgx (a.toNatClampNeg)).toInt) = 0 by omega)]; unfold ovl; rw [qq2, qq3, if_neg c_173, if_neg (by rw [elo, ehi] at c_181; omega)], fun q => absurd q (by decide), hlim⟩) [0, 1, 2, 3, 4, 5, 6] rfl (by decide) dX4_overlap_189 (Nat.le_of_ble_eq_true rfl) (Nat.le_of_ble_eq_true rfl)
  · have c_13 : (fgx (a.toNatClampNeg)).toInt ≠ (ftx (a.toNatClampNeg)).toInt := lc_ne c_13
    refine lv_iconst (v := 1) hx hb dX4_overlap_16 (by decide) ?_
    refine lv_goto (tgt := 21) hx hb dX4_overlap_17 (by decide) ?_
    refine lv_istore_n (lv' := [(3, .int 1), (0, .ref o), (1, .int a), (2, .int b)]) hx hb dX4_overlap_21 rfl hl (by decide) rfl (fun ls hl => ?_)
    refine lv_iload_n hx hb dX4_overlap_22 rfl (lv_at hl 0 rfl) ?_
    refine lv_if_eq (tgt := 35) hx hb dX4_overlap_23 (by decide) (fun c_23 => absurd c_23 (by decide)) (fun c_23 => ?_)
    refine lv_aload_n hx hb dX4_overlap_26 rfl (lv_at hl 1 rfl) ?_
    refine va_get (D := D) (ci := 4) (v := .ref gx) (C := RX4) (T := TX4) (N := 14) hx hb hTB tb_X4 hown hK.1 hP 0 rfl rfl 5 (by decide) (hTB _ tb_3_18) (fun _ h9 => h9) rfl dX4_overlap_27 ?_
    refine lv_iload_n hx hb dX4_overlap_30 rfl (lv_at hl 2 rfl) ?_
    refine va_lald (f := fgx) hx hb hK.1 hP 3 2 rfl rfl (vp_in_iff.mpr ⟨by omega, by omega⟩) dX4_overlap_31 ?_
    refine lv_goto (tgt := 41) hx hb dX4_overlap_32 (by decide) ?_
    refine lv_lstore (lv' := [(4, .long (fgx (a.toNatClampNeg))), (3, .int 1), (0, .ref o), (1, .int a), (2, .int b)]) hx hb dX4_overlap_41 hl (by decide) rfl (fun ls hl => ?_)
    refine lv_iload_n hx hb dX4_overlap_43 rfl (lv_at hl 1 rfl) ?_
    refine lv_if_eq (tgt := 56) hx hb dX4_overlap_44 (by decide) (fun c_44 => absurd c_44 (by decide)) (fun c_44 => ?_)
    refine lv_aload_n hx hb dX4_overlap_47 rfl (lv_at hl 2 rfl) ?_
    refine va_get (D := D) (ci := 4) (v := .ref tx) (C := RX4) (T := TX4) (N := 14) hx hb hTB tb_X4 hown hK.1 hP 0 rfl rfl 7 (by decide) (hTB _ tb_3_20) (fun _ h9 => h9) rfl dX4_overlap_48 ?_
    refine lv_iload_n hx hb dX4_overlap_51 rfl (lv_at hl 3 rfl) ?_
    refine va_lald (f := ftx) hx hb hK.1 hP 5 2 rfl rfl (vp_in_iff.mpr ⟨by omega, by omega⟩) dX4_overlap_52 ?_
    refine lv_goto (tgt := 62) hx hb dX4_overlap_53 (by decide) ?_
    refine lv_lstore (lv' := [(6, .long (ftx (a.toNatClampNeg))), (4, .long (fgx (a.toNatClampNeg))), (3, .int 1), (0, .ref o), (1, .int a), (2, .int b)]) hx hb dX4_overlap_62 hl (by decide) rfl (fun ls hl => ?_)
    refine lv_iload_n hx hb dX4_overlap_64 rfl (lv_at hl 2 rfl) ?_
    refine lv_if_eq (tgt := 77) hx hb dX4_overlap_65 (by decide) (fun c_65 => absurd c_65 (by decide)) (fun c_65 => ?_)
    refine lv_aload_n hx hb dX4_overlap_68 rfl (lv_at hl 3 rfl) ?_
    refine va_get (D := D) (ci := 4) (v := .ref gx) (C := RX4) (T := TX4) (N := 14) hx hb hTB tb_X4 hown hK.1 hP 0 rfl rfl 5 (by decide) (hTB _ tb_3_18) (fun _ h9 => h9) rfl dX4_overlap_69 ?_
    refine lv_iload_n hx hb dX4_overlap_72 rfl (lv_at hl 5 rfl) ?_
    refine va_lald (f := fgx) hx hb hK.1 hP 3 2 rfl rfl (vp_in_iff.mpr ⟨by omega, by omega⟩) dX4_overlap_73 ?_
    refine lv_goto (tgt := 83) hx hb dX4_overlap_74 (by decide) ?_
    refine lv_lstore (lv' := [(8, .long (fgx (b.toNatClampNeg))), (6, .long (ftx (a.toNatClampNeg))), (4, .long (fgx (a.toNatClampNeg))), (3, .int 1), (0, .ref o), (1, .int a), (2, .int b)]) hx hb dX4_overlap_83 hl (by decide) rfl (fun ls hl => ?_)
    refine lv_iload_n hx hb dX4_overlap_85 rfl (lv_at hl 3 rfl) ?_
    refine lv_if_eq (tgt := 98) hx hb dX4_overlap_86 (by decide) (fun c_86 => absurd c_86 (by decide)) (fun c_86 => ?_)
    refine lv_aload_n hx hb dX4_overlap_89 rfl (lv_at hl 4 rfl) ?_
    refine va_get (D := D) (ci := 4) (v := .ref tx) (C := RX4) (T := TX4) (N := 14) hx hb hTB tb_X4 hown hK.1 hP 0 rfl rfl 7 (by decide) (hTB _ tb_3_20) (fun _ h9 => h9) rfl dX4_overlap_90 ?_
    refine lv_iload_n hx hb dX4_overlap_93 rfl (lv_at hl 6 rfl) ?_
    refine va_lald (f := ftx) hx hb hK.1 hP 5 2 rfl rfl (vp_in_iff.mpr ⟨by omega, by omega⟩) dX4_overlap_94 ?_
    refine lv_goto (tgt := 104) hx hb dX4_overlap_95 (by decide) ?_
    refine lv_lstore (lv' := [(10, .long (ftx (b.toNatClampNeg))), (8, .long (fgx (b.toNatClampNeg))), (6, .long (ftx (a.toNatClampNeg))), (4, .long (fgx (a.toNatClampNeg))), (3, .int 1), (0, .ref o), (1, .int a), (2, .int b)]) hx hb dX4_overlap_104 hl (by decide) rfl (fun ls hl => ?_)
    refine lv_lload hx hb dX4_overlap_106 (lv_at hl 3 rfl) ?_
    refine lv_lload hx hb dX4_overlap_108 (lv_at hl 2 rfl) ?_
    refine vp_callSl (va_runS (As := [.long (fgx (a.toNatClampNeg)), .long (ftx (a.toNatClampNeg))]) (rest := []) ⟨hx, hb, hml, hown, hTB⟩ (c_X4_less l D cZ cI cJ (fgx (a.toNatClampNeg)) (ftx (a.toNatClampNeg))) (cw_S hTB tb_13_9 tb_1_5 tb_13_7 tb_13_8 nd_X4_less rfl rfl ⟨Nat.le_of_ble_eq_true rfl, Nat.le_of_ble_eq_true rfl⟩) (prr_S hK hP [] rfl) rfl rfl hl.1 rfl (lv_room (Nat.le_of_ble_eq_true rfl)) dX4_overlap_110 ⟨Nat.le_of_ble_eq_true rfl, Nat.le_of_ble_eq_true rfl⟩).run (fun r110 hc110 => ?_)
    refine lv_lload hx hb dX4_overlap_113 (lv_at hl 1 rfl) ?_
    refine lv_lload hx hb dX4_overlap_115 (lv_at hl 0 rfl) ?_
    refine vp_callSl (va_runS (As := [.long (fgx (b.toNatClampNeg)), .long (ftx (b.toNatClampNeg))]) (rest := [.long r110]) ⟨hx, hb, hml, hown, hTB⟩ (c_X4_less l D cZ cI cJ (fgx (b.toNatClampNeg)) (ftx (b.toNatClampNeg))) (cw_S hTB tb_13_9 tb_1_5 tb_13_7 tb_13_8 nd_X4_less rfl rfl ⟨Nat.le_of_ble_eq_true rfl, Nat.le_of_ble_eq_true rfl⟩) (prr_S hK hP [] rfl) rfl rfl hl.1 rfl (lv_room (Nat.le_of_ble_eq_true rfl)) dX4_overlap_117 ⟨Nat.le_of_ble_eq_true rfl, Nat.le_of_ble_eq_true rfl⟩).run (fun r117 hc117 => ?_)
    refine W.lcmp hx hb dX4_overlap_120 ?_
    refine lv_if_le (tgt := 134) hx hb dX4_overlap_121 (by decide) (fun c_121 => ?_) (fun c_121 => ?_)
    · have c_121 : r110.toInt ≤ r117.toInt := lc_le c_121
      refine lv_lload hx hb dX4_overlap_134 (lv_at hl 1 rfl) ?_
      refine lv_lload hx hb dX4_overlap_136 (lv_at hl 0 rfl) ?_
      refine vp_callSl (va_runS (As := [.long (fgx (b.toNatClampNeg)), .long (ftx (b.toNatClampNeg))]) (rest := []) ⟨hx, hb, hml, hown, hTB⟩ (c_X4_less l D cZ cI cJ (fgx (b.toNatClampNeg)) (ftx (b.toNatClampNeg))) (cw_S hTB tb_13_9 tb_1_5 tb_13_7 tb_13_8 nd_X4_less rfl rfl ⟨Nat.le_of_ble_eq_true rfl, Nat.le_of_ble_eq_true rfl⟩) (prr_S hK hP [] rfl) rfl rfl hl.1 rfl (lv_room (Nat.le_of_ble_eq_true rfl)) dX4_overlap_138 ⟨Nat.le_of_ble_eq_true rfl, Nat.le_of_ble_eq_true rfl⟩).run (fun r138 hc138 => ?_)
      refine lv_lstore (lv' := [(12, .long r138), (10, .long (ftx (b.toNatClampNeg))), (8, .long (fgx (b.toNatClampNeg))), (6, .long (ftx (a.toNatClampNeg))), (4, .long (fgx (a.toNatClampNeg))), (3, .int 1), (0, .ref o), (1, .int a), (2, .int b)]) hx hb dX4_overlap_141 hl (by decide) rfl (fun ls hl => ?_)
      refine lv_lload hx hb dX4_overlap_143 (lv_at hl 4 rfl) ?_
      refine lv_lneg hx hb dX4_overlap_145 ?_
      refine lv_lload hx hb dX4_overlap_146 (lv_at hl 3 rfl) ?_
      refine lv_lneg hx hb dX4_overlap_148 ?_
      refine vp_callSl (va_runS (As := [.long (-(fgx (a.toNatClampNeg))), .long (-(ftx (a.toNatClampNeg)))]) (rest := []) ⟨hx, hb, hml, hown, hTB⟩ (c_X4_less l D cZ cI cJ (-(fgx (a.toNatClampNeg))) (-(ftx (a.toNatClampNeg)))) (cw_S hTB tb_13_9 tb_1_5 tb_13_7 tb_13_8 nd_X4_less rfl rfl ⟨Nat.le_of_ble_eq_true rfl, Nat.le_of_ble_eq_true rfl⟩) (prr_S hK hP [] rfl) rfl rfl hl.1 rfl (lv_room (Nat.le_of_ble_eq_true rfl)) dX4_overlap_149 ⟨Nat.le_of_ble_eq_true rfl, Nat.le_of_ble_eq_true rfl⟩).run (fun r149 hc149 => ?_)
      refine lv_lneg hx hb dX4_overlap_152 ?_
      refine lv_lload hx hb dX4_overlap_153 (lv_at hl 2 rfl) ?_
      refine lv_lneg hx hb dX4_overlap_155 ?_
      refine lv_lload hx hb dX4_overlap_156 (lv_at hl 1 rfl) ?_
      refine lv_lneg hx hb dX4_overlap_158 ?_
      refine vp_callSl (va_runS (As := [.long (-(fgx (b.toNatClampNeg))), .long (-(ftx (b.toNatClampNeg)))]) (rest := [.long (-r149)]) ⟨hx, hb, hml, hown, hTB⟩ (c_X4_less l D cZ cI cJ (-(fgx (b.toNatClampNeg))) (-(ftx (b.toNatClampNeg)))) (cw_S hTB tb_13_9 tb_1_5 tb_13_7 tb_13_8 nd_X4_less rfl rfl ⟨Nat.le_of_ble_eq_true rfl, Nat.le_of_ble_eq_true rfl⟩) (prr_S hK hP [] rfl) rfl rfl hl.1 rfl (lv_room (Nat.le_of_ble_eq_true rfl)) dX4_overlap_159 ⟨Nat.le_of_ble_eq_true rfl, Nat.le_of_ble_eq_true rfl⟩).run (fun r159 hc159 => ?_)
      refine lv_lneg hx hb dX4_overlap_162 ?_
      refine vp_callSl (va_runS (As := [.long (-r149), .long (-r159)]) (rest := []) ⟨hx, hb, hml, hown, hTB⟩ (c_X4_less l D cZ cI cJ (-r149) (-r159)) (cw_S hTB tb_13_9 tb_1_5 tb_13_7 tb_13_8 nd_X4_less rfl rfl ⟨Nat.le_of_ble_eq_true rfl, Nat.le_of_ble_eq_true rfl⟩) (prr_S hK hP [] rfl) rfl rfl hl.1 rfl (lv_room (Nat.le_of_ble_eq_true rfl)) dX4_overlap_163 ⟨Nat.le_of_ble_eq_true rfl, Nat.le_of_ble_eq_true rfl⟩).run (fun r163 hc163 => ?_)
      refine lv_lstore (lv' := [(14, .long r163), (12, .long r138), (10, .long (ftx (b.toNatClampNeg))), (8, .long (fgx (b.toNatClampNeg))), (6, .long (ftx (a.toNatClampNeg))), (4, .long (fgx (a.toNatClampNeg))), (3, .int 1), (0, .ref o), (1, .int a), (2, .int b)]) hx hb dX4_overlap_166 hl (by decide) rfl (fun ls hl => ?_)
      refine lv_lload hx hb dX4_overlap_168 (lv_at hl 1 rfl) ?_
      refine lv_lload hx hb dX4_overlap_170 (lv_at hl 0 rfl) ?_
      refine W.lcmp hx hb dX4_overlap_172 ?_
      refine lv_if_eq (tgt := 190) hx hb dX4_overlap_173 (by decide) (fun c_173 => ?_) (fun c_173 => ?_)
      · have c_173 : r138.toInt = r163.toInt := lc_eq c_173
        have elo : r138.toInt = imx (imn (fgx (a.toNatClampNeg)).toInt (ftx (a.toNatClampNeg)).toInt) (imn (fgx (b.toNatClampNeg)).toInt (ftx (b.toNatClampNeg)).toInt) := by rw [hc110, hc117] at c_121; unfold imx; rw [if_neg (by omega), hc138]
        have b1 := imx_bd (a := (fgx (a.toNatClampNeg)).toInt) (b := (ftx (a.toNatClampNeg)).toInt) (B := 1099511627776) (by omega) (by omega) (by omega) (by omega)
        have b2 := imx_bd (a := (fgx (b.toNatClampNeg)).toInt) (b := (ftx (b.toNatClampNeg)).toInt) (B := 1099511627776) (by omega) (by omega) (by omega) (by omega)
        have e149 : r149.toInt = -(imx (fgx (a.toNatClampNeg)).toInt (ftx (a.toNatClampNeg)).toInt) := by rw [hc149, ng0, ng1, imn_neg]
        have e159 : r159.toInt = -(imx (fgx (b.toNatClampNeg)).toInt (ftx (b.toNatClampNeg)).toInt) := by rw [hc159, ng2, ng3, imn_neg]
        have ehi : r163.toInt = imn (imx (fgx (a.toNatClampNeg)).toInt (ftx (a.toNatClampNeg)).toInt) (imx (fgx (b.toNatClampNeg)).toInt (ftx (b.toNatClampNeg)).toInt) := by rw [hc163, neg_rng (by omega), neg_rng (by omega), e149, e159, Int.neg_neg, Int.neg_neg]
        rw [elo, ehi] at c_173
        refine lv_lload hx hb dX4_overlap_190 (lv_at hl 5 rfl) ?_
        refine lv_lload hx hb dX4_overlap_192 (lv_at hl 1 rfl) ?_
        refine W.lcmp hx hb dX4_overlap_194 ?_
        refine lv_if_ne (tgt := 202) hx hb dX4_overlap_195 (by decide) (fun c_195 => ?_) (fun c_195 => ?_)
        · have c_195 : (fgx (a.toNatClampNeg)).toInt ≠ r138.toInt := lc_ne c_195
          refine lv_iconst (v := 0) hx hb dX4_overlap_202 (by decide) ?_
          refine lv_istore (lv' := [(16, .int 0), (14, .long r163), (12, .long r138), (10, .long (ftx (b.toNatClampNeg))), (8, .long (fgx (b.toNatClampNeg))), (6, .long (ftx (a.toNatClampNeg))), (4, .long (fgx (a.toNatClampNeg))), (3, .int 1), (0, .ref o), (1, .int a), (2, .int b)]) hx hb dX4_overlap_203 hl (by decide) rfl (fun ls hl => ?_)
          refine lv_aload_n hx hb dX4_overlap_205 rfl (lv_at hl 8 rfl) ?_
          refine lv_bipush (v := 12) hx hb dX4_overlap_206 (by decide) ?_
          refine lv_iload hx hb dX4_overlap_208 (lv_at hl 0 rfl) ?_
          refine lv_if_eq (tgt := 222) hx hb dX4_overlap_210 (by decide) (fun c_210 => ?_) (fun c_210 => absurd c_210 (by decide))
          refine lv_aload_n hx hb dX4_overlap_222 rfl (lv_at hl 8 rfl) ?_
          refine va_get (D := D) (ci := 4) (v := .ref tx) (C := RX4) (T := TX4) (N := 14) hx hb hTB tb_X4 hown hK.1 hP 0 rfl rfl 7 (by decide) (hTB _ tb_3_20) (fun _ h9 => h9) rfl dX4_overlap_223 ?_
          refine lv_iload_n hx hb dX4_overlap_226 rfl (lv_at hl 9 rfl) ?_
          refine va_lald (f := ftx) hx hb hK.1 hP 5 2 rfl rfl (vp_in_iff.mpr ⟨by omega, by omega⟩) dX4_overlap_227 ?_
          refine fin_v (wr := [(gx, .inl (cJ, 16, .inr (.inl fgx))), (gy, .inl (cJ, 16, .inr (.inl fgy))), (tx, .inl (cJ, 16, .inr (.inl ftx))), (tz, .inl (cJ, 16, .inr (.inl fty)))]) (va_runV (As := [.int 12, .long (ftx (a.toNatClampNeg))]) (rest := []) ⟨hx, hb, hml, hown, hTB⟩ (c_X4_put l D cZ cI cJ o wa sa ma tl gx gy tx tz kx ky cd ln cn ah fw fs 12 (ftx (a.toNatClampNeg)) hlim (by decide) _) (cw_V hTB tb_6_21 tb_1_5 tb_6_18 tb_6_19 tb_6_20 nd_X4_put rfl rfl ⟨Nat.le_of_ble_eq_true rfl, Nat.le_of_ble_eq_true rfl⟩) (pre_V (q0 := 0) hK hP hD [0, 1, 2] rfl rfl rfl rfl) rfl rfl hl.1 rfl (lv_room (Nat.le_of_ble_eq_true rfl)) dX4_overlap_228 ⟨Nat.le_of_ble_eq_true rfl, Nat.le_of_ble_eq_true rfl⟩) hP hD hS hA [0, 1, 2] [3, 4, 5, 6] rfl rfl rfl (by decide) (fun u228 H locs hc228 hP hD hS => ?_)
          obtain ⟨g228, s228⟩ := u228
          dsimp only at hc228
          obtain ⟨up228, rfl⟩ := hc228
          have hP : va_P D vwCl [(gx, .inl (cJ, 16, .inr (.inl fgx))), (gy, .inl (cJ, 16, .inr (.inl fgy))), (tx, .inl (cJ, 16, .inr (.inl ftx))), (tz, .inl (cJ, 16, .inr (.inl fty))), (o, .inr (4, [.int cd, .ref wa, .ref sa, .ref ma, .ref tl, .ref gx, .ref gy, .ref tx, .ref tz, .int ln, .ref kx, .ref ky, .int cn, .int ah])), (wa, .inl (cJ, 96, .inr (.inl g228))), (sa, .inl (cI, 16, .inl (upd fs 12 (sg ((ftx (a.toNatClampNeg)).toInt)))))] H := hP
          have hD : va_D A [(gx, .inl (cJ, 16, .inr (.inl fgx))), (gy, .inl (cJ, 16, .inr (.inl fgy))), (tx, .inl (cJ, 16, .inr (.inl ftx))), (tz, .inl (cJ, 16, .inr (.inl fty))), (o, .inr (4, [.int cd, .ref wa, .ref sa, .ref ma, .ref tl, .ref gx, .ref gy, .ref tx, .ref tz, .int ln, .ref kx, .ref ky, .int cn, .int ah])), (wa, .inl (cJ, 96, .inr (.inl g228))), (sa, .inl (cI, 16, .inl (upd fs 12 (sg ((ftx (a.toNatClampNeg)).toInt)))))] := hD
          refine lv_aload_n hx hb dX4_overlap_231 rfl (lv_at hl 8 rfl) ?_
          refine lv_bipush (v := 13) hx hb dX4_overlap_232 (by decide) ?_
          refine lv_lconst (v := 1) hx hb dX4_overlap_234 (by decide) ?_
          refine fin_v (wr := [(gx, .inl (cJ, 16, .inr (.inl fgx))), (gy, .inl (cJ, 16, .inr (.inl fgy))), (tx, .inl (cJ, 16, .inr (.inl ftx))), (tz, .inl (cJ, 16, .inr (.inl fty)))]) (va_runV (As := [.int 13, .long 1]) (rest := []) ⟨hx, hb, hml, hown, hTB⟩ (c_X4_put l D cZ cI cJ o wa sa ma tl gx gy tx tz kx ky cd ln cn ah g228 (upd fs 12 (sg ((ftx (a.toNatClampNeg)).toInt))) 13 1 up228.1 (by decide) _) (cw_V hTB tb_6_21 tb_1_5 tb_6_18 tb_6_19 tb_6_20 nd_X4_put rfl rfl ⟨Nat.le_of_ble_eq_true rfl, Nat.le_of_ble_eq_true rfl⟩) (pre_V (q0 := 4) hK hP hD [4, 5, 6] rfl rfl rfl rfl) rfl rfl hl.1 rfl (lv_room (Nat.le_of_ble_eq_true rfl)) dX4_overlap_235 ⟨Nat.le_of_ble_eq_true rfl, Nat.le_of_ble_eq_true rfl⟩) hP hD hS hA [4, 5, 6] [0, 1, 2, 3] rfl rfl rfl (by decide) (fun u235 H locs hc235 hP hD hS => ?_)
          obtain ⟨g235, s235⟩ := u235
          dsimp only at hc235
          obtain ⟨up235, rfl⟩ := hc235
          have hP : va_P D vwCl [(gx, .inl (cJ, 16, .inr (.inl fgx))), (gy, .inl (cJ, 16, .inr (.inl fgy))), (tx, .inl (cJ, 16, .inr (.inl ftx))), (tz, .inl (cJ, 16, .inr (.inl fty))), (o, .inr (4, [.int cd, .ref wa, .ref sa, .ref ma, .ref tl, .ref gx, .ref gy, .ref tx, .ref tz, .int ln, .ref kx, .ref ky, .int cn, .int ah])), (wa, .inl (cJ, 96, .inr (.inl g235))), (sa, .inl (cI, 16, .inl (upd (upd fs 12 (sg ((ftx (a.toNatClampNeg)).toInt))) 13 (sg ((1 : Int64).toInt)))))] H := hP
          have hD : va_D A [(gx, .inl (cJ, 16, .inr (.inl fgx))), (gy, .inl (cJ, 16, .inr (.inl fgy))), (tx, .inl (cJ, 16, .inr (.inl ftx))), (tz, .inl (cJ, 16, .inr (.inl fty))), (o, .inr (4, [.int cd, .ref wa, .ref sa, .ref ma, .ref tl, .ref gx, .ref gy, .ref tx, .ref tz, .int ln, .ref kx, .ref ky, .int cn, .int ah])), (wa, .inl (cJ, 96, .inr (.inl g235))), (sa, .inl (cI, 16, .inl (upd (upd fs 12 (sg ((ftx (a.toNatClampNeg)).toInt))) 13 (sg ((1 : Int64).toInt)))))] := hD
          refine lv_aload_n hx hb dX4_overlap_238 rfl (lv_at hl 8 rfl) ?_
          refine lv_bipush (v := 14) hx hb dX4_overlap_239 (by decide) ?_
          refine lv_iload hx hb dX4_overlap_241 (lv_at hl 0 rfl) ?_
          refine lv_if_eq (tgt := 255) hx hb dX4_overlap_243 (by decide) (fun c_243 => ?_) (fun c_243 => absurd c_243 (by decide))
          refine lv_aload_n hx hb dX4_overlap_255 rfl (lv_at hl 8 rfl) ?_
          refine va_get (D := D) (ci := 4) (v := .ref tz) (C := RX4) (T := TX4) (N := 14) hx hb hTB tb_X4 hown hK.1 hP 4 rfl rfl 8 (by decide) (hTB _ tb_3_21) (fun _ h9 => h9) rfl dX4_overlap_256 ?_
          refine lv_iload_n hx hb dX4_overlap_259 rfl (lv_at hl 9 rfl) ?_
          refine va_lald (f := fty) hx hb hK.1 hP 3 2 rfl rfl (vp_in_iff.mpr ⟨by omega, by omega⟩) dX4_overlap_260 ?_
          refine fin_v (wr := [(gx, .inl (cJ, 16, .inr (.inl fgx))), (gy, .inl (cJ, 16, .inr (.inl fgy))), (tx, .inl (cJ, 16, .inr (.inl ftx))), (tz, .inl (cJ, 16, .inr (.inl fty)))]) (va_runV (As := [.int 14, .long (fty (a.toNatClampNeg))]) (rest := []) ⟨hx, hb, hml, hown, hTB⟩ (c_X4_put l D cZ cI cJ o wa sa ma tl gx gy tx tz kx ky cd ln cn ah g235 (upd (upd fs 12 (sg ((ftx (a.toNatClampNeg)).toInt))) 13 (sg ((1 : Int64).toInt))) 14 (fty (a.toNatClampNeg)) up235.1 (by decide) _) (cw_V hTB tb_6_21 tb_1_5 tb_6_18 tb_6_19 tb_6_20 nd_X4_put rfl rfl ⟨Nat.le_of_ble_eq_true rfl, Nat.le_of_ble_eq_true rfl⟩) (pre_V (q0 := 4) hK hP hD [4, 5, 6] rfl rfl rfl rfl) rfl rfl hl.1 rfl (lv_room (Nat.le_of_ble_eq_true rfl)) dX4_overlap_261 ⟨Nat.le_of_ble_eq_true rfl, Nat.le_of_ble_eq_true rfl⟩) hP hD hS hA [4, 5, 6] [0, 1, 2, 3] rfl rfl rfl (by decide) (fun u261 H locs hc261 hP hD hS => ?_)
          obtain ⟨g261, s261⟩ := u261
          dsimp only at hc261
          obtain ⟨up261, rfl⟩ := hc261
          have hP : va_P D vwCl [(gx, .inl (cJ, 16, .inr (.inl fgx))), (gy, .inl (cJ, 16, .inr (.inl fgy))), (tx, .inl (cJ, 16, .inr (.inl ftx))), (tz, .inl (cJ, 16, .inr (.inl fty))), (o, .inr (4, [.int cd, .ref wa, .ref sa, .ref ma, .ref tl, .ref gx, .ref gy, .ref tx, .ref tz, .int ln, .ref kx, .ref ky, .int cn, .int ah])), (wa, .inl (cJ, 96, .inr (.inl g261))), (sa, .inl (cI, 16, .inl (upd (upd (upd fs 12 (sg ((ftx (a.toNatClampNeg)).toInt))) 13 (sg ((1 : Int64).toInt))) 14 (sg ((fty (a.toNatClampNeg)).toInt)))))] H := hP
          have hD : va_D A [(gx, .inl (cJ, 16, .inr (.inl fgx))), (gy, .inl (cJ, 16, .inr (.inl fgy))), (tx, .inl (cJ, 16, .inr (.inl ftx))), (tz, .inl (cJ, 16, .inr (.inl fty))), (o, .inr (4, [.int cd, .ref wa, .ref sa, .ref ma, .ref tl, .ref gx, .ref gy, .ref tx, .ref tz, .int ln, .ref kx, .ref ky, .int cn, .int ah])), (wa, .inl (cJ, 96, .inr (.inl g261))), (sa, .inl (cI, 16, .inl (upd (upd (upd fs 12 (sg ((ftx (a.toNatClampNeg)).toInt))) 13 (sg ((1 : Int64).toInt))) 14 (sg ((fty (a.toNatClampNeg)).toInt)))))] := hD
          refine lv_aload_n hx hb dX4_overlap_264 rfl (lv_at hl 8 rfl) ?_
          refine lv_bipush (v := 15) hx hb dX4_overlap_265 (by decide) ?_
          refine lv_lconst (v := 1) hx hb dX4_overlap_267 (by decide) ?_
          refine fin_v (wr := [(gx, .inl (cJ, 16, .inr (.inl fgx))), (gy, .inl (cJ, 16, .inr (.inl fgy))), (tx, .inl (cJ, 16, .inr (.inl ftx))), (tz, .inl (cJ, 16, .inr (.inl fty)))]) (va_runV (As := [.int 15, .long 1]) (rest := []) ⟨hx, hb, hml, hown, hTB⟩ (c_X4_put l D cZ cI cJ o wa sa ma tl gx gy tx tz kx ky cd ln cn ah g261 (upd (upd (upd fs 12 (sg ((ftx (a.toNatClampNeg)).toInt))) 13 (sg ((1 : Int64).toInt))) 14 (sg ((fty (a.toNatClampNeg)).toInt))) 15 1 up261.1 (by decide) _) (cw_V hTB tb_6_21 tb_1_5 tb_6_18 tb_6_19 tb_6_20 nd_X4_put rfl rfl ⟨Nat.le_of_ble_eq_true rfl, Nat.le_of_ble_eq_true rfl⟩) (pre_V (q0 := 4) hK hP hD [4, 5, 6] rfl rfl rfl rfl) rfl rfl hl.1 rfl (lv_room (Nat.le_of_ble_eq_true rfl)) dX4_overlap_268 ⟨Nat.le_of_ble_eq_true rfl, Nat.le_of_ble_eq_true rfl⟩) hP hD hS hA [4, 5, 6] [0, 1, 2, 3] rfl rfl rfl (by decide) (fun u268 H locs hc268 hP hD hS => ?_)
          obtain ⟨g268, s268⟩ := u268
          dsimp only at hc268
          obtain ⟨up268, rfl⟩ := hc268
          have hP : va_P D vwCl [(gx, .inl (cJ, 16, .inr (.inl fgx))), (gy, .inl (cJ, 16, .inr (.inl fgy))), (tx, .inl (cJ, 16, .inr (.inl ftx))), (tz, .inl (cJ, 16, .inr (.inl fty))), (o, .inr (4, [.int cd, .ref wa, .ref sa, .ref ma, .ref tl, .ref gx, .ref gy, .ref tx, .ref tz, .int ln, .ref kx, .ref ky, .int cn, .int ah])), (wa, .inl (cJ, 96, .inr (.inl g268))), (sa, .inl (cI, 16, .inl (upd (upd (upd (upd fs 12 (sg ((ftx (a.toNatClampNeg)).toInt))) 13 (sg ((1 : Int64).toInt))) 14 (sg ((fty (a.toNatClampNeg)).toInt))) 15 (sg ((1 : Int64).toInt)))))] H := hP
          have hD : va_D A [(gx, .inl (cJ, 16, .inr (.inl fgx))), (gy, .inl (cJ, 16, .inr (.inl fgy))), (tx, .inl (cJ, 16, .inr (.inl ftx))), (tz, .inl (cJ, 16, .inr (.inl fty))), (o, .inr (4, [.int cd, .ref wa, .ref sa, .ref ma, .ref tl, .ref gx, .ref gy, .ref tx, .ref tz, .int ln, .ref kx, .ref ky, .int cn, .int ah])), (wa, .inl (cJ, 96, .inr (.inl g268))), (sa, .inl (cI, 16, .inl (upd (upd (upd (upd fs 12 (sg ((ftx (a.toNatClampNeg)).toInt))) 13 (sg ((1 : Int64).toInt))) 14 (sg ((fty (a.toNatClampNeg)).toInt))) 15 (sg ((1 : Int64).toInt)))))] := hD
          refine lv_iconst (v := 1) hx hb dX4_overlap_271 (by decide) ?_
          have os : ovS (fgx (a.toNatClampNeg)).toInt (fgy (a.toNatClampNeg)).toInt ((ftx (a.toNatClampNeg)).toInt - (fgx (a.toNatClampNeg)).toInt) ((fty (a.toNatClampNeg)).toInt - (fgy (a.toNatClampNeg)).toInt) (fgx (b.toNatClampNeg)).toInt (fgy (b.toNatClampNeg)).toInt ((ftx (b.toNatClampNeg)).toInt - (fgx (b.toNatClampNeg)).toInt) ((fty (b.toNatClampNeg)).toInt - (fgy (b.toNatClampNeg)).toInt) ≠ 0 := (by unfold ovS; rw [if_neg (show ¬ ((ftx (a.toNatClampNeg)).toInt - (fgx (a.toNatClampNeg)).toInt) = 0 by omega), qq0, qq1]; rw [elo] at c_195; omega)
          exact hret hP hD hS rfl (g268, upd (upd (upd (upd fs 12 (sg ((ftx (a.toNatClampNeg)).toInt))) 13 (sg ((1 : Int64).toInt))) 14 (sg ((fty (a.toNatClampNeg)).toInt))) 15 (sg ((1 : Int64).toInt))) (⟨by unfold ovA; rw [if_neg (show ¬ ((ftx (a.toNatClampNeg)).toInt - (fgx (a.toNatClampNeg)).toInt) = 0 by omega)]; unfold ovl; rw [qq0, qq1, if_pos c_173], fun _ => ⟨by rw [show ovX (fgx (a.toNatClampNeg)).toInt (fgy (a.toNatClampNeg)).toInt ((ftx (a.toNatClampNeg)).toInt - (fgx (a.toNatClampNeg)).toInt) ((fty (a.toNatClampNeg)).toInt - (fgy (a.toNatClampNeg)).toInt) (fgx (b.toNatClampNeg)).toInt (fgy (b.toNatClampNeg)).toInt ((ftx (b.toNatClampNeg)).toInt - (fgx (b.toNatClampNeg)).toInt) ((fty (b.toNatClampNeg)).toInt - (fgy (b.toNatClampNeg)).toInt) = (ftx (a.toNatClampNeg)).toInt from (by unfold ovX; rw [if_neg os, qq0])]; exact HF_1 ((((hz.new up228).keep up235 (by decide)).keep up261 (by decide)).keep up268 (by decide)) (((hz.new (z := 1) up235).keep up261 (by decide)).keep up268 (by decide)), by rw [show ovY (fgx (a.toNatClampNeg)).toInt (fgy (a.toNatClampNeg)).toInt ((ftx (a.toNatClampNeg)).toInt - (fgx (a.toNatClampNeg)).toInt) ((fty (a.toNatClampNeg)).toInt - (fgy (a.toNatClampNeg)).toInt) (fgx (b.toNatClampNeg)).toInt (fgy (b.toNatClampNeg)).toInt ((ftx (b.toNatClampNeg)).toInt - (fgx (b.toNatClampNeg)).toInt) ((fty (b.toNatClampNeg)).toInt - (fgy (b.toNatClampNeg)).toInt) = (fty (a.toNatClampNeg)).toInt from (by unfold ovY; rw [if_neg os, qq2])]; exact HF_1 ((hz.new up261).keep up268 (by decide)) (hz.new (z := 1) up268)⟩, up268.1⟩) [4, 5, 6, 0, 1, 2, 3] rfl (by decide) dX4_overlap_272 (Nat.le_of_ble_eq_true rfl) (Nat.le_of_ble_eq_true rfl)
        · have c_195 : (fgx (a.toNatClampNeg)).toInt = r138.toInt := lc_eq c_195
          refine lv_iconst (v := 1) hx hb dX4_overlap_198 (by decide) ?_
          refine lv_goto (tgt := 203) hx hb dX4_overlap_199 (by decide) ?_
          refine lv_istore (lv' := [(16, .int 1), (14, .long r163), (12, .long r138), (10, .long (ftx (b.toNatClampNeg))), (8, .long (fgx (b.toNatClampNeg))), (6, .long (ftx (a.toNatClampNeg))), (4, .long (fgx (a.toNatClampNeg))), (3, .int 1), (0, .ref o), (1, .int a), (2, .int b)]) hx hb dX4_overlap_203 hl (by decide) rfl (fun ls hl => ?_)
          refine lv_aload_n hx hb dX4_overlap_205 rfl (lv_at hl 8 rfl) ?_
          refine lv_bipush (v := 12) hx hb dX4_overlap_206 (by decide) ?_
          refine lv_iload hx hb dX4_overlap_208 (lv_at hl 0 rfl) ?_
          refine lv_if_eq (tgt := 222) hx hb dX4_overlap_210 (by decide) (fun c_210 => absurd c_210 (by decide)) (fun c_210 => ?_)
          refine lv_aload_n hx hb dX4_overlap_213 rfl (lv_at hl 8 rfl) ?_
          refine va_get (D := D) (ci := 4) (v := .ref gx) (C := RX4) (T := TX4) (N := 14) hx hb hTB tb_X4 hown hK.1 hP 0 rfl rfl 5 (by decide) (hTB _ tb_3_18) (fun _ h9 => h9) rfl dX4_overlap_214 ?_
          refine lv_iload_n hx hb dX4_overlap_217 rfl (lv_at hl 9 rfl) ?_
          refine va_lald (f := fgx) hx hb hK.1 hP 3 2 rfl rfl (vp_in_iff.mpr ⟨by omega, by omega⟩) dX4_overlap_218 ?_
          refine lv_goto (tgt := 228) hx hb dX4_overlap_219 (by decide) ?_
          refine fin_v (wr := [(gx, .inl (cJ, 16, .inr (.inl fgx))), (gy, .inl (cJ, 16, .inr (.inl fgy))), (tx, .inl (cJ, 16, .inr (.inl ftx))), (tz, .inl (cJ, 16, .inr (.inl fty)))]) (va_runV (As := [.int 12, .long (fgx (a.toNatClampNeg))]) (rest := []) ⟨hx, hb, hml, hown, hTB⟩ (c_X4_put l D cZ cI cJ o wa sa ma tl gx gy tx tz kx ky cd ln cn ah fw fs 12 (fgx (a.toNatClampNeg)) hlim (by decide) _) (cw_V hTB tb_6_21 tb_1_5 tb_6_18 tb_6_19 tb_6_20 nd_X4_put rfl rfl ⟨Nat.le_of_ble_eq_true rfl, Nat.le_of_ble_eq_true rfl⟩) (pre_V (q0 := 0) hK hP hD [0, 1, 2] rfl rfl rfl rfl) rfl rfl hl.1 rfl (lv_room (Nat.le_of_ble_eq_true rfl)) dX4_overlap_228 ⟨Nat.le_of_ble_eq_true rfl, Nat.le_of_ble_eq_true rfl⟩) hP hD hS hA [0, 1, 2] [3, 4, 5, 6] rfl rfl rfl (by decide) (fun u228 H locs hc228 hP hD hS => ?_)
          obtain ⟨g228, s228⟩ := u228
          dsimp only at hc228
          obtain ⟨up228, rfl⟩ := hc228
          have hP : va_P D vwCl [(gx, .inl (cJ, 16, .inr (.inl fgx))), (gy, .inl (cJ, 16, .inr (.inl fgy))), (tx, .inl (cJ, 16, .inr (.inl ftx))), (tz, .inl (cJ, 16, .inr (.inl fty))), (o, .inr (4, [.int cd, .ref wa, .ref sa, .ref ma, .ref tl, .ref gx, .ref gy, .ref tx, .ref tz, .int ln, .ref kx, .ref ky, .int cn, .int ah])), (wa, .inl (cJ, 96, .inr (.inl g228))), (sa, .inl (cI, 16, .inl (upd fs 12 (sg ((fgx (a.toNatClampNeg)).toInt)))))] H := hP
          have hD : va_D A [(gx, .inl (cJ, 16, .inr (.inl fgx))), (gy, .inl (cJ, 16, .inr (.inl fgy))), (tx, .inl (cJ, 16, .inr (.inl ftx))), (tz, .inl (cJ, 16, .inr (.inl fty))), (o, .inr (4, [.int cd, .ref wa, .ref sa, .ref ma, .ref tl, .ref gx, .ref gy, .ref tx, .ref tz, .int ln, .ref kx, .ref ky, .int cn, .int ah])), (wa, .inl (cJ, 96, .inr (.inl g228))), (sa, .inl (cI, 16, .inl (upd fs 12 (sg ((fgx (a.toNatClampNeg)).toInt)))))] := hD
          refine lv_aload_n hx hb dX4_overlap_231 rfl (lv_at hl 8 rfl) ?_
          refine lv_bipush (v := 13) hx hb dX4_overlap_232 (by decide) ?_
          refine lv_lconst (v := 1) hx hb dX4_overlap_234 (by decide) ?_
          refine fin_v (wr := [(gx, .inl (cJ, 16, .inr (.inl fgx))), (gy, .inl (cJ, 16, .inr (.inl fgy))), (tx, .inl (cJ, 16, .inr (.inl ftx))), (tz, .inl (cJ, 16, .inr (.inl fty)))]) (va_runV (As := [.int 13, .long 1]) (rest := []) ⟨hx, hb, hml, hown, hTB⟩ (c_X4_put l D cZ cI cJ o wa sa ma tl gx gy tx tz kx ky cd ln cn ah g228 (upd fs 12 (sg ((fgx (a.toNatClampNeg)).toInt))) 13 1 up228.1 (by decide) _) (cw_V hTB tb_6_21 tb_1_5 tb_6_18 tb_6_19 tb_6_20 nd_X4_put rfl rfl ⟨Nat.le_of_ble_eq_true rfl, Nat.le_of_ble_eq_true rfl⟩) (pre_V (q0 := 4) hK hP hD [4, 5, 6] rfl rfl rfl rfl) rfl rfl hl.1 rfl (lv_room (Nat.le_of_ble_eq_true rfl)) dX4_overlap_235 ⟨Nat.le_of_ble_eq_true rfl, Nat.le_of_ble_eq_true rfl⟩) hP hD hS hA [4, 5, 6] [0, 1, 2, 3] rfl rfl rfl (by decide) (fun u235 H locs hc235 hP hD hS => ?_)
          obtain ⟨g235, s235⟩ := u235
          dsimp only at hc235
          obtain ⟨up235, rfl⟩ := hc235
          have hP : va_P D vwCl [(gx, .inl (cJ, 16, .inr (.inl fgx))), (gy, .inl (cJ, 16, .inr (.inl fgy))), (tx, .inl (cJ, 16, .inr (.inl ftx))), (tz, .inl (cJ, 16, .inr (.inl fty))), (o, .inr (4, [.int cd, .ref wa, .ref sa, .ref ma, .ref tl, .ref gx, .ref gy, .ref tx, .ref tz, .int ln, .ref kx, .ref ky, .int cn, .int ah])), (wa, .inl (cJ, 96, .inr (.inl g235))), (sa, .inl (cI, 16, .inl (upd (upd fs 12 (sg ((fgx (a.toNatClampNeg)).toInt))) 13 (sg ((1 : Int64).toInt)))))] H := hP
          have hD : va_D A [(gx, .inl (cJ, 16, .inr (.inl fgx))), (gy, .inl (cJ, 16, .inr (.inl fgy))), (tx, .inl (cJ, 16, .inr (.inl ftx))), (tz, .inl (cJ, 16, .inr (.inl fty))), (o, .inr (4, [.int cd, .ref wa, .ref sa, .ref ma, .ref tl, .ref gx, .ref gy, .ref tx, .ref tz, .int ln, .ref kx, .ref ky, .int cn, .int ah])), (wa, .inl (cJ, 96, .inr (.inl g235))), (sa, .inl (cI, 16, .inl (upd (upd fs 12 (sg ((fgx (a.toNatClampNeg)).toInt))) 13 (sg ((1 : Int64).toInt)))))] := hD
          refine lv_aload_n hx hb dX4_overlap_238 rfl (lv_at hl 8 rfl) ?_
          refine lv_bipush (v := 14) hx hb dX4_overlap_239 (by decide) ?_
          refine lv_iload hx hb dX4_overlap_241 (lv_at hl 0 rfl) ?_
          refine lv_if_eq (tgt := 255) hx hb dX4_overlap_243 (by decide) (fun c_243 => absurd c_243 (by decide)) (fun c_243 => ?_)
          refine lv_aload_n hx hb dX4_overlap_246 rfl (lv_at hl 8 rfl) ?_
          refine va_get (D := D) (ci := 4) (v := .ref gy) (C := RX4) (T := TX4) (N := 14) hx hb hTB tb_X4 hown hK.1 hP 4 rfl rfl 6 (by decide) (hTB _ tb_3_19) (fun _ h9 => h9) rfl dX4_overlap_247 ?_
          refine lv_iload_n hx hb dX4_overlap_250 rfl (lv_at hl 9 rfl) ?_
          refine va_lald (f := fgy) hx hb hK.1 hP 1 2 rfl rfl (vp_in_iff.mpr ⟨by omega, by omega⟩) dX4_overlap_251 ?_
          refine lv_goto (tgt := 261) hx hb dX4_overlap_252 (by decide) ?_
          refine fin_v (wr := [(gx, .inl (cJ, 16, .inr (.inl fgx))), (gy, .inl (cJ, 16, .inr (.inl fgy))), (tx, .inl (cJ, 16, .inr (.inl ftx))), (tz, .inl (cJ, 16, .inr (.inl fty)))]) (va_runV (As := [.int 14, .long (fgy (a.toNatClampNeg))]) (rest := []) ⟨hx, hb, hml, hown, hTB⟩ (c_X4_put l D cZ cI cJ o wa sa ma tl gx gy tx tz kx ky cd ln cn ah g235 (upd (upd fs 12 (sg ((fgx (a.toNatClampNeg)).toInt))) 13 (sg ((1 : Int64).toInt))) 14 (fgy (a.toNatClampNeg)) up235.1 (by decide) _) (cw_V hTB tb_6_21 tb_1_5 tb_6_18 tb_6_19 tb_6_20 nd_X4_put rfl rfl ⟨Nat.le_of_ble_eq_true rfl, Nat.le_of_ble_eq_true rfl⟩) (pre_V (q0 := 4) hK hP hD [4, 5, 6] rfl rfl rfl rfl) rfl rfl hl.1 rfl (lv_room (Nat.le_of_ble_eq_true rfl)) dX4_overlap_261 ⟨Nat.le_of_ble_eq_true rfl, Nat.le_of_ble_eq_true rfl⟩) hP hD hS hA [4, 5, 6] [0, 1, 2, 3] rfl rfl rfl (by decide) (fun u261 H locs hc261 hP hD hS => ?_)
          obtain ⟨g261, s261⟩ := u261
          dsimp only at hc261
          obtain ⟨up261, rfl⟩ := hc261
          have hP : va_P D vwCl [(gx, .inl (cJ, 16, .inr (.inl fgx))), (gy, .inl (cJ, 16, .inr (.inl fgy))), (tx, .inl (cJ, 16, .inr (.inl ftx))), (tz, .inl (cJ, 16, .inr (.inl fty))), (o, .inr (4, [.int cd, .ref wa, .ref sa, .ref ma, .ref tl, .ref gx, .ref gy, .ref tx, .ref tz, .int ln, .ref kx, .ref ky, .int cn, .int ah])), (wa, .inl (cJ, 96, .inr (.inl g261))), (sa, .inl (cI, 16, .inl (upd (upd (upd fs 12 (sg ((fgx (a.toNatClampNeg)).toInt))) 13 (sg ((1 : Int64).toInt))) 14 (sg ((fgy (a.toNatClampNeg)).toInt)))))] H := hP
          have hD : va_D A [(gx, .inl (cJ, 16, .inr (.inl fgx))), (gy, .inl (cJ, 16, .inr (.inl fgy))), (tx, .inl (cJ, 16, .inr (.inl ftx))), (tz, .inl (cJ, 16, .inr (.inl fty))), (o, .inr (4, [.int cd, .ref wa, .ref sa, .ref ma, .ref tl, .ref gx, .ref gy, .ref tx, .ref tz, .int ln, .ref kx, .ref ky, .int cn, .int ah])), (wa, .inl (cJ, 96, .inr (.inl g261))), (sa, .inl (cI, 16, .inl (upd (upd (upd fs 12 (sg ((fgx (a.toNatClampNeg)).toInt))) 13 (sg ((1 : Int64).toInt))) 14 (sg ((fgy (a.toNatClampNeg)).toInt)))))] := hD
          refine lv_aload_n hx hb dX4_overlap_264 rfl (lv_at hl 8 rfl) ?_
          refine lv_bipush (v := 15) hx hb dX4_overlap_265 (by decide) ?_
          refine lv_lconst (v := 1) hx hb dX4_overlap_267 (by decide) ?_
          refine fin_v (wr := [(gx, .inl (cJ, 16, .inr (.inl fgx))), (gy, .inl (cJ, 16, .inr (.inl fgy))), (tx, .inl (cJ, 16, .inr (.inl ftx))), (tz, .inl (cJ, 16, .inr (.inl fty)))]) (va_runV (As := [.int 15, .long 1]) (rest := []) ⟨hx, hb, hml, hown, hTB⟩ (c_X4_put l D cZ cI cJ o wa sa ma tl gx gy tx tz kx ky cd ln cn ah g261 (upd (upd (upd fs 12 (sg ((fgx (a.toNatClampNeg)).toInt))) 13 (sg ((1 : Int64).toInt))) 14 (sg ((fgy (a.toNatClampNeg)).toInt))) 15 1 up261.1 (by decide) _) (cw_V hTB tb_6_21 tb_1_5 tb_6_18 tb_6_19 tb_6_20 nd_X4_put rfl rfl ⟨Nat.le_of_ble_eq_true rfl, Nat.le_of_ble_eq_true rfl⟩) (pre_V (q0 := 4) hK hP hD [4, 5, 6] rfl rfl rfl rfl) rfl rfl hl.1 rfl (lv_room (Nat.le_of_ble_eq_true rfl)) dX4_overlap_268 ⟨Nat.le_of_ble_eq_true rfl, Nat.le_of_ble_eq_true rfl⟩) hP hD hS hA [4, 5, 6] [0, 1, 2, 3] rfl rfl rfl (by decide) (fun u268 H locs hc268 hP hD hS => ?_)
          obtain ⟨g268, s268⟩ := u268
          dsimp only at hc268
          obtain ⟨up268, rfl⟩ := hc268
          have hP : va_P D vwCl [(gx, .inl (cJ, 16, .inr (.inl fgx))), (gy, .inl (cJ, 16, .inr (.inl fgy))), (tx, .inl (cJ, 16, .inr (.inl ftx))), (tz, .inl (cJ, 16, .inr (.inl fty))), (o, .inr (4, [.int cd, .ref wa, .ref sa, .ref ma, .ref tl, .ref gx, .ref gy, .ref tx, .ref tz, .int ln, .ref kx, .ref ky, .int cn, .int ah])), (wa, .inl (cJ, 96, .inr (.inl g268))), (sa, .inl (cI, 16, .inl (upd (upd (upd (upd fs 12 (sg ((fgx (a.toNatClampNeg)).toInt))) 13 (sg ((1 : Int64).toInt))) 14 (sg ((fgy (a.toNatClampNeg)).toInt))) 15 (sg ((1 : Int64).toInt)))))] H := hP
          have hD : va_D A [(gx, .inl (cJ, 16, .inr (.inl fgx))), (gy, .inl (cJ, 16, .inr (.inl fgy))), (tx, .inl (cJ, 16, .inr (.inl ftx))), (tz, .inl (cJ, 16, .inr (.inl fty))), (o, .inr (4, [.int cd, .ref wa, .ref sa, .ref ma, .ref tl, .ref gx, .ref gy, .ref tx, .ref tz, .int ln, .ref kx, .ref ky, .int cn, .int ah])), (wa, .inl (cJ, 96, .inr (.inl g268))), (sa, .inl (cI, 16, .inl (upd (upd (upd (upd fs 12 (sg ((fgx (a.toNatClampNeg)).toInt))) 13 (sg ((1 : Int64).toInt))) 14 (sg ((fgy (a.toNatClampNeg)).toInt))) 15 (sg ((1 : Int64).toInt)))))] := hD
          refine lv_iconst (v := 1) hx hb dX4_overlap_271 (by decide) ?_
          have os : ovS (fgx (a.toNatClampNeg)).toInt (fgy (a.toNatClampNeg)).toInt ((ftx (a.toNatClampNeg)).toInt - (fgx (a.toNatClampNeg)).toInt) ((fty (a.toNatClampNeg)).toInt - (fgy (a.toNatClampNeg)).toInt) (fgx (b.toNatClampNeg)).toInt (fgy (b.toNatClampNeg)).toInt ((ftx (b.toNatClampNeg)).toInt - (fgx (b.toNatClampNeg)).toInt) ((fty (b.toNatClampNeg)).toInt - (fgy (b.toNatClampNeg)).toInt) = 0 := (by unfold ovS; rw [if_neg (show ¬ ((ftx (a.toNatClampNeg)).toInt - (fgx (a.toNatClampNeg)).toInt) = 0 by omega), qq0, qq1]; rw [elo] at c_195; omega)
          exact hret hP hD hS rfl (g268, upd (upd (upd (upd fs 12 (sg ((fgx (a.toNatClampNeg)).toInt))) 13 (sg ((1 : Int64).toInt))) 14 (sg ((fgy (a.toNatClampNeg)).toInt))) 15 (sg ((1 : Int64).toInt))) (⟨by unfold ovA; rw [if_neg (show ¬ ((ftx (a.toNatClampNeg)).toInt - (fgx (a.toNatClampNeg)).toInt) = 0 by omega)]; unfold ovl; rw [qq0, qq1, if_pos c_173], fun _ => ⟨by rw [show ovX (fgx (a.toNatClampNeg)).toInt (fgy (a.toNatClampNeg)).toInt ((ftx (a.toNatClampNeg)).toInt - (fgx (a.toNatClampNeg)).toInt) ((fty (a.toNatClampNeg)).toInt - (fgy (a.toNatClampNeg)).toInt) (fgx (b.toNatClampNeg)).toInt (fgy (b.toNatClampNeg)).toInt ((ftx (b.toNatClampNeg)).toInt - (fgx (b.toNatClampNeg)).toInt) ((fty (b.toNatClampNeg)).toInt - (fgy (b.toNatClampNeg)).toInt) = (fgx (a.toNatClampNeg)).toInt from (by unfold ovX; rw [if_pos os])]; exact HF_1 ((((hz.new up228).keep up235 (by decide)).keep up261 (by decide)).keep up268 (by decide)) (((hz.new (z := 1) up235).keep up261 (by decide)).keep up268 (by decide)), by rw [show ovY (fgx (a.toNatClampNeg)).toInt (fgy (a.toNatClampNeg)).toInt ((ftx (a.toNatClampNeg)).toInt - (fgx (a.toNatClampNeg)).toInt) ((fty (a.toNatClampNeg)).toInt - (fgy (a.toNatClampNeg)).toInt) (fgx (b.toNatClampNeg)).toInt (fgy (b.toNatClampNeg)).toInt ((ftx (b.toNatClampNeg)).toInt - (fgx (b.toNatClampNeg)).toInt) ((fty (b.toNatClampNeg)).toInt - (fgy (b.toNatClampNeg)).toInt) = (fgy (a.toNatClampNeg)).toInt from (by unfold ovY; rw [if_pos os])]; exact HF_1 ((hz.new up261).keep up268 (by decide)) (hz.new (z := 1) up268)⟩, up268.1⟩) [4, 5, 6, 0, 1, 2, 3] rfl (by decide) dX4_overlap_272 (Nat.le_of_ble_eq_true rfl) (Nat.le_of_ble_eq_true rfl)
      · have c_173 : r138.toInt ≠ r163.toInt := lc_ne c_173
        have elo : r138.toInt = imx (imn (fgx (a.toNatClampNeg)).toInt (ftx (a.toNatClampNeg)).toInt) (imn (fgx (b.toNatClampNeg)).toInt (ftx (b.toNatClampNeg)).toInt) := by rw [hc110, hc117] at c_121; unfold imx; rw [if_neg (by omega), hc138]
        have b1 := imx_bd (a := (fgx (a.toNatClampNeg)).toInt) (b := (ftx (a.toNatClampNeg)).toInt) (B := 1099511627776) (by omega) (by omega) (by omega) (by omega)
        have b2 := imx_bd (a := (fgx (b.toNatClampNeg)).toInt) (b := (ftx (b.toNatClampNeg)).toInt) (B := 1099511627776) (by omega) (by omega) (by omega) (by omega)
        have e149 : r149.toInt = -(imx (fgx (a.toNatClampNeg)).toInt (ftx (a.toNatClampNeg)).toInt) := by rw [hc149, ng0, ng1, imn_neg]
        have e159 : r159.toInt = -(imx (fgx (b.toNatClampNeg)).toInt (ftx (b.toNatClampNeg)).toInt) := by rw [hc159, ng2, ng3, imn_neg]
        have ehi : r163.toInt = imn (imx (fgx (a.toNatClampNeg)).toInt (ftx (a.toNatClampNeg)).toInt) (imx (fgx (b.toNatClampNeg)).toInt (ftx (b.toNatClampNeg)).toInt) := by rw [hc163, neg_rng (by omega), neg_rng (by omega), e149, e159, Int.neg_neg, Int.neg_neg]
        rw [elo, ehi] at c_173
        refine lv_lload hx hb dX4_overlap_176 (lv_at hl 1 rfl) ?_
        refine lv_lload hx hb dX4_overlap_178 (lv_at hl 0 rfl) ?_
        refine W.lcmp hx hb dX4_overlap_180 ?_
        refine lv_if_ge (tgt := 188) hx hb dX4_overlap_181 (by decide) (fun c_181 => ?_) (fun c_181 => ?_)
        · have c_181 : r163.toInt ≤ r138.toInt := lc_ge c_181
          refine lv_iconst (v := 0) hx hb dX4_overlap_188 (by decide) ?_
          exact hret hP hD hS rfl (fw, fs) (⟨by unfold ovA; rw [if_neg (show ¬ ((ftx (a.toNatClampNeg)).toInt - (fgx (a.toNatClampNeg)).toInt) = 0 by omega)]; unfold ovl; rw [qq0, qq1, if_neg c_173, if_pos (by rw [elo, ehi] at c_181; omega)], fun q => absurd q (by decide), hlim⟩) [0, 1, 2, 3, 4, 5, 6] rfl (by decide) dX4_overlap_189 (Nat.le_of_ble_eq_true rfl) (Nat.le_of_ble_eq_true rfl)
        · have c_181 : r138.toInt < r163.toInt := lc_nge c_181
          refine lv_iconst (v := 2) hx hb dX4_overlap_184 (by decide) ?_
          refine lv_goto (tgt := 189) hx hb dX4_overlap_185 (by decide) ?_
          exact hret hP hD hS rfl (fw, fs) (⟨by unfold ovA; rw [if_neg (show ¬ ((ftx (a.toNatClampNeg)).toInt - (fgx (a.toNatClampNeg)).toInt) = 0 by omega)]; unfold ovl; rw [qq0, qq1, if_neg c_173, if_neg (by rw [elo, ehi] at c_181; omega)], fun q => absurd q (by decide), hlim⟩) [0, 1, 2, 3, 4, 5, 6] rfl (by decide) dX4_overlap_189 (Nat.le_of_ble_eq_true rfl) (Nat.le_of_ble_eq_true rfl)
    · have c_121 : r117.toInt < r110.toInt := lc_nle c_121
      refine lv_lload hx hb dX4_overlap_124 (lv_at hl 3 rfl) ?_
      refine lv_lload hx hb dX4_overlap_126 (lv_at hl 2 rfl) ?_
      refine vp_callSl (va_runS (As := [.long (fgx (a.toNatClampNeg)), .long (ftx (a.toNatClampNeg))]) (rest := []) ⟨hx, hb, hml, hown, hTB⟩ (c_X4_less l D cZ cI cJ (fgx (a.toNatClampNeg)) (ftx (a.toNatClampNeg))) (cw_S hTB tb_13_9 tb_1_5 tb_13_7 tb_13_8 nd_X4_less rfl rfl ⟨Nat.le_of_ble_eq_true rfl, Nat.le_of_ble_eq_true rfl⟩) (prr_S hK hP [] rfl) rfl rfl hl.1 rfl (lv_room (Nat.le_of_ble_eq_true rfl)) dX4_overlap_128 ⟨Nat.le_of_ble_eq_true rfl, Nat.le_of_ble_eq_true rfl⟩).run (fun r128 hc128 => ?_)
      refine lv_goto (tgt := 141) hx hb dX4_overlap_131 (by decide) ?_
      refine lv_lstore (lv' := [(12, .long r128), (10, .long (ftx (b.toNatClampNeg))), (8, .long (fgx (b.toNatClampNeg))), (6, .long (ftx (a.toNatClampNeg))), (4, .long (fgx (a.toNatClampNeg))), (3, .int 1), (0, .ref o), (1, .int a), (2, .int b)]) hx hb dX4_overlap_141 hl (by decide) rfl (fun ls hl => ?_)
      refine lv_lload hx hb dX4_overlap_143 (lv_at hl 4 rfl) ?_
      refine lv_lneg hx hb dX4_overlap_145 ?_
      refine lv_lload hx hb dX4_overlap_146 (lv_at hl 3 rfl) ?_
      refine lv_lneg hx hb dX4_overlap_148 ?_
      refine vp_callSl (va_runS (As := [.long (-(fgx (a.toNatClampNeg))), .long (-(ftx (a.toNatClampNeg)))]) (rest := []) ⟨hx, hb, hml, hown, hTB⟩ (c_X4_less l D cZ cI cJ (-(fgx (a.toNatClampNeg))) (-(ftx (a.toNatClampNeg)))) (cw_S hTB tb_13_9 tb_1_5 tb_13_7 tb_13_8 nd_X4_less rfl rfl ⟨Nat.le_of_ble_eq_true rfl, Nat.le_of_ble_eq_true rfl⟩) (prr_S hK hP [] rfl) rfl rfl hl.1 rfl (lv_room (Nat.le_of_ble_eq_true rfl)) dX4_overlap_149 ⟨Nat.le_of_ble_eq_true rfl, Nat.le_of_ble_eq_true rfl⟩).run (fun r149 hc149 => ?_)
      refine lv_lneg hx hb dX4_overlap_152 ?_
      refine lv_lload hx hb dX4_overlap_153 (lv_at hl 2 rfl) ?_
      refine lv_lneg hx hb dX4_overlap_155 ?_
      refine lv_lload hx hb dX4_overlap_156 (lv_at hl 1 rfl) ?_
      refine lv_lneg hx hb dX4_overlap_158 ?_
      refine vp_callSl (va_runS (As := [.long (-(fgx (b.toNatClampNeg))), .long (-(ftx (b.toNatClampNeg)))]) (rest := [.long (-r149)]) ⟨hx, hb, hml, hown, hTB⟩ (c_X4_less l D cZ cI cJ (-(fgx (b.toNatClampNeg))) (-(ftx (b.toNatClampNeg)))) (cw_S hTB tb_13_9 tb_1_5 tb_13_7 tb_13_8 nd_X4_less rfl rfl ⟨Nat.le_of_ble_eq_true rfl, Nat.le_of_ble_eq_true rfl⟩) (prr_S hK hP [] rfl) rfl rfl hl.1 rfl (lv_room (Nat.le_of_ble_eq_true rfl)) dX4_overlap_159 ⟨Nat.le_of_ble_eq_true rfl, Nat.le_of_ble_eq_true rfl⟩).run (fun r159 hc159 => ?_)
      refine lv_lneg hx hb dX4_overlap_162 ?_
      refine vp_callSl (va_runS (As := [.long (-r149), .long (-r159)]) (rest := []) ⟨hx, hb, hml, hown, hTB⟩ (c_X4_less l D cZ cI cJ (-r149) (-r159)) (cw_S hTB tb_13_9 tb_1_5 tb_13_7 tb_13_8 nd_X4_less rfl rfl ⟨Nat.le_of_ble_eq_true rfl, Nat.le_of_ble_eq_true rfl⟩) (prr_S hK hP [] rfl) rfl rfl hl.1 rfl (lv_room (Nat.le_of_ble_eq_true rfl)) dX4_overlap_163 ⟨Nat.le_of_ble_eq_true rfl, Nat.le_of_ble_eq_true rfl⟩).run (fun r163 hc163 => ?_)
      refine lv_lstore (lv' := [(14, .long r163), (12, .long r128), (10, .long (ftx (b.toNatClampNeg))), (8, .long (fgx (b.toNatClampNeg))), (6, .long (ftx (a.toNatClampNeg))), (4, .long (fgx (a.toNatClampNeg))), (3, .int 1), (0, .ref o), (1, .int a), (2, .int b)]) hx hb dX4_overlap_166 hl (by decide) rfl (fun ls hl => ?_)
      refine lv_lload hx hb dX4_overlap_168 (lv_at hl 1 rfl) ?_
      refine lv_lload hx hb dX4_overlap_170 (lv_at hl 0 rfl) ?_
      refine W.lcmp hx hb dX4_overlap_172 ?_
      refine lv_if_eq (tgt := 190) hx hb dX4_overlap_173 (by decide) (fun c_173 => ?_) (fun c_173 => ?_)
      · have c_173 : r128.toInt = r163.toInt := lc_eq c_173
        have elo : r128.toInt = imx (imn (fgx (a.toNatClampNeg)).toInt (ftx (a.toNatClampNeg)).toInt) (imn (fgx (b.toNatClampNeg)).toInt (ftx (b.toNatClampNeg)).toInt) := by rw [hc110, hc117] at c_121; unfold imx; rw [if_pos (by omega), hc128]
        have b1 := imx_bd (a := (fgx (a.toNatClampNeg)).toInt) (b := (ftx (a.toNatClampNeg)).toInt) (B := 1099511627776) (by omega) (by omega) (by omega) (by omega)
        have b2 := imx_bd (a := (fgx (b.toNatClampNeg)).toInt) (b := (ftx (b.toNatClampNeg)).toInt) (B := 1099511627776) (by omega) (by omega) (by omega) (by omega)
        have e149 : r149.toInt = -(imx (fgx (a.toNatClampNeg)).toInt (ftx (a.toNatClampNeg)).toInt) := by rw [hc149, ng0, ng1, imn_neg]
        have e159 : r159.toInt = -(imx (fgx (b.toNatClampNeg)).toInt (ftx (b.toNatClampNeg)).toInt) := by rw [hc159, ng2, ng3, imn_neg]
        have ehi : r163.toInt = imn (imx (fgx (a.toNatClampNeg)).toInt (ftx (a.toNatClampNeg)).toInt) (imx (fgx (b.toNatClampNeg)).toInt (ftx (b.toNatClampNeg)).toInt) := by rw [hc163, neg_rng (by omega), neg_rng (by omega), e149, e159, Int.neg_neg, Int.neg_neg]
        rw [elo, ehi] at c_173
        refine lv_lload hx hb dX4_overlap_190 (lv_at hl 5 rfl) ?_
        refine lv_lload hx hb dX4_overlap_192 (lv_at hl 1 rfl) ?_
        refine W.lcmp hx hb dX4_overlap_194 ?_
        refine lv_if_ne (tgt := 202) hx hb dX4_overlap_195 (by decide) (fun c_195 => ?_) (fun c_195 => ?_)
        · have c_195 : (fgx (a.toNatClampNeg)).toInt ≠ r128.toInt := lc_ne c_195
          refine lv_iconst (v := 0) hx hb dX4_overlap_202 (by decide) ?_
          refine lv_istore (lv' := [(16, .int 0), (14, .long r163), (12, .long r128), (10, .long (ftx (b.toNatClampNeg))), (8, .long (fgx (b.toNatClampNeg))), (6, .long (ftx (a.toNatClampNeg))), (4, .long (fgx (a.toNatClampNeg))), (3, .int 1), (0, .ref o), (1, .int a), (2, .int b)]) hx hb dX4_overlap_203 hl (by decide) rfl (fun ls hl => ?_)
          refine lv_aload_n hx hb dX4_overlap_205 rfl (lv_at hl 8 rfl) ?_
          refine lv_bipush (v := 12) hx hb dX4_overlap_206 (by decide) ?_
          refine lv_iload hx hb dX4_overlap_208 (lv_at hl 0 rfl) ?_
          refine lv_if_eq (tgt := 222) hx hb dX4_overlap_210 (by decide) (fun c_210 => ?_) (fun c_210 => absurd c_210 (by decide))
          refine lv_aload_n hx hb dX4_overlap_222 rfl (lv_at hl 8 rfl) ?_
          refine va_get (D := D) (ci := 4) (v := .ref tx) (C := RX4) (T := TX4) (N := 14) hx hb hTB tb_X4 hown hK.1 hP 0 rfl rfl 7 (by decide) (hTB _ tb_3_20) (fun _ h9 => h9) rfl dX4_overlap_223 ?_
          refine lv_iload_n hx hb dX4_overlap_226 rfl (lv_at hl 9 rfl) ?_
          refine va_lald (f := ftx) hx hb hK.1 hP 5 2 rfl rfl (vp_in_iff.mpr ⟨by omega, by omega⟩) dX4_overlap_227 ?_
          refine fin_v (wr := [(gx, .inl (cJ, 16, .inr (.inl fgx))), (gy, .inl (cJ, 16, .inr (.inl fgy))), (tx, .inl (cJ, 16, .inr (.inl ftx))), (tz, .inl (cJ, 16, .inr (.inl fty)))]) (va_runV (As := [.int 12, .long (ftx (a.toNatClampNeg))]) (rest := []) ⟨hx, hb, hml, hown, hTB⟩ (c_X4_put l D cZ cI cJ o wa sa ma tl gx gy tx tz kx ky cd ln cn ah fw fs 12 (ftx (a.toNatClampNeg)) hlim (by decide) _) (cw_V hTB tb_6_21 tb_1_5 tb_6_18 tb_6_19 tb_6_20 nd_X4_put rfl rfl ⟨Nat.le_of_ble_eq_true rfl, Nat.le_of_ble_eq_true rfl⟩) (pre_V (q0 := 0) hK hP hD [0, 1, 2] rfl rfl rfl rfl) rfl rfl hl.1 rfl (lv_room (Nat.le_of_ble_eq_true rfl)) dX4_overlap_228 ⟨Nat.le_of_ble_eq_true rfl, Nat.le_of_ble_eq_true rfl⟩) hP hD hS hA [0, 1, 2] [3, 4, 5, 6] rfl rfl rfl (by decide) (fun u228 H locs hc228 hP hD hS => ?_)
          obtain ⟨g228, s228⟩ := u228
          dsimp only at hc228
          obtain ⟨up228, rfl⟩ := hc228
          have hP : va_P D vwCl [(gx, .inl (cJ, 16, .inr (.inl fgx))), (gy, .inl (cJ, 16, .inr (.inl fgy))), (tx, .inl (cJ, 16, .inr (.inl ftx))), (tz, .inl (cJ, 16, .inr (.inl fty))), (o, .inr (4, [.int cd, .ref wa, .ref sa, .ref ma, .ref tl, .ref gx, .ref gy, .ref tx, .ref tz, .int ln, .ref kx, .ref ky, .int cn, .int ah])), (wa, .inl (cJ, 96, .inr (.inl g228))), (sa, .inl (cI, 16, .inl (upd fs 12 (sg ((ftx (a.toNatClampNeg)).toInt)))))] H := hP
          have hD : va_D A [(gx, .inl (cJ, 16, .inr (.inl fgx))), (gy, .inl (cJ, 16, .inr (.inl fgy))), (tx, .inl (cJ, 16, .inr (.inl ftx))), (tz, .inl (cJ, 16, .inr (.inl fty))), (o, .inr (4, [.int cd, .ref wa, .ref sa, .ref ma, .ref tl, .ref gx, .ref gy, .ref tx, .ref tz, .int ln, .ref kx, .ref ky, .int cn, .int ah])), (wa, .inl (cJ, 96, .inr (.inl g228))), (sa, .inl (cI, 16, .inl (upd fs 12 (sg ((ftx (a.toNatClampNeg)).toInt)))))] := hD
          refine lv_aload_n hx hb dX4_overlap_231 rfl (lv_at hl 8 rfl) ?_
          refine lv_bipush (v := 13) hx hb dX4_overlap_232 (by decide) ?_
          refine lv_lconst (v := 1) hx hb dX4_overlap_234 (by decide) ?_
          refine fin_v (wr := [(gx, .inl (cJ, 16, .inr (.inl fgx))), (gy, .inl (cJ, 16, .inr (.inl fgy))), (tx, .inl (cJ, 16, .inr (.inl ftx))), (tz, .inl (cJ, 16, .inr (.inl fty)))]) (va_runV (As := [.int 13, .long 1]) (rest := []) ⟨hx, hb, hml, hown, hTB⟩ (c_X4_put l D cZ cI cJ o wa sa ma tl gx gy tx tz kx ky cd ln cn ah g228 (upd fs 12 (sg ((ftx (a.toNatClampNeg)).toInt))) 13 1 up228.1 (by decide) _) (cw_V hTB tb_6_21 tb_1_5 tb_6_18 tb_6_19 tb_6_20 nd_X4_put rfl rfl ⟨Nat.le_of_ble_eq_true rfl, Nat.le_of_ble_eq_true rfl⟩) (pre_V (q0 := 4) hK hP hD [4, 5, 6] rfl rfl rfl rfl) rfl rfl hl.1 rfl (lv_room (Nat.le_of_ble_eq_true rfl)) dX4_overlap_235 ⟨Nat.le_of_ble_eq_true rfl, Nat.le_of_ble_eq_true rfl⟩) hP hD hS hA [4, 5, 6] [0, 1, 2, 3] rfl rfl rfl (by decide) (fun u235 H locs hc235 hP hD hS => ?_)
          obtain ⟨g235, s235⟩ := u235
          dsimp only at hc235
          obtain ⟨up235, rfl⟩ := hc235
          have hP : va_P D vwCl [(gx, .inl (cJ, 16, .inr (.inl fgx))), (gy, .inl (cJ, 16, .inr (.inl fgy))), (tx, .inl (cJ, 16, .inr (.inl ftx))), (tz, .inl (cJ, 16, .inr (.inl fty))), (o, .inr (4, [.int cd, .ref wa, .ref sa, .ref ma, .ref tl, .ref gx, .ref gy, .ref tx, .ref tz, .int ln, .ref kx, .ref ky, .int cn, .int ah])), (wa, .inl (cJ, 96, .inr (.inl g235))), (sa, .inl (cI, 16, .inl (upd (upd fs 12 (sg ((ftx (a.toNatClampNeg)).toInt))) 13 (sg ((1 : Int64).toInt)))))] H := hP
          have hD : va_D A [(gx, .inl (cJ, 16, .inr (.inl fgx))), (gy, .inl (cJ, 16, .inr (.inl fgy))), (tx, .inl (cJ, 16, .inr (.inl ftx))), (tz, .inl (cJ, 16, .inr (.inl fty))), (o, .inr (4, [.int cd, .ref wa, .ref sa, .ref ma, .ref tl, .ref gx, .ref gy, .ref tx, .ref tz, .int ln, .ref kx, .ref ky, .int cn, .int ah])), (wa, .inl (cJ, 96, .inr (.inl g235))), (sa, .inl (cI, 16, .inl (upd (upd fs 12 (sg ((ftx (a.toNatClampNeg)).toInt))) 13 (sg ((1 : Int64).toInt)))))] := hD
          refine lv_aload_n hx hb dX4_overlap_238 rfl (lv_at hl 8 rfl) ?_
          refine lv_bipush (v := 14) hx hb dX4_overlap_239 (by decide) ?_
          refine lv_iload hx hb dX4_overlap_241 (lv_at hl 0 rfl) ?_
          refine lv_if_eq (tgt := 255) hx hb dX4_overlap_243 (by decide) (fun c_243 => ?_) (fun c_243 => absurd c_243 (by decide))
          refine lv_aload_n hx hb dX4_overlap_255 rfl (lv_at hl 8 rfl) ?_
          refine va_get (D := D) (ci := 4) (v := .ref tz) (C := RX4) (T := TX4) (N := 14) hx hb hTB tb_X4 hown hK.1 hP 4 rfl rfl 8 (by decide) (hTB _ tb_3_21) (fun _ h9 => h9) rfl dX4_overlap_256 ?_
          refine lv_iload_n hx hb dX4_overlap_259 rfl (lv_at hl 9 rfl) ?_
          refine va_lald (f := fty) hx hb hK.1 hP 3 2 rfl rfl (vp_in_iff.mpr ⟨by omega, by omega⟩) dX4_overlap_260 ?_
          refine fin_v (wr := [(gx, .inl (cJ, 16, .inr (.inl fgx))), (gy, .inl (cJ, 16, .inr (.inl fgy))), (tx, .inl (cJ, 16, .inr (.inl ftx))), (tz, .inl (cJ, 16, .inr (.inl fty)))]) (va_runV (As := [.int 14, .long (fty (a.toNatClampNeg))]) (rest := []) ⟨hx, hb, hml, hown, hTB⟩ (c_X4_put l D cZ cI cJ o wa sa ma tl gx gy tx tz kx ky cd ln cn ah g235 (upd (upd fs 12 (sg ((ftx (a.toNatClampNeg)).toInt))) 13 (sg ((1 : Int64).toInt))) 14 (fty (a.toNatClampNeg)) up235.1 (by decide) _) (cw_V hTB tb_6_21 tb_1_5 tb_6_18 tb_6_19 tb_6_20 nd_X4_put rfl rfl ⟨Nat.le_of_ble_eq_true rfl, Nat.le_of_ble_eq_true rfl⟩) (pre_V (q0 := 4) hK hP hD [4, 5, 6] rfl rfl rfl rfl) rfl rfl hl.1 rfl (lv_room (Nat.le_of_ble_eq_true rfl)) dX4_overlap_261 ⟨Nat.le_of_ble_eq_true rfl, Nat.le_of_ble_eq_true rfl⟩) hP hD hS hA [4, 5, 6] [0, 1, 2, 3] rfl rfl rfl (by decide) (fun u261 H locs hc261 hP hD hS => ?_)
          obtain ⟨g261, s261⟩ := u261
          dsimp only at hc261
          obtain ⟨up261, rfl⟩ := hc261
          have hP : va_P D vwCl [(gx, .inl (cJ, 16, .inr (.inl fgx))), (gy, .inl (cJ, 16, .inr (.inl fgy))), (tx, .inl (cJ, 16, .inr (.inl ftx))), (tz, .inl (cJ, 16, .inr (.inl fty))), (o, .inr (4, [.int cd, .ref wa, .ref sa, .ref ma, .ref tl, .ref gx, .ref gy, .ref tx, .ref tz, .int ln, .ref kx, .ref ky, .int cn, .int ah])), (wa, .inl (cJ, 96, .inr (.inl g261))), (sa, .inl (cI, 16, .inl (upd (upd (upd fs 12 (sg ((ftx (a.toNatClampNeg)).toInt))) 13 (sg ((1 : Int64).toInt))) 14 (sg ((fty (a.toNatClampNeg)).toInt)))))] H := hP
          have hD : va_D A [(gx, .inl (cJ, 16, .inr (.inl fgx))), (gy, .inl (cJ, 16, .inr (.inl fgy))), (tx, .inl (cJ, 16, .inr (.inl ftx))), (tz, .inl (cJ, 16, .inr (.inl fty))), (o, .inr (4, [.int cd, .ref wa, .ref sa, .ref ma, .ref tl, .ref gx, .ref gy, .ref tx, .ref tz, .int ln, .ref kx, .ref ky, .int cn, .int ah])), (wa, .inl (cJ, 96, .inr (.inl g261))), (sa, .inl (cI, 16, .inl (upd (upd (upd fs 12 (sg ((ftx (a.toNatClampNeg)).toInt))) 13 (sg ((1 : Int64).toInt))) 14 (sg ((fty (a.toNatClampNeg)).toInt)))))] := hD
          refine lv_aload_n hx hb dX4_overlap_264 rfl (lv_at hl 8 rfl) ?_
          refine lv_bipush (v := 15) hx hb dX4_overlap_265 (by decide) ?_
          refine lv_lconst (v := 1) hx hb dX4_overlap_267 (by decide) ?_
          refine fin_v (wr := [(gx, .inl (cJ, 16, .inr (.inl fgx))), (gy, .inl (cJ, 16, .inr (.inl fgy))), (tx, .inl (cJ, 16, .inr (.inl ftx))), (tz, .inl (cJ, 16, .inr (.inl fty)))]) (va_runV (As := [.int 15, .long 1]) (rest := []) ⟨hx, hb, hml, hown, hTB⟩ (c_X4_put l D cZ cI cJ o wa sa ma tl gx gy tx tz kx ky cd ln cn ah g261 (upd (upd (upd fs 12 (sg ((ftx (a.toNatClampNeg)).toInt))) 13 (sg ((1 : Int64).toInt))) 14 (sg ((fty (a.toNatClampNeg)).toInt))) 15 1 up261.1 (by decide) _) (cw_V hTB tb_6_21 tb_1_5 tb_6_18 tb_6_19 tb_6_20 nd_X4_put rfl rfl ⟨Nat.le_of_ble_eq_true rfl, Nat.le_of_ble_eq_true rfl⟩) (pre_V (q0 := 4) hK hP hD [4, 5, 6] rfl rfl rfl rfl) rfl rfl hl.1 rfl (lv_room (Nat.le_of_ble_eq_true rfl)) dX4_overlap_268 ⟨Nat.le_of_ble_eq_true rfl, Nat.le_of_ble_eq_true rfl⟩) hP hD hS hA [4, 5, 6] [0, 1, 2, 3] rfl rfl rfl (by decide) (fun u268 H locs hc268 hP hD hS => ?_)
          obtain ⟨g268, s268⟩ := u268
          dsimp only at hc268
          obtain ⟨up268, rfl⟩ := hc268
          have hP : va_P D vwCl [(gx, .inl (cJ, 16, .inr (.inl fgx))), (gy, .inl (cJ, 16, .inr (.inl fgy))), (tx, .inl (cJ, 16, .inr (.inl ftx))), (tz, .inl (cJ, 16, .inr (.inl fty))), (o, .inr (4, [.int cd, .ref wa, .ref sa, .ref ma, .ref tl, .ref gx, .ref gy, .ref tx, .ref tz, .int ln, .ref kx, .ref ky, .int cn, .int ah])), (wa, .inl (cJ, 96, .inr (.inl g268))), (sa, .inl (cI, 16, .inl (upd (upd (upd (upd fs 12 (sg ((ftx (a.toNatClampNeg)).toInt))) 13 (sg ((1 : Int64).toInt))) 14 (sg ((fty (a.toNatClampNeg)).toInt))) 15 (sg ((1 : Int64).toInt)))))] H := hP
          have hD : va_D A [(gx, .inl (cJ, 16, .inr (.inl fgx))), (gy, .inl (cJ, 16, .inr (.inl fgy))), (tx, .inl (cJ, 16, .inr (.inl ftx))), (tz, .inl (cJ, 16, .inr (.inl fty))), (o, .inr (4, [.int cd, .ref wa, .ref sa, .ref ma, .ref tl, .ref gx, .ref gy, .ref tx, .ref tz, .int ln, .ref kx, .ref ky, .int cn, .int ah])), (wa, .inl (cJ, 96, .inr (.inl g268))), (sa, .inl (cI, 16, .inl (upd (upd (upd (upd fs 12 (sg ((ftx (a.toNatClampNeg)).toInt))) 13 (sg ((1 : Int64).toInt))) 14 (sg ((fty (a.toNatClampNeg)).toInt))) 15 (sg ((1 : Int64).toInt)))))] := hD
          refine lv_iconst (v := 1) hx hb dX4_overlap_271 (by decide) ?_
          have os : ovS (fgx (a.toNatClampNeg)).toInt (fgy (a.toNatClampNeg)).toInt ((ftx (a.toNatClampNeg)).toInt - (fgx (a.toNatClampNeg)).toInt) ((fty (a.toNatClampNeg)).toInt - (fgy (a.toNatClampNeg)).toInt) (fgx (b.toNatClampNeg)).toInt (fgy (b.toNatClampNeg)).toInt ((ftx (b.toNatClampNeg)).toInt - (fgx (b.toNatClampNeg)).toInt) ((fty (b.toNatClampNeg)).toInt - (fgy (b.toNatClampNeg)).toInt) ≠ 0 := (by unfold ovS; rw [if_neg (show ¬ ((ftx (a.toNatClampNeg)).toInt - (fgx (a.toNatClampNeg)).toInt) = 0 by omega), qq0, qq1]; rw [elo] at c_195; omega)
          exact hret hP hD hS rfl (g268, upd (upd (upd (upd fs 12 (sg ((ftx (a.toNatClampNeg)).toInt))) 13 (sg ((1 : Int64).toInt))) 14 (sg ((fty (a.toNatClampNeg)).toInt))) 15 (sg ((1 : Int64).toInt))) (⟨by unfold ovA; rw [if_neg (show ¬ ((ftx (a.toNatClampNeg)).toInt - (fgx (a.toNatClampNeg)).toInt) = 0 by omega)]; unfold ovl; rw [qq0, qq1, if_pos c_173], fun _ => ⟨by rw [show ovX (fgx (a.toNatClampNeg)).toInt (fgy (a.toNatClampNeg)).toInt ((ftx (a.toNatClampNeg)).toInt - (fgx (a.toNatClampNeg)).toInt) ((fty (a.toNatClampNeg)).toInt - (fgy (a.toNatClampNeg)).toInt) (fgx (b.toNatClampNeg)).toInt (fgy (b.toNatClampNeg)).toInt ((ftx (b.toNatClampNeg)).toInt - (fgx (b.toNatClampNeg)).toInt) ((fty (b.toNatClampNeg)).toInt - (fgy (b.toNatClampNeg)).toInt) = (ftx (a.toNatClampNeg)).toInt from (by unfold ovX; rw [if_neg os, qq0])]; exact HF_1 ((((hz.new up228).keep up235 (by decide)).keep up261 (by decide)).keep up268 (by decide)) (((hz.new (z := 1) up235).keep up261 (by decide)).keep up268 (by decide)), by rw [show ovY (fgx (a.toNatClampNeg)).toInt (fgy (a.toNatClampNeg)).toInt ((ftx (a.toNatClampNeg)).toInt - (fgx (a.toNatClampNeg)).toInt) ((fty (a.toNatClampNeg)).toInt - (fgy (a.toNatClampNeg)).toInt) (fgx (b.toNatClampNeg)).toInt (fgy (b.toNatClampNeg)).toInt ((ftx (b.toNatClampNeg)).toInt - (fgx (b.toNatClampNeg)).toInt) ((fty (b.toNatClampNeg)).toInt - (fgy (b.toNatClampNeg)).toInt) = (fty (a.toNatClampNeg)).toInt from (by unfold ovY; rw [if_neg os, qq2])]; exact HF_1 ((hz.new up261).keep up268 (by decide)) (hz.new (z := 1) up268)⟩, up268.1⟩) [4, 5, 6, 0, 1, 2, 3] rfl (by decide) dX4_overlap_272 (Nat.le_of_ble_eq_true rfl) (Nat.le_of_ble_eq_true rfl)
        · have c_195 : (fgx (a.toNatClampNeg)).toInt = r128.toInt := lc_eq c_195
          refine lv_iconst (v := 1) hx hb dX4_overlap_198 (by decide) ?_
          refine lv_goto (tgt := 203) hx hb dX4_overlap_199 (by decide) ?_
          refine lv_istore (lv' := [(16, .int 1), (14, .long r163), (12, .long r128), (10, .long (ftx (b.toNatClampNeg))), (8, .long (fgx (b.toNatClampNeg))), (6, .long (ftx (a.toNatClampNeg))), (4, .long (fgx (a.toNatClampNeg))), (3, .int 1), (0, .ref o), (1, .int a), (2, .int b)]) hx hb dX4_overlap_203 hl (by decide) rfl (fun ls hl => ?_)
          refine lv_aload_n hx hb dX4_overlap_205 rfl (lv_at hl 8 rfl) ?_
          refine lv_bipush (v := 12) hx hb dX4_overlap_206 (by decide) ?_
          refine lv_iload hx hb dX4_overlap_208 (lv_at hl 0 rfl) ?_
          refine lv_if_eq (tgt := 222) hx hb dX4_overlap_210 (by decide) (fun c_210 => absurd c_210 (by decide)) (fun c_210 => ?_)
          refine lv_aload_n hx hb dX4_overlap_213 rfl (lv_at hl 8 rfl) ?_
          refine va_get (D := D) (ci := 4) (v := .ref gx) (C := RX4) (T := TX4) (N := 14) hx hb hTB tb_X4 hown hK.1 hP 0 rfl rfl 5 (by decide) (hTB _ tb_3_18) (fun _ h9 => h9) rfl dX4_overlap_214 ?_
          refine lv_iload_n hx hb dX4_overlap_217 rfl (lv_at hl 9 rfl) ?_
          refine va_lald (f := fgx) hx hb hK.1 hP 3 2 rfl rfl (vp_in_iff.mpr ⟨by omega, by omega⟩) dX4_overlap_218 ?_
          refine lv_goto (tgt := 228) hx hb dX4_overlap_219 (by decide) ?_
          refine fin_v (wr := [(gx, .inl (cJ, 16, .inr (.inl fgx))), (gy, .inl (cJ, 16, .inr (.inl fgy))), (tx, .inl (cJ, 16, .inr (.inl ftx))), (tz, .inl (cJ, 16, .inr (.inl fty)))]) (va_runV (As := [.int 12, .long (fgx (a.toNatClampNeg))]) (rest := []) ⟨hx, hb, hml, hown, hTB⟩ (c_X4_put l D cZ cI cJ o wa sa ma tl gx gy tx tz kx ky cd ln cn ah fw fs 12 (fgx (a.toNatClampNeg)) hlim (by decide) _) (cw_V hTB tb_6_21 tb_1_5 tb_6_18 tb_6_19 tb_6_20 nd_X4_put rfl rfl ⟨Nat.le_of_ble_eq_true rfl, Nat.le_of_ble_eq_true rfl⟩) (pre_V (q0 := 0) hK hP hD [0, 1, 2] rfl rfl rfl rfl) rfl rfl hl.1 rfl (lv_room (Nat.le_of_ble_eq_true rfl)) dX4_overlap_228 ⟨Nat.le_of_ble_eq_true rfl, Nat.le_of_ble_eq_true rfl⟩) hP hD hS hA [0, 1, 2] [3, 4, 5, 6] rfl rfl rfl (by decide) (fun u228 H locs hc228 hP hD hS => ?_)
          obtain ⟨g228, s228⟩ := u228
          dsimp only at hc228
          obtain ⟨up228, rfl⟩ := hc228
          have hP : va_P D vwCl [(gx, .inl (cJ, 16, .inr (.inl fgx))), (gy, .inl (cJ, 16, .inr (.inl fgy))), (tx, .inl (cJ, 16, .inr (.inl ftx))), (tz, .inl (cJ, 16, .inr (.inl fty))), (o, .inr (4, [.int cd, .ref wa, .ref sa, .ref ma, .ref tl, .ref gx, .ref gy, .ref tx, .ref tz, .int ln, .ref kx, .ref ky, .int cn, .int ah])), (wa, .inl (cJ, 96, .inr (.inl g228))), (sa, .inl (cI, 16, .inl (upd fs 12 (sg ((fgx (a.toNatClampNeg)).toInt)))))] H := hP
          have hD : va_D A [(gx, .inl (cJ, 16, .inr (.inl fgx))), (gy, .inl (cJ, 16, .inr (.inl fgy))), (tx, .inl (cJ, 16, .inr (.inl ftx))), (tz, .inl (cJ, 16, .inr (.inl fty))), (o, .inr (4, [.int cd, .ref wa, .ref sa, .ref ma, .ref tl, .ref gx, .ref gy, .ref tx, .ref tz, .int ln, .ref kx, .ref ky, .int cn, .int ah])), (wa, .inl (cJ, 96, .inr (.inl g228))), (sa, .inl (cI, 16, .inl (upd fs 12 (sg ((fgx (a.toNatClampNeg)).toInt)))))] := hD
          refine lv_aload_n hx hb dX4_overlap_231 rfl (lv_at hl 8 rfl) ?_
          refine lv_bipush (v := 13) hx hb dX4_overlap_232 (by decide) ?_
          refine lv_lconst (v := 1) hx hb dX4_overlap_234 (by decide) ?_
          refine fin_v (wr := [(gx, .inl (cJ, 16, .inr (.inl fgx))), (gy, .inl (cJ, 16, .inr (.inl fgy))), (tx, .inl (cJ, 16, .inr (.inl ftx))), (tz, .inl (cJ, 16, .inr (.inl fty)))]) (va_runV (As := [.int 13, .long 1]) (rest := []) ⟨hx, hb, hml, hown, hTB⟩ (c_X4_put l D cZ cI cJ o wa sa ma tl gx gy tx tz kx ky cd ln cn ah g228 (upd fs 12 (sg ((fgx (a.toNatClampNeg)).toInt))) 13 1 up228.1 (by decide) _) (cw_V hTB tb_6_21 tb_1_5 tb_6_18 tb_6_19 tb_6_20 nd_X4_put rfl rfl ⟨Nat.le_of_ble_eq_true rfl, Nat.le_of_ble_eq_true rfl⟩) (pre_V (q0 := 4) hK hP hD [4, 5, 6] rfl rfl rfl rfl) rfl rfl hl.1 rfl (lv_room (Nat.le_of_ble_eq_true rfl)) dX4_overlap_235 ⟨Nat.le_of_ble_eq_true rfl, Nat.le_of_ble_eq_true rfl⟩) hP hD hS hA [4, 5, 6] [0, 1, 2, 3] rfl rfl rfl (by decide) (fun u235 H locs hc235 hP hD hS => ?_)
          obtain ⟨g235, s235⟩ := u235
          dsimp only at hc235
          obtain ⟨up235, rfl⟩ := hc235
          have hP : va_P D vwCl [(gx, .inl (cJ, 16, .inr (.inl fgx))), (gy, .inl (cJ, 16, .inr (.inl fgy))), (tx, .inl (cJ, 16, .inr (.inl ftx))), (tz, .inl (cJ, 16, .inr (.inl fty))), (o, .inr (4, [.int cd, .ref wa, .ref sa, .ref ma, .ref tl, .ref gx, .ref gy, .ref tx, .ref tz, .int ln, .ref kx, .ref ky, .int cn, .int ah])), (wa, .inl (cJ, 96, .inr (.inl g235))), (sa, .inl (cI, 16, .inl (upd (upd fs 12 (sg ((fgx (a.toNatClampNeg)).toInt))) 13 (sg ((1 : Int64).toInt)))))] H := hP
          have hD : va_D A [(gx, .inl (cJ, 16, .inr (.inl fgx))), (gy, .inl (cJ, 16, .inr (.inl fgy))), (tx, .inl (cJ, 16, .inr (.inl ftx))), (tz, .inl (cJ, 16, .inr (.inl fty))), (o, .inr (4, [.int cd, .ref wa, .ref sa, .ref ma, .ref tl, .ref gx, .ref gy, .ref tx, .ref tz, .int ln, .ref kx, .ref ky, .int cn, .int ah])), (wa, .inl (cJ, 96, .inr (.inl g235))), (sa, .inl (cI, 16, .inl (upd (upd fs 12 (sg ((fgx (a.toNatClampNeg)).toInt))) 13 (sg ((1 : Int64).toInt)))))] := hD
          refine lv_aload_n hx hb dX4_overlap_238 rfl (lv_at hl 8 rfl) ?_
          refine lv_bipush (v := 14) hx hb dX4_overlap_239 (by decide) ?_
          refine lv_iload hx hb dX4_overlap_241 (lv_at hl 0 rfl) ?_
          refine lv_if_eq (tgt := 255) hx hb dX4_overlap_243 (by decide) (fun c_243 => absurd c_243 (by decide)) (fun c_243 => ?_)
          refine lv_aload_n hx hb dX4_overlap_246 rfl (lv_at hl 8 rfl) ?_
          refine va_get (D := D) (ci := 4) (v := .ref gy) (C := RX4) (T := TX4) (N := 14) hx hb hTB tb_X4 hown hK.1 hP 4 rfl rfl 6 (by decide) (hTB _ tb_3_19) (fun _ h9 => h9) rfl dX4_overlap_247 ?_
          refine lv_iload_n hx hb dX4_overlap_250 rfl (lv_at hl 9 rfl) ?_
          refine va_lald (f := fgy) hx hb hK.1 hP 1 2 rfl rfl (vp_in_iff.mpr ⟨by omega, by omega⟩) dX4_overlap_251 ?_
          refine lv_goto (tgt := 261) hx hb dX4_overlap_252 (by decide) ?_
          refine fin_v (wr := [(gx, .inl (cJ, 16, .inr (.inl fgx))), (gy, .inl (cJ, 16, .inr (.inl fgy))), (tx, .inl (cJ, 16, .inr (.inl ftx))), (tz, .inl (cJ, 16, .inr (.inl fty)))]) (va_runV (As := [.int 14, .long (fgy (a.toNatClampNeg))]) (rest := []) ⟨hx, hb, hml, hown, hTB⟩ (c_X4_put l D cZ cI cJ o wa sa ma tl gx gy tx tz kx ky cd ln cn ah g235 (upd (upd fs 12 (sg ((fgx (a.toNatClampNeg)).toInt))) 13 (sg ((1 : Int64).toInt))) 14 (fgy (a.toNatClampNeg)) up235.1 (by decide) _) (cw_V hTB tb_6_21 tb_1_5 tb_6_18 tb_6_19 tb_6_20 nd_X4_put rfl rfl ⟨Nat.le_of_ble_eq_true rfl, Nat.le_of_ble_eq_true rfl⟩) (pre_V (q0 := 4) hK hP hD [4, 5, 6] rfl rfl rfl rfl) rfl rfl hl.1 rfl (lv_room (Nat.le_of_ble_eq_true rfl)) dX4_overlap_261 ⟨Nat.le_of_ble_eq_true rfl, Nat.le_of_ble_eq_true rfl⟩) hP hD hS hA [4, 5, 6] [0, 1, 2, 3] rfl rfl rfl (by decide) (fun u261 H locs hc261 hP hD hS => ?_)
          obtain ⟨g261, s261⟩ := u261
          dsimp only at hc261
          obtain ⟨up261, rfl⟩ := hc261
          have hP : va_P D vwCl [(gx, .inl (cJ, 16, .inr (.inl fgx))), (gy, .inl (cJ, 16, .inr (.inl fgy))), (tx, .inl (cJ, 16, .inr (.inl ftx))), (tz, .inl (cJ, 16, .inr (.inl fty))), (o, .inr (4, [.int cd, .ref wa, .ref sa, .ref ma, .ref tl, .ref gx, .ref gy, .ref tx, .ref tz, .int ln, .ref kx, .ref ky, .int cn, .int ah])), (wa, .inl (cJ, 96, .inr (.inl g261))), (sa, .inl (cI, 16, .inl (upd (upd (upd fs 12 (sg ((fgx (a.toNatClampNeg)).toInt))) 13 (sg ((1 : Int64).toInt))) 14 (sg ((fgy (a.toNatClampNeg)).toInt)))))] H := hP
          have hD : va_D A [(gx, .inl (cJ, 16, .inr (.inl fgx))), (gy, .inl (cJ, 16, .inr (.inl fgy))), (tx, .inl (cJ, 16, .inr (.inl ftx))), (tz, .inl (cJ, 16, .inr (.inl fty))), (o, .inr (4, [.int cd, .ref wa, .ref sa, .ref ma, .ref tl, .ref gx, .ref gy, .ref tx, .ref tz, .int ln, .ref kx, .ref ky, .int cn, .int ah])), (wa, .inl (cJ, 96, .inr (.inl g261))), (sa, .inl (cI, 16, .inl (upd (upd (upd fs 12 (sg ((fgx (a.toNatClampNeg)).toInt))) 13 (sg ((1 : Int64).toInt))) 14 (sg ((fgy (a.toNatClampNeg)).toInt)))))] := hD
          refine lv_aload_n hx hb dX4_overlap_264 rfl (lv_at hl 8 rfl) ?_
          refine lv_bipush (v := 15) hx hb dX4_overlap_265 (by decide) ?_
          refine lv_lconst (v := 1) hx hb dX4_overlap_267 (by decide) ?_
          refine fin_v (wr := [(gx, .inl (cJ, 16, .inr (.inl fgx))), (gy, .inl (cJ, 16, .inr (.inl fgy))), (tx, .inl (cJ, 16, .inr (.inl ftx))), (tz, .inl (cJ, 16, .inr (.inl fty)))]) (va_runV (As := [.int 15, .long 1]) (rest := []) ⟨hx, hb, hml, hown, hTB⟩ (c_X4_put l D cZ cI cJ o wa sa ma tl gx gy tx tz kx ky cd ln cn ah g261 (upd (upd (upd fs 12 (sg ((fgx (a.toNatClampNeg)).toInt))) 13 (sg ((1 : Int64).toInt))) 14 (sg ((fgy (a.toNatClampNeg)).toInt))) 15 1 up261.1 (by decide) _) (cw_V hTB tb_6_21 tb_1_5 tb_6_18 tb_6_19 tb_6_20 nd_X4_put rfl rfl ⟨Nat.le_of_ble_eq_true rfl, Nat.le_of_ble_eq_true rfl⟩) (pre_V (q0 := 4) hK hP hD [4, 5, 6] rfl rfl rfl rfl) rfl rfl hl.1 rfl (lv_room (Nat.le_of_ble_eq_true rfl)) dX4_overlap_268 ⟨Nat.le_of_ble_eq_true rfl, Nat.le_of_ble_eq_true rfl⟩) hP hD hS hA [4, 5, 6] [0, 1, 2, 3] rfl rfl rfl (by decide) (fun u268 H locs hc268 hP hD hS => ?_)
          obtain ⟨g268, s268⟩ := u268
          dsimp only at hc268
          obtain ⟨up268, rfl⟩ := hc268
          have hP : va_P D vwCl [(gx, .inl (cJ, 16, .inr (.inl fgx))), (gy, .inl (cJ, 16, .inr (.inl fgy))), (tx, .inl (cJ, 16, .inr (.inl ftx))), (tz, .inl (cJ, 16, .inr (.inl fty))), (o, .inr (4, [.int cd, .ref wa, .ref sa, .ref ma, .ref tl, .ref gx, .ref gy, .ref tx, .ref tz, .int ln, .ref kx, .ref ky, .int cn, .int ah])), (wa, .inl (cJ, 96, .inr (.inl g268))), (sa, .inl (cI, 16, .inl (upd (upd (upd (upd fs 12 (sg ((fgx (a.toNatClampNeg)).toInt))) 13 (sg ((1 : Int64).toInt))) 14 (sg ((fgy (a.toNatClampNeg)).toInt))) 15 (sg ((1 : Int64).toInt)))))] H := hP
          have hD : va_D A [(gx, .inl (cJ, 16, .inr (.inl fgx))), (gy, .inl (cJ, 16, .inr (.inl fgy))), (tx, .inl (cJ, 16, .inr (.inl ftx))), (tz, .inl (cJ, 16, .inr (.inl fty))), (o, .inr (4, [.int cd, .ref wa, .ref sa, .ref ma, .ref tl, .ref gx, .ref gy, .ref tx, .ref tz, .int ln, .ref kx, .ref ky, .int cn, .int ah])), (wa, .inl (cJ, 96, .inr (.inl g268))), (sa, .inl (cI, 16, .inl (upd (upd (upd (upd fs 12 (sg ((fgx (a.toNatClampNeg)).toInt))) 13 (sg ((1 : Int64).toInt))) 14 (sg ((fgy (a.toNatClampNeg)).toInt))) 15 (sg ((1 : Int64).toInt)))))] := hD
          refine lv_iconst (v := 1) hx hb dX4_overlap_271 (by decide) ?_
          have os : ovS (fgx (a.toNatClampNeg)).toInt (fgy (a.toNatClampNeg)).toInt ((ftx (a.toNatClampNeg)).toInt - (fgx (a.toNatClampNeg)).toInt) ((fty (a.toNatClampNeg)).toInt - (fgy (a.toNatClampNeg)).toInt) (fgx (b.toNatClampNeg)).toInt (fgy (b.toNatClampNeg)).toInt ((ftx (b.toNatClampNeg)).toInt - (fgx (b.toNatClampNeg)).toInt) ((fty (b.toNatClampNeg)).toInt - (fgy (b.toNatClampNeg)).toInt) = 0 := (by unfold ovS; rw [if_neg (show ¬ ((ftx (a.toNatClampNeg)).toInt - (fgx (a.toNatClampNeg)).toInt) = 0 by omega), qq0, qq1]; rw [elo] at c_195; omega)
          exact hret hP hD hS rfl (g268, upd (upd (upd (upd fs 12 (sg ((fgx (a.toNatClampNeg)).toInt))) 13 (sg ((1 : Int64).toInt))) 14 (sg ((fgy (a.toNatClampNeg)).toInt))) 15 (sg ((1 : Int64).toInt))) (⟨by unfold ovA; rw [if_neg (show ¬ ((ftx (a.toNatClampNeg)).toInt - (fgx (a.toNatClampNeg)).toInt) = 0 by omega)]; unfold ovl; rw [qq0, qq1, if_pos c_173], fun _ => ⟨by rw [show ovX (fgx (a.toNatClampNeg)).toInt (fgy (a.toNatClampNeg)).toInt ((ftx (a.toNatClampNeg)).toInt - (fgx (a.toNatClampNeg)).toInt) ((fty (a.toNatClampNeg)).toInt - (fgy (a.toNatClampNeg)).toInt) (fgx (b.toNatClampNeg)).toInt (fgy (b.toNatClampNeg)).toInt ((ftx (b.toNatClampNeg)).toInt - (fgx (b.toNatClampNeg)).toInt) ((fty (b.toNatClampNeg)).toInt - (fgy (b.toNatClampNeg)).toInt) = (fgx (a.toNatClampNeg)).toInt from (by unfold ovX; rw [if_pos os])]; exact HF_1 ((((hz.new up228).keep up235 (by decide)).keep up261 (by decide)).keep up268 (by decide)) (((hz.new (z := 1) up235).keep up261 (by decide)).keep up268 (by decide)), by rw [show ovY (fgx (a.toNatClampNeg)).toInt (fgy (a.toNatClampNeg)).toInt ((ftx (a.toNatClampNeg)).toInt - (fgx (a.toNatClampNeg)).toInt) ((fty (a.toNatClampNeg)).toInt - (fgy (a.toNatClampNeg)).toInt) (fgx (b.toNatClampNeg)).toInt (fgy (b.toNatClampNeg)).toInt ((ftx (b.toNatClampNeg)).toInt - (fgx (b.toNatClampNeg)).toInt) ((fty (b.toNatClampNeg)).toInt - (fgy (b.toNatClampNeg)).toInt) = (fgy (a.toNatClampNeg)).toInt from (by unfold ovY; rw [if_pos os])]; exact HF_1 ((hz.new up261).keep up268 (by decide)) (hz.new (z := 1) up268)⟩, up268.1⟩) [4, 5, 6, 0, 1, 2, 3] rfl (by decide) dX4_overlap_272 (Nat.le_of_ble_eq_true rfl) (Nat.le_of_ble_eq_true rfl)
      · have c_173 : r128.toInt ≠ r163.toInt := lc_ne c_173
        have elo : r128.toInt = imx (imn (fgx (a.toNatClampNeg)).toInt (ftx (a.toNatClampNeg)).toInt) (imn (fgx (b.toNatClampNeg)).toInt (ftx (b.toNatClampNeg)).toInt) := by rw [hc110, hc117] at c_121; unfold imx; rw [if_pos (by omega), hc128]
        have b1 := imx_bd (a := (fgx (a.toNatClampNeg)).toInt) (b := (ftx (a.toNatClampNeg)).toInt) (B := 1099511627776) (by omega) (by omega) (by omega) (by omega)
        have b2 := imx_bd (a := (fgx (b.toNatClampNeg)).toInt) (b := (ftx (b.toNatClampNeg)).toInt) (B := 1099511627776) (by omega) (by omega) (by omega) (by omega)
        have e149 : r149.toInt = -(imx (fgx (a.toNatClampNeg)).toInt (ftx (a.toNatClampNeg)).toInt) := by rw [hc149, ng0, ng1, imn_neg]
        have e159 : r159.toInt = -(imx (fgx (b.toNatClampNeg)).toInt (ftx (b.toNatClampNeg)).toInt) := by rw [hc159, ng2, ng3, imn_neg]
        have ehi : r163.toInt = imn (imx (fgx (a.toNatClampNeg)).toInt (ftx (a.toNatClampNeg)).toInt) (imx (fgx (b.toNatClampNeg)).toInt (ftx (b.toNatClampNeg)).toInt) := by rw [hc163, neg_rng (by omega), neg_rng (by omega), e149, e159, Int.neg_neg, Int.neg_neg]
        rw [elo, ehi] at c_173
        refine lv_lload hx hb dX4_overlap_176 (lv_at hl 1 rfl) ?_
        refine lv_lload hx hb dX4_overlap_178 (lv_at hl 0 rfl) ?_
        refine W.lcmp hx hb dX4_overlap_180 ?_
        refine lv_if_ge (tgt := 188) hx hb dX4_overlap_181 (by decide) (fun c_181 => ?_) (fun c_181 => ?_)
        · have c_181 : r163.toInt ≤ r128.toInt := lc_ge c_181
          refine lv_iconst (v := 0) hx hb dX4_overlap_188 (by decide) ?_
          exact hret hP hD hS rfl (fw, fs) (⟨by unfold ovA; rw [if_neg (show ¬ ((ftx (a.toNatClampNeg)).toInt - (fgx (a.toNatClampNeg)).toInt) = 0 by omega)]; unfold ovl; rw [qq0, qq1, if_neg c_173, if_pos (by rw [elo, ehi] at c_181; omega)], fun q => absurd q (by decide), hlim⟩) [0, 1, 2, 3, 4, 5, 6] rfl (by decide) dX4_overlap_189 (Nat.le_of_ble_eq_true rfl) (Nat.le_of_ble_eq_true rfl)
        · have c_181 : r128.toInt < r163.toInt := lc_nge c_181
          refine lv_iconst (v := 2) hx hb dX4_overlap_184 (by decide) ?_
          refine lv_goto (tgt := 189) hx hb dX4_overlap_185 (by decide) ?_
          exact hret hP hD hS rfl (fw, fs) (⟨by unfold ovA; rw [if_neg (show ¬ ((ftx (a.toNatClampNeg)).toInt - (fgx (a.toNatClampNeg)).toInt) = 0 by omega)]; unfold ovl; rw [qq0, qq1, if_neg c_173, if_neg (by rw [elo, ehi] at c_181; omega)], fun q => absurd q (by decide), hlim⟩) [0, 1, 2, 3, 4, 5, 6] rfl (by decide) dX4_overlap_189 (Nat.le_of_ble_eq_true rfl) (Nat.le_of_ble_eq_true rfl)

set_option maxHeartbeats 4000000 in
set_option maxRecDepth 100000 in
theorem c_X4_place (l : Launch) (D : va_G) (cZ cI cJ : ClassId) (o wa sa ma tl gx gy tx tz kx ky : Nat) (cd ln cn ah : Int32) (fw : Nat → Int64) (fs : Nat → Int32) (fm : Nat → Int64) (d : Nat) (fr wy : Int64) (Dn : Nat) (F : Int) (hlim : lim fw) (hd : 11 < d) (hd15 : d < 15) (hz4 : hz fw fs 4 (Dn : Int)) (hz5 : hz fw fs 5 F) (hD0 : 0 < Dn) (hD1 : Dn < 1267650600228229401496703205376) (hF1 : F.natAbs < 1267650600228229401496703205376) : Cv l D cZ cI cJ yX4_place cX4_place 6 { frames := 4, cells := 0, slots := 0, locals := 96 } [.ref o, .int (nI d), .long fr, .long wy] [(o, .inr (4, [.int cd, .ref wa, .ref sa, .ref ma, .ref tl, .ref gx, .ref gy, .ref tx, .ref tz, .int ln, .ref kx, .ref ky, .int cn, .int ah])), (wa, .inl (cJ, 96, .inr (.inl fw))), (sa, .inl (cI, 16, .inl fs)), (ma, .inl (cJ, 12, .inr (.inl fm)))] (S := (Nat → Int64) × (Nat → Int32) × (Nat → Int64)) (fun u => lim u.1 ∧ HF u.1 u.2.1 d ((Dn : Int) * fr.toInt + F * wy.toInt) Dn ∧ (∀ e9, e9 < 16 → e9 ≠ 0 → e9 ≠ 2 → e9 ≠ 3 → e9 ≠ 7 → e9 ≠ 8 → e9 ≠ 9 → e9 ≠ 10 → e9 ≠ d → e9 ≠ d + 1 → num u.1 e9 = num fw e9 ∧ u.2.1 e9 = fs e9)) (fun u => [(o, .inr (4, [.int cd, .ref wa, .ref sa, .ref ma, .ref tl, .ref gx, .ref gy, .ref tx, .ref tz, .int ln, .ref kx, .ref ky, .int cn, .int ah])), (wa, .inl (cJ, 96, .inr (.inl u.1))), (sa, .inl (cI, 16, .inl u.2.1)), (ma, .inl (cJ, 12, .inr (.inl u.2.2)))]) := by
  refine Cv.of (by decide) ?_
  intro p e s m args below meth c A Q hB hret hP hD hA
  obtain ⟨hx, hb, hr, hlocks, hml, hown, hnm, hTB, hK⟩ := hB
  have hown : s.vm.findClass RX4 = some m.cls := hown
  have hS : va_S A s.heap s.heap [] := va_S.rf
  have b1 := nat_bd (x := fr) (n := (Dn : Int)) (by omega)
  have b2 := nat_bd (x := wy) (n := F) hF1
  have hl := lv_entry ([.ref o, .int (nI d), .long fr, .long wy]) (n := 6) (Nat.le_of_ble_eq_true rfl)
  rw [lg_entry_eq]
  generalize (lg_sl ([.ref o, .int (nI d), .long fr, .long wy]) ++ List.replicate (6 - (lg_sl ([.ref o, .int (nI d), .long fr, .long wy])).length) Slot.unset).toArray = ls at hl ⊢
  have hl : lv_has ls 6 [(0, .ref o), (1, .int (nI d)), (2, .long fr), (4, .long wy)] := hl
  refine lv_aload_n hx hb dX4_place_0 rfl (lv_at hl 0 rfl) ?_
  refine lv_iconst (v := 0) hx hb dX4_place_1 (by decide) ?_
  refine lv_lload_n hx hb dX4_place_2 rfl (lv_at hl 2 rfl) ?_
  refine fin_v (wr := [(ma, .inl (cJ, 12, .inr (.inl fm)))]) (va_runV (As := [.int 0, .long fr]) (rest := []) ⟨hx, hb, hml, hown, hTB⟩ (c_X4_put l D cZ cI cJ o wa sa ma tl gx gy tx tz kx ky cd ln cn ah fw fs 0 fr hlim (by decide) _) (cw_V hTB tb_6_21 tb_1_5 tb_6_18 tb_6_19 tb_6_20 nd_X4_put rfl rfl ⟨Nat.le_of_ble_eq_true rfl, Nat.le_of_ble_eq_true rfl⟩) (pre_V (q0 := 0) hK hP hD [0, 1, 2] rfl rfl rfl rfl) rfl rfl hl.1 rfl (lv_room (Nat.le_of_ble_eq_true rfl)) dX4_place_3 ⟨Nat.le_of_ble_eq_true rfl, Nat.le_of_ble_eq_true rfl⟩) hP hD hS hA [0, 1, 2] [3] rfl rfl rfl (by decide) (fun u3 H locs hc3 hP hD hS => ?_)
  obtain ⟨g3, s3⟩ := u3
  dsimp only at hc3
  obtain ⟨up3, rfl⟩ := hc3
  have hP : va_P D vwCl [(ma, .inl (cJ, 12, .inr (.inl fm))), (o, .inr (4, [.int cd, .ref wa, .ref sa, .ref ma, .ref tl, .ref gx, .ref gy, .ref tx, .ref tz, .int ln, .ref kx, .ref ky, .int cn, .int ah])), (wa, .inl (cJ, 96, .inr (.inl g3))), (sa, .inl (cI, 16, .inl (upd fs 0 (sg (fr.toInt)))))] H := hP
  have hD : va_D A [(ma, .inl (cJ, 12, .inr (.inl fm))), (o, .inr (4, [.int cd, .ref wa, .ref sa, .ref ma, .ref tl, .ref gx, .ref gy, .ref tx, .ref tz, .int ln, .ref kx, .ref ky, .int cn, .int ah])), (wa, .inl (cJ, 96, .inr (.inl g3))), (sa, .inl (cI, 16, .inl (upd fs 0 (sg (fr.toInt)))))] := hD
  refine lv_aload_n hx hb dX4_place_6 rfl (lv_at hl 0 rfl) ?_
  refine lv_iconst (v := 2) hx hb dX4_place_7 (by decide) ?_
  refine lv_iconst (v := 0) hx hb dX4_place_8 (by decide) ?_
  refine lv_iconst (v := 4) hx hb dX4_place_9 (by decide) ?_
  refine fin_v (wr := []) (va_runV (As := [.int 2, .int 0, .int 4]) (rest := []) ⟨hx, hb, hml, hown, hTB⟩ (c_X4_times l D cZ cI cJ o wa sa ma tl gx gy tx tz kx ky cd ln cn ah g3 (upd fs 0 (sg (fr.toInt))) fm 2 0 4 fr.toInt (Dn : Int) up3.1 (by decide) (by decide) (by decide) (hz.new up3) (hz4.keep up3 (by decide)) (by omega) _) (cw_V hTB tb_7_2 tb_1_5 tb_6_23 tb_7_0 tb_7_1 nd_X4_times rfl rfl ⟨Nat.le_of_ble_eq_true rfl, Nat.le_of_ble_eq_true rfl⟩) (pre_V (q0 := 1) hK hP hD [1, 2, 3, 0] rfl rfl rfl rfl) rfl rfl hl.1 rfl (lv_room (Nat.le_of_ble_eq_true rfl)) dX4_place_10 ⟨Nat.le_of_ble_eq_true rfl, Nat.le_of_ble_eq_true rfl⟩) hP hD hS hA [1, 2, 3, 0] [] rfl rfl rfl (by decide) (fun u10 H locs hc10 hP hD hS => ?_)
  obtain ⟨g10, s10, m10⟩ := u10
  dsimp only at hc10
  obtain ⟨up10, rfl⟩ := hc10
  have hP : va_P D vwCl [(o, .inr (4, [.int cd, .ref wa, .ref sa, .ref ma, .ref tl, .ref gx, .ref gy, .ref tx, .ref tz, .int ln, .ref kx, .ref ky, .int cn, .int ah])), (wa, .inl (cJ, 96, .inr (.inl g10))), (sa, .inl (cI, 16, .inl (upd (upd fs 0 (sg (fr.toInt))) 2 (sg (fr.toInt * (Dn : Int)))))), (ma, .inl (cJ, 12, .inr (.inl m10)))] H := hP
  have hD : va_D A [(o, .inr (4, [.int cd, .ref wa, .ref sa, .ref ma, .ref tl, .ref gx, .ref gy, .ref tx, .ref tz, .int ln, .ref kx, .ref ky, .int cn, .int ah])), (wa, .inl (cJ, 96, .inr (.inl g10))), (sa, .inl (cI, 16, .inl (upd (upd fs 0 (sg (fr.toInt))) 2 (sg (fr.toInt * (Dn : Int)))))), (ma, .inl (cJ, 12, .inr (.inl m10)))] := hD
  refine lv_aload_n hx hb dX4_place_13 rfl (lv_at hl 0 rfl) ?_
  refine lv_iconst (v := 0) hx hb dX4_place_14 (by decide) ?_
  refine lv_lload hx hb dX4_place_15 (lv_at hl 3 rfl) ?_
  refine fin_v (wr := [(ma, .inl (cJ, 12, .inr (.inl m10)))]) (va_runV (As := [.int 0, .long wy]) (rest := []) ⟨hx, hb, hml, hown, hTB⟩ (c_X4_put l D cZ cI cJ o wa sa ma tl gx gy tx tz kx ky cd ln cn ah g10 (upd (upd fs 0 (sg (fr.toInt))) 2 (sg (fr.toInt * (Dn : Int)))) 0 wy up10.1 (by decide) _) (cw_V hTB tb_6_21 tb_1_5 tb_6_18 tb_6_19 tb_6_20 nd_X4_put rfl rfl ⟨Nat.le_of_ble_eq_true rfl, Nat.le_of_ble_eq_true rfl⟩) (pre_V (q0 := 0) hK hP hD [0, 1, 2] rfl rfl rfl rfl) rfl rfl hl.1 rfl (lv_room (Nat.le_of_ble_eq_true rfl)) dX4_place_17 ⟨Nat.le_of_ble_eq_true rfl, Nat.le_of_ble_eq_true rfl⟩) hP hD hS hA [0, 1, 2] [3] rfl rfl rfl (by decide) (fun u17 H locs hc17 hP hD hS => ?_)
  obtain ⟨g17, s17⟩ := u17
  dsimp only at hc17
  obtain ⟨up17, rfl⟩ := hc17
  have hP : va_P D vwCl [(ma, .inl (cJ, 12, .inr (.inl m10))), (o, .inr (4, [.int cd, .ref wa, .ref sa, .ref ma, .ref tl, .ref gx, .ref gy, .ref tx, .ref tz, .int ln, .ref kx, .ref ky, .int cn, .int ah])), (wa, .inl (cJ, 96, .inr (.inl g17))), (sa, .inl (cI, 16, .inl (upd (upd (upd fs 0 (sg (fr.toInt))) 2 (sg (fr.toInt * (Dn : Int)))) 0 (sg (wy.toInt)))))] H := hP
  have hD : va_D A [(ma, .inl (cJ, 12, .inr (.inl m10))), (o, .inr (4, [.int cd, .ref wa, .ref sa, .ref ma, .ref tl, .ref gx, .ref gy, .ref tx, .ref tz, .int ln, .ref kx, .ref ky, .int cn, .int ah])), (wa, .inl (cJ, 96, .inr (.inl g17))), (sa, .inl (cI, 16, .inl (upd (upd (upd fs 0 (sg (fr.toInt))) 2 (sg (fr.toInt * (Dn : Int)))) 0 (sg (wy.toInt)))))] := hD
  refine lv_aload_n hx hb dX4_place_20 rfl (lv_at hl 0 rfl) ?_
  refine lv_iconst (v := 3) hx hb dX4_place_21 (by decide) ?_
  refine lv_iconst (v := 0) hx hb dX4_place_22 (by decide) ?_
  refine lv_iconst (v := 5) hx hb dX4_place_23 (by decide) ?_
  refine fin_v (wr := []) (va_runV (As := [.int 3, .int 0, .int 5]) (rest := []) ⟨hx, hb, hml, hown, hTB⟩ (c_X4_times l D cZ cI cJ o wa sa ma tl gx gy tx tz kx ky cd ln cn ah g17 (upd (upd (upd fs 0 (sg (fr.toInt))) 2 (sg (fr.toInt * (Dn : Int)))) 0 (sg (wy.toInt))) m10 3 0 5 wy.toInt F up17.1 (by decide) (by decide) (by decide) (hz.new up17) (((hz5.keep up3 (by decide)).keep up10 (by decide)).keep up17 (by decide)) (by omega) _) (cw_V hTB tb_7_2 tb_1_5 tb_6_23 tb_7_0 tb_7_1 nd_X4_times rfl rfl ⟨Nat.le_of_ble_eq_true rfl, Nat.le_of_ble_eq_true rfl⟩) (pre_V (q0 := 1) hK hP hD [1, 2, 3, 0] rfl rfl rfl rfl) rfl rfl hl.1 rfl (lv_room (Nat.le_of_ble_eq_true rfl)) dX4_place_24 ⟨Nat.le_of_ble_eq_true rfl, Nat.le_of_ble_eq_true rfl⟩) hP hD hS hA [1, 2, 3, 0] [] rfl rfl rfl (by decide) (fun u24 H locs hc24 hP hD hS => ?_)
  obtain ⟨g24, s24, m24⟩ := u24
  dsimp only at hc24
  obtain ⟨up24, rfl⟩ := hc24
  have hP : va_P D vwCl [(o, .inr (4, [.int cd, .ref wa, .ref sa, .ref ma, .ref tl, .ref gx, .ref gy, .ref tx, .ref tz, .int ln, .ref kx, .ref ky, .int cn, .int ah])), (wa, .inl (cJ, 96, .inr (.inl g24))), (sa, .inl (cI, 16, .inl (upd (upd (upd (upd fs 0 (sg (fr.toInt))) 2 (sg (fr.toInt * (Dn : Int)))) 0 (sg (wy.toInt))) 3 (sg (wy.toInt * F))))), (ma, .inl (cJ, 12, .inr (.inl m24)))] H := hP
  have hD : va_D A [(o, .inr (4, [.int cd, .ref wa, .ref sa, .ref ma, .ref tl, .ref gx, .ref gy, .ref tx, .ref tz, .int ln, .ref kx, .ref ky, .int cn, .int ah])), (wa, .inl (cJ, 96, .inr (.inl g24))), (sa, .inl (cI, 16, .inl (upd (upd (upd (upd fs 0 (sg (fr.toInt))) 2 (sg (fr.toInt * (Dn : Int)))) 0 (sg (wy.toInt))) 3 (sg (wy.toInt * F))))), (ma, .inl (cJ, 12, .inr (.inl m24)))] := hD
  refine lv_aload_n hx hb dX4_place_27 rfl (lv_at hl 0 rfl) ?_
  refine lv_iload_n hx hb dX4_place_28 rfl (lv_at hl 1 rfl) ?_
  refine lv_iconst (v := 2) hx hb dX4_place_29 (by decide) ?_
  refine lv_iconst (v := 3) hx hb dX4_place_30 (by decide) ?_
  refine fin_v (wr := [(ma, .inl (cJ, 12, .inr (.inl m24)))]) (va_runV (As := [.int (nI d), .int 2, .int 3]) (rest := []) ⟨hx, hb, hml, hown, hTB⟩ (c_X4_sum l D cZ cI cJ o wa sa ma tl gx gy tx tz kx ky cd ln cn ah g24 (upd (upd (upd (upd fs 0 (sg (fr.toInt))) 2 (sg (fr.toInt * (Dn : Int)))) 0 (sg (wy.toInt))) 3 (sg (wy.toInt * F))) d 2 3 (fr.toInt * (Dn : Int)) (wy.toInt * F) up24.1 (by omega) (by decide) (by decide) (by omega) (by omega) (((hz.new up10).keep up17 (by decide)).keep up24 (by decide)) (hz.new up24) (by omega) _) (cw_V hTB tb_7_6 tb_1_5 tb_7_3 tb_7_4 tb_7_5 nd_X4_sum rfl rfl ⟨Nat.le_of_ble_eq_true rfl, Nat.le_of_ble_eq_true rfl⟩) (pre_V (q0 := 0) hK hP hD [0, 1, 2] rfl rfl rfl rfl) rfl rfl hl.1 rfl (lv_room (Nat.le_of_ble_eq_true rfl)) dX4_place_31 ⟨Nat.le_of_ble_eq_true rfl, Nat.le_of_ble_eq_true rfl⟩) hP hD hS hA [0, 1, 2] [3] rfl rfl rfl (by decide) (fun u31 H locs hc31 hP hD hS => ?_)
  obtain ⟨g31, s31⟩ := u31
  dsimp only at hc31
  obtain ⟨up31, rfl⟩ := hc31
  have hP : va_P D vwCl [(ma, .inl (cJ, 12, .inr (.inl m24))), (o, .inr (4, [.int cd, .ref wa, .ref sa, .ref ma, .ref tl, .ref gx, .ref gy, .ref tx, .ref tz, .int ln, .ref kx, .ref ky, .int cn, .int ah])), (wa, .inl (cJ, 96, .inr (.inl g31))), (sa, .inl (cI, 16, .inl (upd (upd (upd (upd (upd fs 0 (sg (fr.toInt))) 2 (sg (fr.toInt * (Dn : Int)))) 0 (sg (wy.toInt))) 3 (sg (wy.toInt * F))) d (sg ((fr.toInt * (Dn : Int)) + (wy.toInt * F))))))] H := hP
  have hD : va_D A [(ma, .inl (cJ, 12, .inr (.inl m24))), (o, .inr (4, [.int cd, .ref wa, .ref sa, .ref ma, .ref tl, .ref gx, .ref gy, .ref tx, .ref tz, .int ln, .ref kx, .ref ky, .int cn, .int ah])), (wa, .inl (cJ, 96, .inr (.inl g31))), (sa, .inl (cI, 16, .inl (upd (upd (upd (upd (upd fs 0 (sg (fr.toInt))) 2 (sg (fr.toInt * (Dn : Int)))) 0 (sg (wy.toInt))) 3 (sg (wy.toInt * F))) d (sg ((fr.toInt * (Dn : Int)) + (wy.toInt * F))))))] := hD
  refine lv_aload_n hx hb dX4_place_34 rfl (lv_at hl 0 rfl) ?_
  refine lv_iload_n hx hb dX4_place_35 rfl (lv_at hl 1 rfl) ?_
  refine lv_iconst (v := 1) hx hb dX4_place_36 (by decide) ?_
  refine lv_iadd hx hb dX4_place_37 ?_
  rw [nI_1]
  refine lv_iconst (v := 4) hx hb dX4_place_38 (by decide) ?_
  refine fin_v (wr := [(ma, .inl (cJ, 12, .inr (.inl m24)))]) (va_runV (As := [.int (nI (d + 1)), .int 4]) (rest := []) ⟨hx, hb, hml, hown, hTB⟩ (c_X4_copy l D cZ cI cJ o wa sa ma tl gx gy tx tz kx ky cd ln cn ah g31 (upd (upd (upd (upd (upd fs 0 (sg (fr.toInt))) 2 (sg (fr.toInt * (Dn : Int)))) 0 (sg (wy.toInt))) 3 (sg (wy.toInt * F))) d (sg ((fr.toInt * (Dn : Int)) + (wy.toInt * F)))) (d + 1) 4 up31.1 (by omega) (by decide) (by omega) _) (cw_V hTB tb_13_17 tb_1_5 tb_13_14 tb_13_15 tb_13_16 nd_X4_copy rfl rfl ⟨Nat.le_of_ble_eq_true rfl, Nat.le_of_ble_eq_true rfl⟩) (pre_V (q0 := 1) hK hP hD [1, 2, 3] rfl rfl rfl rfl) rfl rfl hl.1 rfl (lv_room (Nat.le_of_ble_eq_true rfl)) dX4_place_39 ⟨Nat.le_of_ble_eq_true rfl, Nat.le_of_ble_eq_true rfl⟩) hP hD hS hA [1, 2, 3] [0] rfl rfl rfl (by decide) (fun u39 H locs hc39 hP hD hS => ?_)
  obtain ⟨g39, s39⟩ := u39
  dsimp only at hc39
  obtain ⟨up39, rfl⟩ := hc39
  have hP : va_P D vwCl [(ma, .inl (cJ, 12, .inr (.inl m24))), (o, .inr (4, [.int cd, .ref wa, .ref sa, .ref ma, .ref tl, .ref gx, .ref gy, .ref tx, .ref tz, .int ln, .ref kx, .ref ky, .int cn, .int ah])), (wa, .inl (cJ, 96, .inr (.inl g39))), (sa, .inl (cI, 16, .inl (upd (upd (upd (upd (upd (upd fs 0 (sg (fr.toInt))) 2 (sg (fr.toInt * (Dn : Int)))) 0 (sg (wy.toInt))) 3 (sg (wy.toInt * F))) d (sg ((fr.toInt * (Dn : Int)) + (wy.toInt * F)))) (d + 1) ((upd (upd (upd (upd (upd fs 0 (sg (fr.toInt))) 2 (sg (fr.toInt * (Dn : Int)))) 0 (sg (wy.toInt))) 3 (sg (wy.toInt * F))) d (sg ((fr.toInt * (Dn : Int)) + (wy.toInt * F)))) 4))))] H := hP
  have hD : va_D A [(ma, .inl (cJ, 12, .inr (.inl m24))), (o, .inr (4, [.int cd, .ref wa, .ref sa, .ref ma, .ref tl, .ref gx, .ref gy, .ref tx, .ref tz, .int ln, .ref kx, .ref ky, .int cn, .int ah])), (wa, .inl (cJ, 96, .inr (.inl g39))), (sa, .inl (cI, 16, .inl (upd (upd (upd (upd (upd (upd fs 0 (sg (fr.toInt))) 2 (sg (fr.toInt * (Dn : Int)))) 0 (sg (wy.toInt))) 3 (sg (wy.toInt * F))) d (sg ((fr.toInt * (Dn : Int)) + (wy.toInt * F)))) (d + 1) ((upd (upd (upd (upd (upd fs 0 (sg (fr.toInt))) 2 (sg (fr.toInt * (Dn : Int)))) 0 (sg (wy.toInt))) 3 (sg (wy.toInt * F))) d (sg ((fr.toInt * (Dn : Int)) + (wy.toInt * F)))) 4))))] := hD
  refine lv_aload_n hx hb dX4_place_42 rfl (lv_at hl 0 rfl) ?_
  refine lv_iload_n hx hb dX4_place_43 rfl (lv_at hl 1 rfl) ?_
  refine fin_v (wr := [(ma, .inl (cJ, 12, .inr (.inl m24)))]) (va_runV (As := [.int (nI d)]) (rest := []) ⟨hx, hb, hml, hown, hTB⟩ (c_X4_reduce l D cZ cI cJ o wa sa ma tl gx gy tx tz kx ky cd ln cn ah g39 (upd (upd (upd (upd (upd (upd fs 0 (sg (fr.toInt))) 2 (sg (fr.toInt * (Dn : Int)))) 0 (sg (wy.toInt))) 3 (sg (wy.toInt * F))) d (sg ((fr.toInt * (Dn : Int)) + (wy.toInt * F)))) (d + 1) ((upd (upd (upd (upd (upd fs 0 (sg (fr.toInt))) 2 (sg (fr.toInt * (Dn : Int)))) 0 (sg (wy.toInt))) 3 (sg (wy.toInt * F))) d (sg ((fr.toInt * (Dn : Int)) + (wy.toInt * F)))) 4)) d ((Dn : Int) * fr.toInt + F * wy.toInt) Dn up39.1 hd hd15 (by rw [Int.mul_comm (Dn : Int), Int.mul_comm F]; exact (hz.new up31).keep up39 (by omega)) (by rw [up39.2.1, up31.other (by omega), up24.other (by decide), up17.other (by decide), up10.other (by decide), up3.other (by decide), hz4.1]; rfl) hD0 (by omega) _) (cw_V hTB tb_13_21 tb_1_5 tb_13_18 tb_13_19 tb_13_20 nd_X4_reduce rfl rfl ⟨Nat.le_of_ble_eq_true rfl, Nat.le_of_ble_eq_true rfl⟩) (pre_V (q0 := 1) hK hP hD [1, 2, 3] rfl rfl rfl rfl) rfl rfl hl.1 rfl (lv_room (Nat.le_of_ble_eq_true rfl)) dX4_place_44 ⟨Nat.le_of_ble_eq_true rfl, Nat.le_of_ble_eq_true rfl⟩) hP hD hS hA [1, 2, 3] [0] rfl rfl rfl (by decide) (fun u44 H locs hc44 hP hD hS => ?_)
  obtain ⟨g44, s44⟩ := u44
  dsimp only at hc44
  obtain ⟨lm44, ha44, hb44, kp44⟩ := hc44
  have hP : va_P D vwCl [(ma, .inl (cJ, 12, .inr (.inl m24))), (o, .inr (4, [.int cd, .ref wa, .ref sa, .ref ma, .ref tl, .ref gx, .ref gy, .ref tx, .ref tz, .int ln, .ref kx, .ref ky, .int cn, .int ah])), (wa, .inl (cJ, 96, .inr (.inl g44))), (sa, .inl (cI, 16, .inl s44))] H := hP
  have hD : va_D A [(ma, .inl (cJ, 12, .inr (.inl m24))), (o, .inr (4, [.int cd, .ref wa, .ref sa, .ref ma, .ref tl, .ref gx, .ref gy, .ref tx, .ref tz, .int ln, .ref kx, .ref ky, .int cn, .int ah])), (wa, .inl (cJ, 96, .inr (.inl g44))), (sa, .inl (cI, 16, .inl s44))] := hD
  exact hret hP hD hS (g44, s44, m24) (⟨lm44, ⟨ha44, hb44⟩, fun e9 h1 h2 h3 h4 h5 h6 h7 h8 h9 h10 => ⟨by dsimp only; rw [(kp44 e9 h1 h2 h5 h6 h7 h8 h9 h10).1, up39.other h10, up31.other h9, up24.other h4, up17.other h2, up10.other h3, up3.other h2], by dsimp only; rw [(kp44 e9 h1 h2 h5 h6 h7 h8 h9 h10).2, pk_un h10, pk_un h9, pk_un h4, pk_un h2, pk_un h3, pk_un h2]⟩⟩) [1, 2, 3, 0] rfl (by decide) dX4_place_47 (Nat.le_of_ble_eq_true rfl) (Nat.le_of_ble_eq_true rfl)

set_option maxHeartbeats 4000000 in
set_option maxRecDepth 100000 in
theorem c_X4_meet (l : Launch) (D : va_G) (cZ cI cJ : ClassId) (o wa sa ma tl gx gy tx tz kx ky : Nat) (cd ln cn ah : Int32) (fw : Nat → Int64) (fs : Nat → Int32) (fm : Nat → Int64) (fgx fgy ftx fty : Nat → Int64) (a b : Int32) (hlim : lim fw) (hina : inr a 16) (hinb : inr b 16) (hsa : ogr (fgx (a.toNatClampNeg)) (fgy (a.toNatClampNeg))) (hsb : ogr (fgx (b.toNatClampNeg)) (fgy (b.toNatClampNeg))) (hta : ogr (ftx (a.toNatClampNeg)) (fty (a.toNatClampNeg))) (htb : ogr (ftx (b.toNatClampNeg)) (fty (b.toNatClampNeg))) : Ci l D cZ cI cJ yX4_meet cX4_meet 16 (some .int) { frames := 5, cells := 0, slots := 0, locals := 121 } [.ref o, .int a, .int b] [(o, .inr (4, [.int cd, .ref wa, .ref sa, .ref ma, .ref tl, .ref gx, .ref gy, .ref tx, .ref tz, .int ln, .ref kx, .ref ky, .int cn, .int ah])), (wa, .inl (cJ, 96, .inr (.inl fw))), (sa, .inl (cI, 16, .inl fs)), (ma, .inl (cJ, 12, .inr (.inl fm))), (gx, .inl (cJ, 16, .inr (.inl fgx))), (gy, .inl (cJ, 16, .inr (.inl fgy))), (tx, .inl (cJ, 16, .inr (.inl ftx))), (tz, .inl (cJ, 16, .inr (.inl fty)))] (S := (Nat → Int64) × (Nat → Int32) × (Nat → Int64)) (fun z u => z = crs (fgx (a.toNatClampNeg)).toInt (fgy (a.toNatClampNeg)).toInt ((ftx (a.toNatClampNeg)).toInt - (fgx (a.toNatClampNeg)).toInt) ((fty (a.toNatClampNeg)).toInt - (fgy (a.toNatClampNeg)).toInt) (fgx (b.toNatClampNeg)).toInt (fgy (b.toNatClampNeg)).toInt ((ftx (b.toNatClampNeg)).toInt - (fgx (b.toNatClampNeg)).toInt) ((fty (b.toNatClampNeg)).toInt - (fgy (b.toNatClampNeg)).toInt) ∧ (z = 1 → HF u.1 u.2.1 12 (crX (fgx (a.toNatClampNeg)).toInt (fgy (a.toNatClampNeg)).toInt ((ftx (a.toNatClampNeg)).toInt - (fgx (a.toNatClampNeg)).toInt) ((fty (a.toNatClampNeg)).toInt - (fgy (a.toNatClampNeg)).toInt) (fgx (b.toNatClampNeg)).toInt (fgy (b.toNatClampNeg)).toInt ((ftx (b.toNatClampNeg)).toInt - (fgx (b.toNatClampNeg)).toInt) ((fty (b.toNatClampNeg)).toInt - (fgy (b.toNatClampNeg)).toInt)) (crD ((ftx (a.toNatClampNeg)).toInt - (fgx (a.toNatClampNeg)).toInt) ((fty (a.toNatClampNeg)).toInt - (fgy (a.toNatClampNeg)).toInt) ((ftx (b.toNatClampNeg)).toInt - (fgx (b.toNatClampNeg)).toInt) ((fty (b.toNatClampNeg)).toInt - (fgy (b.toNatClampNeg)).toInt)) ∧ HF u.1 u.2.1 14 (crY (fgx (a.toNatClampNeg)).toInt (fgy (a.toNatClampNeg)).toInt ((ftx (a.toNatClampNeg)).toInt - (fgx (a.toNatClampNeg)).toInt) ((fty (a.toNatClampNeg)).toInt - (fgy (a.toNatClampNeg)).toInt) (fgx (b.toNatClampNeg)).toInt (fgy (b.toNatClampNeg)).toInt ((ftx (b.toNatClampNeg)).toInt - (fgx (b.toNatClampNeg)).toInt) ((fty (b.toNatClampNeg)).toInt - (fgy (b.toNatClampNeg)).toInt)) (crD ((ftx (a.toNatClampNeg)).toInt - (fgx (a.toNatClampNeg)).toInt) ((fty (a.toNatClampNeg)).toInt - (fgy (a.toNatClampNeg)).toInt) ((ftx (b.toNatClampNeg)).toInt - (fgx (b.toNatClampNeg)).toInt) ((fty (b.toNatClampNeg)).toInt - (fgy (b.toNatClampNeg)).toInt))) ∧ lim u.1) (fun u => [(o, .inr (4, [.int cd, .ref wa, .ref sa, .ref ma, .ref tl, .ref gx, .ref gy, .ref tx, .ref tz, .int ln, .ref kx, .ref ky, .int cn, .int ah])), (wa, .inl (cJ, 96, .inr (.inl u.1))), (sa, .inl (cI, 16, .inl u.2.1)), (ma, .inl (cJ, 12, .inr (.inl u.2.2))), (gx, .inl (cJ, 16, .inr (.inl fgx))), (gy, .inl (cJ, 16, .inr (.inl fgy))), (tx, .inl (cJ, 16, .inr (.inl ftx))), (tz, .inl (cJ, 16, .inr (.inl fty)))]) := by
  refine Ci.of (by decide) ?_
  intro p e s m args below meth c A Q hB hret hP hD hA
  obtain ⟨hx, hb, hr, hlocks, hml, hown, hnm, hTB, hK⟩ := hB
  have hown : s.vm.findClass RX4 = some m.cls := hown
  have hS : va_S A s.heap s.heap [] := va_S.rf
  have e1 : (fgx (b.toNatClampNeg) - fgx (a.toNatClampNeg)).toInt = ((fgx (b.toNatClampNeg)).toInt - (fgx (a.toNatClampNeg)).toInt) := sub_rng (by omega) (by omega)
  have e2 : (fgy (b.toNatClampNeg) - fgy (a.toNatClampNeg)).toInt = ((fgy (b.toNatClampNeg)).toInt - (fgy (a.toNatClampNeg)).toInt) := sub_rng (by omega) (by omega)
  have e3 : (ftx (a.toNatClampNeg) - fgx (a.toNatClampNeg)).toInt = ((ftx (a.toNatClampNeg)).toInt - (fgx (a.toNatClampNeg)).toInt) := sub_rng (by omega) (by omega)
  have e4 : (fty (a.toNatClampNeg) - fgy (a.toNatClampNeg)).toInt = ((fty (a.toNatClampNeg)).toInt - (fgy (a.toNatClampNeg)).toInt) := sub_rng (by omega) (by omega)
  have e5 : (ftx (b.toNatClampNeg) - fgx (b.toNatClampNeg)).toInt = ((ftx (b.toNatClampNeg)).toInt - (fgx (b.toNatClampNeg)).toInt) := sub_rng (by omega) (by omega)
  have e6 : (fty (b.toNatClampNeg) - fgy (b.toNatClampNeg)).toInt = ((fty (b.toNatClampNeg)).toInt - (fgy (b.toNatClampNeg)).toInt) := sub_rng (by omega) (by omega)
  have bd := spn_bd (a := ((ftx (a.toNatClampNeg)).toInt - (fgx (a.toNatClampNeg)).toInt)) (b := ((fty (a.toNatClampNeg)).toInt - (fgy (a.toNatClampNeg)).toInt)) (c := ((ftx (b.toNatClampNeg)).toInt - (fgx (b.toNatClampNeg)).toInt)) (d := ((fty (b.toNatClampNeg)).toInt - (fgy (b.toNatClampNeg)).toInt)) (X := 2199023255552) (Y := 2199023255552) (by omega) (by omega) (by omega) (by omega) (by omega) (by omega) (by omega) (by omega)
  have bf := spn_bd (a := ((fgx (b.toNatClampNeg)).toInt - (fgx (a.toNatClampNeg)).toInt)) (b := ((fgy (b.toNatClampNeg)).toInt - (fgy (a.toNatClampNeg)).toInt)) (c := ((ftx (b.toNatClampNeg)).toInt - (fgx (b.toNatClampNeg)).toInt)) (d := ((fty (b.toNatClampNeg)).toInt - (fgy (b.toNatClampNeg)).toInt)) (X := 2199023255552) (Y := 2199023255552) (by omega) (by omega) (by omega) (by omega) (by omega) (by omega) (by omega) (by omega)
  have bs := spn_bd (a := ((fgx (b.toNatClampNeg)).toInt - (fgx (a.toNatClampNeg)).toInt)) (b := ((fgy (b.toNatClampNeg)).toInt - (fgy (a.toNatClampNeg)).toInt)) (c := ((ftx (a.toNatClampNeg)).toInt - (fgx (a.toNatClampNeg)).toInt)) (d := ((fty (a.toNatClampNeg)).toInt - (fgy (a.toNatClampNeg)).toInt)) (X := 2199023255552) (Y := 2199023255552) (by omega) (by omega) (by omega) (by omega) (by omega) (by omega) (by omega) (by omega)
  have hl := lv_entry ([.ref o, .int a, .int b]) (n := 16) (Nat.le_of_ble_eq_true rfl)
  rw [lg_entry_eq]
  generalize (lg_sl ([.ref o, .int a, .int b]) ++ List.replicate (16 - (lg_sl ([.ref o, .int a, .int b])).length) Slot.unset).toArray = ls at hl ⊢
  have hl : lv_has ls 16 [(0, .ref o), (1, .int a), (2, .int b)] := hl
  refine lv_aload_n hx hb dX4_meet_0 rfl (lv_at hl 0 rfl) ?_
  refine va_get (D := D) (ci := 4) (v := .ref tx) (C := RX4) (T := TX4) (N := 14) hx hb hTB tb_X4 hown hK.1 hP 0 rfl rfl 7 (by decide) (hTB _ tb_3_20) (fun _ h9 => h9) rfl dX4_meet_1 ?_
  refine lv_iload_n hx hb dX4_meet_4 rfl (lv_at hl 1 rfl) ?_
  refine va_lald (f := ftx) hx hb hK.1 hP 6 2 rfl rfl (vp_in_iff.mpr ⟨by omega, by omega⟩) dX4_meet_5 ?_
  refine lv_aload_n hx hb dX4_meet_6 rfl (lv_at hl 0 rfl) ?_
  refine va_get (D := D) (ci := 4) (v := .ref gx) (C := RX4) (T := TX4) (N := 14) hx hb hTB tb_X4 hown hK.1 hP 0 rfl rfl 5 (by decide) (hTB _ tb_3_18) (fun _ h9 => h9) rfl dX4_meet_7 ?_
  refine lv_iload_n hx hb dX4_meet_10 rfl (lv_at hl 1 rfl) ?_
  refine va_lald (f := fgx) hx hb hK.1 hP 4 2 rfl rfl (vp_in_iff.mpr ⟨by omega, by omega⟩) dX4_meet_11 ?_
  refine lv_lsub hx hb dX4_meet_12 ?_
  refine lv_lstore_n (lv' := [(3, .long ((ftx (a.toNatClampNeg)) - (fgx (a.toNatClampNeg)))), (0, .ref o), (1, .int a), (2, .int b)]) hx hb dX4_meet_13 rfl hl (by decide) rfl (fun ls hl => ?_)
  refine lv_aload_n hx hb dX4_meet_14 rfl (lv_at hl 1 rfl) ?_
  refine va_get (D := D) (ci := 4) (v := .ref tz) (C := RX4) (T := TX4) (N := 14) hx hb hTB tb_X4 hown hK.1 hP 0 rfl rfl 8 (by decide) (hTB _ tb_3_21) (fun _ h9 => h9) rfl dX4_meet_15 ?_
  refine lv_iload_n hx hb dX4_meet_18 rfl (lv_at hl 2 rfl) ?_
  refine va_lald (f := fty) hx hb hK.1 hP 7 2 rfl rfl (vp_in_iff.mpr ⟨by omega, by omega⟩) dX4_meet_19 ?_
  refine lv_aload_n hx hb dX4_meet_20 rfl (lv_at hl 1 rfl) ?_
  refine va_get (D := D) (ci := 4) (v := .ref gy) (C := RX4) (T := TX4) (N := 14) hx hb hTB tb_X4 hown hK.1 hP 0 rfl rfl 6 (by decide) (hTB _ tb_3_19) (fun _ h9 => h9) rfl dX4_meet_21 ?_
  refine lv_iload_n hx hb dX4_meet_24 rfl (lv_at hl 2 rfl) ?_
  refine va_lald (f := fgy) hx hb hK.1 hP 5 2 rfl rfl (vp_in_iff.mpr ⟨by omega, by omega⟩) dX4_meet_25 ?_
  refine lv_lsub hx hb dX4_meet_26 ?_
  refine lv_lstore (lv' := [(5, .long ((fty (a.toNatClampNeg)) - (fgy (a.toNatClampNeg)))), (3, .long ((ftx (a.toNatClampNeg)) - (fgx (a.toNatClampNeg)))), (0, .ref o), (1, .int a), (2, .int b)]) hx hb dX4_meet_27 hl (by decide) rfl (fun ls hl => ?_)
  refine lv_aload_n hx hb dX4_meet_29 rfl (lv_at hl 2 rfl) ?_
  refine va_get (D := D) (ci := 4) (v := .ref tx) (C := RX4) (T := TX4) (N := 14) hx hb hTB tb_X4 hown hK.1 hP 0 rfl rfl 7 (by decide) (hTB _ tb_3_20) (fun _ h9 => h9) rfl dX4_meet_30 ?_
  refine lv_iload_n hx hb dX4_meet_33 rfl (lv_at hl 4 rfl) ?_
  refine va_lald (f := ftx) hx hb hK.1 hP 6 2 rfl rfl (vp_in_iff.mpr ⟨by omega, by omega⟩) dX4_meet_34 ?_
  refine lv_aload_n hx hb dX4_meet_35 rfl (lv_at hl 2 rfl) ?_
  refine va_get (D := D) (ci := 4) (v := .ref gx) (C := RX4) (T := TX4) (N := 14) hx hb hTB tb_X4 hown hK.1 hP 0 rfl rfl 5 (by decide) (hTB _ tb_3_18) (fun _ h9 => h9) rfl dX4_meet_36 ?_
  refine lv_iload_n hx hb dX4_meet_39 rfl (lv_at hl 4 rfl) ?_
  refine va_lald (f := fgx) hx hb hK.1 hP 4 2 rfl rfl (vp_in_iff.mpr ⟨by omega, by omega⟩) dX4_meet_40 ?_
  refine lv_lsub hx hb dX4_meet_41 ?_
  refine lv_lstore (lv' := [(7, .long ((ftx (b.toNatClampNeg)) - (fgx (b.toNatClampNeg)))), (5, .long ((fty (a.toNatClampNeg)) - (fgy (a.toNatClampNeg)))), (3, .long ((ftx (a.toNatClampNeg)) - (fgx (a.toNatClampNeg)))), (0, .ref o), (1, .int a), (2, .int b)]) hx hb dX4_meet_42 hl (by decide) rfl (fun ls hl => ?_)
  refine lv_aload_n hx hb dX4_meet_44 rfl (lv_at hl 3 rfl) ?_
  refine va_get (D := D) (ci := 4) (v := .ref tz) (C := RX4) (T := TX4) (N := 14) hx hb hTB tb_X4 hown hK.1 hP 0 rfl rfl 8 (by decide) (hTB _ tb_3_21) (fun _ h9 => h9) rfl dX4_meet_45 ?_
  refine lv_iload_n hx hb dX4_meet_48 rfl (lv_at hl 5 rfl) ?_
  refine va_lald (f := fty) hx hb hK.1 hP 7 2 rfl rfl (vp_in_iff.mpr ⟨by omega, by omega⟩) dX4_meet_49 ?_
  refine lv_aload_n hx hb dX4_meet_50 rfl (lv_at hl 3 rfl) ?_
  refine va_get (D := D) (ci := 4) (v := .ref gy) (C := RX4) (T := TX4) (N := 14) hx hb hTB tb_X4 hown hK.1 hP 0 rfl rfl 6 (by decide) (hTB _ tb_3_19) (fun _ h9 => h9) rfl dX4_meet_51 ?_
  refine lv_iload_n hx hb dX4_meet_54 rfl (lv_at hl 5 rfl) ?_
  refine va_lald (f := fgy) hx hb hK.1 hP 5 2 rfl rfl (vp_in_iff.mpr ⟨by omega, by omega⟩) dX4_meet_55 ?_
  refine lv_lsub hx hb dX4_meet_56 ?_
  refine lv_lstore (lv' := [(9, .long ((fty (b.toNatClampNeg)) - (fgy (b.toNatClampNeg)))), (7, .long ((ftx (b.toNatClampNeg)) - (fgx (b.toNatClampNeg)))), (5, .long ((fty (a.toNatClampNeg)) - (fgy (a.toNatClampNeg)))), (3, .long ((ftx (a.toNatClampNeg)) - (fgx (a.toNatClampNeg)))), (0, .ref o), (1, .int a), (2, .int b)]) hx hb dX4_meet_57 hl (by decide) rfl (fun ls hl => ?_)
  refine lv_aload_n hx hb dX4_meet_59 rfl (lv_at hl 4 rfl) ?_
  refine va_get (D := D) (ci := 4) (v := .ref gx) (C := RX4) (T := TX4) (N := 14) hx hb hTB tb_X4 hown hK.1 hP 0 rfl rfl 5 (by decide) (hTB _ tb_3_18) (fun _ h9 => h9) rfl dX4_meet_60 ?_
  refine lv_iload_n hx hb dX4_meet_63 rfl (lv_at hl 6 rfl) ?_
  refine va_lald (f := fgx) hx hb hK.1 hP 4 2 rfl rfl (vp_in_iff.mpr ⟨by omega, by omega⟩) dX4_meet_64 ?_
  refine lv_aload_n hx hb dX4_meet_65 rfl (lv_at hl 4 rfl) ?_
  refine va_get (D := D) (ci := 4) (v := .ref gx) (C := RX4) (T := TX4) (N := 14) hx hb hTB tb_X4 hown hK.1 hP 0 rfl rfl 5 (by decide) (hTB _ tb_3_18) (fun _ h9 => h9) rfl dX4_meet_66 ?_
  refine lv_iload_n hx hb dX4_meet_69 rfl (lv_at hl 5 rfl) ?_
  refine va_lald (f := fgx) hx hb hK.1 hP 4 2 rfl rfl (vp_in_iff.mpr ⟨by omega, by omega⟩) dX4_meet_70 ?_
  refine lv_lsub hx hb dX4_meet_71 ?_
  refine lv_lstore (lv' := [(11, .long ((fgx (b.toNatClampNeg)) - (fgx (a.toNatClampNeg)))), (9, .long ((fty (b.toNatClampNeg)) - (fgy (b.toNatClampNeg)))), (7, .long ((ftx (b.toNatClampNeg)) - (fgx (b.toNatClampNeg)))), (5, .long ((fty (a.toNatClampNeg)) - (fgy (a.toNatClampNeg)))), (3, .long ((ftx (a.toNatClampNeg)) - (fgx (a.toNatClampNeg)))), (0, .ref o), (1, .int a), (2, .int b)]) hx hb dX4_meet_72 hl (by decide) rfl (fun ls hl => ?_)
  refine lv_aload_n hx hb dX4_meet_74 rfl (lv_at hl 5 rfl) ?_
  refine va_get (D := D) (ci := 4) (v := .ref gy) (C := RX4) (T := TX4) (N := 14) hx hb hTB tb_X4 hown hK.1 hP 0 rfl rfl 6 (by decide) (hTB _ tb_3_19) (fun _ h9 => h9) rfl dX4_meet_75 ?_
  refine lv_iload_n hx hb dX4_meet_78 rfl (lv_at hl 7 rfl) ?_
  refine va_lald (f := fgy) hx hb hK.1 hP 5 2 rfl rfl (vp_in_iff.mpr ⟨by omega, by omega⟩) dX4_meet_79 ?_
  refine lv_aload_n hx hb dX4_meet_80 rfl (lv_at hl 5 rfl) ?_
  refine va_get (D := D) (ci := 4) (v := .ref gy) (C := RX4) (T := TX4) (N := 14) hx hb hTB tb_X4 hown hK.1 hP 0 rfl rfl 6 (by decide) (hTB _ tb_3_19) (fun _ h9 => h9) rfl dX4_meet_81 ?_
  refine lv_iload_n hx hb dX4_meet_84 rfl (lv_at hl 6 rfl) ?_
  refine va_lald (f := fgy) hx hb hK.1 hP 5 2 rfl rfl (vp_in_iff.mpr ⟨by omega, by omega⟩) dX4_meet_85 ?_
  refine lv_lsub hx hb dX4_meet_86 ?_
  refine lv_lstore (lv' := [(13, .long ((fgy (b.toNatClampNeg)) - (fgy (a.toNatClampNeg)))), (11, .long ((fgx (b.toNatClampNeg)) - (fgx (a.toNatClampNeg)))), (9, .long ((fty (b.toNatClampNeg)) - (fgy (b.toNatClampNeg)))), (7, .long ((ftx (b.toNatClampNeg)) - (fgx (b.toNatClampNeg)))), (5, .long ((fty (a.toNatClampNeg)) - (fgy (a.toNatClampNeg)))), (3, .long ((ftx (a.toNatClampNeg)) - (fgx (a.toNatClampNeg)))), (0, .ref o), (1, .int a), (2, .int b)]) hx hb dX4_meet_87 hl (by decide) rfl (fun ls hl => ?_)
  refine lv_aload_n hx hb dX4_meet_89 rfl (lv_at hl 6 rfl) ?_
  refine lv_iconst (v := 4) hx hb dX4_meet_90 (by decide) ?_
  refine lv_lload_n hx hb dX4_meet_91 rfl (lv_at hl 5 rfl) ?_
  refine lv_lload hx hb dX4_meet_92 (lv_at hl 4 rfl) ?_
  refine lv_lload hx hb dX4_meet_94 (lv_at hl 3 rfl) ?_
  refine lv_lload hx hb dX4_meet_96 (lv_at hl 2 rfl) ?_
  refine fin_v (wr := [(gx, .inl (cJ, 16, .inr (.inl fgx))), (gy, .inl (cJ, 16, .inr (.inl fgy))), (tx, .inl (cJ, 16, .inr (.inl ftx))), (tz, .inl (cJ, 16, .inr (.inl fty)))]) (va_runV (As := [.int 4, .long ((ftx (a.toNatClampNeg)) - (fgx (a.toNatClampNeg))), .long ((fty (a.toNatClampNeg)) - (fgy (a.toNatClampNeg))), .long ((ftx (b.toNatClampNeg)) - (fgx (b.toNatClampNeg))), .long ((fty (b.toNatClampNeg)) - (fgy (b.toNatClampNeg)))]) (rest := []) ⟨hx, hb, hml, hown, hTB⟩ (c_X4_determinant l D cZ cI cJ o wa sa ma tl gx gy tx tz kx ky cd ln cn ah fw fs fm 4 ((ftx (a.toNatClampNeg)) - (fgx (a.toNatClampNeg))) ((fty (a.toNatClampNeg)) - (fgy (a.toNatClampNeg))) ((ftx (b.toNatClampNeg)) - (fgx (b.toNatClampNeg))) ((fty (b.toNatClampNeg)) - (fgy (b.toNatClampNeg))) hlim (by decide) (by decide) _) (cw_V hTB tb_6_17 tb_1_5 tb_6_14 tb_6_15 tb_6_16 nd_X4_determinant rfl rfl ⟨Nat.le_of_ble_eq_true rfl, Nat.le_of_ble_eq_true rfl⟩) (pre_V (q0 := 0) hK hP hD [0, 1, 2, 3] rfl rfl rfl rfl) rfl rfl hl.1 rfl (lv_room (Nat.le_of_ble_eq_true rfl)) dX4_meet_98 ⟨Nat.le_of_ble_eq_true rfl, Nat.le_of_ble_eq_true rfl⟩) hP hD hS hA [0, 1, 2, 3] [4, 5, 6, 7] rfl rfl rfl (by decide) (fun u98 H locs hc98 hP hD hS => ?_)
  obtain ⟨g98, s98, m98⟩ := u98
  dsimp only at hc98
  obtain ⟨lm98, hz98, kp98⟩ := hc98
  have hP : va_P D vwCl [(gx, .inl (cJ, 16, .inr (.inl fgx))), (gy, .inl (cJ, 16, .inr (.inl fgy))), (tx, .inl (cJ, 16, .inr (.inl ftx))), (tz, .inl (cJ, 16, .inr (.inl fty))), (o, .inr (4, [.int cd, .ref wa, .ref sa, .ref ma, .ref tl, .ref gx, .ref gy, .ref tx, .ref tz, .int ln, .ref kx, .ref ky, .int cn, .int ah])), (wa, .inl (cJ, 96, .inr (.inl g98))), (sa, .inl (cI, 16, .inl s98)), (ma, .inl (cJ, 12, .inr (.inl m98)))] H := hP
  have hD : va_D A [(gx, .inl (cJ, 16, .inr (.inl fgx))), (gy, .inl (cJ, 16, .inr (.inl fgy))), (tx, .inl (cJ, 16, .inr (.inl ftx))), (tz, .inl (cJ, 16, .inr (.inl fty))), (o, .inr (4, [.int cd, .ref wa, .ref sa, .ref ma, .ref tl, .ref gx, .ref gy, .ref tx, .ref tz, .int ln, .ref kx, .ref ky, .int cn, .int ah])), (wa, .inl (cJ, 96, .inr (.inl g98))), (sa, .inl (cI, 16, .inl s98)), (ma, .inl (cJ, 12, .inr (.inl m98)))] := hD
  refine lv_aload_n hx hb dX4_meet_101 rfl (lv_at hl 6 rfl) ?_
  refine lv_iconst (v := 5) hx hb dX4_meet_102 (by decide) ?_
  refine lv_lload hx hb dX4_meet_103 (lv_at hl 1 rfl) ?_
  refine lv_lload hx hb dX4_meet_105 (lv_at hl 0 rfl) ?_
  refine lv_lload hx hb dX4_meet_107 (lv_at hl 3 rfl) ?_
  refine lv_lload hx hb dX4_meet_109 (lv_at hl 2 rfl) ?_
  refine fin_v (wr := [(gx, .inl (cJ, 16, .inr (.inl fgx))), (gy, .inl (cJ, 16, .inr (.inl fgy))), (tx, .inl (cJ, 16, .inr (.inl ftx))), (tz, .inl (cJ, 16, .inr (.inl fty)))]) (va_runV (As := [.int 5, .long ((fgx (b.toNatClampNeg)) - (fgx (a.toNatClampNeg))), .long ((fgy (b.toNatClampNeg)) - (fgy (a.toNatClampNeg))), .long ((ftx (b.toNatClampNeg)) - (fgx (b.toNatClampNeg))), .long ((fty (b.toNatClampNeg)) - (fgy (b.toNatClampNeg)))]) (rest := []) ⟨hx, hb, hml, hown, hTB⟩ (c_X4_determinant l D cZ cI cJ o wa sa ma tl gx gy tx tz kx ky cd ln cn ah g98 s98 m98 5 ((fgx (b.toNatClampNeg)) - (fgx (a.toNatClampNeg))) ((fgy (b.toNatClampNeg)) - (fgy (a.toNatClampNeg))) ((ftx (b.toNatClampNeg)) - (fgx (b.toNatClampNeg))) ((fty (b.toNatClampNeg)) - (fgy (b.toNatClampNeg))) lm98 (by decide) (by decide) _) (cw_V hTB tb_6_17 tb_1_5 tb_6_14 tb_6_15 tb_6_16 nd_X4_determinant rfl rfl ⟨Nat.le_of_ble_eq_true rfl, Nat.le_of_ble_eq_true rfl⟩) (pre_V (q0 := 4) hK hP hD [4, 5, 6, 7] rfl rfl rfl rfl) rfl rfl hl.1 rfl (lv_room (Nat.le_of_ble_eq_true rfl)) dX4_meet_111 ⟨Nat.le_of_ble_eq_true rfl, Nat.le_of_ble_eq_true rfl⟩) hP hD hS hA [4, 5, 6, 7] [0, 1, 2, 3] rfl rfl rfl (by decide) (fun u111 H locs hc111 hP hD hS => ?_)
  obtain ⟨g111, s111, m111⟩ := u111
  dsimp only at hc111
  obtain ⟨lm111, hz111, kp111⟩ := hc111
  have hP : va_P D vwCl [(gx, .inl (cJ, 16, .inr (.inl fgx))), (gy, .inl (cJ, 16, .inr (.inl fgy))), (tx, .inl (cJ, 16, .inr (.inl ftx))), (tz, .inl (cJ, 16, .inr (.inl fty))), (o, .inr (4, [.int cd, .ref wa, .ref sa, .ref ma, .ref tl, .ref gx, .ref gy, .ref tx, .ref tz, .int ln, .ref kx, .ref ky, .int cn, .int ah])), (wa, .inl (cJ, 96, .inr (.inl g111))), (sa, .inl (cI, 16, .inl s111)), (ma, .inl (cJ, 12, .inr (.inl m111)))] H := hP
  have hD : va_D A [(gx, .inl (cJ, 16, .inr (.inl fgx))), (gy, .inl (cJ, 16, .inr (.inl fgy))), (tx, .inl (cJ, 16, .inr (.inl ftx))), (tz, .inl (cJ, 16, .inr (.inl fty))), (o, .inr (4, [.int cd, .ref wa, .ref sa, .ref ma, .ref tl, .ref gx, .ref gy, .ref tx, .ref tz, .int ln, .ref kx, .ref ky, .int cn, .int ah])), (wa, .inl (cJ, 96, .inr (.inl g111))), (sa, .inl (cI, 16, .inl s111)), (ma, .inl (cJ, 12, .inr (.inl m111)))] := hD
  refine lv_aload_n hx hb dX4_meet_114 rfl (lv_at hl 6 rfl) ?_
  refine lv_bipush (v := 6) hx hb dX4_meet_115 (by decide) ?_
  refine lv_lload hx hb dX4_meet_117 (lv_at hl 1 rfl) ?_
  refine lv_lload hx hb dX4_meet_119 (lv_at hl 0 rfl) ?_
  refine lv_lload_n hx hb dX4_meet_121 rfl (lv_at hl 5 rfl) ?_
  refine lv_lload hx hb dX4_meet_122 (lv_at hl 4 rfl) ?_
  refine fin_v (wr := [(gx, .inl (cJ, 16, .inr (.inl fgx))), (gy, .inl (cJ, 16, .inr (.inl fgy))), (tx, .inl (cJ, 16, .inr (.inl ftx))), (tz, .inl (cJ, 16, .inr (.inl fty)))]) (va_runV (As := [.int 6, .long ((fgx (b.toNatClampNeg)) - (fgx (a.toNatClampNeg))), .long ((fgy (b.toNatClampNeg)) - (fgy (a.toNatClampNeg))), .long ((ftx (a.toNatClampNeg)) - (fgx (a.toNatClampNeg))), .long ((fty (a.toNatClampNeg)) - (fgy (a.toNatClampNeg)))]) (rest := []) ⟨hx, hb, hml, hown, hTB⟩ (c_X4_determinant l D cZ cI cJ o wa sa ma tl gx gy tx tz kx ky cd ln cn ah g111 s111 m111 6 ((fgx (b.toNatClampNeg)) - (fgx (a.toNatClampNeg))) ((fgy (b.toNatClampNeg)) - (fgy (a.toNatClampNeg))) ((ftx (a.toNatClampNeg)) - (fgx (a.toNatClampNeg))) ((fty (a.toNatClampNeg)) - (fgy (a.toNatClampNeg))) lm111 (by decide) (by decide) _) (cw_V hTB tb_6_17 tb_1_5 tb_6_14 tb_6_15 tb_6_16 nd_X4_determinant rfl rfl ⟨Nat.le_of_ble_eq_true rfl, Nat.le_of_ble_eq_true rfl⟩) (pre_V (q0 := 4) hK hP hD [4, 5, 6, 7] rfl rfl rfl rfl) rfl rfl hl.1 rfl (lv_room (Nat.le_of_ble_eq_true rfl)) dX4_meet_124 ⟨Nat.le_of_ble_eq_true rfl, Nat.le_of_ble_eq_true rfl⟩) hP hD hS hA [4, 5, 6, 7] [0, 1, 2, 3] rfl rfl rfl (by decide) (fun u124 H locs hc124 hP hD hS => ?_)
  obtain ⟨g124, s124, m124⟩ := u124
  dsimp only at hc124
  obtain ⟨lm124, hz124, kp124⟩ := hc124
  have hP : va_P D vwCl [(gx, .inl (cJ, 16, .inr (.inl fgx))), (gy, .inl (cJ, 16, .inr (.inl fgy))), (tx, .inl (cJ, 16, .inr (.inl ftx))), (tz, .inl (cJ, 16, .inr (.inl fty))), (o, .inr (4, [.int cd, .ref wa, .ref sa, .ref ma, .ref tl, .ref gx, .ref gy, .ref tx, .ref tz, .int ln, .ref kx, .ref ky, .int cn, .int ah])), (wa, .inl (cJ, 96, .inr (.inl g124))), (sa, .inl (cI, 16, .inl s124)), (ma, .inl (cJ, 12, .inr (.inl m124)))] H := hP
  have hD : va_D A [(gx, .inl (cJ, 16, .inr (.inl fgx))), (gy, .inl (cJ, 16, .inr (.inl fgy))), (tx, .inl (cJ, 16, .inr (.inl ftx))), (tz, .inl (cJ, 16, .inr (.inl fty))), (o, .inr (4, [.int cd, .ref wa, .ref sa, .ref ma, .ref tl, .ref gx, .ref gy, .ref tx, .ref tz, .int ln, .ref kx, .ref ky, .int cn, .int ah])), (wa, .inl (cJ, 96, .inr (.inl g124))), (sa, .inl (cI, 16, .inl s124)), (ma, .inl (cJ, 12, .inr (.inl m124)))] := hD
  rw [e3, e4, e5, e6] at hz98
  rw [e1, e2, e5, e6] at hz111
  rw [e1, e2, e3, e4] at hz124
  have k4 := kp111 4 (by decide) (by decide) (by decide)
  have k42 := kp124 4 (by decide) (by decide) (by decide)
  have k5 := kp124 5 (by decide) (by decide) (by decide)
  have hDz : hz g124 s124 4 (spn ((ftx (a.toNatClampNeg)).toInt - (fgx (a.toNatClampNeg)).toInt) ((fty (a.toNatClampNeg)).toInt - (fgy (a.toNatClampNeg)).toInt) ((ftx (b.toNatClampNeg)).toInt - (fgx (b.toNatClampNeg)).toInt) ((fty (b.toNatClampNeg)).toInt - (fgy (b.toNatClampNeg)).toInt)) := ⟨by rw [k42.1, k4.1]; exact hz98.1, by rw [k42.2, k4.2]; exact hz98.2⟩
  have hF : hz g124 s124 5 (spn ((fgx (b.toNatClampNeg)).toInt - (fgx (a.toNatClampNeg)).toInt) ((fgy (b.toNatClampNeg)).toInt - (fgy (a.toNatClampNeg)).toInt) ((ftx (b.toNatClampNeg)).toInt - (fgx (b.toNatClampNeg)).toInt) ((fty (b.toNatClampNeg)).toInt - (fgy (b.toNatClampNeg)).toInt)) := ⟨by rw [k5.1]; exact hz111.1, by rw [k5.2]; exact hz111.2⟩
  refine lv_aload_n hx hb dX4_meet_127 rfl (lv_at hl 6 rfl) ?_
  refine va_get (D := D) (ci := 4) (v := .ref sa) (C := RX4) (T := TX4) (N := 14) hx hb hTB tb_X4 hown hK.1 hP 4 rfl rfl 2 (by decide) (hTB _ tb_3_15) (fun _ h9 => h9) rfl dX4_meet_128 ?_
  refine lv_iconst (v := 4) hx hb dX4_meet_131 (by decide) ?_
  refine va_iald (f := s124) hx hb hK.1 hP 6 1 rfl rfl (vp_in_nI (n := 4) (by decide) (by decide)) dX4_meet_132 ?_
  rw [show (4 : Int32).toNatClampNeg = 4 from rfl]
  refine lv_if_ne (tgt := 157) hx hb dX4_meet_133 (by decide) (fun c_133 => ?_) (fun c_133 => ?_)
  · have hd0 : ¬ (spn ((ftx (a.toNatClampNeg)).toInt - (fgx (a.toNatClampNeg)).toInt) ((fty (a.toNatClampNeg)).toInt - (fgy (a.toNatClampNeg)).toInt) ((ftx (b.toNatClampNeg)).toInt - (fgx (b.toNatClampNeg)).toInt) ((fty (b.toNatClampNeg)).toInt - (fgy (b.toNatClampNeg)).toInt)) = 0 := fun q => c_133 (by rw [hDz.2, q]; rfl)
    refine lv_aload_n hx hb dX4_meet_157 rfl (lv_at hl 6 rfl) ?_
    refine va_get (D := D) (ci := 4) (v := .ref sa) (C := RX4) (T := TX4) (N := 14) hx hb hTB tb_X4 hown hK.1 hP 4 rfl rfl 2 (by decide) (hTB _ tb_3_15) (fun _ h9 => h9) rfl dX4_meet_158 ?_
    refine lv_iconst (v := 4) hx hb dX4_meet_161 (by decide) ?_
    refine va_iald (f := s124) hx hb hK.1 hP 6 1 rfl rfl (vp_in_nI (n := 4) (by decide) (by decide)) dX4_meet_162 ?_
    rw [show (4 : Int32).toNatClampNeg = 4 from rfl]
    refine lv_istore (lv' := [(15, .int (s124 4)), (13, .long ((fgy (b.toNatClampNeg)) - (fgy (a.toNatClampNeg)))), (11, .long ((fgx (b.toNatClampNeg)) - (fgx (a.toNatClampNeg)))), (9, .long ((fty (b.toNatClampNeg)) - (fgy (b.toNatClampNeg)))), (7, .long ((ftx (b.toNatClampNeg)) - (fgx (b.toNatClampNeg)))), (5, .long ((fty (a.toNatClampNeg)) - (fgy (a.toNatClampNeg)))), (3, .long ((ftx (a.toNatClampNeg)) - (fgx (a.toNatClampNeg)))), (0, .ref o), (1, .int a), (2, .int b)]) hx hb dX4_meet_163 hl (by decide) rfl (fun ls hl => ?_)
    refine lv_aload_n hx hb dX4_meet_165 rfl (lv_at hl 7 rfl) ?_
    refine va_get (D := D) (ci := 4) (v := .ref sa) (C := RX4) (T := TX4) (N := 14) hx hb hTB tb_X4 hown hK.1 hP 4 rfl rfl 2 (by decide) (hTB _ tb_3_15) (fun _ h9 => h9) rfl dX4_meet_166 ?_
    refine lv_iconst (v := 4) hx hb dX4_meet_169 (by decide) ?_
    refine lv_iconst (v := 1) hx hb dX4_meet_170 (by decide) ?_
    refine va_iast (f := s124) hx hb hK.1 hP hD hS 6 1 rfl rfl (vp_in_nI (n := 4) (by decide) (by decide)) dX4_meet_171 (fun H locs hP hD hS => ?_)
    rw [show (4 : Int32).toNatClampNeg = 4 from rfl] at hP hD
    have hP : va_P D vwCl [(gx, .inl (cJ, 16, .inr (.inl fgx))), (gy, .inl (cJ, 16, .inr (.inl fgy))), (tx, .inl (cJ, 16, .inr (.inl ftx))), (tz, .inl (cJ, 16, .inr (.inl fty))), (o, .inr (4, [.int cd, .ref wa, .ref sa, .ref ma, .ref tl, .ref gx, .ref gy, .ref tx, .ref tz, .int ln, .ref kx, .ref ky, .int cn, .int ah])), (wa, .inl (cJ, 96, .inr (.inl g124))), (sa, .inl (cI, 16, .inl (upd s124 4 1))), (ma, .inl (cJ, 12, .inr (.inl m124)))] H := hP
    have hD : va_D A [(gx, .inl (cJ, 16, .inr (.inl fgx))), (gy, .inl (cJ, 16, .inr (.inl fgy))), (tx, .inl (cJ, 16, .inr (.inl ftx))), (tz, .inl (cJ, 16, .inr (.inl fty))), (o, .inr (4, [.int cd, .ref wa, .ref sa, .ref ma, .ref tl, .ref gx, .ref gy, .ref tx, .ref tz, .int ln, .ref kx, .ref ky, .int cn, .int ah])), (wa, .inl (cJ, 96, .inr (.inl g124))), (sa, .inl (cI, 16, .inl (upd s124 4 1))), (ma, .inl (cJ, 12, .inr (.inl m124)))] := hD
    refine lv_aload_n hx hb dX4_meet_172 rfl (lv_at hl 7 rfl) ?_
    refine va_get (D := D) (ci := 4) (v := .ref sa) (C := RX4) (T := TX4) (N := 14) hx hb hTB tb_X4 hown hK.1 hP 4 rfl rfl 2 (by decide) (hTB _ tb_3_15) (fun _ h9 => h9) rfl dX4_meet_173 ?_
    refine lv_iconst (v := 5) hx hb dX4_meet_176 (by decide) ?_
    refine lv_iload hx hb dX4_meet_177 (lv_at hl 0 rfl) ?_
    refine lv_aload_n hx hb dX4_meet_179 rfl (lv_at hl 7 rfl) ?_
    refine va_get (D := D) (ci := 4) (v := .ref sa) (C := RX4) (T := TX4) (N := 14) hx hb hTB tb_X4 hown hK.1 hP 4 rfl rfl 2 (by decide) (hTB _ tb_3_15) (fun _ h9 => h9) rfl dX4_meet_180 ?_
    refine lv_iconst (v := 5) hx hb dX4_meet_183 (by decide) ?_
    refine va_iald (f := (upd s124 4 1)) hx hb hK.1 hP 6 1 rfl rfl (vp_in_nI (n := 5) (by decide) (by decide)) dX4_meet_184 ?_
    rw [show (5 : Int32).toNatClampNeg = 5 from rfl]
    refine lv_imul hx hb dX4_meet_185 ?_
    refine va_iast (f := (upd s124 4 1)) hx hb hK.1 hP hD hS 6 1 rfl rfl (vp_in_nI (n := 5) (by decide) (by decide)) dX4_meet_186 (fun H locs hP hD hS => ?_)
    rw [show (5 : Int32).toNatClampNeg = 5 from rfl] at hP hD
    have hP : va_P D vwCl [(gx, .inl (cJ, 16, .inr (.inl fgx))), (gy, .inl (cJ, 16, .inr (.inl fgy))), (tx, .inl (cJ, 16, .inr (.inl ftx))), (tz, .inl (cJ, 16, .inr (.inl fty))), (o, .inr (4, [.int cd, .ref wa, .ref sa, .ref ma, .ref tl, .ref gx, .ref gy, .ref tx, .ref tz, .int ln, .ref kx, .ref ky, .int cn, .int ah])), (wa, .inl (cJ, 96, .inr (.inl g124))), (sa, .inl (cI, 16, .inl (upd (upd s124 4 1) 5 ((s124 4) * ((upd s124 4 1) 5))))), (ma, .inl (cJ, 12, .inr (.inl m124)))] H := hP
    have hD : va_D A [(gx, .inl (cJ, 16, .inr (.inl fgx))), (gy, .inl (cJ, 16, .inr (.inl fgy))), (tx, .inl (cJ, 16, .inr (.inl ftx))), (tz, .inl (cJ, 16, .inr (.inl fty))), (o, .inr (4, [.int cd, .ref wa, .ref sa, .ref ma, .ref tl, .ref gx, .ref gy, .ref tx, .ref tz, .int ln, .ref kx, .ref ky, .int cn, .int ah])), (wa, .inl (cJ, 96, .inr (.inl g124))), (sa, .inl (cI, 16, .inl (upd (upd s124 4 1) 5 ((s124 4) * ((upd s124 4 1) 5))))), (ma, .inl (cJ, 12, .inr (.inl m124)))] := hD
    refine lv_aload_n hx hb dX4_meet_187 rfl (lv_at hl 7 rfl) ?_
    refine va_get (D := D) (ci := 4) (v := .ref sa) (C := RX4) (T := TX4) (N := 14) hx hb hTB tb_X4 hown hK.1 hP 4 rfl rfl 2 (by decide) (hTB _ tb_3_15) (fun _ h9 => h9) rfl dX4_meet_188 ?_
    refine lv_bipush (v := 6) hx hb dX4_meet_191 (by decide) ?_
    refine lv_iload hx hb dX4_meet_193 (lv_at hl 0 rfl) ?_
    refine lv_aload_n hx hb dX4_meet_195 rfl (lv_at hl 7 rfl) ?_
    refine va_get (D := D) (ci := 4) (v := .ref sa) (C := RX4) (T := TX4) (N := 14) hx hb hTB tb_X4 hown hK.1 hP 4 rfl rfl 2 (by decide) (hTB _ tb_3_15) (fun _ h9 => h9) rfl dX4_meet_196 ?_
    refine lv_bipush (v := 6) hx hb dX4_meet_199 (by decide) ?_
    refine va_iald (f := (upd (upd s124 4 1) 5 ((s124 4) * ((upd s124 4 1) 5)))) hx hb hK.1 hP 6 1 rfl rfl (vp_in_nI (n := 6) (by decide) (by decide)) dX4_meet_201 ?_
    rw [show (6 : Int32).toNatClampNeg = 6 from rfl]
    refine lv_imul hx hb dX4_meet_202 ?_
    refine va_iast (f := (upd (upd s124 4 1) 5 ((s124 4) * ((upd s124 4 1) 5)))) hx hb hK.1 hP hD hS 6 1 rfl rfl (vp_in_nI (n := 6) (by decide) (by decide)) dX4_meet_203 (fun H locs hP hD hS => ?_)
    rw [show (6 : Int32).toNatClampNeg = 6 from rfl] at hP hD
    have hP : va_P D vwCl [(gx, .inl (cJ, 16, .inr (.inl fgx))), (gy, .inl (cJ, 16, .inr (.inl fgy))), (tx, .inl (cJ, 16, .inr (.inl ftx))), (tz, .inl (cJ, 16, .inr (.inl fty))), (o, .inr (4, [.int cd, .ref wa, .ref sa, .ref ma, .ref tl, .ref gx, .ref gy, .ref tx, .ref tz, .int ln, .ref kx, .ref ky, .int cn, .int ah])), (wa, .inl (cJ, 96, .inr (.inl g124))), (sa, .inl (cI, 16, .inl (upd (upd (upd s124 4 1) 5 ((s124 4) * ((upd s124 4 1) 5))) 6 ((s124 4) * ((upd (upd s124 4 1) 5 ((s124 4) * ((upd s124 4 1) 5))) 6))))), (ma, .inl (cJ, 12, .inr (.inl m124)))] H := hP
    have hD : va_D A [(gx, .inl (cJ, 16, .inr (.inl fgx))), (gy, .inl (cJ, 16, .inr (.inl fgy))), (tx, .inl (cJ, 16, .inr (.inl ftx))), (tz, .inl (cJ, 16, .inr (.inl fty))), (o, .inr (4, [.int cd, .ref wa, .ref sa, .ref ma, .ref tl, .ref gx, .ref gy, .ref tx, .ref tz, .int ln, .ref kx, .ref ky, .int cn, .int ah])), (wa, .inl (cJ, 96, .inr (.inl g124))), (sa, .inl (cI, 16, .inl (upd (upd (upd s124 4 1) 5 ((s124 4) * ((upd s124 4 1) 5))) 6 ((s124 4) * ((upd (upd s124 4 1) 5 ((s124 4) * ((upd s124 4 1) 5))) 6))))), (ma, .inl (cJ, 12, .inr (.inl m124)))] := hD
    have hD9 := hD
    have hs4 : (upd (upd (upd s124 4 1) 5 ((s124 4) * ((upd s124 4 1) 5))) 6 ((s124 4) * ((upd (upd s124 4 1) 5 ((s124 4) * ((upd s124 4 1) 5))) 6))) 4 = sg (nrm (spn ((ftx (a.toNatClampNeg)).toInt - (fgx (a.toNatClampNeg)).toInt) ((fty (a.toNatClampNeg)).toInt - (fgy (a.toNatClampNeg)).toInt) ((ftx (b.toNatClampNeg)).toInt - (fgx (b.toNatClampNeg)).toInt) ((fty (b.toNatClampNeg)).toInt - (fgy (b.toNatClampNeg)).toInt)) (spn ((ftx (a.toNatClampNeg)).toInt - (fgx (a.toNatClampNeg)).toInt) ((fty (a.toNatClampNeg)).toInt - (fgy (a.toNatClampNeg)).toInt) ((ftx (b.toNatClampNeg)).toInt - (fgx (b.toNatClampNeg)).toInt) ((fty (b.toNatClampNeg)).toInt - (fgy (b.toNatClampNeg)).toInt))) := by rw [pk_un (by decide), pk_un (by decide), pk_us, nrm_abs, sg_pos (by omega)]
    have hs5 : (upd (upd (upd s124 4 1) 5 ((s124 4) * ((upd s124 4 1) 5))) 6 ((s124 4) * ((upd (upd s124 4 1) 5 ((s124 4) * ((upd s124 4 1) 5))) 6))) 5 = sg (nrm (spn ((ftx (a.toNatClampNeg)).toInt - (fgx (a.toNatClampNeg)).toInt) ((fty (a.toNatClampNeg)).toInt - (fgy (a.toNatClampNeg)).toInt) ((ftx (b.toNatClampNeg)).toInt - (fgx (b.toNatClampNeg)).toInt) ((fty (b.toNatClampNeg)).toInt - (fgy (b.toNatClampNeg)).toInt)) (spn ((fgx (b.toNatClampNeg)).toInt - (fgx (a.toNatClampNeg)).toInt) ((fgy (b.toNatClampNeg)).toInt - (fgy (a.toNatClampNeg)).toInt) ((ftx (b.toNatClampNeg)).toInt - (fgx (b.toNatClampNeg)).toInt) ((fty (b.toNatClampNeg)).toInt - (fgy (b.toNatClampNeg)).toInt))) := by rw [pk_un (by decide), pk_us, pk_un (by decide), hDz.2, hF.2, sg_nrm hd0]
    have hs6 : (upd (upd (upd s124 4 1) 5 ((s124 4) * ((upd s124 4 1) 5))) 6 ((s124 4) * ((upd (upd s124 4 1) 5 ((s124 4) * ((upd s124 4 1) 5))) 6))) 6 = sg (nrm (spn ((ftx (a.toNatClampNeg)).toInt - (fgx (a.toNatClampNeg)).toInt) ((fty (a.toNatClampNeg)).toInt - (fgy (a.toNatClampNeg)).toInt) ((ftx (b.toNatClampNeg)).toInt - (fgx (b.toNatClampNeg)).toInt) ((fty (b.toNatClampNeg)).toInt - (fgy (b.toNatClampNeg)).toInt)) (spn ((fgx (b.toNatClampNeg)).toInt - (fgx (a.toNatClampNeg)).toInt) ((fgy (b.toNatClampNeg)).toInt - (fgy (a.toNatClampNeg)).toInt) ((ftx (a.toNatClampNeg)).toInt - (fgx (a.toNatClampNeg)).toInt) ((fty (a.toNatClampNeg)).toInt - (fgy (a.toNatClampNeg)).toInt))) := by rw [pk_us, pk_un (by decide), pk_un (by decide), hDz.2, hz124.2, sg_nrm hd0]
    obtain ⟨s9, hs9⟩ : ∃ s9, s9 = upd (upd (upd s124 4 1) 5 ((s124 4) * ((upd s124 4 1) 5))) 6 ((s124 4) * ((upd (upd s124 4 1) 5 ((s124 4) * ((upd s124 4 1) 5))) 6)) := ⟨_, rfl⟩
    rw [← hs9] at hP hD9 hs4 hs5 hs6
    have hD := hD9
    have n4 : num g124 4 = (nrm (spn ((ftx (a.toNatClampNeg)).toInt - (fgx (a.toNatClampNeg)).toInt) ((fty (a.toNatClampNeg)).toInt - (fgy (a.toNatClampNeg)).toInt) ((ftx (b.toNatClampNeg)).toInt - (fgx (b.toNatClampNeg)).toInt) ((fty (b.toNatClampNeg)).toInt - (fgy (b.toNatClampNeg)).toInt)) (spn ((ftx (a.toNatClampNeg)).toInt - (fgx (a.toNatClampNeg)).toInt) ((fty (a.toNatClampNeg)).toInt - (fgy (a.toNatClampNeg)).toInt) ((ftx (b.toNatClampNeg)).toInt - (fgx (b.toNatClampNeg)).toInt) ((fty (b.toNatClampNeg)).toInt - (fgy (b.toNatClampNeg)).toInt))).natAbs := by rw [hDz.1, nrm_nat]
    have n5 : num g124 5 = (nrm (spn ((ftx (a.toNatClampNeg)).toInt - (fgx (a.toNatClampNeg)).toInt) ((fty (a.toNatClampNeg)).toInt - (fgy (a.toNatClampNeg)).toInt) ((ftx (b.toNatClampNeg)).toInt - (fgx (b.toNatClampNeg)).toInt) ((fty (b.toNatClampNeg)).toInt - (fgy (b.toNatClampNeg)).toInt)) (spn ((fgx (b.toNatClampNeg)).toInt - (fgx (a.toNatClampNeg)).toInt) ((fgy (b.toNatClampNeg)).toInt - (fgy (a.toNatClampNeg)).toInt) ((ftx (b.toNatClampNeg)).toInt - (fgx (b.toNatClampNeg)).toInt) ((fty (b.toNatClampNeg)).toInt - (fgy (b.toNatClampNeg)).toInt))).natAbs := by rw [hF.1, nrm_nat]
    have n6 : num g124 6 = (nrm (spn ((ftx (a.toNatClampNeg)).toInt - (fgx (a.toNatClampNeg)).toInt) ((fty (a.toNatClampNeg)).toInt - (fgy (a.toNatClampNeg)).toInt) ((ftx (b.toNatClampNeg)).toInt - (fgx (b.toNatClampNeg)).toInt) ((fty (b.toNatClampNeg)).toInt - (fgy (b.toNatClampNeg)).toInt)) (spn ((fgx (b.toNatClampNeg)).toInt - (fgx (a.toNatClampNeg)).toInt) ((fgy (b.toNatClampNeg)).toInt - (fgy (a.toNatClampNeg)).toInt) ((ftx (a.toNatClampNeg)).toInt - (fgx (a.toNatClampNeg)).toInt) ((fty (a.toNatClampNeg)).toInt - (fgy (a.toNatClampNeg)).toInt))).natAbs := by rw [hz124.1, nrm_nat]
    have np := nrm_abs (spn ((ftx (a.toNatClampNeg)).toInt - (fgx (a.toNatClampNeg)).toInt) ((fty (a.toNatClampNeg)).toInt - (fgy (a.toNatClampNeg)).toInt) ((ftx (b.toNatClampNeg)).toInt - (fgx (b.toNatClampNeg)).toInt) ((fty (b.toNatClampNeg)).toInt - (fgy (b.toNatClampNeg)).toInt))
    refine lv_aload_n hx hb dX4_meet_204 rfl (lv_at hl 7 rfl) ?_
    refine va_get (D := D) (ci := 4) (v := .ref sa) (C := RX4) (T := TX4) (N := 14) hx hb hTB tb_X4 hown hK.1 hP 4 rfl rfl 2 (by decide) (hTB _ tb_3_15) (fun _ h9 => h9) rfl dX4_meet_205 ?_
    refine lv_iconst (v := 5) hx hb dX4_meet_208 (by decide) ?_
    refine va_iald (f := s9) hx hb hK.1 hP 6 1 rfl rfl (vp_in_nI (n := 5) (by decide) (by decide)) dX4_meet_209 ?_
    rw [show (5 : Int32).toNatClampNeg = 5 from rfl]
    refine lv_if_lt (tgt := 242) hx hb dX4_meet_210 (by decide) (fun c_210 => ?_) (fun c_210 => ?_)
    · have c_210 := sg_ltt (by rw [← hs5]; exact c_210)
      refine lv_iconst (v := 0) hx hb dX4_meet_242 (by decide) ?_
      exact hret hP hD hS rfl (g124, s9, m124) (⟨by unfold crs; rw [if_neg hd0, if_neg (fun q : mtc (spn ((ftx (a.toNatClampNeg)).toInt - (fgx (a.toNatClampNeg)).toInt) ((fty (a.toNatClampNeg)).toInt - (fgy (a.toNatClampNeg)).toInt) ((ftx (b.toNatClampNeg)).toInt - (fgx (b.toNatClampNeg)).toInt) ((fty (b.toNatClampNeg)).toInt - (fgy (b.toNatClampNeg)).toInt)) (spn ((fgx (b.toNatClampNeg)).toInt - (fgx (a.toNatClampNeg)).toInt) ((fgy (b.toNatClampNeg)).toInt - (fgy (a.toNatClampNeg)).toInt) ((ftx (b.toNatClampNeg)).toInt - (fgx (b.toNatClampNeg)).toInt) ((fty (b.toNatClampNeg)).toInt - (fgy (b.toNatClampNeg)).toInt)) (spn ((fgx (b.toNatClampNeg)).toInt - (fgx (a.toNatClampNeg)).toInt) ((fgy (b.toNatClampNeg)).toInt - (fgy (a.toNatClampNeg)).toInt) ((ftx (a.toNatClampNeg)).toInt - (fgx (a.toNatClampNeg)).toInt) ((fty (a.toNatClampNeg)).toInt - (fgy (a.toNatClampNeg)).toInt)) => absurd q.1 (by omega))], fun q => absurd q (by decide), lm124⟩) [4, 5, 6, 7, 0, 1, 2, 3] rfl (by decide) dX4_meet_243 (Nat.le_of_ble_eq_true rfl) (Nat.le_of_ble_eq_true rfl)
    · have c_210 := sg_ltf (by rw [← hs5]; exact c_210)
      refine lv_aload_n hx hb dX4_meet_213 rfl (lv_at hl 7 rfl) ?_
      refine va_get (D := D) (ci := 4) (v := .ref sa) (C := RX4) (T := TX4) (N := 14) hx hb hTB tb_X4 hown hK.1 hP 4 rfl rfl 2 (by decide) (hTB _ tb_3_15) (fun _ h9 => h9) rfl dX4_meet_214 ?_
      refine lv_bipush (v := 6) hx hb dX4_meet_217 (by decide) ?_
      refine va_iald (f := s9) hx hb hK.1 hP 6 1 rfl rfl (vp_in_nI (n := 6) (by decide) (by decide)) dX4_meet_219 ?_
      rw [show (6 : Int32).toNatClampNeg = 6 from rfl]
      refine lv_if_lt (tgt := 242) hx hb dX4_meet_220 (by decide) (fun c_220 => ?_) (fun c_220 => ?_)
      · have c_220 := sg_ltt (by rw [← hs6]; exact c_220)
        refine lv_iconst (v := 0) hx hb dX4_meet_242 (by decide) ?_
        exact hret hP hD hS rfl (g124, s9, m124) (⟨by unfold crs; rw [if_neg hd0, if_neg (fun q : mtc (spn ((ftx (a.toNatClampNeg)).toInt - (fgx (a.toNatClampNeg)).toInt) ((fty (a.toNatClampNeg)).toInt - (fgy (a.toNatClampNeg)).toInt) ((ftx (b.toNatClampNeg)).toInt - (fgx (b.toNatClampNeg)).toInt) ((fty (b.toNatClampNeg)).toInt - (fgy (b.toNatClampNeg)).toInt)) (spn ((fgx (b.toNatClampNeg)).toInt - (fgx (a.toNatClampNeg)).toInt) ((fgy (b.toNatClampNeg)).toInt - (fgy (a.toNatClampNeg)).toInt) ((ftx (b.toNatClampNeg)).toInt - (fgx (b.toNatClampNeg)).toInt) ((fty (b.toNatClampNeg)).toInt - (fgy (b.toNatClampNeg)).toInt)) (spn ((fgx (b.toNatClampNeg)).toInt - (fgx (a.toNatClampNeg)).toInt) ((fgy (b.toNatClampNeg)).toInt - (fgy (a.toNatClampNeg)).toInt) ((ftx (a.toNatClampNeg)).toInt - (fgx (a.toNatClampNeg)).toInt) ((fty (a.toNatClampNeg)).toInt - (fgy (a.toNatClampNeg)).toInt)) => absurd q.2.2.1 (by omega))], fun q => absurd q (by decide), lm124⟩) [4, 5, 6, 7, 0, 1, 2, 3] rfl (by decide) dX4_meet_243 (Nat.le_of_ble_eq_true rfl) (Nat.le_of_ble_eq_true rfl)
      · have c_220 := sg_ltf (by rw [← hs6]; exact c_220)
        refine lv_aload_n hx hb dX4_meet_223 rfl (lv_at hl 7 rfl) ?_
        refine lv_iconst (v := 5) hx hb dX4_meet_224 (by decide) ?_
        refine lv_iconst (v := 4) hx hb dX4_meet_225 (by decide) ?_
        refine vp_callSi (va_runV (As := [.int 5, .int 4]) (rest := []) ⟨hx, hb, hml, hown, hTB⟩ (c_X4_compare l D cZ cI cJ o wa sa ma tl gx gy tx tz kx ky cd ln cn ah g124 5 4 lm124 (by decide) (by decide)) (cw_V hTB tb_7_14 tb_1_5 tb_7_11 tb_7_12 tb_7_13 nd_X4_compare rfl rfl ⟨Nat.le_of_ble_eq_true rfl, Nat.le_of_ble_eq_true rfl⟩) (prr_V (q0 := 4) hK hP [4, 5] rfl rfl rfl) rfl rfl hl.1 rfl (lv_room (Nat.le_of_ble_eq_true rfl)) dX4_meet_226 ⟨Nat.le_of_ble_eq_true rfl, Nat.le_of_ble_eq_true rfl⟩).run (fun r226 hc226 => ?_)
        subst hc226
        refine lv_if_gt (tgt := 242) hx hb dX4_meet_229 (by decide) (fun c_229 => ?_) (fun c_229 => ?_)
        · have c_229 := cm_gtt c_229
          refine lv_iconst (v := 0) hx hb dX4_meet_242 (by decide) ?_
          exact hret hP hD hS rfl (g124, s9, m124) (⟨by unfold crs; rw [if_neg hd0, if_neg (fun q : mtc (spn ((ftx (a.toNatClampNeg)).toInt - (fgx (a.toNatClampNeg)).toInt) ((fty (a.toNatClampNeg)).toInt - (fgy (a.toNatClampNeg)).toInt) ((ftx (b.toNatClampNeg)).toInt - (fgx (b.toNatClampNeg)).toInt) ((fty (b.toNatClampNeg)).toInt - (fgy (b.toNatClampNeg)).toInt)) (spn ((fgx (b.toNatClampNeg)).toInt - (fgx (a.toNatClampNeg)).toInt) ((fgy (b.toNatClampNeg)).toInt - (fgy (a.toNatClampNeg)).toInt) ((ftx (b.toNatClampNeg)).toInt - (fgx (b.toNatClampNeg)).toInt) ((fty (b.toNatClampNeg)).toInt - (fgy (b.toNatClampNeg)).toInt)) (spn ((fgx (b.toNatClampNeg)).toInt - (fgx (a.toNatClampNeg)).toInt) ((fgy (b.toNatClampNeg)).toInt - (fgy (a.toNatClampNeg)).toInt) ((ftx (a.toNatClampNeg)).toInt - (fgx (a.toNatClampNeg)).toInt) ((fty (a.toNatClampNeg)).toInt - (fgy (a.toNatClampNeg)).toInt)) => absurd q.2.1 (by rw [n5, n4] at c_229; omega))], fun q => absurd q (by decide), lm124⟩) [4, 5, 6, 7, 0, 1, 2, 3] rfl (by decide) dX4_meet_243 (Nat.le_of_ble_eq_true rfl) (Nat.le_of_ble_eq_true rfl)
        · have c_229 := cm_gtf c_229
          refine lv_aload_n hx hb dX4_meet_232 rfl (lv_at hl 7 rfl) ?_
          refine lv_bipush (v := 6) hx hb dX4_meet_233 (by decide) ?_
          refine lv_iconst (v := 4) hx hb dX4_meet_235 (by decide) ?_
          refine vp_callSi (va_runV (As := [.int 6, .int 4]) (rest := []) ⟨hx, hb, hml, hown, hTB⟩ (c_X4_compare l D cZ cI cJ o wa sa ma tl gx gy tx tz kx ky cd ln cn ah g124 6 4 lm124 (by decide) (by decide)) (cw_V hTB tb_7_14 tb_1_5 tb_7_11 tb_7_12 tb_7_13 nd_X4_compare rfl rfl ⟨Nat.le_of_ble_eq_true rfl, Nat.le_of_ble_eq_true rfl⟩) (prr_V (q0 := 4) hK hP [4, 5] rfl rfl rfl) rfl rfl hl.1 rfl (lv_room (Nat.le_of_ble_eq_true rfl)) dX4_meet_236 ⟨Nat.le_of_ble_eq_true rfl, Nat.le_of_ble_eq_true rfl⟩).run (fun r236 hc236 => ?_)
          subst hc236
          refine lv_if_le (tgt := 244) hx hb dX4_meet_239 (by decide) (fun c_239 => ?_) (fun c_239 => ?_)
          · have c_239 := cm_let c_239
            refine lv_aload_n hx hb dX4_meet_244 rfl (lv_at hl 7 rfl) ?_
            refine lv_bipush (v := 12) hx hb dX4_meet_245 (by decide) ?_
            refine lv_aload_n hx hb dX4_meet_247 rfl (lv_at hl 7 rfl) ?_
            refine va_get (D := D) (ci := 4) (v := .ref gx) (C := RX4) (T := TX4) (N := 14) hx hb hTB tb_X4 hown hK.1 hP 4 rfl rfl 5 (by decide) (hTB _ tb_3_18) (fun _ h9 => h9) rfl dX4_meet_248 ?_
            refine lv_iload_n hx hb dX4_meet_251 rfl (lv_at hl 8 rfl) ?_
            refine va_lald (f := fgx) hx hb hK.1 hP 0 2 rfl rfl (vp_in_iff.mpr ⟨by omega, by omega⟩) dX4_meet_252 ?_
            refine lv_lload_n hx hb dX4_meet_253 rfl (lv_at hl 6 rfl) ?_
            refine fin_v (wr := [(gx, .inl (cJ, 16, .inr (.inl fgx))), (gy, .inl (cJ, 16, .inr (.inl fgy))), (tx, .inl (cJ, 16, .inr (.inl ftx))), (tz, .inl (cJ, 16, .inr (.inl fty)))]) (va_runV (As := [.int 12, .long (fgx (a.toNatClampNeg)), .long ((ftx (a.toNatClampNeg)) - (fgx (a.toNatClampNeg)))]) (rest := []) ⟨hx, hb, hml, hown, hTB⟩ (c_X4_place l D cZ cI cJ o wa sa ma tl gx gy tx tz kx ky cd ln cn ah g124 s9 m124 12 (fgx (a.toNatClampNeg)) ((ftx (a.toNatClampNeg)) - (fgx (a.toNatClampNeg))) (((spn ((ftx (a.toNatClampNeg)).toInt - (fgx (a.toNatClampNeg)).toInt) ((fty (a.toNatClampNeg)).toInt - (fgy (a.toNatClampNeg)).toInt) ((ftx (b.toNatClampNeg)).toInt - (fgx (b.toNatClampNeg)).toInt) ((fty (b.toNatClampNeg)).toInt - (fgy (b.toNatClampNeg)).toInt))).natAbs) (nrm (spn ((ftx (a.toNatClampNeg)).toInt - (fgx (a.toNatClampNeg)).toInt) ((fty (a.toNatClampNeg)).toInt - (fgy (a.toNatClampNeg)).toInt) ((ftx (b.toNatClampNeg)).toInt - (fgx (b.toNatClampNeg)).toInt) ((fty (b.toNatClampNeg)).toInt - (fgy (b.toNatClampNeg)).toInt)) (spn ((fgx (b.toNatClampNeg)).toInt - (fgx (a.toNatClampNeg)).toInt) ((fgy (b.toNatClampNeg)).toInt - (fgy (a.toNatClampNeg)).toInt) ((ftx (b.toNatClampNeg)).toInt - (fgx (b.toNatClampNeg)).toInt) ((fty (b.toNatClampNeg)).toInt - (fgy (b.toNatClampNeg)).toInt))) lm124 (by decide) (by decide) (⟨by rw [n4]; omega, by rw [hs4, np]⟩) (⟨n5, hs5⟩) (by omega) (by omega) (by have := nrm_nat (spn ((ftx (a.toNatClampNeg)).toInt - (fgx (a.toNatClampNeg)).toInt) ((fty (a.toNatClampNeg)).toInt - (fgy (a.toNatClampNeg)).toInt) ((ftx (b.toNatClampNeg)).toInt - (fgx (b.toNatClampNeg)).toInt) ((fty (b.toNatClampNeg)).toInt - (fgy (b.toNatClampNeg)).toInt)) (spn ((fgx (b.toNatClampNeg)).toInt - (fgx (a.toNatClampNeg)).toInt) ((fgy (b.toNatClampNeg)).toInt - (fgy (a.toNatClampNeg)).toInt) ((ftx (b.toNatClampNeg)).toInt - (fgx (b.toNatClampNeg)).toInt) ((fty (b.toNatClampNeg)).toInt - (fgy (b.toNatClampNeg)).toInt)); omega) _) (cw_V hTB tb_13_13 tb_1_5 tb_13_10 tb_13_11 tb_13_12 nd_X4_place rfl rfl ⟨Nat.le_of_ble_eq_true rfl, Nat.le_of_ble_eq_true rfl⟩) (pre_V (q0 := 4) hK hP hD [4, 5, 6, 7] rfl rfl rfl rfl) rfl rfl hl.1 rfl (lv_room (Nat.le_of_ble_eq_true rfl)) dX4_meet_254 ⟨Nat.le_of_ble_eq_true rfl, Nat.le_of_ble_eq_true rfl⟩) hP hD hS hA [4, 5, 6, 7] [0, 1, 2, 3] rfl rfl rfl (by decide) (fun u254 H locs hc254 hP hD hS => ?_)
            obtain ⟨g254, s254, m254⟩ := u254
            dsimp only at hc254
            obtain ⟨lm254, hHF254, kp254⟩ := hc254
            have hP : va_P D vwCl [(gx, .inl (cJ, 16, .inr (.inl fgx))), (gy, .inl (cJ, 16, .inr (.inl fgy))), (tx, .inl (cJ, 16, .inr (.inl ftx))), (tz, .inl (cJ, 16, .inr (.inl fty))), (o, .inr (4, [.int cd, .ref wa, .ref sa, .ref ma, .ref tl, .ref gx, .ref gy, .ref tx, .ref tz, .int ln, .ref kx, .ref ky, .int cn, .int ah])), (wa, .inl (cJ, 96, .inr (.inl g254))), (sa, .inl (cI, 16, .inl s254)), (ma, .inl (cJ, 12, .inr (.inl m254)))] H := hP
            have hD : va_D A [(gx, .inl (cJ, 16, .inr (.inl fgx))), (gy, .inl (cJ, 16, .inr (.inl fgy))), (tx, .inl (cJ, 16, .inr (.inl ftx))), (tz, .inl (cJ, 16, .inr (.inl fty))), (o, .inr (4, [.int cd, .ref wa, .ref sa, .ref ma, .ref tl, .ref gx, .ref gy, .ref tx, .ref tz, .int ln, .ref kx, .ref ky, .int cn, .int ah])), (wa, .inl (cJ, 96, .inr (.inl g254))), (sa, .inl (cI, 16, .inl s254)), (ma, .inl (cJ, 12, .inr (.inl m254)))] := hD
            refine lv_aload_n hx hb dX4_meet_257 rfl (lv_at hl 7 rfl) ?_
            refine lv_bipush (v := 14) hx hb dX4_meet_258 (by decide) ?_
            refine lv_aload_n hx hb dX4_meet_260 rfl (lv_at hl 7 rfl) ?_
            refine va_get (D := D) (ci := 4) (v := .ref gy) (C := RX4) (T := TX4) (N := 14) hx hb hTB tb_X4 hown hK.1 hP 4 rfl rfl 6 (by decide) (hTB _ tb_3_19) (fun _ h9 => h9) rfl dX4_meet_261 ?_
            refine lv_iload_n hx hb dX4_meet_264 rfl (lv_at hl 8 rfl) ?_
            refine va_lald (f := fgy) hx hb hK.1 hP 1 2 rfl rfl (vp_in_iff.mpr ⟨by omega, by omega⟩) dX4_meet_265 ?_
            refine lv_lload hx hb dX4_meet_266 (lv_at hl 5 rfl) ?_
            refine fin_v (wr := [(gx, .inl (cJ, 16, .inr (.inl fgx))), (gy, .inl (cJ, 16, .inr (.inl fgy))), (tx, .inl (cJ, 16, .inr (.inl ftx))), (tz, .inl (cJ, 16, .inr (.inl fty)))]) (va_runV (As := [.int 14, .long (fgy (a.toNatClampNeg)), .long ((fty (a.toNatClampNeg)) - (fgy (a.toNatClampNeg)))]) (rest := []) ⟨hx, hb, hml, hown, hTB⟩ (c_X4_place l D cZ cI cJ o wa sa ma tl gx gy tx tz kx ky cd ln cn ah g254 s254 m254 14 (fgy (a.toNatClampNeg)) ((fty (a.toNatClampNeg)) - (fgy (a.toNatClampNeg))) (((spn ((ftx (a.toNatClampNeg)).toInt - (fgx (a.toNatClampNeg)).toInt) ((fty (a.toNatClampNeg)).toInt - (fgy (a.toNatClampNeg)).toInt) ((ftx (b.toNatClampNeg)).toInt - (fgx (b.toNatClampNeg)).toInt) ((fty (b.toNatClampNeg)).toInt - (fgy (b.toNatClampNeg)).toInt))).natAbs) (nrm (spn ((ftx (a.toNatClampNeg)).toInt - (fgx (a.toNatClampNeg)).toInt) ((fty (a.toNatClampNeg)).toInt - (fgy (a.toNatClampNeg)).toInt) ((ftx (b.toNatClampNeg)).toInt - (fgx (b.toNatClampNeg)).toInt) ((fty (b.toNatClampNeg)).toInt - (fgy (b.toNatClampNeg)).toInt)) (spn ((fgx (b.toNatClampNeg)).toInt - (fgx (a.toNatClampNeg)).toInt) ((fgy (b.toNatClampNeg)).toInt - (fgy (a.toNatClampNeg)).toInt) ((ftx (b.toNatClampNeg)).toInt - (fgx (b.toNatClampNeg)).toInt) ((fty (b.toNatClampNeg)).toInt - (fgy (b.toNatClampNeg)).toInt))) lm254 (by decide) (by decide) (⟨by rw [(kp254 4 (by decide) (by decide) (by decide) (by decide) (by decide) (by decide) (by decide) (by decide) (by decide) (by decide)).1, n4]; omega, by rw [(kp254 4 (by decide) (by decide) (by decide) (by decide) (by decide) (by decide) (by decide) (by decide) (by decide) (by decide)).2, hs4, np]⟩) (⟨by rw [(kp254 5 (by decide) (by decide) (by decide) (by decide) (by decide) (by decide) (by decide) (by decide) (by decide) (by decide)).1]; exact n5, by rw [(kp254 5 (by decide) (by decide) (by decide) (by decide) (by decide) (by decide) (by decide) (by decide) (by decide) (by decide)).2]; exact hs5⟩) (by omega) (by omega) (by have := nrm_nat (spn ((ftx (a.toNatClampNeg)).toInt - (fgx (a.toNatClampNeg)).toInt) ((fty (a.toNatClampNeg)).toInt - (fgy (a.toNatClampNeg)).toInt) ((ftx (b.toNatClampNeg)).toInt - (fgx (b.toNatClampNeg)).toInt) ((fty (b.toNatClampNeg)).toInt - (fgy (b.toNatClampNeg)).toInt)) (spn ((fgx (b.toNatClampNeg)).toInt - (fgx (a.toNatClampNeg)).toInt) ((fgy (b.toNatClampNeg)).toInt - (fgy (a.toNatClampNeg)).toInt) ((ftx (b.toNatClampNeg)).toInt - (fgx (b.toNatClampNeg)).toInt) ((fty (b.toNatClampNeg)).toInt - (fgy (b.toNatClampNeg)).toInt)); omega) _) (cw_V hTB tb_13_13 tb_1_5 tb_13_10 tb_13_11 tb_13_12 nd_X4_place rfl rfl ⟨Nat.le_of_ble_eq_true rfl, Nat.le_of_ble_eq_true rfl⟩) (pre_V (q0 := 4) hK hP hD [4, 5, 6, 7] rfl rfl rfl rfl) rfl rfl hl.1 rfl (lv_room (Nat.le_of_ble_eq_true rfl)) dX4_meet_268 ⟨Nat.le_of_ble_eq_true rfl, Nat.le_of_ble_eq_true rfl⟩) hP hD hS hA [4, 5, 6, 7] [0, 1, 2, 3] rfl rfl rfl (by decide) (fun u268 H locs hc268 hP hD hS => ?_)
            obtain ⟨g268, s268, m268⟩ := u268
            dsimp only at hc268
            obtain ⟨lm268, hHF268, kp268⟩ := hc268
            have hP : va_P D vwCl [(gx, .inl (cJ, 16, .inr (.inl fgx))), (gy, .inl (cJ, 16, .inr (.inl fgy))), (tx, .inl (cJ, 16, .inr (.inl ftx))), (tz, .inl (cJ, 16, .inr (.inl fty))), (o, .inr (4, [.int cd, .ref wa, .ref sa, .ref ma, .ref tl, .ref gx, .ref gy, .ref tx, .ref tz, .int ln, .ref kx, .ref ky, .int cn, .int ah])), (wa, .inl (cJ, 96, .inr (.inl g268))), (sa, .inl (cI, 16, .inl s268)), (ma, .inl (cJ, 12, .inr (.inl m268)))] H := hP
            have hD : va_D A [(gx, .inl (cJ, 16, .inr (.inl fgx))), (gy, .inl (cJ, 16, .inr (.inl fgy))), (tx, .inl (cJ, 16, .inr (.inl ftx))), (tz, .inl (cJ, 16, .inr (.inl fty))), (o, .inr (4, [.int cd, .ref wa, .ref sa, .ref ma, .ref tl, .ref gx, .ref gy, .ref tx, .ref tz, .int ln, .ref kx, .ref ky, .int cn, .int ah])), (wa, .inl (cJ, 96, .inr (.inl g268))), (sa, .inl (cI, 16, .inl s268)), (ma, .inl (cJ, 12, .inr (.inl m268)))] := hD
            refine lv_iconst (v := 1) hx hb dX4_meet_271 (by decide) ?_
            have hX := hHF254
            rw [e3] at hX
            have hY := hHF268
            rw [e4] at hY
            have hX2 := hX.keepP (fun e h1 h2 => kp268 e (by omega) (by omega) (by omega) (by omega) (by omega) (by omega) (by omega) (by omega) (by omega) (by omega))
            have e9 : (((spn ((ftx (a.toNatClampNeg)).toInt - (fgx (a.toNatClampNeg)).toInt) ((fty (a.toNatClampNeg)).toInt - (fgy (a.toNatClampNeg)).toInt) ((ftx (b.toNatClampNeg)).toInt - (fgx (b.toNatClampNeg)).toInt) ((fty (b.toNatClampNeg)).toInt - (fgy (b.toNatClampNeg)).toInt)).natAbs : Nat) : Int) = nrm (spn ((ftx (a.toNatClampNeg)).toInt - (fgx (a.toNatClampNeg)).toInt) ((fty (a.toNatClampNeg)).toInt - (fgy (a.toNatClampNeg)).toInt) ((ftx (b.toNatClampNeg)).toInt - (fgx (b.toNatClampNeg)).toInt) ((fty (b.toNatClampNeg)).toInt - (fgy (b.toNatClampNeg)).toInt)) (spn ((ftx (a.toNatClampNeg)).toInt - (fgx (a.toNatClampNeg)).toInt) ((fty (a.toNatClampNeg)).toInt - (fgy (a.toNatClampNeg)).toInt) ((ftx (b.toNatClampNeg)).toInt - (fgx (b.toNatClampNeg)).toInt) ((fty (b.toNatClampNeg)).toInt - (fgy (b.toNatClampNeg)).toInt)) := (nrm_abs _).symm
            rw [e9] at hX2 hY
            exact hret hP hD hS rfl (g268, s268, m268) (⟨by unfold crs; rw [if_neg hd0, if_pos (show mtc (spn ((ftx (a.toNatClampNeg)).toInt - (fgx (a.toNatClampNeg)).toInt) ((fty (a.toNatClampNeg)).toInt - (fgy (a.toNatClampNeg)).toInt) ((ftx (b.toNatClampNeg)).toInt - (fgx (b.toNatClampNeg)).toInt) ((fty (b.toNatClampNeg)).toInt - (fgy (b.toNatClampNeg)).toInt)) (spn ((fgx (b.toNatClampNeg)).toInt - (fgx (a.toNatClampNeg)).toInt) ((fgy (b.toNatClampNeg)).toInt - (fgy (a.toNatClampNeg)).toInt) ((ftx (b.toNatClampNeg)).toInt - (fgx (b.toNatClampNeg)).toInt) ((fty (b.toNatClampNeg)).toInt - (fgy (b.toNatClampNeg)).toInt)) (spn ((fgx (b.toNatClampNeg)).toInt - (fgx (a.toNatClampNeg)).toInt) ((fgy (b.toNatClampNeg)).toInt - (fgy (a.toNatClampNeg)).toInt) ((ftx (a.toNatClampNeg)).toInt - (fgx (a.toNatClampNeg)).toInt) ((fty (a.toNatClampNeg)).toInt - (fgy (a.toNatClampNeg)).toInt)) from ⟨c_210, by rw [n5, n4] at c_229; omega, c_220, by rw [n6, n4] at c_239; omega⟩)], fun _ => by unfold crX crY crD; rw [if_neg hd0, if_neg hd0, if_neg hd0]; exact ⟨hX2, hY⟩, lm268⟩) [4, 5, 6, 7, 0, 1, 2, 3] rfl (by decide) dX4_meet_272 (Nat.le_of_ble_eq_true rfl) (Nat.le_of_ble_eq_true rfl)
          · have c_239 := cm_lef c_239
            refine lv_iconst (v := 0) hx hb dX4_meet_242 (by decide) ?_
            exact hret hP hD hS rfl (g124, s9, m124) (⟨by unfold crs; rw [if_neg hd0, if_neg (fun q : mtc (spn ((ftx (a.toNatClampNeg)).toInt - (fgx (a.toNatClampNeg)).toInt) ((fty (a.toNatClampNeg)).toInt - (fgy (a.toNatClampNeg)).toInt) ((ftx (b.toNatClampNeg)).toInt - (fgx (b.toNatClampNeg)).toInt) ((fty (b.toNatClampNeg)).toInt - (fgy (b.toNatClampNeg)).toInt)) (spn ((fgx (b.toNatClampNeg)).toInt - (fgx (a.toNatClampNeg)).toInt) ((fgy (b.toNatClampNeg)).toInt - (fgy (a.toNatClampNeg)).toInt) ((ftx (b.toNatClampNeg)).toInt - (fgx (b.toNatClampNeg)).toInt) ((fty (b.toNatClampNeg)).toInt - (fgy (b.toNatClampNeg)).toInt)) (spn ((fgx (b.toNatClampNeg)).toInt - (fgx (a.toNatClampNeg)).toInt) ((fgy (b.toNatClampNeg)).toInt - (fgy (a.toNatClampNeg)).toInt) ((ftx (a.toNatClampNeg)).toInt - (fgx (a.toNatClampNeg)).toInt) ((fty (a.toNatClampNeg)).toInt - (fgy (a.toNatClampNeg)).toInt)) => absurd q.2.2.2 (by rw [n6, n4] at c_239; omega))], fun q => absurd q (by decide), lm124⟩) [4, 5, 6, 7, 0, 1, 2, 3] rfl (by decide) dX4_meet_243 (Nat.le_of_ble_eq_true rfl) (Nat.le_of_ble_eq_true rfl)
  · have hd0 : (spn ((ftx (a.toNatClampNeg)).toInt - (fgx (a.toNatClampNeg)).toInt) ((fty (a.toNatClampNeg)).toInt - (fgy (a.toNatClampNeg)).toInt) ((ftx (b.toNatClampNeg)).toInt - (fgx (b.toNatClampNeg)).toInt) ((fty (b.toNatClampNeg)).toInt - (fgy (b.toNatClampNeg)).toInt)) = 0 := sg_eqt (by rw [← hDz.2]; exact c_133)
    refine lv_aload_n hx hb dX4_meet_136 rfl (lv_at hl 6 rfl) ?_
    refine va_get (D := D) (ci := 4) (v := .ref sa) (C := RX4) (T := TX4) (N := 14) hx hb hTB tb_X4 hown hK.1 hP 4 rfl rfl 2 (by decide) (hTB _ tb_3_15) (fun _ h9 => h9) rfl dX4_meet_137 ?_
    refine lv_bipush (v := 6) hx hb dX4_meet_140 (by decide) ?_
    refine va_iald (f := s124) hx hb hK.1 hP 6 1 rfl rfl (vp_in_nI (n := 6) (by decide) (by decide)) dX4_meet_142 ?_
    rw [show (6 : Int32).toNatClampNeg = 6 from rfl]
    refine lv_if_ne (tgt := 155) hx hb dX4_meet_143 (by decide) (fun c_143 => ?_) (fun c_143 => ?_)
    · have hs0 : ¬ (spn ((fgx (b.toNatClampNeg)).toInt - (fgx (a.toNatClampNeg)).toInt) ((fgy (b.toNatClampNeg)).toInt - (fgy (a.toNatClampNeg)).toInt) ((ftx (a.toNatClampNeg)).toInt - (fgx (a.toNatClampNeg)).toInt) ((fty (a.toNatClampNeg)).toInt - (fgy (a.toNatClampNeg)).toInt)) = 0 := fun q => c_143 (by rw [hz124.2, q]; rfl)
      refine lv_iconst (v := 0) hx hb dX4_meet_155 (by decide) ?_
      exact hret hP hD hS rfl (g124, s124, m124) (⟨by unfold crs; rw [if_pos hd0, if_neg hs0], fun q => absurd q (by decide), lm124⟩) [4, 5, 6, 7, 0, 1, 2, 3] rfl (by decide) dX4_meet_156 (Nat.le_of_ble_eq_true rfl) (Nat.le_of_ble_eq_true rfl)
    · have hs0 : (spn ((fgx (b.toNatClampNeg)).toInt - (fgx (a.toNatClampNeg)).toInt) ((fgy (b.toNatClampNeg)).toInt - (fgy (a.toNatClampNeg)).toInt) ((ftx (a.toNatClampNeg)).toInt - (fgx (a.toNatClampNeg)).toInt) ((fty (a.toNatClampNeg)).toInt - (fgy (a.toNatClampNeg)).toInt)) = 0 := sg_eqt (by rw [← hz124.2]; exact c_143)
      refine lv_aload_n hx hb dX4_meet_146 rfl (lv_at hl 6 rfl) ?_
      refine lv_iload_n hx hb dX4_meet_147 rfl (lv_at hl 7 rfl) ?_
      refine lv_iload_n hx hb dX4_meet_148 rfl (lv_at hl 8 rfl) ?_
      refine fin_i (wr := [(ma, .inl (cJ, 12, .inr (.inl m124)))]) (va_runV (As := [.int a, .int b]) (rest := []) ⟨hx, hb, hml, hown, hTB⟩ (c_X4_overlap l D cZ cI cJ o wa sa ma tl gx gy tx tz kx ky cd ln cn ah g124 s124 fgx fgy ftx fty a b lm124 hina hinb hsa hsb hta htb _) (cw_V hTB tb_13_6 tb_1_5 tb_13_3 tb_13_4 tb_13_5 nd_X4_overlap rfl rfl ⟨Nat.le_of_ble_eq_true rfl, Nat.le_of_ble_eq_true rfl⟩) (pre_V (q0 := 4) hK hP hD [4, 5, 6, 0, 1, 2, 3] rfl rfl rfl rfl) rfl rfl hl.1 rfl (lv_room (Nat.le_of_ble_eq_true rfl)) dX4_meet_149 ⟨Nat.le_of_ble_eq_true rfl, Nat.le_of_ble_eq_true rfl⟩) hP hD hS hA [4, 5, 6, 0, 1, 2, 3] [7] rfl rfl rfl (by decide) (fun r149 u149 H locs hc149 hP hD hS => ?_)
      obtain ⟨g149, s149⟩ := u149
      dsimp only at hc149
      have hov := hc149
      have hP : va_P D vwCl [(ma, .inl (cJ, 12, .inr (.inl m124))), (o, .inr (4, [.int cd, .ref wa, .ref sa, .ref ma, .ref tl, .ref gx, .ref gy, .ref tx, .ref tz, .int ln, .ref kx, .ref ky, .int cn, .int ah])), (wa, .inl (cJ, 96, .inr (.inl g149))), (sa, .inl (cI, 16, .inl s149)), (gx, .inl (cJ, 16, .inr (.inl fgx))), (gy, .inl (cJ, 16, .inr (.inl fgy))), (tx, .inl (cJ, 16, .inr (.inl ftx))), (tz, .inl (cJ, 16, .inr (.inl fty)))] H := hP
      have hD : va_D A [(ma, .inl (cJ, 12, .inr (.inl m124))), (o, .inr (4, [.int cd, .ref wa, .ref sa, .ref ma, .ref tl, .ref gx, .ref gy, .ref tx, .ref tz, .int ln, .ref kx, .ref ky, .int cn, .int ah])), (wa, .inl (cJ, 96, .inr (.inl g149))), (sa, .inl (cI, 16, .inl s149)), (gx, .inl (cJ, 16, .inr (.inl fgx))), (gy, .inl (cJ, 16, .inr (.inl fgy))), (tx, .inl (cJ, 16, .inr (.inl ftx))), (tz, .inl (cJ, 16, .inr (.inl fty)))] := hD
      refine lv_goto (tgt := 156) hx hb dX4_meet_152 (by decide) ?_
      exact hret hP hD hS rfl (g149, s149, m124) (⟨by unfold crs; rw [if_pos hd0, if_pos hs0]; exact hov.1, fun q => by unfold crX crY crD; rw [if_pos hd0, if_pos hd0, if_pos hd0]; exact hov.2.1 q, hov.2.2⟩) [1, 2, 3, 0, 4, 5, 6, 7] rfl (by decide) dX4_meet_156 (Nat.le_of_ble_eq_true rfl) (Nat.le_of_ble_eq_true rfl)
