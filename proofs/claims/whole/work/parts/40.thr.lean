theorem nd_J9_floorDiv_f86c9 : yJ9_floorDiv_f86c9.cls ≠ "java/lang/invoke/MethodHandle" ∧ yJ9_floorDiv_f86c9.cls ≠ "java/lang/invoke/VarHandle" ∧ (parseMethodDescriptor yJ9_floorDiv_f86c9.desc).map (fun d => d.parameters.length) = some 2 := by decide +kernel
theorem nd_J9_floorMod_f86c9 : yJ9_floorMod_f86c9.cls ≠ "java/lang/invoke/MethodHandle" ∧ yJ9_floorMod_f86c9.cls ≠ "java/lang/invoke/VarHandle" ∧ (parseMethodDescriptor yJ9_floorMod_f86c9.desc).map (fun d => d.parameters.length) = some 2 := by decide +kernel

set_option maxHeartbeats 4000000 in
set_option maxRecDepth 100000 in
theorem c_X3_limbOf (l : Launch) (D : va_G) (cZ cI cJ : ClassId) (hl9 : l.stackTraces = false) (nu : Nat) (hi lo : Int64) (limb : Int32) : Tl l D cZ cI cJ yX3_limbOf cX3_limbOf 2 (some .long) { frames := 6, cells := 1, slots := 6, locals := 82 } [.ref nu, .int limb] [(nu, .inr (2, [.long hi, .long lo]))] IOB (S := Unit) (SX := Unit) (fun z _ => ¬ lbad (wv hi lo) limb ∧ z = lval (wv hi lo) limb) (fun _ => [(nu, .inr (2, [.long hi, .long lo]))]) (fun _ => lbad (wv hi lo) limb) (fun _ => [(nu, .inr (2, [.long hi, .long lo]))]) := by
  refine Tl.of hl9 (by decide +kernel) (by decide) ?_
  intro p e s m args below meth c A Q hB hret hthr hxo hP hD hA
  obtain ⟨⟨hx, hb, hr, hlocks, hml, hown, hnm, hTB, hK⟩, hTX, hX⟩ := hB
  have hown : s.vm.findClass RX3 = some m.cls := hown
  have hS : va_S A s.heap s.heap [] := va_S.rf
  have hnl : nl (wv hi lo).natAbs ≤ 4 ∧ 1 ≤ nl (wv hi lo).natAbs ∧ (nI (nl (wv hi lo).natAbs)).toInt = (nl (wv hi lo).natAbs : Int) := by
    have h4 : nl (wv hi lo).natAbs ≤ 4 ∧ 1 ≤ nl (wv hi lo).natAbs := by unfold nl; split <;> (try split) <;> (try split) <;> omega
    exact ⟨h4.1, h4.2, nI_toInt (by omega)⟩
  have hl := lv_entry ([.ref nu, .int limb]) (n := 2) (Nat.le_of_ble_eq_true rfl)
  rw [lg_entry_eq]
  generalize (lg_sl ([.ref nu, .int limb]) ++ List.replicate (2 - (lg_sl ([.ref nu, .int limb])).length) Slot.unset).toArray = ls at hl ⊢
  have hl : lv_has ls 2 [(0, .ref nu), (1, .int limb)] := hl
  refine lv_iload_n hx hb dX3_limbOf_0 rfl (lv_at hl 1 rfl) ?_
  refine lv_iconst (v := (-1)) hx hb dX3_limbOf_1 (by decide) ?_
  refine lv_icmp_ne (tgt := 11) hx hb dX3_limbOf_2 (by decide) (fun c_2 => ?_) (fun c_2 => ?_)
  · have c_2 : limb.toInt ≠ (-1 : Int) := ic_ne c_2
    refine lv_iload_n hx hb dX3_limbOf_11 rfl (lv_at hl 1 rfl) ?_
    refine lv_if_lt (tgt := 23) hx hb dX3_limbOf_12 (by decide) (fun c_12 => ?_) (fun c_12 => ?_)
    · have c_12 : limb.toInt < (0 : Int) := ic_lt c_12
      exact hthr (text := "no such limb") hP hD hS () (by omega) [0] rfl (by decide) hown (hTB _ tb_16_12) (hTB _ tb_16_13) hX.2.2.2.1 (at_I hTX hX.2.2.1) ot_I (hl.1.trans hml.symm) dX3_limbOf_23 dX3_limbOf_26 dX3_limbOf_27 dX3_limbOf_29 dX3_limbOf_32 (Nat.le_of_ble_eq_true rfl) (Nat.le_of_ble_eq_true rfl) (Nat.le_of_ble_eq_true rfl) (Nat.le_of_ble_eq_true rfl)
    · have c_12 : (0 : Int) ≤ limb.toInt := ic_nlt c_12
      refine lv_iload_n hx hb dX3_limbOf_15 rfl (lv_at hl 1 rfl) ?_
      refine lv_aload_n hx hb dX3_limbOf_16 rfl (lv_at hl 0 rfl) ?_
      refine vp_callSi (va_runV (As := []) (rest := [.int limb]) ⟨hx, hb, hml, hown, hTB⟩ (c_X2_limbs l D cZ cI cJ nu hi lo) (cw_V hTB tb_16_17 tb_2_9 tb_16_14 tb_16_15 tb_16_16 nd_X2_limbs rfl rfl ⟨Nat.le_of_ble_eq_true rfl, Nat.le_of_ble_eq_true rfl⟩) (prr_V (q0 := 0) hK hP [0] rfl rfl rfl) rfl rfl hl.1 rfl (lv_room (Nat.le_of_ble_eq_true rfl)) dX3_limbOf_17 ⟨Nat.le_of_ble_eq_true rfl, Nat.le_of_ble_eq_true rfl⟩).run (fun r17 hc17 => ?_)
      subst hc17
      refine lv_icmp_lt (tgt := 33) hx hb dX3_limbOf_20 (by decide) (fun c_20 => ?_) (fun c_20 => ?_)
      · have c_20 : limb.toInt < (nI (nl (wv hi lo).natAbs)).toInt := ic_lt c_20
        have hl4 : limb.toNatClampNeg < 4 := cl_lt (by omega) (by omega)
        have hlk : limb = nI limb.toNatClampNeg := by
          obtain ⟨j, h1, h2⟩ := vp_in_of (x := limb) (n := 6) (vp_in_iff.mpr ⟨by omega, by omega⟩) (by decide)
          rw [h2, nI_clamp (by omega)]
        refine lv_aload_n hx hb dX3_limbOf_33 rfl (lv_at hl 0 rfl) ?_
        refine lv_iload_n hx hb dX3_limbOf_34 rfl (lv_at hl 1 rfl) ?_
        refine vp_callSl (va_runV (As := [.int limb]) (rest := []) ⟨hx, hb, hml, hown, hTB⟩ (c_X2_limbOfAmount l D cZ cI cJ nu hi lo limb limb.toNatClampNeg hl4 hlk) (cw_V hTB tb_17_5 tb_2_9 tb_17_2 tb_17_3 tb_17_4 nd_X2_limbOfAmount rfl rfl ⟨Nat.le_of_ble_eq_true rfl, Nat.le_of_ble_eq_true rfl⟩) (prr_V (q0 := 0) hK hP [0] rfl rfl rfl) rfl rfl hl.1 rfl (lv_room (Nat.le_of_ble_eq_true rfl)) dX3_limbOf_35 ⟨Nat.le_of_ble_eq_true rfl, Nat.le_of_ble_eq_true rfl⟩).run (fun r35 hc35 => ?_)
        exact hret hP hD hS () (⟨by omega, by unfold lval; rw [if_neg (fun q => c_2 (by rw [q]; rfl)), ← lN_un r35, hc35]⟩) [0] rfl (by decide) dX3_limbOf_38 (Nat.le_of_ble_eq_true rfl) (Nat.le_of_ble_eq_true rfl)
      · have c_20 : (nI (nl (wv hi lo).natAbs)).toInt ≤ limb.toInt := ic_nlt c_20
        exact hthr (text := "no such limb") hP hD hS () (by omega) [0] rfl (by decide) hown (hTB _ tb_16_12) (hTB _ tb_16_13) hX.2.2.2.1 (at_I hTX hX.2.2.1) ot_I (hl.1.trans hml.symm) dX3_limbOf_23 dX3_limbOf_26 dX3_limbOf_27 dX3_limbOf_29 dX3_limbOf_32 (Nat.le_of_ble_eq_true rfl) (Nat.le_of_ble_eq_true rfl) (Nat.le_of_ble_eq_true rfl) (Nat.le_of_ble_eq_true rfl)
  · have c_2 : limb.toInt = (-1 : Int) := ic_eq c_2
    refine lv_aload_n hx hb dX3_limbOf_5 rfl (lv_at hl 0 rfl) ?_
    refine vp_callSi (va_runV (As := []) (rest := []) ⟨hx, hb, hml, hown, hTB⟩ (c_X2_sign l D cZ cI cJ nu hi lo) (cw_V hTB tb_5_23 tb_2_9 tb_5_20 tb_5_21 tb_5_22 nd_X2_sign rfl rfl ⟨Nat.le_of_ble_eq_true rfl, Nat.le_of_ble_eq_true rfl⟩) (prr_V (q0 := 0) hK hP [0] rfl rfl rfl) rfl rfl hl.1 rfl (lv_room (Nat.le_of_ble_eq_true rfl)) dX3_limbOf_6 ⟨Nat.le_of_ble_eq_true rfl, Nat.le_of_ble_eq_true rfl⟩).run (fun r6 hc6 => ?_)
    subst hc6
    refine lv_i2l (v := (sg (wv hi lo)).toInt64) hx hb dX3_limbOf_9 rfl ?_
    exact hret hP hD hS () (⟨by omega, by unfold lval; rw [if_pos (i32_of (k := -1) (by show limb.toInt = -1; exact c_2))]⟩) [0] rfl (by decide) dX3_limbOf_10 (Nat.le_of_ble_eq_true rfl) (Nat.le_of_ble_eq_true rfl)

set_option maxHeartbeats 4000000 in
set_option maxRecDepth 100000 in
theorem c_X3_exact (l : Launch) (D : va_G) (cZ cI cJ : ClassId) (hl9 : l.stackTraces = false) (o tl sx sy wx wy kx ky fx fy dv sp p1 p2 : Nat) (cn ph : Int32) (xu xl yu yl : Nat) (uh ul vh vl ah al bh bl : Int64) (axis part limb : Int32) : Tl l D cZ cI cJ yX3_exact cX3_exact 5 (some .long) { frames := 7, cells := 1, slots := 6, locals := 103 } [.ref o, .int axis, .int part, .int limb] [(o, .inr (3, [.ref tl, .ref sx, .ref sy, .ref wx, .ref wy, .ref kx, .ref ky, .int cn, .int ph, .ref fx, .ref fy, .ref dv, .ref sp, .ref p1, .ref p2])), (fx, .inr (1, [.ref xu, .ref xl])), (fy, .inr (1, [.ref yu, .ref yl])), (xu, .inr (2, [.long uh, .long ul])), (xl, .inr (2, [.long vh, .long vl])), (yu, .inr (2, [.long ah, .long al])), (yl, .inr (2, [.long bh, .long bl]))] IOB (S := Unit) (SX := Unit) (fun z _ => (xok ph axis part → ¬ lbad (exZ axis part (wv uh ul) (wv vh vl) (wv ah al) (wv bh bl)) limb ∧ z = lval (exZ axis part (wv uh ul) (wv vh vl) (wv ah al) (wv bh bl)) limb) ∧ (¬ xok ph axis part → z = -4611686018427387904)) (fun _ => [(o, .inr (3, [.ref tl, .ref sx, .ref sy, .ref wx, .ref wy, .ref kx, .ref ky, .int cn, .int ph, .ref fx, .ref fy, .ref dv, .ref sp, .ref p1, .ref p2])), (fx, .inr (1, [.ref xu, .ref xl])), (fy, .inr (1, [.ref yu, .ref yl])), (xu, .inr (2, [.long uh, .long ul])), (xl, .inr (2, [.long vh, .long vl])), (yu, .inr (2, [.long ah, .long al])), (yl, .inr (2, [.long bh, .long bl]))]) (fun _ => xok ph axis part ∧ lbad (exZ axis part (wv uh ul) (wv vh vl) (wv ah al) (wv bh bl)) limb) (fun _ => [(o, .inr (3, [.ref tl, .ref sx, .ref sy, .ref wx, .ref wy, .ref kx, .ref ky, .int cn, .int ph, .ref fx, .ref fy, .ref dv, .ref sp, .ref p1, .ref p2])), (fx, .inr (1, [.ref xu, .ref xl])), (fy, .inr (1, [.ref yu, .ref yl])), (xu, .inr (2, [.long uh, .long ul])), (xl, .inr (2, [.long vh, .long vl])), (yu, .inr (2, [.long ah, .long al])), (yl, .inr (2, [.long bh, .long bl]))]) := by
  refine Tl.of hl9 (by decide +kernel) (by decide) ?_
  intro p e s m args below meth c A Q hB hret hthr hxo hP hD hA
  obtain ⟨⟨hx, hb, hr, hlocks, hml, hown, hnm, hTB, hK⟩, hTX, hX⟩ := hB
  have hown : s.vm.findClass RX3 = some m.cls := hown
  have hS : va_S A s.heap s.heap [] := va_S.rf
  have hl := lv_entry ([.ref o, .int axis, .int part, .int limb]) (n := 5) (Nat.le_of_ble_eq_true rfl)
  rw [lg_entry_eq]
  generalize (lg_sl ([.ref o, .int axis, .int part, .int limb]) ++ List.replicate (5 - (lg_sl ([.ref o, .int axis, .int part, .int limb])).length) Slot.unset).toArray = ls at hl ⊢
  have hl : lv_has ls 5 [(0, .ref o), (1, .int axis), (2, .int part), (3, .int limb)] := hl
  refine lv_aload_n hx hb dX3_exact_0 rfl (lv_at hl 0 rfl) ?_
  refine lv_iload_n hx hb dX3_exact_1 rfl (lv_at hl 1 rfl) ?_
  refine vp_callSi (va_runV (As := [.int axis]) (rest := []) ⟨hx, hb, hml, hown, hTB⟩ (c_X3_isAnswerable l D cZ cI cJ o tl sx sy wx wy kx ky fx fy dv sp p1 p2 cn ph axis) (cw_V hTB tb_15_2 tb_1_2 tb_14_23 tb_15_0 tb_15_1 nd_X3_isAnswerable rfl rfl ⟨Nat.le_of_ble_eq_true rfl, Nat.le_of_ble_eq_true rfl⟩) (prr_V (q0 := 0) hK hP [0] rfl rfl rfl) rfl rfl hl.1 rfl (lv_room (Nat.le_of_ble_eq_true rfl)) dX3_exact_2 ⟨Nat.le_of_ble_eq_true rfl, Nat.le_of_ble_eq_true rfl⟩).run (fun r2 hc2 => ?_)
  subst hc2
  refine lv_if_eq (tgt := 17) hx hb dX3_exact_5 (by decide) (fun c_5 => ?_) (fun c_5 => ?_)
  · have c_5 := bz_0 c_5
    refine lv_ldc2 (v := (-4611686018427387904)) hx hb hown (hTB _ tb_14_22) dX3_exact_17 ?_
    exact hret hP hD hS () (⟨fun q => absurd q (fun q => c_5 q.1), fun _ => rfl⟩) [0, 1, 2, 3, 4, 5, 6] rfl (by decide) dX3_exact_20 (Nat.le_of_ble_eq_true rfl) (Nat.le_of_ble_eq_true rfl)
  · have c_5 := bz_1 c_5
    refine lv_iload_n hx hb dX3_exact_8 rfl (lv_at hl 2 rfl) ?_
    refine lv_if_lt (tgt := 17) hx hb dX3_exact_9 (by decide) (fun c_9 => ?_) (fun c_9 => ?_)
    · have c_9 : part.toInt < (0 : Int) := ic_lt c_9
      refine lv_ldc2 (v := (-4611686018427387904)) hx hb hown (hTB _ tb_14_22) dX3_exact_17 ?_
      exact hret hP hD hS () (⟨fun q => absurd q (fun q => by rcases q.2 with z | z <;> (rw [z] at c_9; revert c_9; decide)), fun _ => rfl⟩) [0, 1, 2, 3, 4, 5, 6] rfl (by decide) dX3_exact_20 (Nat.le_of_ble_eq_true rfl) (Nat.le_of_ble_eq_true rfl)
    · have c_9 : (0 : Int) ≤ part.toInt := ic_nlt c_9
      refine lv_iload_n hx hb dX3_exact_12 rfl (lv_at hl 2 rfl) ?_
      refine lv_iconst (v := 1) hx hb dX3_exact_13 (by decide) ?_
      refine lv_icmp_le (tgt := 21) hx hb dX3_exact_14 (by decide) (fun c_14 => ?_) (fun c_14 => ?_)
      · have c_14 : part.toInt ≤ (1 : Int) := ic_le c_14
        refine lv_iload_n hx hb dX3_exact_21 rfl (lv_at hl 1 rfl) ?_
        refine lv_if_ne (tgt := 32) hx hb dX3_exact_22 (by decide) (fun c_22 => ?_) (fun c_22 => ?_)
        · have c_22 : axis.toInt ≠ (0 : Int) := ic_ne c_22
          refine lv_aload_n hx hb dX3_exact_32 rfl (lv_at hl 0 rfl) ?_
          refine va_get (D := D) (ci := 3) (v := .ref fy) (C := RX3) (T := TX3) (N := 15) hx hb hTB tb_X3 hown hK.1 hP 0 rfl rfl 10 (by decide) (hTB _ tb_2_2) (fun _ h9 => h9) rfl dX3_exact_33 ?_
          refine lv_astore (lv' := [(4, .ref fy), (0, .ref o), (1, .int axis), (2, .int part), (3, .int limb)]) hx hb dX3_exact_36 hl (by decide) rfl (fun ls hl => ?_)
          refine lv_iload_n hx hb dX3_exact_38 rfl (lv_at hl 3 rfl) ?_
          refine lv_if_ne (tgt := 50) hx hb dX3_exact_39 (by decide) (fun c_39 => ?_) (fun c_39 => ?_)
          · have c_39 : part.toInt ≠ (0 : Int) := ic_ne c_39
            have ez : exZ axis part (wv uh ul) (wv vh vl) (wv ah al) (wv bh bl) = wv bh bl := by unfold exZ; rw [if_neg (i32_ne (k := 0) c_22), if_neg (i32_ne (k := 0) c_39)]
            have hok : xok ph axis part := ⟨c_5, by exact Or.inr (i32_of (k := 1) (by show part.toInt = 1; omega))⟩
            refine lv_aload hx hb dX3_exact_50 (lv_at hl 0 rfl) ?_
            refine va_getN (D := D) (ci := 1) (v := .ref yl) (C := RX1) (T := TX1) (N := 2) hx hb hTB tb_X1 hown hK.1 hP 2 rfl rfl 1 (by decide) (va_Nw.use rfl (hK.2 _ nw_7)) (fun _ h9 => h9) rfl dX3_exact_52 ?_
            refine lv_iload_n hx hb dX3_exact_55 rfl (lv_at hl 4 rfl) ?_
            refine fin_xl (wr := [(o, .inr (3, [.ref tl, .ref sx, .ref sy, .ref wx, .ref wy, .ref kx, .ref ky, .int cn, .int ph, .ref fx, .ref fy, .ref dv, .ref sp, .ref p1, .ref p2])), (fx, .inr (1, [.ref xu, .ref xl])), (fy, .inr (1, [.ref yu, .ref yl])), (xu, .inr (2, [.long uh, .long ul])), (xl, .inr (2, [.long vh, .long vl])), (yu, .inr (2, [.long ah, .long al]))]) (vx_runS (As := [.ref yl, .int limb]) (rest := []) ⟨hx, hb, hml, hown, hTB⟩ (c_X3_limbOf l D cZ cI cJ hl9 yl bh bl limb _) (cwx_S hTX tb_16_11 tb_1_2 tb_16_9 tb_16_10 nd_X3_limbOf rfl rfl ⟨Nat.le_of_ble_eq_true rfl, Nat.le_of_ble_eq_true rfl⟩) (prx_S hK hX hP hD hS hA [6] rfl rfl) rfl rfl hl.1 rfl (lv_room (Nat.le_of_ble_eq_true rfl)) dX3_exact_56 ⟨Nat.le_of_ble_eq_true rfl, Nat.le_of_ble_eq_true rfl⟩) hP hD hS hA [6] [0, 1, 2, 3, 4, 5] rfl rfl rfl (by decide) (fun ux qx cx H locs hcx hP hD hS hqx hvx hclx => ?_) (fun r56 u56 H locs hc56 hP hD hS => ?_)
            · have hP : va_P D vwCl [(o, .inr (3, [.ref tl, .ref sx, .ref sy, .ref wx, .ref wy, .ref kx, .ref ky, .int cn, .int ph, .ref fx, .ref fy, .ref dv, .ref sp, .ref p1, .ref p2])), (fx, .inr (1, [.ref xu, .ref xl])), (fy, .inr (1, [.ref yu, .ref yl])), (xu, .inr (2, [.long uh, .long ul])), (xl, .inr (2, [.long vh, .long vl])), (yu, .inr (2, [.long ah, .long al])), (yl, .inr (2, [.long bh, .long bl]))] H := hP
              have hD : va_D A [(o, .inr (3, [.ref tl, .ref sx, .ref sy, .ref wx, .ref wy, .ref kx, .ref ky, .int cn, .int ph, .ref fx, .ref fy, .ref dv, .ref sp, .ref p1, .ref p2])), (fx, .inr (1, [.ref xu, .ref xl])), (fy, .inr (1, [.ref yu, .ref yl])), (xu, .inr (2, [.long uh, .long ul])), (xl, .inr (2, [.long vh, .long vl])), (yu, .inr (2, [.long ah, .long al])), (yl, .inr (2, [.long bh, .long bl]))] := hD
              exact hxo hP hD hS () (⟨hok, by rw [ez]; exact hcx⟩) [0, 1, 2, 3, 4, 5, 6] rfl (by decide) hqx hvx hclx (Nat.le_of_ble_eq_true rfl) (Nat.le_of_ble_eq_true rfl)
            have hP : va_P D vwCl [(o, .inr (3, [.ref tl, .ref sx, .ref sy, .ref wx, .ref wy, .ref kx, .ref ky, .int cn, .int ph, .ref fx, .ref fy, .ref dv, .ref sp, .ref p1, .ref p2])), (fx, .inr (1, [.ref xu, .ref xl])), (fy, .inr (1, [.ref yu, .ref yl])), (xu, .inr (2, [.long uh, .long ul])), (xl, .inr (2, [.long vh, .long vl])), (yu, .inr (2, [.long ah, .long al])), (yl, .inr (2, [.long bh, .long bl]))] H := hP
            have hD : va_D A [(o, .inr (3, [.ref tl, .ref sx, .ref sy, .ref wx, .ref wy, .ref kx, .ref ky, .int cn, .int ph, .ref fx, .ref fy, .ref dv, .ref sp, .ref p1, .ref p2])), (fx, .inr (1, [.ref xu, .ref xl])), (fy, .inr (1, [.ref yu, .ref yl])), (xu, .inr (2, [.long uh, .long ul])), (xl, .inr (2, [.long vh, .long vl])), (yu, .inr (2, [.long ah, .long al])), (yl, .inr (2, [.long bh, .long bl]))] := hD
            refine W.widen (k := 1) (n := 6) (by decide) (by decide) ?_
            exact hret hP hD hS () (⟨fun _ => by rw [ez]; exact hc56, fun q => absurd hok q⟩) [0, 1, 2, 3, 4, 5, 6] rfl (by decide) dX3_exact_59 (Nat.le_of_ble_eq_true rfl) (Nat.le_of_ble_eq_true rfl)
          · have c_39 : part.toInt = (0 : Int) := ic_eq c_39
            have ez : exZ axis part (wv uh ul) (wv vh vl) (wv ah al) (wv bh bl) = wv ah al := by unfold exZ; rw [if_neg (i32_ne (k := 0) c_22), if_pos (i32_of (k := 0) c_39)]
            have hok : xok ph axis part := ⟨c_5, by exact Or.inl (i32_of (k := 0) c_39)⟩
            refine lv_aload hx hb dX3_exact_42 (lv_at hl 0 rfl) ?_
            refine va_getN (D := D) (ci := 1) (v := .ref yu) (C := RX1) (T := TX1) (N := 2) hx hb hTB tb_X1 hown hK.1 hP 2 rfl rfl 0 (by decide) (va_Nw.use rfl (hK.2 _ nw_6)) (fun _ h9 => h9) rfl dX3_exact_44 ?_
            refine lv_goto (tgt := 55) hx hb dX3_exact_47 (by decide) ?_
            refine lv_iload_n hx hb dX3_exact_55 rfl (lv_at hl 4 rfl) ?_
            refine fin_xl (wr := [(o, .inr (3, [.ref tl, .ref sx, .ref sy, .ref wx, .ref wy, .ref kx, .ref ky, .int cn, .int ph, .ref fx, .ref fy, .ref dv, .ref sp, .ref p1, .ref p2])), (fx, .inr (1, [.ref xu, .ref xl])), (fy, .inr (1, [.ref yu, .ref yl])), (xu, .inr (2, [.long uh, .long ul])), (xl, .inr (2, [.long vh, .long vl])), (yl, .inr (2, [.long bh, .long bl]))]) (vx_runS (As := [.ref yu, .int limb]) (rest := []) ⟨hx, hb, hml, hown, hTB⟩ (c_X3_limbOf l D cZ cI cJ hl9 yu ah al limb _) (cwx_S hTX tb_16_11 tb_1_2 tb_16_9 tb_16_10 nd_X3_limbOf rfl rfl ⟨Nat.le_of_ble_eq_true rfl, Nat.le_of_ble_eq_true rfl⟩) (prx_S hK hX hP hD hS hA [5] rfl rfl) rfl rfl hl.1 rfl (lv_room (Nat.le_of_ble_eq_true rfl)) dX3_exact_56 ⟨Nat.le_of_ble_eq_true rfl, Nat.le_of_ble_eq_true rfl⟩) hP hD hS hA [5] [0, 1, 2, 3, 4, 6] rfl rfl rfl (by decide) (fun ux qx cx H locs hcx hP hD hS hqx hvx hclx => ?_) (fun r56 u56 H locs hc56 hP hD hS => ?_)
            · have hP : va_P D vwCl [(o, .inr (3, [.ref tl, .ref sx, .ref sy, .ref wx, .ref wy, .ref kx, .ref ky, .int cn, .int ph, .ref fx, .ref fy, .ref dv, .ref sp, .ref p1, .ref p2])), (fx, .inr (1, [.ref xu, .ref xl])), (fy, .inr (1, [.ref yu, .ref yl])), (xu, .inr (2, [.long uh, .long ul])), (xl, .inr (2, [.long vh, .long vl])), (yl, .inr (2, [.long bh, .long bl])), (yu, .inr (2, [.long ah, .long al]))] H := hP
              have hD : va_D A [(o, .inr (3, [.ref tl, .ref sx, .ref sy, .ref wx, .ref wy, .ref kx, .ref ky, .int cn, .int ph, .ref fx, .ref fy, .ref dv, .ref sp, .ref p1, .ref p2])), (fx, .inr (1, [.ref xu, .ref xl])), (fy, .inr (1, [.ref yu, .ref yl])), (xu, .inr (2, [.long uh, .long ul])), (xl, .inr (2, [.long vh, .long vl])), (yl, .inr (2, [.long bh, .long bl])), (yu, .inr (2, [.long ah, .long al]))] := hD
              exact hxo hP hD hS () (⟨hok, by rw [ez]; exact hcx⟩) [0, 1, 2, 3, 4, 6, 5] rfl (by decide) hqx hvx hclx (Nat.le_of_ble_eq_true rfl) (Nat.le_of_ble_eq_true rfl)
            have hP : va_P D vwCl [(o, .inr (3, [.ref tl, .ref sx, .ref sy, .ref wx, .ref wy, .ref kx, .ref ky, .int cn, .int ph, .ref fx, .ref fy, .ref dv, .ref sp, .ref p1, .ref p2])), (fx, .inr (1, [.ref xu, .ref xl])), (fy, .inr (1, [.ref yu, .ref yl])), (xu, .inr (2, [.long uh, .long ul])), (xl, .inr (2, [.long vh, .long vl])), (yl, .inr (2, [.long bh, .long bl])), (yu, .inr (2, [.long ah, .long al]))] H := hP
            have hD : va_D A [(o, .inr (3, [.ref tl, .ref sx, .ref sy, .ref wx, .ref wy, .ref kx, .ref ky, .int cn, .int ph, .ref fx, .ref fy, .ref dv, .ref sp, .ref p1, .ref p2])), (fx, .inr (1, [.ref xu, .ref xl])), (fy, .inr (1, [.ref yu, .ref yl])), (xu, .inr (2, [.long uh, .long ul])), (xl, .inr (2, [.long vh, .long vl])), (yl, .inr (2, [.long bh, .long bl])), (yu, .inr (2, [.long ah, .long al]))] := hD
            refine W.widen (k := 1) (n := 6) (by decide) (by decide) ?_
            exact hret hP hD hS () (⟨fun _ => by rw [ez]; exact hc56, fun q => absurd hok q⟩) [0, 1, 2, 3, 4, 6, 5] rfl (by decide) dX3_exact_59 (Nat.le_of_ble_eq_true rfl) (Nat.le_of_ble_eq_true rfl)
        · have c_22 : axis.toInt = (0 : Int) := ic_eq c_22
          refine lv_aload_n hx hb dX3_exact_25 rfl (lv_at hl 0 rfl) ?_
          refine va_get (D := D) (ci := 3) (v := .ref fx) (C := RX3) (T := TX3) (N := 15) hx hb hTB tb_X3 hown hK.1 hP 0 rfl rfl 9 (by decide) (hTB _ tb_2_1) (fun _ h9 => h9) rfl dX3_exact_26 ?_
          refine lv_goto (tgt := 36) hx hb dX3_exact_29 (by decide) ?_
          refine lv_astore (lv' := [(4, .ref fx), (0, .ref o), (1, .int axis), (2, .int part), (3, .int limb)]) hx hb dX3_exact_36 hl (by decide) rfl (fun ls hl => ?_)
          refine lv_iload_n hx hb dX3_exact_38 rfl (lv_at hl 3 rfl) ?_
          refine lv_if_ne (tgt := 50) hx hb dX3_exact_39 (by decide) (fun c_39 => ?_) (fun c_39 => ?_)
          · have c_39 : part.toInt ≠ (0 : Int) := ic_ne c_39
            have ez : exZ axis part (wv uh ul) (wv vh vl) (wv ah al) (wv bh bl) = wv vh vl := by unfold exZ; rw [if_pos (i32_of (k := 0) c_22), if_neg (i32_ne (k := 0) c_39)]
            have hok : xok ph axis part := ⟨c_5, by exact Or.inr (i32_of (k := 1) (by show part.toInt = 1; omega))⟩
            refine lv_aload hx hb dX3_exact_50 (lv_at hl 0 rfl) ?_
            refine va_getN (D := D) (ci := 1) (v := .ref xl) (C := RX1) (T := TX1) (N := 2) hx hb hTB tb_X1 hown hK.1 hP 1 rfl rfl 1 (by decide) (va_Nw.use rfl (hK.2 _ nw_7)) (fun _ h9 => h9) rfl dX3_exact_52 ?_
            refine lv_iload_n hx hb dX3_exact_55 rfl (lv_at hl 4 rfl) ?_
            refine fin_xl (wr := [(o, .inr (3, [.ref tl, .ref sx, .ref sy, .ref wx, .ref wy, .ref kx, .ref ky, .int cn, .int ph, .ref fx, .ref fy, .ref dv, .ref sp, .ref p1, .ref p2])), (fx, .inr (1, [.ref xu, .ref xl])), (fy, .inr (1, [.ref yu, .ref yl])), (xu, .inr (2, [.long uh, .long ul])), (yu, .inr (2, [.long ah, .long al])), (yl, .inr (2, [.long bh, .long bl]))]) (vx_runS (As := [.ref xl, .int limb]) (rest := []) ⟨hx, hb, hml, hown, hTB⟩ (c_X3_limbOf l D cZ cI cJ hl9 xl vh vl limb _) (cwx_S hTX tb_16_11 tb_1_2 tb_16_9 tb_16_10 nd_X3_limbOf rfl rfl ⟨Nat.le_of_ble_eq_true rfl, Nat.le_of_ble_eq_true rfl⟩) (prx_S hK hX hP hD hS hA [4] rfl rfl) rfl rfl hl.1 rfl (lv_room (Nat.le_of_ble_eq_true rfl)) dX3_exact_56 ⟨Nat.le_of_ble_eq_true rfl, Nat.le_of_ble_eq_true rfl⟩) hP hD hS hA [4] [0, 1, 2, 3, 5, 6] rfl rfl rfl (by decide) (fun ux qx cx H locs hcx hP hD hS hqx hvx hclx => ?_) (fun r56 u56 H locs hc56 hP hD hS => ?_)
            · have hP : va_P D vwCl [(o, .inr (3, [.ref tl, .ref sx, .ref sy, .ref wx, .ref wy, .ref kx, .ref ky, .int cn, .int ph, .ref fx, .ref fy, .ref dv, .ref sp, .ref p1, .ref p2])), (fx, .inr (1, [.ref xu, .ref xl])), (fy, .inr (1, [.ref yu, .ref yl])), (xu, .inr (2, [.long uh, .long ul])), (yu, .inr (2, [.long ah, .long al])), (yl, .inr (2, [.long bh, .long bl])), (xl, .inr (2, [.long vh, .long vl]))] H := hP
              have hD : va_D A [(o, .inr (3, [.ref tl, .ref sx, .ref sy, .ref wx, .ref wy, .ref kx, .ref ky, .int cn, .int ph, .ref fx, .ref fy, .ref dv, .ref sp, .ref p1, .ref p2])), (fx, .inr (1, [.ref xu, .ref xl])), (fy, .inr (1, [.ref yu, .ref yl])), (xu, .inr (2, [.long uh, .long ul])), (yu, .inr (2, [.long ah, .long al])), (yl, .inr (2, [.long bh, .long bl])), (xl, .inr (2, [.long vh, .long vl]))] := hD
              exact hxo hP hD hS () (⟨hok, by rw [ez]; exact hcx⟩) [0, 1, 2, 3, 6, 4, 5] rfl (by decide) hqx hvx hclx (Nat.le_of_ble_eq_true rfl) (Nat.le_of_ble_eq_true rfl)
            have hP : va_P D vwCl [(o, .inr (3, [.ref tl, .ref sx, .ref sy, .ref wx, .ref wy, .ref kx, .ref ky, .int cn, .int ph, .ref fx, .ref fy, .ref dv, .ref sp, .ref p1, .ref p2])), (fx, .inr (1, [.ref xu, .ref xl])), (fy, .inr (1, [.ref yu, .ref yl])), (xu, .inr (2, [.long uh, .long ul])), (yu, .inr (2, [.long ah, .long al])), (yl, .inr (2, [.long bh, .long bl])), (xl, .inr (2, [.long vh, .long vl]))] H := hP
            have hD : va_D A [(o, .inr (3, [.ref tl, .ref sx, .ref sy, .ref wx, .ref wy, .ref kx, .ref ky, .int cn, .int ph, .ref fx, .ref fy, .ref dv, .ref sp, .ref p1, .ref p2])), (fx, .inr (1, [.ref xu, .ref xl])), (fy, .inr (1, [.ref yu, .ref yl])), (xu, .inr (2, [.long uh, .long ul])), (yu, .inr (2, [.long ah, .long al])), (yl, .inr (2, [.long bh, .long bl])), (xl, .inr (2, [.long vh, .long vl]))] := hD
            refine W.widen (k := 1) (n := 6) (by decide) (by decide) ?_
            exact hret hP hD hS () (⟨fun _ => by rw [ez]; exact hc56, fun q => absurd hok q⟩) [0, 1, 2, 3, 6, 4, 5] rfl (by decide) dX3_exact_59 (Nat.le_of_ble_eq_true rfl) (Nat.le_of_ble_eq_true rfl)
          · have c_39 : part.toInt = (0 : Int) := ic_eq c_39
            have ez : exZ axis part (wv uh ul) (wv vh vl) (wv ah al) (wv bh bl) = wv uh ul := by unfold exZ; rw [if_pos (i32_of (k := 0) c_22), if_pos (i32_of (k := 0) c_39)]
            have hok : xok ph axis part := ⟨c_5, by exact Or.inl (i32_of (k := 0) c_39)⟩
            refine lv_aload hx hb dX3_exact_42 (lv_at hl 0 rfl) ?_
            refine va_getN (D := D) (ci := 1) (v := .ref xu) (C := RX1) (T := TX1) (N := 2) hx hb hTB tb_X1 hown hK.1 hP 1 rfl rfl 0 (by decide) (va_Nw.use rfl (hK.2 _ nw_6)) (fun _ h9 => h9) rfl dX3_exact_44 ?_
            refine lv_goto (tgt := 55) hx hb dX3_exact_47 (by decide) ?_
            refine lv_iload_n hx hb dX3_exact_55 rfl (lv_at hl 4 rfl) ?_
            refine fin_xl (wr := [(o, .inr (3, [.ref tl, .ref sx, .ref sy, .ref wx, .ref wy, .ref kx, .ref ky, .int cn, .int ph, .ref fx, .ref fy, .ref dv, .ref sp, .ref p1, .ref p2])), (fx, .inr (1, [.ref xu, .ref xl])), (fy, .inr (1, [.ref yu, .ref yl])), (xl, .inr (2, [.long vh, .long vl])), (yu, .inr (2, [.long ah, .long al])), (yl, .inr (2, [.long bh, .long bl]))]) (vx_runS (As := [.ref xu, .int limb]) (rest := []) ⟨hx, hb, hml, hown, hTB⟩ (c_X3_limbOf l D cZ cI cJ hl9 xu uh ul limb _) (cwx_S hTX tb_16_11 tb_1_2 tb_16_9 tb_16_10 nd_X3_limbOf rfl rfl ⟨Nat.le_of_ble_eq_true rfl, Nat.le_of_ble_eq_true rfl⟩) (prx_S hK hX hP hD hS hA [3] rfl rfl) rfl rfl hl.1 rfl (lv_room (Nat.le_of_ble_eq_true rfl)) dX3_exact_56 ⟨Nat.le_of_ble_eq_true rfl, Nat.le_of_ble_eq_true rfl⟩) hP hD hS hA [3] [0, 1, 2, 4, 5, 6] rfl rfl rfl (by decide) (fun ux qx cx H locs hcx hP hD hS hqx hvx hclx => ?_) (fun r56 u56 H locs hc56 hP hD hS => ?_)
            · have hP : va_P D vwCl [(o, .inr (3, [.ref tl, .ref sx, .ref sy, .ref wx, .ref wy, .ref kx, .ref ky, .int cn, .int ph, .ref fx, .ref fy, .ref dv, .ref sp, .ref p1, .ref p2])), (fx, .inr (1, [.ref xu, .ref xl])), (fy, .inr (1, [.ref yu, .ref yl])), (xl, .inr (2, [.long vh, .long vl])), (yu, .inr (2, [.long ah, .long al])), (yl, .inr (2, [.long bh, .long bl])), (xu, .inr (2, [.long uh, .long ul]))] H := hP
              have hD : va_D A [(o, .inr (3, [.ref tl, .ref sx, .ref sy, .ref wx, .ref wy, .ref kx, .ref ky, .int cn, .int ph, .ref fx, .ref fy, .ref dv, .ref sp, .ref p1, .ref p2])), (fx, .inr (1, [.ref xu, .ref xl])), (fy, .inr (1, [.ref yu, .ref yl])), (xl, .inr (2, [.long vh, .long vl])), (yu, .inr (2, [.long ah, .long al])), (yl, .inr (2, [.long bh, .long bl])), (xu, .inr (2, [.long uh, .long ul]))] := hD
              exact hxo hP hD hS () (⟨hok, by rw [ez]; exact hcx⟩) [0, 1, 2, 6, 3, 4, 5] rfl (by decide) hqx hvx hclx (Nat.le_of_ble_eq_true rfl) (Nat.le_of_ble_eq_true rfl)
            have hP : va_P D vwCl [(o, .inr (3, [.ref tl, .ref sx, .ref sy, .ref wx, .ref wy, .ref kx, .ref ky, .int cn, .int ph, .ref fx, .ref fy, .ref dv, .ref sp, .ref p1, .ref p2])), (fx, .inr (1, [.ref xu, .ref xl])), (fy, .inr (1, [.ref yu, .ref yl])), (xl, .inr (2, [.long vh, .long vl])), (yu, .inr (2, [.long ah, .long al])), (yl, .inr (2, [.long bh, .long bl])), (xu, .inr (2, [.long uh, .long ul]))] H := hP
            have hD : va_D A [(o, .inr (3, [.ref tl, .ref sx, .ref sy, .ref wx, .ref wy, .ref kx, .ref ky, .int cn, .int ph, .ref fx, .ref fy, .ref dv, .ref sp, .ref p1, .ref p2])), (fx, .inr (1, [.ref xu, .ref xl])), (fy, .inr (1, [.ref yu, .ref yl])), (xl, .inr (2, [.long vh, .long vl])), (yu, .inr (2, [.long ah, .long al])), (yl, .inr (2, [.long bh, .long bl])), (xu, .inr (2, [.long uh, .long ul]))] := hD
            refine W.widen (k := 1) (n := 6) (by decide) (by decide) ?_
            exact hret hP hD hS () (⟨fun _ => by rw [ez]; exact hc56, fun q => absurd hok q⟩) [0, 1, 2, 6, 3, 4, 5] rfl (by decide) dX3_exact_59 (Nat.le_of_ble_eq_true rfl) (Nat.le_of_ble_eq_true rfl)
      · have c_14 : (1 : Int) < part.toInt := ic_nle c_14
        refine lv_ldc2 (v := (-4611686018427387904)) hx hb hown (hTB _ tb_14_22) dX3_exact_17 ?_
        exact hret hP hD hS () (⟨fun q => absurd q (fun q => by rcases q.2 with z | z <;> (rw [z] at c_14; revert c_14; decide)), fun _ => rfl⟩) [0, 1, 2, 3, 4, 5, 6] rfl (by decide) dX3_exact_20 (Nat.le_of_ble_eq_true rfl) (Nat.le_of_ble_eq_true rfl)

set_option maxHeartbeats 4000000 in
set_option maxRecDepth 100000 in
theorem c_X3_area2 (l : Launch) (D : va_G) (cZ cI cJ : ClassId) (hl9 : l.stackTraces = false) (o tl sx sy wx wy kx ky fx fy dv sp p1 p2 : Nat) (ph : Int32) (n : Nat) (fkx fky : Nat → Int64) (sh sl : Int64) (limb : Int32) (hn64 : n ≤ 64) (hkb : ∀ k, k < n → ogr (fkx k) (fky k)) : Tl l D cZ cI cJ yX3_area2 cX3_area2 4 (some .long) { frames := 7, cells := 1, slots := 6, locals := 103 } [.ref o, .int limb] [(o, .inr (3, [.ref tl, .ref sx, .ref sy, .ref wx, .ref wy, .ref kx, .ref ky, .int (nI n), .int ph, .ref fx, .ref fy, .ref dv, .ref sp, .ref p1, .ref p2])), (kx, .inl (cJ, 64, .inr (.inl fkx))), (ky, .inl (cJ, 64, .inr (.inl fky))), (sp, .inr (2, [.long sh, .long sl]))] IOB (S := Int64 × Int64) (SX := Int64 × Int64) (fun z u => ¬ lbad (arS fkx fky n n) limb ∧ z = lval (arS fkx fky n n) limb) (fun u => [(o, .inr (3, [.ref tl, .ref sx, .ref sy, .ref wx, .ref wy, .ref kx, .ref ky, .int (nI n), .int ph, .ref fx, .ref fy, .ref dv, .ref sp, .ref p1, .ref p2])), (kx, .inl (cJ, 64, .inr (.inl fkx))), (ky, .inl (cJ, 64, .inr (.inl fky))), (sp, .inr (2, [.long u.1, .long u.2]))]) (fun _ => lbad (arS fkx fky n n) limb) (fun u => [(o, .inr (3, [.ref tl, .ref sx, .ref sy, .ref wx, .ref wy, .ref kx, .ref ky, .int (nI n), .int ph, .ref fx, .ref fy, .ref dv, .ref sp, .ref p1, .ref p2])), (kx, .inl (cJ, 64, .inr (.inl fkx))), (ky, .inl (cJ, 64, .inr (.inl fky))), (sp, .inr (2, [.long u.1, .long u.2]))]) := by
  refine Tl.of hl9 (by decide +kernel) (by decide) ?_
  intro p e s m args below meth c A Q hB hret hthr hxo hP hD hA
  obtain ⟨⟨hx, hb, hr, hlocks, hml, hown, hnm, hTB, hK⟩, hTX, hX⟩ := hB
  have hown : s.vm.findClass RX3 = some m.cls := hown
  have hS : va_S A s.heap s.heap [] := va_S.rf
  have hl := lv_entry ([.ref o, .int limb]) (n := 4) (Nat.le_of_ble_eq_true rfl)
  rw [lg_entry_eq]
  generalize (lg_sl ([.ref o, .int limb]) ++ List.replicate (4 - (lg_sl ([.ref o, .int limb])).length) Slot.unset).toArray = ls at hl ⊢
  have hl : lv_has ls 4 [(0, .ref o), (1, .int limb)] := hl
  refine lv_aload_n hx hb dX3_area2_0 rfl (lv_at hl 0 rfl) ?_
  refine va_get (D := D) (ci := 3) (v := .ref sp) (C := RX3) (T := TX3) (N := 15) hx hb hTB tb_X3 hown hK.1 hP 0 rfl rfl 12 (by decide) (hTB _ tb_2_10) (fun _ h9 => h9) rfl dX3_area2_1 ?_
  refine lv_lconst (v := 0) hx hb dX3_area2_4 (by decide) ?_
  refine fin_v (wr := [(o, .inr (3, [.ref tl, .ref sx, .ref sy, .ref wx, .ref wy, .ref kx, .ref ky, .int (nI n), .int ph, .ref fx, .ref fy, .ref dv, .ref sp, .ref p1, .ref p2])), (kx, .inl (cJ, 64, .inr (.inl fkx))), (ky, .inl (cJ, 64, .inr (.inl fky)))]) (va_runV (As := [.long 0]) (rest := []) ⟨hx, hb, hml, hown, hTB⟩ (c_X2_put l D cZ cI cJ sp sh sl 0 _) (cw_V hTB tb_4_20 tb_2_9 tb_18_14 tb_4_18 tb_4_19 nd_X2_put rfl rfl ⟨Nat.le_of_ble_eq_true rfl, Nat.le_of_ble_eq_true rfl⟩) (pre_V (q0 := 3) hK hP hD [3] rfl rfl rfl rfl) rfl rfl hl.1 rfl (lv_room (Nat.le_of_ble_eq_true rfl)) dX3_area2_5 ⟨Nat.le_of_ble_eq_true rfl, Nat.le_of_ble_eq_true rfl⟩) hP hD hS hA [3] [0, 1, 2] rfl rfl rfl (by decide) (fun u5 H locs hc5 hP hD hS => ?_)
  obtain ⟨w5h, w5l⟩ := u5
  try dsimp only at hc5
  have hP : va_P D vwCl [(o, .inr (3, [.ref tl, .ref sx, .ref sy, .ref wx, .ref wy, .ref kx, .ref ky, .int (nI n), .int ph, .ref fx, .ref fy, .ref dv, .ref sp, .ref p1, .ref p2])), (kx, .inl (cJ, 64, .inr (.inl fkx))), (ky, .inl (cJ, 64, .inr (.inl fky))), (sp, .inr (2, [.long w5h, .long w5l]))] H := hP
  have hD : va_D A [(o, .inr (3, [.ref tl, .ref sx, .ref sy, .ref wx, .ref wy, .ref kx, .ref ky, .int (nI n), .int ph, .ref fx, .ref fy, .ref dv, .ref sp, .ref p1, .ref p2])), (kx, .inl (cJ, 64, .inr (.inl fkx))), (ky, .inl (cJ, 64, .inr (.inl fky))), (sp, .inr (2, [.long w5h, .long w5l]))] := hD
  refine lv_iconst (v := 0) hx hb dX3_area2_8 (by decide) ?_
  refine lv_istore_n (lv' := [(2, .int 0), (0, .ref o), (1, .int limb)]) hx hb dX3_area2_9 rfl hl (by decide) rfl (fun ls hl => ?_)
  have L10 : ∀ (n10 : Nat) (i : Nat) (s2h s2l : Int64), (n < i + n10 ∧ i ≤ n) → (wv s2h s2l = arS fkx fky n i) → ∀ (H : Heap) (locs : List Loc), va_P D vwCl [(o, .inr (3, [.ref tl, .ref sx, .ref sy, .ref wx, .ref wy, .ref kx, .ref ky, .int (nI n), .int ph, .ref fx, .ref fy, .ref dv, .ref sp, .ref p1, .ref p2])), (kx, .inl (cJ, 64, .inr (.inl fkx))), (ky, .inl (cJ, 64, .inr (.inl fky))), (sp, .inr (2, [.long s2h, .long s2l]))] H → va_D A [(o, .inr (3, [.ref tl, .ref sx, .ref sy, .ref wx, .ref wy, .ref kx, .ref ky, .int (nI n), .int ph, .ref fx, .ref fy, .ref dv, .ref sp, .ref p1, .ref p2])), (kx, .inl (cJ, 64, .inr (.inl fkx))), (ky, .inl (cJ, 64, .inr (.inl fky))), (sp, .inr (2, [.long s2h, .long s2l]))] → va_S A s.heap H locs → ∀ (ls : Array Slot), lv_has ls 4 [(0, .ref o), (1, .int limb), (2, .int (nI i))] → W p l e { frames := 7, cells := 1, slots := 6, locals := 103 } s m args below meth c H locs 0 0 Q (F0 m 10 ls []) := by
    intro n10
    induction n10 with
    | zero =>
      intro i s2h s2l g1 g2
      exfalso; omega
    | succ n10 ih10 =>
      intro i s2h s2l g1 g2 H locs hP hD hS ls hl
      refine lv_iload_n hx hb dX3_area2_10 rfl (lv_at hl 2 rfl) ?_
      refine lv_aload_n hx hb dX3_area2_11 rfl (lv_at hl 0 rfl) ?_
      refine va_get (D := D) (ci := 3) (v := .int (nI n)) (C := RX3) (T := TX3) (N := 15) hx hb hTB tb_X3 hown hK.1 hP 0 rfl rfl 7 (by decide) (hTB _ tb_2_13) (fun _ h9 => h9) rfl dX3_area2_12 ?_
      refine lv_icmp_ge (tgt := 61) hx hb dX3_area2_15 (by decide) (fun c_15 => ?_) (fun c_15 => ?_)
      · have hin : i = n := by have := (nI_leI (a := n) (b := i) (by omega) (by omega)).mp c_15; omega
        refine lv_aload_n hx hb dX3_area2_61 rfl (lv_at hl 0 rfl) ?_
        refine va_get (D := D) (ci := 3) (v := .ref sp) (C := RX3) (T := TX3) (N := 15) hx hb hTB tb_X3 hown hK.1 hP 0 rfl rfl 12 (by decide) (hTB _ tb_2_10) (fun _ h9 => h9) rfl dX3_area2_62 ?_
        refine lv_iload_n hx hb dX3_area2_65 rfl (lv_at hl 1 rfl) ?_
        refine fin_xl (wr := [(o, .inr (3, [.ref tl, .ref sx, .ref sy, .ref wx, .ref wy, .ref kx, .ref ky, .int (nI n), .int ph, .ref fx, .ref fy, .ref dv, .ref sp, .ref p1, .ref p2])), (kx, .inl (cJ, 64, .inr (.inl fkx))), (ky, .inl (cJ, 64, .inr (.inl fky)))]) (vx_runS (As := [.ref sp, .int limb]) (rest := []) ⟨hx, hb, hml, hown, hTB⟩ (c_X3_limbOf l D cZ cI cJ hl9 sp s2h s2l limb _) (cwx_S hTX tb_16_11 tb_1_2 tb_16_9 tb_16_10 nd_X3_limbOf rfl rfl ⟨Nat.le_of_ble_eq_true rfl, Nat.le_of_ble_eq_true rfl⟩) (prx_S hK hX hP hD hS hA [3] rfl rfl) rfl rfl hl.1 rfl (lv_room (Nat.le_of_ble_eq_true rfl)) dX3_area2_66 ⟨Nat.le_of_ble_eq_true rfl, Nat.le_of_ble_eq_true rfl⟩) hP hD hS hA [3] [0, 1, 2] rfl rfl rfl (by decide) (fun ux qx cx H locs hcx hP hD hS hqx hvx hclx => ?_) (fun r66 u66 H locs hc66 hP hD hS => ?_)
        · have hP : va_P D vwCl [(o, .inr (3, [.ref tl, .ref sx, .ref sy, .ref wx, .ref wy, .ref kx, .ref ky, .int (nI n), .int ph, .ref fx, .ref fy, .ref dv, .ref sp, .ref p1, .ref p2])), (kx, .inl (cJ, 64, .inr (.inl fkx))), (ky, .inl (cJ, 64, .inr (.inl fky))), (sp, .inr (2, [.long s2h, .long s2l]))] H := hP
          have hD : va_D A [(o, .inr (3, [.ref tl, .ref sx, .ref sy, .ref wx, .ref wy, .ref kx, .ref ky, .int (nI n), .int ph, .ref fx, .ref fy, .ref dv, .ref sp, .ref p1, .ref p2])), (kx, .inl (cJ, 64, .inr (.inl fkx))), (ky, .inl (cJ, 64, .inr (.inl fky))), (sp, .inr (2, [.long s2h, .long s2l]))] := hD
          exact hxo hP hD hS (s2h, s2l) (by rw [hin] at g2; rw [← g2]; exact hcx) [0, 1, 2, 3] rfl (by decide) hqx hvx hclx (Nat.le_of_ble_eq_true rfl) (Nat.le_of_ble_eq_true rfl)
        have hP : va_P D vwCl [(o, .inr (3, [.ref tl, .ref sx, .ref sy, .ref wx, .ref wy, .ref kx, .ref ky, .int (nI n), .int ph, .ref fx, .ref fy, .ref dv, .ref sp, .ref p1, .ref p2])), (kx, .inl (cJ, 64, .inr (.inl fkx))), (ky, .inl (cJ, 64, .inr (.inl fky))), (sp, .inr (2, [.long s2h, .long s2l]))] H := hP
        have hD : va_D A [(o, .inr (3, [.ref tl, .ref sx, .ref sy, .ref wx, .ref wy, .ref kx, .ref ky, .int (nI n), .int ph, .ref fx, .ref fy, .ref dv, .ref sp, .ref p1, .ref p2])), (kx, .inl (cJ, 64, .inr (.inl fkx))), (ky, .inl (cJ, 64, .inr (.inl fky))), (sp, .inr (2, [.long s2h, .long s2l]))] := hD
        refine W.widen (k := 1) (n := 6) (by decide) (by decide) ?_
        exact hret hP hD hS (s2h, s2l) (by rw [hin] at g2; rw [← g2]; exact hc66) [0, 1, 2, 3] rfl (by decide) dX3_area2_69 (Nat.le_of_ble_eq_true rfl) (Nat.le_of_ble_eq_true rfl)
      · have hi : i < n := Nat.not_le.mp (fun q => c_15 ((nI_leI (by omega) (by omega)).mpr q))
        have hj := nxt_lt hi
        refine lv_aload_n hx hb dX3_area2_18 rfl (lv_at hl 0 rfl) ?_
        refine lv_iload_n hx hb dX3_area2_19 rfl (lv_at hl 2 rfl) ?_
        refine vp_callSi (va_runV (As := [.int (nI i)]) (rest := []) ⟨hx, hb, hml, hown, hTB⟩ (c_X3_cornerBehind l D cZ cI cJ o tl sx sy wx wy kx ky fx fy dv sp p1 p2 ph n i hn64 (by omega)) (cw_V hTB tb_18_18 tb_1_2 tb_18_15 tb_18_16 tb_18_17 nd_X3_cornerBehind rfl rfl ⟨Nat.le_of_ble_eq_true rfl, Nat.le_of_ble_eq_true rfl⟩) (prr_V (q0 := 0) hK hP [0] rfl rfl rfl) rfl rfl hl.1 rfl (lv_room (Nat.le_of_ble_eq_true rfl)) dX3_area2_20 ⟨Nat.le_of_ble_eq_true rfl, Nat.le_of_ble_eq_true rfl⟩).run (fun r20 hc20 => ?_)
        subst hc20
        refine lv_istore_n (lv' := [(3, .int (nI (nxt i n))), (0, .ref o), (1, .int limb), (2, .int (nI i))]) hx hb dX3_area2_23 rfl hl (by decide) rfl (fun ls hl => ?_)
        refine lv_aload_n hx hb dX3_area2_24 rfl (lv_at hl 1 rfl) ?_
        refine va_get (D := D) (ci := 3) (v := .ref sp) (C := RX3) (T := TX3) (N := 15) hx hb hTB tb_X3 hown hK.1 hP 0 rfl rfl 12 (by decide) (hTB _ tb_2_10) (fun _ h9 => h9) rfl dX3_area2_25 ?_
        refine lv_aload_n hx hb dX3_area2_28 rfl (lv_at hl 1 rfl) ?_
        refine va_get (D := D) (ci := 3) (v := .ref kx) (C := RX3) (T := TX3) (N := 15) hx hb hTB tb_X3 hown hK.1 hP 0 rfl rfl 5 (by decide) (hTB _ tb_1_20) (fun _ h9 => h9) rfl dX3_area2_29 ?_
        refine lv_iload_n hx hb dX3_area2_32 rfl (lv_at hl 3 rfl) ?_
        refine va_lald (f := fkx) hx hb hK.1 hP 1 2 rfl rfl (vp_in_nI (show i < 64 by omega) (by decide)) dX3_area2_33 ?_
        rw [show (nI i).toNatClampNeg = i from nI_clamp (by omega)]
        refine lv_aload_n hx hb dX3_area2_34 rfl (lv_at hl 1 rfl) ?_
        refine va_get (D := D) (ci := 3) (v := .ref ky) (C := RX3) (T := TX3) (N := 15) hx hb hTB tb_X3 hown hK.1 hP 0 rfl rfl 6 (by decide) (hTB _ tb_1_21) (fun _ h9 => h9) rfl dX3_area2_35 ?_
        refine lv_iload_n hx hb dX3_area2_38 rfl (lv_at hl 3 rfl) ?_
        refine va_lald (f := fky) hx hb hK.1 hP 2 2 rfl rfl (vp_in_nI (show i < 64 by omega) (by decide)) dX3_area2_39 ?_
        rw [show (nI i).toNatClampNeg = i from nI_clamp (by omega)]
        refine lv_aload_n hx hb dX3_area2_40 rfl (lv_at hl 1 rfl) ?_
        refine va_get (D := D) (ci := 3) (v := .ref kx) (C := RX3) (T := TX3) (N := 15) hx hb hTB tb_X3 hown hK.1 hP 0 rfl rfl 5 (by decide) (hTB _ tb_1_20) (fun _ h9 => h9) rfl dX3_area2_41 ?_
        refine lv_iload_n hx hb dX3_area2_44 rfl (lv_at hl 0 rfl) ?_
        refine va_lald (f := fkx) hx hb hK.1 hP 1 2 rfl rfl (vp_in_nI (show nxt i n < 64 by omega) (by decide)) dX3_area2_45 ?_
        rw [show (nI (nxt i n)).toNatClampNeg = nxt i n from nI_clamp (by omega)]
        refine lv_aload_n hx hb dX3_area2_46 rfl (lv_at hl 1 rfl) ?_
        refine va_get (D := D) (ci := 3) (v := .ref ky) (C := RX3) (T := TX3) (N := 15) hx hb hTB tb_X3 hown hK.1 hP 0 rfl rfl 6 (by decide) (hTB _ tb_1_21) (fun _ h9 => h9) rfl dX3_area2_47 ?_
        refine lv_iload_n hx hb dX3_area2_50 rfl (lv_at hl 0 rfl) ?_
        refine va_lald (f := fky) hx hb hK.1 hP 2 2 rfl rfl (vp_in_nI (show nxt i n < 64 by omega) (by decide)) dX3_area2_51 ?_
        rw [show (nI (nxt i n)).toNatClampNeg = nxt i n from nI_clamp (by omega)]
        refine fin_v (wr := [(o, .inr (3, [.ref tl, .ref sx, .ref sy, .ref wx, .ref wy, .ref kx, .ref ky, .int (nI n), .int ph, .ref fx, .ref fy, .ref dv, .ref sp, .ref p1, .ref p2])), (kx, .inl (cJ, 64, .inr (.inl fkx))), (ky, .inl (cJ, 64, .inr (.inl fky)))]) (va_runV (As := [.long (fkx i), .long (fky i), .long (fkx (nxt i n)), .long (fky (nxt i n))]) (rest := []) ⟨hx, hb, hml, hown, hTB⟩ (c_X2_addSpan l D cZ cI cJ sp s2h s2l (fkx i) (fky i) (fkx (nxt i n)) (fky (nxt i n)) _) (cw_V hTB tb_5_3 tb_2_9 tb_18_19 tb_5_1 tb_5_2 nd_X2_addSpan rfl rfl ⟨Nat.le_of_ble_eq_true rfl, Nat.le_of_ble_eq_true rfl⟩) (pre_V (q0 := 3) hK hP hD [3] rfl rfl rfl rfl) rfl rfl hl.1 rfl (lv_room (Nat.le_of_ble_eq_true rfl)) dX3_area2_52 ⟨Nat.le_of_ble_eq_true rfl, Nat.le_of_ble_eq_true rfl⟩) hP hD hS hA [3] [0, 1, 2] rfl rfl rfl (by decide) (fun u52 H locs hc52 hP hD hS => ?_)
        obtain ⟨w52h, w52l⟩ := u52
        try dsimp only at hc52
        have hP : va_P D vwCl [(o, .inr (3, [.ref tl, .ref sx, .ref sy, .ref wx, .ref wy, .ref kx, .ref ky, .int (nI n), .int ph, .ref fx, .ref fy, .ref dv, .ref sp, .ref p1, .ref p2])), (kx, .inl (cJ, 64, .inr (.inl fkx))), (ky, .inl (cJ, 64, .inr (.inl fky))), (sp, .inr (2, [.long w52h, .long w52l]))] H := hP
        have hD : va_D A [(o, .inr (3, [.ref tl, .ref sx, .ref sy, .ref wx, .ref wy, .ref kx, .ref ky, .int (nI n), .int ph, .ref fx, .ref fy, .ref dv, .ref sp, .ref p1, .ref p2])), (kx, .inl (cJ, 64, .inr (.inl fkx))), (ky, .inl (cJ, 64, .inr (.inl fky))), (sp, .inr (2, [.long w52h, .long w52l]))] := hD
        obtain ⟨i2_1, ei2_1⟩ : ∃ y : Int32, y = (nI i) + 1 := ⟨_, rfl⟩
        refine lv_iinc (v := i2_1) (lv' := [(2, .int i2_1), (3, .int (nI (nxt i n))), (0, .ref o), (1, .int limb)]) hx hb dX3_area2_55 hl (k := 3) rfl (by rw [ei2_1]; rfl) (by decide) rfl (fun ls hl => ?_)
        refine lv_goto (tgt := 10) hx hb dX3_area2_58 (by decide) ?_
        have q9 : i2_1 = nI (i + 1) := by rw [ei2_1]; exact nI_1 i
        subst q9
        refine ih10 (i + 1) w52h w52l ?_ ?_ _ _ hP hD hS _ (lv_sub hl [2, 3, 0] rfl)
        · omega
        · have og1 := hkb _ hi
          have og2 := hkb _ hj
          have b1 := arS_bd hkb (show i ≤ n by omega)
          have b2 := arS_bd hkb (show i + 1 ≤ n by omega)
          have b3 := mul_bd (x := (fkx i).toInt) (y := (fky (nxt i n)).toInt) (X := 1099511627776) (Y := 1099511627776) (by omega) (by omega) (by omega) (by omega)
          have hs := arS_s fkx fky n i
          unfold spn at hs
          rw [g2] at hc52
          rw [hc52 (by omega) (by unfold In; omega) (by unfold In; omega), hs]
          omega
  refine L10 (n + 1) 0 w5h w5l ?_ ?_ _ _ hP hD hS _ (lv_sub hl [1, 2, 0] rfl)
  · omega
  · exact hc5

set_option maxHeartbeats 4000000 in
set_option maxRecDepth 100000 in
theorem c_X3_product (l : Launch) (D : va_G) (cZ cI cJ : ClassId) (hl9 : l.stackTraces = false) (o tl sx sy wx wy kx ky fx fy dv sp p1 p2 : Nat) (cn ph : Int32) (sh sl a b : Int64) (limb : Int32) : Tl l D cZ cI cJ yX3_product cX3_product 6 (some .long) { frames := 7, cells := 1, slots := 6, locals := 103 } [.ref o, .long a, .long b, .int limb] [(o, .inr (3, [.ref tl, .ref sx, .ref sy, .ref wx, .ref wy, .ref kx, .ref ky, .int cn, .int ph, .ref fx, .ref fy, .ref dv, .ref sp, .ref p1, .ref p2])), (sp, .inr (2, [.long sh, .long sl]))] IOB (S := Int64 × Int64) (SX := Int64 × Int64) (fun z u => ¬ lbad (a.toInt * b.toInt) limb ∧ z = lval (a.toInt * b.toInt) limb) (fun u => [(o, .inr (3, [.ref tl, .ref sx, .ref sy, .ref wx, .ref wy, .ref kx, .ref ky, .int cn, .int ph, .ref fx, .ref fy, .ref dv, .ref sp, .ref p1, .ref p2])), (sp, .inr (2, [.long u.1, .long u.2]))]) (fun _ => lbad (a.toInt * b.toInt) limb) (fun u => [(o, .inr (3, [.ref tl, .ref sx, .ref sy, .ref wx, .ref wy, .ref kx, .ref ky, .int cn, .int ph, .ref fx, .ref fy, .ref dv, .ref sp, .ref p1, .ref p2])), (sp, .inr (2, [.long u.1, .long u.2]))]) := by
  refine Tl.of hl9 (by decide +kernel) (by decide) ?_
  intro p e s m args below meth c A Q hB hret hthr hxo hP hD hA
  obtain ⟨⟨hx, hb, hr, hlocks, hml, hown, hnm, hTB, hK⟩, hTX, hX⟩ := hB
  have hown : s.vm.findClass RX3 = some m.cls := hown
  have hS : va_S A s.heap s.heap [] := va_S.rf
  have hp := p63 (x := a) (y := b)
  have hl := lv_entry ([.ref o, .long a, .long b, .int limb]) (n := 6) (Nat.le_of_ble_eq_true rfl)
  rw [lg_entry_eq]
  generalize (lg_sl ([.ref o, .long a, .long b, .int limb]) ++ List.replicate (6 - (lg_sl ([.ref o, .long a, .long b, .int limb])).length) Slot.unset).toArray = ls at hl ⊢
  have hl : lv_has ls 6 [(0, .ref o), (1, .long a), (3, .long b), (5, .int limb)] := hl
  refine lv_aload_n hx hb dX3_product_0 rfl (lv_at hl 0 rfl) ?_
  refine va_get (D := D) (ci := 3) (v := .ref sp) (C := RX3) (T := TX3) (N := 15) hx hb hTB tb_X3 hown hK.1 hP 0 rfl rfl 12 (by decide) (hTB _ tb_2_10) (fun _ h9 => h9) rfl dX3_product_1 ?_
  refine lv_lconst (v := 0) hx hb dX3_product_4 (by decide) ?_
  refine fin_v (wr := [(o, .inr (3, [.ref tl, .ref sx, .ref sy, .ref wx, .ref wy, .ref kx, .ref ky, .int cn, .int ph, .ref fx, .ref fy, .ref dv, .ref sp, .ref p1, .ref p2]))]) (va_runV (As := [.long 0]) (rest := []) ⟨hx, hb, hml, hown, hTB⟩ (c_X2_put l D cZ cI cJ sp sh sl 0 _) (cw_V hTB tb_4_20 tb_2_9 tb_18_14 tb_4_18 tb_4_19 nd_X2_put rfl rfl ⟨Nat.le_of_ble_eq_true rfl, Nat.le_of_ble_eq_true rfl⟩) (pre_V (q0 := 1) hK hP hD [1] rfl rfl rfl rfl) rfl rfl hl.1 rfl (lv_room (Nat.le_of_ble_eq_true rfl)) dX3_product_5 ⟨Nat.le_of_ble_eq_true rfl, Nat.le_of_ble_eq_true rfl⟩) hP hD hS hA [1] [0] rfl rfl rfl (by decide) (fun u5 H locs hc5 hP hD hS => ?_)
  obtain ⟨w5h, w5l⟩ := u5
  try dsimp only at hc5
  have hP : va_P D vwCl [(o, .inr (3, [.ref tl, .ref sx, .ref sy, .ref wx, .ref wy, .ref kx, .ref ky, .int cn, .int ph, .ref fx, .ref fy, .ref dv, .ref sp, .ref p1, .ref p2])), (sp, .inr (2, [.long w5h, .long w5l]))] H := hP
  have hD : va_D A [(o, .inr (3, [.ref tl, .ref sx, .ref sy, .ref wx, .ref wy, .ref kx, .ref ky, .int cn, .int ph, .ref fx, .ref fy, .ref dv, .ref sp, .ref p1, .ref p2])), (sp, .inr (2, [.long w5h, .long w5l]))] := hD
  refine lv_aload_n hx hb dX3_product_8 rfl (lv_at hl 0 rfl) ?_
  refine va_get (D := D) (ci := 3) (v := .ref sp) (C := RX3) (T := TX3) (N := 15) hx hb hTB tb_X3 hown hK.1 hP 0 rfl rfl 12 (by decide) (hTB _ tb_2_10) (fun _ h9 => h9) rfl dX3_product_9 ?_
  refine lv_lload_n hx hb dX3_product_12 rfl (lv_at hl 1 rfl) ?_
  refine lv_lload_n hx hb dX3_product_13 rfl (lv_at hl 2 rfl) ?_
  refine fin_v (wr := [(o, .inr (3, [.ref tl, .ref sx, .ref sy, .ref wx, .ref wy, .ref kx, .ref ky, .int cn, .int ph, .ref fx, .ref fy, .ref dv, .ref sp, .ref p1, .ref p2]))]) (va_runV (As := [.long a, .long b]) (rest := []) ⟨hx, hb, hml, hown, hTB⟩ (c_X2_addProduct l D cZ cI cJ sp w5h w5l a b _) (cw_V hTB tb_5_7 tb_2_9 tb_20_4 tb_5_5 tb_5_6 nd_X2_addProduct rfl rfl ⟨Nat.le_of_ble_eq_true rfl, Nat.le_of_ble_eq_true rfl⟩) (pre_V (q0 := 1) hK hP hD [1] rfl rfl rfl rfl) rfl rfl hl.1 rfl (lv_room (Nat.le_of_ble_eq_true rfl)) dX3_product_14 ⟨Nat.le_of_ble_eq_true rfl, Nat.le_of_ble_eq_true rfl⟩) hP hD hS hA [1] [0] rfl rfl rfl (by decide) (fun u14 H locs hc14 hP hD hS => ?_)
  obtain ⟨w14h, w14l⟩ := u14
  try dsimp only at hc14
  have hP : va_P D vwCl [(o, .inr (3, [.ref tl, .ref sx, .ref sy, .ref wx, .ref wy, .ref kx, .ref ky, .int cn, .int ph, .ref fx, .ref fy, .ref dv, .ref sp, .ref p1, .ref p2])), (sp, .inr (2, [.long w14h, .long w14l]))] H := hP
  have hD : va_D A [(o, .inr (3, [.ref tl, .ref sx, .ref sy, .ref wx, .ref wy, .ref kx, .ref ky, .int cn, .int ph, .ref fx, .ref fy, .ref dv, .ref sp, .ref p1, .ref p2])), (sp, .inr (2, [.long w14h, .long w14l]))] := hD
  have ew : wv w14h w14l = (a.toInt * b.toInt) := by rw [hc14 (by rw [hc5, t0]; unfold In; omega), hc5, t0, Int.zero_add]
  refine lv_aload_n hx hb dX3_product_17 rfl (lv_at hl 0 rfl) ?_
  refine va_get (D := D) (ci := 3) (v := .ref sp) (C := RX3) (T := TX3) (N := 15) hx hb hTB tb_X3 hown hK.1 hP 0 rfl rfl 12 (by decide) (hTB _ tb_2_10) (fun _ h9 => h9) rfl dX3_product_18 ?_
  refine lv_iload hx hb dX3_product_21 (lv_at hl 3 rfl) ?_
  refine fin_xl (wr := [(o, .inr (3, [.ref tl, .ref sx, .ref sy, .ref wx, .ref wy, .ref kx, .ref ky, .int cn, .int ph, .ref fx, .ref fy, .ref dv, .ref sp, .ref p1, .ref p2]))]) (vx_runS (As := [.ref sp, .int limb]) (rest := []) ⟨hx, hb, hml, hown, hTB⟩ (c_X3_limbOf l D cZ cI cJ hl9 sp w14h w14l limb _) (cwx_S hTX tb_16_11 tb_1_2 tb_16_9 tb_16_10 nd_X3_limbOf rfl rfl ⟨Nat.le_of_ble_eq_true rfl, Nat.le_of_ble_eq_true rfl⟩) (prx_S hK hX hP hD hS hA [1] rfl rfl) rfl rfl hl.1 rfl (lv_room (Nat.le_of_ble_eq_true rfl)) dX3_product_23 ⟨Nat.le_of_ble_eq_true rfl, Nat.le_of_ble_eq_true rfl⟩) hP hD hS hA [1] [0] rfl rfl rfl (by decide) (fun ux qx cx H locs hcx hP hD hS hqx hvx hclx => ?_) (fun r23 u23 H locs hc23 hP hD hS => ?_)
  · have hP : va_P D vwCl [(o, .inr (3, [.ref tl, .ref sx, .ref sy, .ref wx, .ref wy, .ref kx, .ref ky, .int cn, .int ph, .ref fx, .ref fy, .ref dv, .ref sp, .ref p1, .ref p2])), (sp, .inr (2, [.long w14h, .long w14l]))] H := hP
    have hD : va_D A [(o, .inr (3, [.ref tl, .ref sx, .ref sy, .ref wx, .ref wy, .ref kx, .ref ky, .int cn, .int ph, .ref fx, .ref fy, .ref dv, .ref sp, .ref p1, .ref p2])), (sp, .inr (2, [.long w14h, .long w14l]))] := hD
    exact hxo hP hD hS (w14h, w14l) (by rw [ew] at hcx; exact hcx) [0, 1] rfl (by decide) hqx hvx hclx (Nat.le_of_ble_eq_true rfl) (Nat.le_of_ble_eq_true rfl)
  have hP : va_P D vwCl [(o, .inr (3, [.ref tl, .ref sx, .ref sy, .ref wx, .ref wy, .ref kx, .ref ky, .int cn, .int ph, .ref fx, .ref fy, .ref dv, .ref sp, .ref p1, .ref p2])), (sp, .inr (2, [.long w14h, .long w14l]))] H := hP
  have hD : va_D A [(o, .inr (3, [.ref tl, .ref sx, .ref sy, .ref wx, .ref wy, .ref kx, .ref ky, .int cn, .int ph, .ref fx, .ref fy, .ref dv, .ref sp, .ref p1, .ref p2])), (sp, .inr (2, [.long w14h, .long w14l]))] := hD
  refine W.widen (k := 1) (n := 6) (by decide) (by decide) ?_
  exact hret hP hD hS (w14h, w14l) (by rw [ew] at hc23; exact hc23) [0, 1] rfl (by decide) dX3_product_26 (Nat.le_of_ble_eq_true rfl) (Nat.le_of_ble_eq_true rfl)

set_option maxHeartbeats 4000000 in
set_option maxRecDepth 100000 in
theorem c_X3_ratioByRule (l : Launch) (D : va_G) (cZ cI cJ : ClassId) (hl9 : l.stackTraces = false) (o tl sx sy wx wy kx ky fx fy dv sp p1 p2 : Nat) (cn ph : Int32) (fh fl gh gl : Int64) (q r d lm co : Nat) (qh ql rh rl dh dl mh ml : Int64) (a b c9 : Int64) (rule : Int32) : Tl l D cZ cI cJ yX3_ratioByRule cX3_ratioByRule 8 (some .long) { frames := 6, cells := 1, slots := 6, locals := 114 } [.ref o, .long a, .long b, .long c9, .int rule] [(o, .inr (3, [.ref tl, .ref sx, .ref sy, .ref wx, .ref wy, .ref kx, .ref ky, .int cn, .int ph, .ref fx, .ref fy, .ref dv, .ref sp, .ref p1, .ref p2])), (p1, .inr (2, [.long fh, .long fl])), (p2, .inr (2, [.long gh, .long gl])), (dv, .inr (0, [.ref q, .ref r, .ref d, .ref lm, .ref co])), (q, .inr (2, [.long qh, .long ql])), (r, .inr (2, [.long rh, .long rl])), (d, .inr (2, [.long dh, .long dl])), (lm, .inr (2, [.long mh, .long ml]))] ARX (S := (Int64 × Int64) × (Int64 × Int64) × (Int64 × Int64) × (Int64 × Int64) × (Int64 × Int64) × (Int64 × Int64)) (SX := Unit) (fun z u => (¬ rok rule → z = -4611686018427387904) ∧ (rok rule → c9.toInt ≠ 0 ∧ z = rdv rule (a.toInt * b.toInt) c9.toInt)) (fun u => [(o, .inr (3, [.ref tl, .ref sx, .ref sy, .ref wx, .ref wy, .ref kx, .ref ky, .int cn, .int ph, .ref fx, .ref fy, .ref dv, .ref sp, .ref p1, .ref p2])), (p1, .inr (2, [.long u.1.1, .long u.1.2])), (p2, .inr (2, [.long u.2.1.1, .long u.2.1.2])), (dv, .inr (0, [.ref q, .ref r, .ref d, .ref lm, .ref co])), (q, .inr (2, [.long u.2.2.1.1, .long u.2.2.1.2])), (r, .inr (2, [.long u.2.2.2.1.1, .long u.2.2.2.1.2])), (d, .inr (2, [.long u.2.2.2.2.1.1, .long u.2.2.2.2.1.2])), (lm, .inr (2, [.long u.2.2.2.2.2.1, .long u.2.2.2.2.2.2]))]) (fun _ => rok rule ∧ c9.toInt = 0) (fun _ => [(o, .inr (3, [.ref tl, .ref sx, .ref sy, .ref wx, .ref wy, .ref kx, .ref ky, .int cn, .int ph, .ref fx, .ref fy, .ref dv, .ref sp, .ref p1, .ref p2])), (p1, .inr (2, [.long fh, .long fl])), (p2, .inr (2, [.long gh, .long gl])), (dv, .inr (0, [.ref q, .ref r, .ref d, .ref lm, .ref co])), (q, .inr (2, [.long qh, .long ql])), (r, .inr (2, [.long rh, .long rl])), (d, .inr (2, [.long dh, .long dl])), (lm, .inr (2, [.long mh, .long ml]))]) := by
  refine Tl.of hl9 (by decide +kernel) (by decide) ?_
  intro p e s m args below meth c A Q hB hret hthr hxo hP hD hA
  obtain ⟨⟨hx, hb, hr, hlocks, hml, hown, hnm, hTB, hK⟩, hTX, hX⟩ := hB
  have hown : s.vm.findClass RX3 = some m.cls := hown
  have hS : va_S A s.heap s.heap [] := va_S.rf
  have hp := p63 (x := a) (y := b)
  have hcr := sI_rng c9
  have hl := lv_entry ([.ref o, .long a, .long b, .long c9, .int rule]) (n := 8) (Nat.le_of_ble_eq_true rfl)
  rw [lg_entry_eq]
  generalize (lg_sl ([.ref o, .long a, .long b, .long c9, .int rule]) ++ List.replicate (8 - (lg_sl ([.ref o, .long a, .long b, .long c9, .int rule])).length) Slot.unset).toArray = ls at hl ⊢
  have hl : lv_has ls 8 [(0, .ref o), (1, .long a), (3, .long b), (5, .long c9), (7, .int rule)] := hl
  refine lv_iload hx hb dX3_ratioByRule_0 (lv_at hl 4 rfl) ?_
  refine lv_if_lt (tgt := 12) hx hb dX3_ratioByRule_2 (by decide) (fun c_2 => ?_) (fun c_2 => ?_)
  · have c_2 : rule.toInt < (0 : Int) := ic_lt c_2
    refine lv_ldc2 (v := (-4611686018427387904)) hx hb hown (hTB _ tb_14_22) dX3_ratioByRule_12 ?_
    exact hret hP hD hS ((fh, fl), (gh, gl), (qh, ql), (rh, rl), (dh, dl), (mh, ml)) (⟨fun _ => rfl, fun q => absurd q (by omega)⟩) [0, 1, 2, 3, 4, 5, 6, 7] rfl (by decide) dX3_ratioByRule_15 (Nat.le_of_ble_eq_true rfl) (Nat.le_of_ble_eq_true rfl)
  · have c_2 : (0 : Int) ≤ rule.toInt := ic_nlt c_2
    refine lv_iload hx hb dX3_ratioByRule_5 (lv_at hl 4 rfl) ?_
    refine lv_bipush (v := 6) hx hb dX3_ratioByRule_7 (by decide) ?_
    refine lv_icmp_le (tgt := 16) hx hb dX3_ratioByRule_9 (by decide) (fun c_9 => ?_) (fun c_9 => ?_)
    · have c_9 : rule.toInt ≤ (6 : Int) := ic_le c_9
      refine lv_lload hx hb dX3_ratioByRule_16 (lv_at hl 3 rfl) ?_
      refine lv_lconst (v := 0) hx hb dX3_ratioByRule_18 (by decide) ?_
      refine W.lcmp hx hb dX3_ratioByRule_19 ?_
      refine lv_if_ne (tgt := 33) hx hb dX3_ratioByRule_20 (by decide) (fun c_20 => ?_) (fun c_20 => ?_)
      · have c_20 : c9.toInt ≠ (0 : Int) := lc_ne c_20
        refine lv_aload_n hx hb dX3_ratioByRule_33 rfl (lv_at hl 0 rfl) ?_
        refine va_get (D := D) (ci := 3) (v := .ref p1) (C := RX3) (T := TX3) (N := 15) hx hb hTB tb_X3 hown hK.1 hP 0 rfl rfl 13 (by decide) (hTB _ tb_2_11) (fun _ h9 => h9) rfl dX3_ratioByRule_34 ?_
        refine lv_lconst (v := 0) hx hb dX3_ratioByRule_37 (by decide) ?_
        refine fin_v (wr := [(o, .inr (3, [.ref tl, .ref sx, .ref sy, .ref wx, .ref wy, .ref kx, .ref ky, .int cn, .int ph, .ref fx, .ref fy, .ref dv, .ref sp, .ref p1, .ref p2])), (p2, .inr (2, [.long gh, .long gl])), (dv, .inr (0, [.ref q, .ref r, .ref d, .ref lm, .ref co])), (q, .inr (2, [.long qh, .long ql])), (r, .inr (2, [.long rh, .long rl])), (d, .inr (2, [.long dh, .long dl])), (lm, .inr (2, [.long mh, .long ml]))]) (va_runV (As := [.long 0]) (rest := []) ⟨hx, hb, hml, hown, hTB⟩ (c_X2_put l D cZ cI cJ p1 fh fl 0 _) (cw_V hTB tb_4_20 tb_2_9 tb_18_14 tb_4_18 tb_4_19 nd_X2_put rfl rfl ⟨Nat.le_of_ble_eq_true rfl, Nat.le_of_ble_eq_true rfl⟩) (pre_V (q0 := 1) hK hP hD [1] rfl rfl rfl rfl) rfl rfl hl.1 rfl (lv_room (Nat.le_of_ble_eq_true rfl)) dX3_ratioByRule_38 ⟨Nat.le_of_ble_eq_true rfl, Nat.le_of_ble_eq_true rfl⟩) hP hD hS hA [1] [0, 2, 3, 4, 5, 6, 7] rfl rfl rfl (by decide) (fun u38 H locs hc38 hP hD hS => ?_)
        obtain ⟨w38h, w38l⟩ := u38
        try dsimp only at hc38
        have hP : va_P D vwCl [(o, .inr (3, [.ref tl, .ref sx, .ref sy, .ref wx, .ref wy, .ref kx, .ref ky, .int cn, .int ph, .ref fx, .ref fy, .ref dv, .ref sp, .ref p1, .ref p2])), (p2, .inr (2, [.long gh, .long gl])), (dv, .inr (0, [.ref q, .ref r, .ref d, .ref lm, .ref co])), (q, .inr (2, [.long qh, .long ql])), (r, .inr (2, [.long rh, .long rl])), (d, .inr (2, [.long dh, .long dl])), (lm, .inr (2, [.long mh, .long ml])), (p1, .inr (2, [.long w38h, .long w38l]))] H := hP
        have hD : va_D A [(o, .inr (3, [.ref tl, .ref sx, .ref sy, .ref wx, .ref wy, .ref kx, .ref ky, .int cn, .int ph, .ref fx, .ref fy, .ref dv, .ref sp, .ref p1, .ref p2])), (p2, .inr (2, [.long gh, .long gl])), (dv, .inr (0, [.ref q, .ref r, .ref d, .ref lm, .ref co])), (q, .inr (2, [.long qh, .long ql])), (r, .inr (2, [.long rh, .long rl])), (d, .inr (2, [.long dh, .long dl])), (lm, .inr (2, [.long mh, .long ml])), (p1, .inr (2, [.long w38h, .long w38l]))] := hD
        refine lv_aload_n hx hb dX3_ratioByRule_41 rfl (lv_at hl 0 rfl) ?_
        refine va_get (D := D) (ci := 3) (v := .ref p1) (C := RX3) (T := TX3) (N := 15) hx hb hTB tb_X3 hown hK.1 hP 0 rfl rfl 13 (by decide) (hTB _ tb_2_11) (fun _ h9 => h9) rfl dX3_ratioByRule_42 ?_
        refine lv_lload_n hx hb dX3_ratioByRule_45 rfl (lv_at hl 1 rfl) ?_
        refine lv_lload_n hx hb dX3_ratioByRule_46 rfl (lv_at hl 2 rfl) ?_
        refine fin_v (wr := [(o, .inr (3, [.ref tl, .ref sx, .ref sy, .ref wx, .ref wy, .ref kx, .ref ky, .int cn, .int ph, .ref fx, .ref fy, .ref dv, .ref sp, .ref p1, .ref p2])), (p2, .inr (2, [.long gh, .long gl])), (dv, .inr (0, [.ref q, .ref r, .ref d, .ref lm, .ref co])), (q, .inr (2, [.long qh, .long ql])), (r, .inr (2, [.long rh, .long rl])), (d, .inr (2, [.long dh, .long dl])), (lm, .inr (2, [.long mh, .long ml]))]) (va_runV (As := [.long a, .long b]) (rest := []) ⟨hx, hb, hml, hown, hTB⟩ (c_X2_addProduct l D cZ cI cJ p1 w38h w38l a b _) (cw_V hTB tb_5_7 tb_2_9 tb_20_4 tb_5_5 tb_5_6 nd_X2_addProduct rfl rfl ⟨Nat.le_of_ble_eq_true rfl, Nat.le_of_ble_eq_true rfl⟩) (pre_V (q0 := 7) hK hP hD [7] rfl rfl rfl rfl) rfl rfl hl.1 rfl (lv_room (Nat.le_of_ble_eq_true rfl)) dX3_ratioByRule_47 ⟨Nat.le_of_ble_eq_true rfl, Nat.le_of_ble_eq_true rfl⟩) hP hD hS hA [7] [0, 1, 2, 3, 4, 5, 6] rfl rfl rfl (by decide) (fun u47 H locs hc47 hP hD hS => ?_)
        obtain ⟨w47h, w47l⟩ := u47
        try dsimp only at hc47
        have hP : va_P D vwCl [(o, .inr (3, [.ref tl, .ref sx, .ref sy, .ref wx, .ref wy, .ref kx, .ref ky, .int cn, .int ph, .ref fx, .ref fy, .ref dv, .ref sp, .ref p1, .ref p2])), (p2, .inr (2, [.long gh, .long gl])), (dv, .inr (0, [.ref q, .ref r, .ref d, .ref lm, .ref co])), (q, .inr (2, [.long qh, .long ql])), (r, .inr (2, [.long rh, .long rl])), (d, .inr (2, [.long dh, .long dl])), (lm, .inr (2, [.long mh, .long ml])), (p1, .inr (2, [.long w47h, .long w47l]))] H := hP
        have hD : va_D A [(o, .inr (3, [.ref tl, .ref sx, .ref sy, .ref wx, .ref wy, .ref kx, .ref ky, .int cn, .int ph, .ref fx, .ref fy, .ref dv, .ref sp, .ref p1, .ref p2])), (p2, .inr (2, [.long gh, .long gl])), (dv, .inr (0, [.ref q, .ref r, .ref d, .ref lm, .ref co])), (q, .inr (2, [.long qh, .long ql])), (r, .inr (2, [.long rh, .long rl])), (d, .inr (2, [.long dh, .long dl])), (lm, .inr (2, [.long mh, .long ml])), (p1, .inr (2, [.long w47h, .long w47l]))] := hD
        have ew : wv w47h w47l = (a.toInt * b.toInt) := by rw [hc47 (by rw [hc38, t0]; unfold In; omega), hc38, t0, Int.zero_add]
        refine lv_aload_n hx hb dX3_ratioByRule_50 rfl (lv_at hl 0 rfl) ?_
        refine va_get (D := D) (ci := 3) (v := .ref p2) (C := RX3) (T := TX3) (N := 15) hx hb hTB tb_X3 hown hK.1 hP 0 rfl rfl 14 (by decide) (hTB _ tb_2_12) (fun _ h9 => h9) rfl dX3_ratioByRule_51 ?_
        refine lv_lload hx hb dX3_ratioByRule_54 (lv_at hl 3 rfl) ?_
        refine fin_v (wr := [(o, .inr (3, [.ref tl, .ref sx, .ref sy, .ref wx, .ref wy, .ref kx, .ref ky, .int cn, .int ph, .ref fx, .ref fy, .ref dv, .ref sp, .ref p1, .ref p2])), (dv, .inr (0, [.ref q, .ref r, .ref d, .ref lm, .ref co])), (q, .inr (2, [.long qh, .long ql])), (r, .inr (2, [.long rh, .long rl])), (d, .inr (2, [.long dh, .long dl])), (lm, .inr (2, [.long mh, .long ml])), (p1, .inr (2, [.long w47h, .long w47l]))]) (va_runV (As := [.long c9]) (rest := []) ⟨hx, hb, hml, hown, hTB⟩ (c_X2_put l D cZ cI cJ p2 gh gl c9 _) (cw_V hTB tb_4_20 tb_2_9 tb_18_14 tb_4_18 tb_4_19 nd_X2_put rfl rfl ⟨Nat.le_of_ble_eq_true rfl, Nat.le_of_ble_eq_true rfl⟩) (pre_V (q0 := 1) hK hP hD [1] rfl rfl rfl rfl) rfl rfl hl.1 rfl (lv_room (Nat.le_of_ble_eq_true rfl)) dX3_ratioByRule_56 ⟨Nat.le_of_ble_eq_true rfl, Nat.le_of_ble_eq_true rfl⟩) hP hD hS hA [1] [0, 2, 3, 4, 5, 6, 7] rfl rfl rfl (by decide) (fun u56 H locs hc56 hP hD hS => ?_)
        obtain ⟨w56h, w56l⟩ := u56
        try dsimp only at hc56
        have hP : va_P D vwCl [(o, .inr (3, [.ref tl, .ref sx, .ref sy, .ref wx, .ref wy, .ref kx, .ref ky, .int cn, .int ph, .ref fx, .ref fy, .ref dv, .ref sp, .ref p1, .ref p2])), (dv, .inr (0, [.ref q, .ref r, .ref d, .ref lm, .ref co])), (q, .inr (2, [.long qh, .long ql])), (r, .inr (2, [.long rh, .long rl])), (d, .inr (2, [.long dh, .long dl])), (lm, .inr (2, [.long mh, .long ml])), (p1, .inr (2, [.long w47h, .long w47l])), (p2, .inr (2, [.long w56h, .long w56l]))] H := hP
        have hD : va_D A [(o, .inr (3, [.ref tl, .ref sx, .ref sy, .ref wx, .ref wy, .ref kx, .ref ky, .int cn, .int ph, .ref fx, .ref fy, .ref dv, .ref sp, .ref p1, .ref p2])), (dv, .inr (0, [.ref q, .ref r, .ref d, .ref lm, .ref co])), (q, .inr (2, [.long qh, .long ql])), (r, .inr (2, [.long rh, .long rl])), (d, .inr (2, [.long dh, .long dl])), (lm, .inr (2, [.long mh, .long ml])), (p1, .inr (2, [.long w47h, .long w47l])), (p2, .inr (2, [.long w56h, .long w56l]))] := hD
        refine lv_aload_n hx hb dX3_ratioByRule_59 rfl (lv_at hl 0 rfl) ?_
        refine va_get (D := D) (ci := 3) (v := .ref dv) (C := RX3) (T := TX3) (N := 15) hx hb hTB tb_X3 hown hK.1 hP 0 rfl rfl 11 (by decide) (hTB _ tb_2_6) (fun _ h9 => h9) rfl dX3_ratioByRule_60 ?_
        refine lv_aload_n hx hb dX3_ratioByRule_63 rfl (lv_at hl 0 rfl) ?_
        refine va_get (D := D) (ci := 3) (v := .ref p1) (C := RX3) (T := TX3) (N := 15) hx hb hTB tb_X3 hown hK.1 hP 0 rfl rfl 13 (by decide) (hTB _ tb_2_11) (fun _ h9 => h9) rfl dX3_ratioByRule_64 ?_
        refine lv_aload_n hx hb dX3_ratioByRule_67 rfl (lv_at hl 0 rfl) ?_
        refine va_get (D := D) (ci := 3) (v := .ref p2) (C := RX3) (T := TX3) (N := 15) hx hb hTB tb_X3 hown hK.1 hP 0 rfl rfl 14 (by decide) (hTB _ tb_2_12) (fun _ h9 => h9) rfl dX3_ratioByRule_68 ?_
        refine lv_iload hx hb dX3_ratioByRule_71 (lv_at hl 4 rfl) ?_
        refine fin_l (wr := [(o, .inr (3, [.ref tl, .ref sx, .ref sy, .ref wx, .ref wy, .ref kx, .ref ky, .int cn, .int ph, .ref fx, .ref fy, .ref dv, .ref sp, .ref p1, .ref p2]))]) (va_runV (As := [.ref p1, .ref p2, .int rule]) (rest := []) ⟨hx, hb, hml, hown, hTB⟩ (c_X0_rounded l D cZ cI cJ dv q r d lm co p1 p2 qh ql rh rl dh dl mh ml w47h w47l w56h w56l rule (by rw [hc56]; omega) (by rw [ew]; omega) (by rw [hc56]; omega) _) (cw_V hTB tb_15_6 tb_2_5 tb_15_3 tb_15_4 tb_15_5 nd_X0_rounded rfl rfl ⟨Nat.le_of_ble_eq_true rfl, Nat.le_of_ble_eq_true rfl⟩) (pre_V (q0 := 1) hK hP hD [1, 2, 3, 4, 5, 6, 7] rfl rfl rfl rfl) rfl rfl hl.1 rfl (lv_room (Nat.le_of_ble_eq_true rfl)) dX3_ratioByRule_73 ⟨Nat.le_of_ble_eq_true rfl, Nat.le_of_ble_eq_true rfl⟩) hP hD hS hA [1, 2, 3, 4, 5, 6, 7] [0] rfl rfl rfl (by decide) (fun r73 u73 H locs hc73 hP hD hS => ?_)
        obtain ⟨⟨q2h, q2l⟩, ⟨r2h, r2l⟩, ⟨d2h, d2l⟩, m2h, m2l⟩ := u73
        try dsimp only at hc73
        have hP : va_P D vwCl [(o, .inr (3, [.ref tl, .ref sx, .ref sy, .ref wx, .ref wy, .ref kx, .ref ky, .int cn, .int ph, .ref fx, .ref fy, .ref dv, .ref sp, .ref p1, .ref p2])), (dv, .inr (0, [.ref q, .ref r, .ref d, .ref lm, .ref co])), (q, .inr (2, [.long q2h, .long q2l])), (r, .inr (2, [.long r2h, .long r2l])), (d, .inr (2, [.long d2h, .long d2l])), (lm, .inr (2, [.long m2h, .long m2l])), (p1, .inr (2, [.long w47h, .long w47l])), (p2, .inr (2, [.long w56h, .long w56l]))] H := hP
        have hD : va_D A [(o, .inr (3, [.ref tl, .ref sx, .ref sy, .ref wx, .ref wy, .ref kx, .ref ky, .int cn, .int ph, .ref fx, .ref fy, .ref dv, .ref sp, .ref p1, .ref p2])), (dv, .inr (0, [.ref q, .ref r, .ref d, .ref lm, .ref co])), (q, .inr (2, [.long q2h, .long q2l])), (r, .inr (2, [.long r2h, .long r2l])), (d, .inr (2, [.long d2h, .long d2l])), (lm, .inr (2, [.long m2h, .long m2l])), (p1, .inr (2, [.long w47h, .long w47l])), (p2, .inr (2, [.long w56h, .long w56l]))] := hD
        subst hc73
        exact hret hP hD hS ((w47h, w47l), (w56h, w56l), (q2h, q2l), (r2h, r2l), (d2h, d2l), (m2h, m2l)) (⟨fun q => absurd (show rok rule from ⟨by omega, by omega⟩) q, fun _ => ⟨c_20, by rw [ew, hc56]⟩⟩) [0, 6, 7, 1, 2, 3, 4, 5] rfl (by decide) dX3_ratioByRule_76 (Nat.le_of_ble_eq_true rfl) (Nat.le_of_ble_eq_true rfl)
      · have c_20 : c9.toInt = (0 : Int) := lc_eq c_20
        exact hthr (text := "by 0") hP hD hS () (⟨⟨by omega, by omega⟩, c_20⟩) [0, 1, 2, 3, 4, 5, 6, 7] rfl (by decide) hown (hTB _ tb_20_2) (hTB _ tb_20_3) hX.2.2.2.2.1 (at_A hTX hX.2.2.1) ot_A (hl.1.trans hml.symm) dX3_ratioByRule_23 dX3_ratioByRule_26 dX3_ratioByRule_27 dX3_ratioByRule_29 dX3_ratioByRule_32 (Nat.le_of_ble_eq_true rfl) (Nat.le_of_ble_eq_true rfl) (Nat.le_of_ble_eq_true rfl) (Nat.le_of_ble_eq_true rfl)
    · have c_9 : (6 : Int) < rule.toInt := ic_nle c_9
      refine lv_ldc2 (v := (-4611686018427387904)) hx hb hown (hTB _ tb_14_22) dX3_ratioByRule_12 ?_
      exact hret hP hD hS ((fh, fl), (gh, gl), (qh, ql), (rh, rl), (dh, dl), (mh, ml)) (⟨fun _ => rfl, fun q => absurd q (by omega)⟩) [0, 1, 2, 3, 4, 5, 6, 7] rfl (by decide) dX3_ratioByRule_15 (Nat.le_of_ble_eq_true rfl) (Nat.le_of_ble_eq_true rfl)

set_option maxHeartbeats 4000000 in
set_option maxRecDepth 100000 in
theorem c_X3_over (l : Launch) (D : va_G) (cZ cI cJ : ClassId) (hl9 : l.stackTraces = false) (o tl sx sy wx wy kx ky fx fy dv sp p1 p2 : Nat) (cn ph : Int32) (fh fl gh gl : Int64) (q r d lm co : Nat) (qh ql rh rl dh dl mh ml : Int64) (a b : Int64) (rule : Int32) : Tl l D cZ cI cJ yX3_over cX3_over 6 (some .long) { frames := 7, cells := 1, slots := 6, locals := 141 } [.ref o, .long a, .long b, .int rule] [(o, .inr (3, [.ref tl, .ref sx, .ref sy, .ref wx, .ref wy, .ref kx, .ref ky, .int cn, .int ph, .ref fx, .ref fy, .ref dv, .ref sp, .ref p1, .ref p2])), (p1, .inr (2, [.long fh, .long fl])), (p2, .inr (2, [.long gh, .long gl])), (dv, .inr (0, [.ref q, .ref r, .ref d, .ref lm, .ref co])), (q, .inr (2, [.long qh, .long ql])), (r, .inr (2, [.long rh, .long rl])), (d, .inr (2, [.long dh, .long dl])), (lm, .inr (2, [.long mh, .long ml]))] ARX (S := (Int64 × Int64) × (Int64 × Int64) × (Int64 × Int64) × (Int64 × Int64) × (Int64 × Int64) × (Int64 × Int64)) (SX := Unit) (fun z u => (¬ rok rule → z = -4611686018427387904) ∧ (rok rule → b.toInt ≠ 0 ∧ z = rdv rule (a.toInt * (1 : Int64).toInt) b.toInt)) (fun u => [(o, .inr (3, [.ref tl, .ref sx, .ref sy, .ref wx, .ref wy, .ref kx, .ref ky, .int cn, .int ph, .ref fx, .ref fy, .ref dv, .ref sp, .ref p1, .ref p2])), (p1, .inr (2, [.long u.1.1, .long u.1.2])), (p2, .inr (2, [.long u.2.1.1, .long u.2.1.2])), (dv, .inr (0, [.ref q, .ref r, .ref d, .ref lm, .ref co])), (q, .inr (2, [.long u.2.2.1.1, .long u.2.2.1.2])), (r, .inr (2, [.long u.2.2.2.1.1, .long u.2.2.2.1.2])), (d, .inr (2, [.long u.2.2.2.2.1.1, .long u.2.2.2.2.1.2])), (lm, .inr (2, [.long u.2.2.2.2.2.1, .long u.2.2.2.2.2.2]))]) (fun _ => rok rule ∧ b.toInt = 0) (fun _ => [(o, .inr (3, [.ref tl, .ref sx, .ref sy, .ref wx, .ref wy, .ref kx, .ref ky, .int cn, .int ph, .ref fx, .ref fy, .ref dv, .ref sp, .ref p1, .ref p2])), (p1, .inr (2, [.long fh, .long fl])), (p2, .inr (2, [.long gh, .long gl])), (dv, .inr (0, [.ref q, .ref r, .ref d, .ref lm, .ref co])), (q, .inr (2, [.long qh, .long ql])), (r, .inr (2, [.long rh, .long rl])), (d, .inr (2, [.long dh, .long dl])), (lm, .inr (2, [.long mh, .long ml]))]) := by
  refine Tl.of hl9 (by decide +kernel) (by decide) ?_
  intro p e s m args below meth c A Q hB hret hthr hxo hP hD hA
  obtain ⟨⟨hx, hb, hr, hlocks, hml, hown, hnm, hTB, hK⟩, hTX, hX⟩ := hB
  have hown : s.vm.findClass RX3 = some m.cls := hown
  have hS : va_S A s.heap s.heap [] := va_S.rf
  have hl := lv_entry ([.ref o, .long a, .long b, .int rule]) (n := 6) (Nat.le_of_ble_eq_true rfl)
  rw [lg_entry_eq]
  generalize (lg_sl ([.ref o, .long a, .long b, .int rule]) ++ List.replicate (6 - (lg_sl ([.ref o, .long a, .long b, .int rule])).length) Slot.unset).toArray = ls at hl ⊢
  have hl : lv_has ls 6 [(0, .ref o), (1, .long a), (3, .long b), (5, .int rule)] := hl
  refine lv_aload_n hx hb dX3_over_0 rfl (lv_at hl 0 rfl) ?_
  refine lv_lload_n hx hb dX3_over_1 rfl (lv_at hl 1 rfl) ?_
  refine lv_lconst (v := 1) hx hb dX3_over_2 (by decide) ?_
  refine lv_lload_n hx hb dX3_over_3 rfl (lv_at hl 2 rfl) ?_
  refine lv_iload hx hb dX3_over_4 (lv_at hl 3 rfl) ?_
  refine fin_xl (wr := []) (vx_runV (As := [.long a, .long 1, .long b, .int rule]) (rest := []) ⟨hx, hb, hml, hown, hTB⟩ (c_X3_ratioByRule l D cZ cI cJ hl9 o tl sx sy wx wy kx ky fx fy dv sp p1 p2 cn ph fh fl gh gl q r d lm co qh ql rh rl dh dl mh ml a 1 b rule _) (cwx_V hTX tb_20_1 tb_1_2 tb_19_22 tb_19_23 tb_20_0 nd_X3_ratioByRule rfl rfl ⟨Nat.le_of_ble_eq_true rfl, Nat.le_of_ble_eq_true rfl⟩) (prx_V (q0 := 0) hK hX hP hD hS hA [0, 1, 2, 3, 4, 5, 6, 7] rfl rfl rfl rfl) rfl rfl hl.1 rfl (lv_room (Nat.le_of_ble_eq_true rfl)) dX3_over_6 ⟨Nat.le_of_ble_eq_true rfl, Nat.le_of_ble_eq_true rfl⟩) hP hD hS hA [0, 1, 2, 3, 4, 5, 6, 7] [] rfl rfl rfl (by decide) (fun ux qx cx H locs hcx hP hD hS hqx hvx hclx => ?_) (fun r6 u6 H locs hc6 hP hD hS => ?_)
  · have hP : va_P D vwCl [(o, .inr (3, [.ref tl, .ref sx, .ref sy, .ref wx, .ref wy, .ref kx, .ref ky, .int cn, .int ph, .ref fx, .ref fy, .ref dv, .ref sp, .ref p1, .ref p2])), (p1, .inr (2, [.long fh, .long fl])), (p2, .inr (2, [.long gh, .long gl])), (dv, .inr (0, [.ref q, .ref r, .ref d, .ref lm, .ref co])), (q, .inr (2, [.long qh, .long ql])), (r, .inr (2, [.long rh, .long rl])), (d, .inr (2, [.long dh, .long dl])), (lm, .inr (2, [.long mh, .long ml]))] H := hP
    have hD : va_D A [(o, .inr (3, [.ref tl, .ref sx, .ref sy, .ref wx, .ref wy, .ref kx, .ref ky, .int cn, .int ph, .ref fx, .ref fy, .ref dv, .ref sp, .ref p1, .ref p2])), (p1, .inr (2, [.long fh, .long fl])), (p2, .inr (2, [.long gh, .long gl])), (dv, .inr (0, [.ref q, .ref r, .ref d, .ref lm, .ref co])), (q, .inr (2, [.long qh, .long ql])), (r, .inr (2, [.long rh, .long rl])), (d, .inr (2, [.long dh, .long dl])), (lm, .inr (2, [.long mh, .long ml]))] := hD
    exact hxo hP hD hS () hcx [0, 1, 2, 3, 4, 5, 6, 7] rfl (by decide) hqx hvx hclx (Nat.le_of_ble_eq_true rfl) (Nat.le_of_ble_eq_true rfl)
  obtain ⟨⟨v6a, v6b⟩, ⟨v6c, v6d⟩, ⟨v6e, v6f⟩, ⟨v6g, v6h⟩, ⟨v6i, v6j⟩, v6k, v6l⟩ := u6
  try dsimp only at hc6
  have hP : va_P D vwCl [(o, .inr (3, [.ref tl, .ref sx, .ref sy, .ref wx, .ref wy, .ref kx, .ref ky, .int cn, .int ph, .ref fx, .ref fy, .ref dv, .ref sp, .ref p1, .ref p2])), (p1, .inr (2, [.long v6a, .long v6b])), (p2, .inr (2, [.long v6c, .long v6d])), (dv, .inr (0, [.ref q, .ref r, .ref d, .ref lm, .ref co])), (q, .inr (2, [.long v6e, .long v6f])), (r, .inr (2, [.long v6g, .long v6h])), (d, .inr (2, [.long v6i, .long v6j])), (lm, .inr (2, [.long v6k, .long v6l]))] H := hP
  have hD : va_D A [(o, .inr (3, [.ref tl, .ref sx, .ref sy, .ref wx, .ref wy, .ref kx, .ref ky, .int cn, .int ph, .ref fx, .ref fy, .ref dv, .ref sp, .ref p1, .ref p2])), (p1, .inr (2, [.long v6a, .long v6b])), (p2, .inr (2, [.long v6c, .long v6d])), (dv, .inr (0, [.ref q, .ref r, .ref d, .ref lm, .ref co])), (q, .inr (2, [.long v6e, .long v6f])), (r, .inr (2, [.long v6g, .long v6h])), (d, .inr (2, [.long v6i, .long v6j])), (lm, .inr (2, [.long v6k, .long v6l]))] := hD
  refine W.widen (k := 1) (n := 6) (by decide) (by decide) ?_
  exact hret hP hD hS ((v6a, v6b), (v6c, v6d), (v6e, v6f), (v6g, v6h), (v6i, v6j), (v6k, v6l)) hc6 [0, 1, 2, 3, 4, 5, 6, 7] rfl (by decide) dX3_over_9 (Nat.le_of_ble_eq_true rfl) (Nat.le_of_ble_eq_true rfl)

set_option maxHeartbeats 4000000 in
set_option maxRecDepth 100000 in
theorem c_X3_ratio (l : Launch) (D : va_G) (cZ cI cJ : ClassId) (hl9 : l.stackTraces = false) (o tl sx sy wx wy kx ky fx fy dv sp p1 p2 : Nat) (cn ph : Int32) (fh fl gh gl : Int64) (q r d lm co : Nat) (qh ql rh rl dh dl mh ml : Int64) (a b c9 : Int64) (rule : Int32) : Tl l D cZ cI cJ yX3_ratio cX3_ratio 8 (some .long) { frames := 7, cells := 1, slots := 6, locals := 141 } [.ref o, .long a, .long b, .long c9, .int rule] [(o, .inr (3, [.ref tl, .ref sx, .ref sy, .ref wx, .ref wy, .ref kx, .ref ky, .int cn, .int ph, .ref fx, .ref fy, .ref dv, .ref sp, .ref p1, .ref p2])), (p1, .inr (2, [.long fh, .long fl])), (p2, .inr (2, [.long gh, .long gl])), (dv, .inr (0, [.ref q, .ref r, .ref d, .ref lm, .ref co])), (q, .inr (2, [.long qh, .long ql])), (r, .inr (2, [.long rh, .long rl])), (d, .inr (2, [.long dh, .long dl])), (lm, .inr (2, [.long mh, .long ml]))] ARX (S := (Int64 × Int64) × (Int64 × Int64) × (Int64 × Int64) × (Int64 × Int64) × (Int64 × Int64) × (Int64 × Int64)) (SX := Unit) (fun z u => (¬ rok rule → z = -4611686018427387904) ∧ (rok rule → c9.toInt ≠ 0 ∧ z = rdv rule (a.toInt * b.toInt) c9.toInt)) (fun u => [(o, .inr (3, [.ref tl, .ref sx, .ref sy, .ref wx, .ref wy, .ref kx, .ref ky, .int cn, .int ph, .ref fx, .ref fy, .ref dv, .ref sp, .ref p1, .ref p2])), (p1, .inr (2, [.long u.1.1, .long u.1.2])), (p2, .inr (2, [.long u.2.1.1, .long u.2.1.2])), (dv, .inr (0, [.ref q, .ref r, .ref d, .ref lm, .ref co])), (q, .inr (2, [.long u.2.2.1.1, .long u.2.2.1.2])), (r, .inr (2, [.long u.2.2.2.1.1, .long u.2.2.2.1.2])), (d, .inr (2, [.long u.2.2.2.2.1.1, .long u.2.2.2.2.1.2])), (lm, .inr (2, [.long u.2.2.2.2.2.1, .long u.2.2.2.2.2.2]))]) (fun _ => rok rule ∧ c9.toInt = 0) (fun _ => [(o, .inr (3, [.ref tl, .ref sx, .ref sy, .ref wx, .ref wy, .ref kx, .ref ky, .int cn, .int ph, .ref fx, .ref fy, .ref dv, .ref sp, .ref p1, .ref p2])), (p1, .inr (2, [.long fh, .long fl])), (p2, .inr (2, [.long gh, .long gl])), (dv, .inr (0, [.ref q, .ref r, .ref d, .ref lm, .ref co])), (q, .inr (2, [.long qh, .long ql])), (r, .inr (2, [.long rh, .long rl])), (d, .inr (2, [.long dh, .long dl])), (lm, .inr (2, [.long mh, .long ml]))]) := by
  refine Tl.of hl9 (by decide +kernel) (by decide) ?_
  intro p e s m args below meth c A Q hB hret hthr hxo hP hD hA
  obtain ⟨⟨hx, hb, hr, hlocks, hml, hown, hnm, hTB, hK⟩, hTX, hX⟩ := hB
  have hown : s.vm.findClass RX3 = some m.cls := hown
  have hS : va_S A s.heap s.heap [] := va_S.rf
  have hl := lv_entry ([.ref o, .long a, .long b, .long c9, .int rule]) (n := 8) (Nat.le_of_ble_eq_true rfl)
  rw [lg_entry_eq]
  generalize (lg_sl ([.ref o, .long a, .long b, .long c9, .int rule]) ++ List.replicate (8 - (lg_sl ([.ref o, .long a, .long b, .long c9, .int rule])).length) Slot.unset).toArray = ls at hl ⊢
  have hl : lv_has ls 8 [(0, .ref o), (1, .long a), (3, .long b), (5, .long c9), (7, .int rule)] := hl
  refine lv_aload_n hx hb dX3_ratio_0 rfl (lv_at hl 0 rfl) ?_
  refine lv_lload_n hx hb dX3_ratio_1 rfl (lv_at hl 1 rfl) ?_
  refine lv_lload_n hx hb dX3_ratio_2 rfl (lv_at hl 2 rfl) ?_
  refine lv_lload hx hb dX3_ratio_3 (lv_at hl 3 rfl) ?_
  refine lv_iload hx hb dX3_ratio_5 (lv_at hl 4 rfl) ?_
  refine fin_xl (wr := []) (vx_runV (As := [.long a, .long b, .long c9, .int rule]) (rest := []) ⟨hx, hb, hml, hown, hTB⟩ (c_X3_ratioByRule l D cZ cI cJ hl9 o tl sx sy wx wy kx ky fx fy dv sp p1 p2 cn ph fh fl gh gl q r d lm co qh ql rh rl dh dl mh ml a b c9 rule _) (cwx_V hTX tb_20_1 tb_1_2 tb_19_22 tb_19_23 tb_20_0 nd_X3_ratioByRule rfl rfl ⟨Nat.le_of_ble_eq_true rfl, Nat.le_of_ble_eq_true rfl⟩) (prx_V (q0 := 0) hK hX hP hD hS hA [0, 1, 2, 3, 4, 5, 6, 7] rfl rfl rfl rfl) rfl rfl hl.1 rfl (lv_room (Nat.le_of_ble_eq_true rfl)) dX3_ratio_7 ⟨Nat.le_of_ble_eq_true rfl, Nat.le_of_ble_eq_true rfl⟩) hP hD hS hA [0, 1, 2, 3, 4, 5, 6, 7] [] rfl rfl rfl (by decide) (fun ux qx cx H locs hcx hP hD hS hqx hvx hclx => ?_) (fun r7 u7 H locs hc7 hP hD hS => ?_)
  · have hP : va_P D vwCl [(o, .inr (3, [.ref tl, .ref sx, .ref sy, .ref wx, .ref wy, .ref kx, .ref ky, .int cn, .int ph, .ref fx, .ref fy, .ref dv, .ref sp, .ref p1, .ref p2])), (p1, .inr (2, [.long fh, .long fl])), (p2, .inr (2, [.long gh, .long gl])), (dv, .inr (0, [.ref q, .ref r, .ref d, .ref lm, .ref co])), (q, .inr (2, [.long qh, .long ql])), (r, .inr (2, [.long rh, .long rl])), (d, .inr (2, [.long dh, .long dl])), (lm, .inr (2, [.long mh, .long ml]))] H := hP
    have hD : va_D A [(o, .inr (3, [.ref tl, .ref sx, .ref sy, .ref wx, .ref wy, .ref kx, .ref ky, .int cn, .int ph, .ref fx, .ref fy, .ref dv, .ref sp, .ref p1, .ref p2])), (p1, .inr (2, [.long fh, .long fl])), (p2, .inr (2, [.long gh, .long gl])), (dv, .inr (0, [.ref q, .ref r, .ref d, .ref lm, .ref co])), (q, .inr (2, [.long qh, .long ql])), (r, .inr (2, [.long rh, .long rl])), (d, .inr (2, [.long dh, .long dl])), (lm, .inr (2, [.long mh, .long ml]))] := hD
    exact hxo hP hD hS () hcx [0, 1, 2, 3, 4, 5, 6, 7] rfl (by decide) hqx hvx hclx (Nat.le_of_ble_eq_true rfl) (Nat.le_of_ble_eq_true rfl)
  obtain ⟨⟨v7a, v7b⟩, ⟨v7c, v7d⟩, ⟨v7e, v7f⟩, ⟨v7g, v7h⟩, ⟨v7i, v7j⟩, v7k, v7l⟩ := u7
  try dsimp only at hc7
  have hP : va_P D vwCl [(o, .inr (3, [.ref tl, .ref sx, .ref sy, .ref wx, .ref wy, .ref kx, .ref ky, .int cn, .int ph, .ref fx, .ref fy, .ref dv, .ref sp, .ref p1, .ref p2])), (p1, .inr (2, [.long v7a, .long v7b])), (p2, .inr (2, [.long v7c, .long v7d])), (dv, .inr (0, [.ref q, .ref r, .ref d, .ref lm, .ref co])), (q, .inr (2, [.long v7e, .long v7f])), (r, .inr (2, [.long v7g, .long v7h])), (d, .inr (2, [.long v7i, .long v7j])), (lm, .inr (2, [.long v7k, .long v7l]))] H := hP
  have hD : va_D A [(o, .inr (3, [.ref tl, .ref sx, .ref sy, .ref wx, .ref wy, .ref kx, .ref ky, .int cn, .int ph, .ref fx, .ref fy, .ref dv, .ref sp, .ref p1, .ref p2])), (p1, .inr (2, [.long v7a, .long v7b])), (p2, .inr (2, [.long v7c, .long v7d])), (dv, .inr (0, [.ref q, .ref r, .ref d, .ref lm, .ref co])), (q, .inr (2, [.long v7e, .long v7f])), (r, .inr (2, [.long v7g, .long v7h])), (d, .inr (2, [.long v7i, .long v7j])), (lm, .inr (2, [.long v7k, .long v7l]))] := hD
  refine W.widen (k := 1) (n := 6) (by decide) (by decide) ?_
  exact hret hP hD hS ((v7a, v7b), (v7c, v7d), (v7e, v7f), (v7g, v7h), (v7i, v7j), (v7k, v7l)) hc7 [0, 1, 2, 3, 4, 5, 6, 7] rfl (by decide) dX3_ratio_10 (Nat.le_of_ble_eq_true rfl) (Nat.le_of_ble_eq_true rfl)

set_option maxHeartbeats 4000000 in
set_option maxRecDepth 100000 in
theorem c_J9_floorDiv_f86c9 (l : Launch) (D : va_G) (cZ cI cJ : ClassId) (x y : Int64) (hy : 0 < y.toInt) : Rl l D cZ cI cJ yJ9_floorDiv_f86c9 cJ9_floorDiv_f86c9 6 (some .long) { frames := 0, cells := 0, slots := 0, locals := 0 } [.long x, .long y] [] (fun r => r.toInt = x.toInt / y.toInt) := by
  refine Rl.ofF (by decide +kernel) ?_
  intro p e s m args below meth c Q hB hret hP
  obtain ⟨hx, hb, hr, hlocks, hml, hown, hnm, hTB, hK⟩ := hB
  have hown : s.vm.findClass RJ9 = some m.cls := hown
  obtain ⟨hq9, hr9⟩ := sh_mul (x := x) hy
  have kd := sh_d (A := x.toInt) (N := y.toInt) hy
  rw [← hq9] at hr9 kd
  rw [← hr9] at kd
  have g1 := mul_ge1 (q := (x / y).toInt) (n := y.toInt) (by omega)
  have hall := sI_rng x
  have hqr := sI_rng (x / y)
  have hxr := xor_sg (x := x) hy
  have hmr := sh_rng (x := x) hy
  have hl := lv_entry ([.long x, .long y]) (n := 6) (Nat.le_of_ble_eq_true rfl)
  rw [lg_entry_eq]
  generalize (lg_sl ([.long x, .long y]) ++ List.replicate (6 - (lg_sl ([.long x, .long y])).length) Slot.unset).toArray = ls at hl ⊢
  have hl : lv_has ls 6 [(0, .long x), (2, .long y)] := hl
  refine lv_lload_n hx hb dJ9_floorDiv_f86c9_0 rfl (lv_at hl 0 rfl) ?_
  refine lv_lload_n hx hb dJ9_floorDiv_f86c9_1 rfl (lv_at hl 1 rfl) ?_
  refine lv_ldiv hx hb dJ9_floorDiv_f86c9_2 (fun q => by rw [q] at hy; exact absurd hy (by decide)) ?_
  refine lv_lstore (lv' := [(4, .long (x / y)), (0, .long x), (2, .long y)]) hx hb dJ9_floorDiv_f86c9_3 hl (by decide) rfl (fun ls hl => ?_)
  refine lv_lload_n hx hb dJ9_floorDiv_f86c9_5 rfl (lv_at hl 1 rfl) ?_
  refine lv_lload_n hx hb dJ9_floorDiv_f86c9_6 rfl (lv_at hl 2 rfl) ?_
  refine lv_lxor hx hb dJ9_floorDiv_f86c9_7 ?_
  refine lv_lconst (v := 0) hx hb dJ9_floorDiv_f86c9_8 (by decide) ?_
  refine W.lcmp hx hb dJ9_floorDiv_f86c9_9 ?_
  refine lv_if_ge (tgt := 27) hx hb dJ9_floorDiv_f86c9_10 (by decide) (fun c_10 => ?_) (fun c_10 => ?_)
  · have c_10 : (0 : Int) ≤ (x ^^^ y).toInt := lc_ge c_10
    refine lv_lload hx hb dJ9_floorDiv_f86c9_27 (lv_at hl 0 rfl) ?_
    exact hret (by rw [(kd.1 (by have := hxr.1 c_10; exact rem_nn hy hr9 hq9 this)).1]) dJ9_floorDiv_f86c9_29
  · have c_10 : (x ^^^ y).toInt < (0 : Int) := lc_nge c_10
    refine lv_lload hx hb dJ9_floorDiv_f86c9_13 (lv_at hl 0 rfl) ?_
    refine lv_lload_n hx hb dJ9_floorDiv_f86c9_15 rfl (lv_at hl 2 rfl) ?_
    refine lv_lmul hx hb dJ9_floorDiv_f86c9_16 ?_
    refine lv_lload_n hx hb dJ9_floorDiv_f86c9_17 rfl (lv_at hl 1 rfl) ?_
    refine W.lcmp hx hb dJ9_floorDiv_f86c9_18 ?_
    refine lv_if_eq (tgt := 27) hx hb dJ9_floorDiv_f86c9_19 (by decide) (fun c_19 => ?_) (fun c_19 => ?_)
    · have c_19 : ((x / y) * y).toInt = x.toInt := lc_eq c_19
      refine lv_lload hx hb dJ9_floorDiv_f86c9_27 (lv_at hl 0 rfl) ?_
      have em : (x / y * y).toInt = (x / y).toInt * y.toInt := mul_rng hmr.1 hmr.2
      rw [em] at c_19
      exact hret (by rw [(kd.1 (by omega)).1]) dJ9_floorDiv_f86c9_29
    · have c_19 : ((x / y) * y).toInt ≠ x.toInt := lc_ne c_19
      refine lv_lload hx hb dJ9_floorDiv_f86c9_22 (lv_at hl 0 rfl) ?_
      refine lv_lconst (v := 1) hx hb dJ9_floorDiv_f86c9_24 (by decide) ?_
      refine lv_lsub hx hb dJ9_floorDiv_f86c9_25 ?_
      have em : (x / y * y).toInt = (x / y).toInt * y.toInt := mul_rng hmr.1 hmr.2
      rw [em] at c_19
      have hneg : (x - x / y * y).toInt < 0 := by have := rem_np hy hr9 hq9 (hxr.2 c_10); omega
      exact hret (by show (x / y - 1).toInt = x.toInt / y.toInt; rw [(kd.2.1 hneg).1, sub_rng (by rw [t1]; omega) (by rw [t1]; omega), t1]) dJ9_floorDiv_f86c9_26

set_option maxHeartbeats 4000000 in
set_option maxRecDepth 100000 in
theorem c_J9_floorMod_f86c9 (l : Launch) (D : va_G) (cZ cI cJ : ClassId) (x y : Int64) (hy : 0 < y.toInt) : Rl l D cZ cI cJ yJ9_floorMod_f86c9 cJ9_floorMod_f86c9 6 (some .long) { frames := 0, cells := 0, slots := 0, locals := 0 } [.long x, .long y] [] (fun r => r.toInt = x.toInt % y.toInt) := by
  refine Rl.ofF (by decide +kernel) ?_
  intro p e s m args below meth c Q hB hret hP
  obtain ⟨hx, hb, hr, hlocks, hml, hown, hnm, hTB, hK⟩ := hB
  have hown : s.vm.findClass RJ9 = some m.cls := hown
  obtain ⟨hq9, hr9⟩ := sh_mul (x := x) hy
  have kd := sh_d (A := x.toInt) (N := y.toInt) hy
  rw [← hq9] at hr9 kd
  rw [← hr9] at kd
  have g1 := mul_ge1 (q := (x / y).toInt) (n := y.toInt) (by omega)
  have hall := sI_rng x
  have hqr := sI_rng (x / y)
  have hxr := xor_sg (x := x) hy
  have hmr := sh_rng (x := x) hy
  have hyr := sI_rng y
  have hl := lv_entry ([.long x, .long y]) (n := 6) (Nat.le_of_ble_eq_true rfl)
  rw [lg_entry_eq]
  generalize (lg_sl ([.long x, .long y]) ++ List.replicate (6 - (lg_sl ([.long x, .long y])).length) Slot.unset).toArray = ls at hl ⊢
  have hl : lv_has ls 6 [(0, .long x), (2, .long y)] := hl
  refine lv_lload_n hx hb dJ9_floorMod_f86c9_0 rfl (lv_at hl 0 rfl) ?_
  refine lv_lload_n hx hb dJ9_floorMod_f86c9_1 rfl (lv_at hl 1 rfl) ?_
  refine lv_lrem hx hb dJ9_floorMod_f86c9_2 (fun q => by rw [q] at hy; exact absurd hy (by decide)) ?_
  refine lv_lstore (lv' := [(4, .long (x - x / y * y)), (0, .long x), (2, .long y)]) hx hb dJ9_floorMod_f86c9_3 hl (by decide) rfl (fun ls hl => ?_)
  refine lv_lload_n hx hb dJ9_floorMod_f86c9_5 rfl (lv_at hl 1 rfl) ?_
  refine lv_lload_n hx hb dJ9_floorMod_f86c9_6 rfl (lv_at hl 2 rfl) ?_
  refine lv_lxor hx hb dJ9_floorMod_f86c9_7 ?_
  refine lv_lconst (v := 0) hx hb dJ9_floorMod_f86c9_8 (by decide) ?_
  refine W.lcmp hx hb dJ9_floorMod_f86c9_9 ?_
  refine lv_if_ge (tgt := 25) hx hb dJ9_floorMod_f86c9_10 (by decide) (fun c_10 => ?_) (fun c_10 => ?_)
  · have c_10 : (0 : Int) ≤ (x ^^^ y).toInt := lc_ge c_10
    refine lv_lload hx hb dJ9_floorMod_f86c9_25 (lv_at hl 0 rfl) ?_
    exact hret (by rw [(kd.1 (by have := hxr.1 c_10; exact rem_nn hy hr9 hq9 this)).2]) dJ9_floorMod_f86c9_27
  · have c_10 : (x ^^^ y).toInt < (0 : Int) := lc_nge c_10
    refine lv_lload hx hb dJ9_floorMod_f86c9_13 (lv_at hl 0 rfl) ?_
    refine lv_lconst (v := 0) hx hb dJ9_floorMod_f86c9_15 (by decide) ?_
    refine W.lcmp hx hb dJ9_floorMod_f86c9_16 ?_
    refine lv_if_eq (tgt := 25) hx hb dJ9_floorMod_f86c9_17 (by decide) (fun c_17 => ?_) (fun c_17 => ?_)
    · have c_17 : (x - x / y * y).toInt = (0 : Int) := lc_eq c_17
      refine lv_lload hx hb dJ9_floorMod_f86c9_25 (lv_at hl 0 rfl) ?_
      exact hret (by rw [(kd.1 (by omega)).2]) dJ9_floorMod_f86c9_27
    · have c_17 : (x - x / y * y).toInt ≠ (0 : Int) := lc_ne c_17
      refine lv_lload hx hb dJ9_floorMod_f86c9_20 (lv_at hl 0 rfl) ?_
      refine lv_lload_n hx hb dJ9_floorMod_f86c9_22 rfl (lv_at hl 2 rfl) ?_
      refine lv_ladd hx hb dJ9_floorMod_f86c9_23 ?_
      have hneg : (x - x / y * y).toInt < 0 := by have := rem_np hy hr9 hq9 (hxr.2 c_10); omega
      exact hret (by show (x - x / y * y + y).toInt = x.toInt % y.toInt; rw [(kd.2.1 hneg).2, add_rng (by omega) (by omega)]) dJ9_floorMod_f86c9_24

set_option maxHeartbeats 4000000 in
set_option maxRecDepth 100000 in
theorem c_X3_share (l : Launch) (D : va_G) (cZ cI cJ : ClassId) (hl9 : l.stackTraces = false) (o tl sx sy wx wy kx ky fx fy dv sp p1 p2 : Nat) (cn ph : Int32) (all : Int64) (k n : Int32) : Tl l D cZ cI cJ yX3_share cX3_share 9 (some .long) { frames := 6, cells := 1, slots := 6, locals := 82 } [.ref o, .long all, .int k, .int n] [(o, .inr (3, [.ref tl, .ref sx, .ref sy, .ref wx, .ref wy, .ref kx, .ref ky, .int cn, .int ph, .ref fx, .ref fy, .ref dv, .ref sp, .ref p1, .ref p2]))] IOB (S := Unit) (SX := Unit) (fun z _ => (¬ shok n → z = -4611686018427387904) ∧ (shok n → ¬ shbad k n ∧ z.toInt = shv all.toInt k.toInt n.toInt)) (fun _ => [(o, .inr (3, [.ref tl, .ref sx, .ref sy, .ref wx, .ref wy, .ref kx, .ref ky, .int cn, .int ph, .ref fx, .ref fy, .ref dv, .ref sp, .ref p1, .ref p2]))]) (fun _ => shok n ∧ shbad k n) (fun _ => [(o, .inr (3, [.ref tl, .ref sx, .ref sy, .ref wx, .ref wy, .ref kx, .ref ky, .int cn, .int ph, .ref fx, .ref fy, .ref dv, .ref sp, .ref p1, .ref p2]))]) := by
  refine Tl.of hl9 (by decide +kernel) (by decide) ?_
  intro p e s m args below meth c A Q hB hret hthr hxo hP hD hA
  obtain ⟨⟨hx, hb, hr, hlocks, hml, hown, hnm, hTB, hK⟩, hTX, hX⟩ := hB
  have hown : s.vm.findClass RX3 = some m.cls := hown
  have hS : va_S A s.heap s.heap [] := va_S.rf
  have hl := lv_entry ([.ref o, .long all, .int k, .int n]) (n := 9) (Nat.le_of_ble_eq_true rfl)
  rw [lg_entry_eq]
  generalize (lg_sl ([.ref o, .long all, .int k, .int n]) ++ List.replicate (9 - (lg_sl ([.ref o, .long all, .int k, .int n])).length) Slot.unset).toArray = ls at hl ⊢
  have hl : lv_has ls 9 [(0, .ref o), (1, .long all), (3, .int k), (4, .int n)] := hl
  refine lv_iload hx hb dX3_share_0 (lv_at hl 3 rfl) ?_
  refine lv_iconst (v := 1) hx hb dX3_share_2 (by decide) ?_
  refine lv_icmp_lt (tgt := 13) hx hb dX3_share_3 (by decide) (fun c_3 => ?_) (fun c_3 => ?_)
  · have c_3 : n.toInt < (1 : Int) := ic_lt c_3
    refine lv_ldc2 (v := (-4611686018427387904)) hx hb hown (hTB _ tb_14_22) dX3_share_13 ?_
    exact hret hP hD hS () (⟨fun _ => rfl, fun q => absurd q (by omega)⟩) [0] rfl (by decide) dX3_share_16 (Nat.le_of_ble_eq_true rfl) (Nat.le_of_ble_eq_true rfl)
  · have c_3 : (1 : Int) ≤ n.toInt := ic_nlt c_3
    refine lv_iload hx hb dX3_share_6 (lv_at hl 3 rfl) ?_
    refine lv_ldc (v := 1000000) hx hb hown (hTB _ tb_21_22) dX3_share_8 ?_
    refine lv_icmp_le (tgt := 17) hx hb dX3_share_10 (by decide) (fun c_10 => ?_) (fun c_10 => ?_)
    · have c_10 : n.toInt ≤ (1000000 : Int) := ic_le c_10
      refine lv_iload_n hx hb dX3_share_17 rfl (lv_at hl 2 rfl) ?_
      refine lv_if_lt (tgt := 27) hx hb dX3_share_18 (by decide) (fun c_18 => ?_) (fun c_18 => ?_)
      · have c_18 : k.toInt < (0 : Int) := ic_lt c_18
        exact hthr (text := "no such share") hP hD hS () (⟨⟨by omega, by omega⟩, by omega⟩) [0] rfl (by decide) hown (hTB _ tb_16_12) (hTB _ tb_16_13) hX.2.2.2.2.2.1 (at_I hTX hX.2.2.1) ot_I (hl.1.trans hml.symm) dX3_share_27 dX3_share_30 dX3_share_31 dX3_share_33 dX3_share_36 (Nat.le_of_ble_eq_true rfl) (Nat.le_of_ble_eq_true rfl) (Nat.le_of_ble_eq_true rfl) (Nat.le_of_ble_eq_true rfl)
      · have c_18 : (0 : Int) ≤ k.toInt := ic_nlt c_18
        refine lv_iload_n hx hb dX3_share_21 rfl (lv_at hl 2 rfl) ?_
        refine lv_iload hx hb dX3_share_22 (lv_at hl 3 rfl) ?_
        refine lv_icmp_lt (tgt := 37) hx hb dX3_share_24 (by decide) (fun c_24 => ?_) (fun c_24 => ?_)
        · have c_24 : k.toInt < n.toInt := ic_lt c_24
          refine lv_iload hx hb dX3_share_37 (lv_at hl 3 rfl) ?_
          refine lv_i2l (v := n.toInt64) hx hb dX3_share_39 rfl ?_
          refine lv_lstore (lv' := [(5, .long n.toInt64), (0, .ref o), (1, .long all), (3, .int k), (4, .int n)]) hx hb dX3_share_40 hl (by decide) rfl (fun ls hl => ?_)
          refine lv_lload_n hx hb dX3_share_42 rfl (lv_at hl 2 rfl) ?_
          refine lv_lload hx hb dX3_share_43 (lv_at hl 0 rfl) ?_
          refine vp_callSl (va_runS (As := [.long all, .long n.toInt64]) (rest := []) ⟨hx, hb, hml, hown, hTB⟩ (c_J9_floorDiv_f86c9 l D cZ cI cJ all n.toInt64 (by rw [i2l]; omega)) (cw_S hTB tb_22_2 tb_22_1 tb_21_23 tb_22_0 nd_J9_floorDiv_f86c9 rfl rfl ⟨Nat.le_of_ble_eq_true rfl, Nat.le_of_ble_eq_true rfl⟩) (prr_S hK hP [] rfl) rfl rfl hl.1 rfl (lv_room (Nat.le_of_ble_eq_true rfl)) dX3_share_45 ⟨Nat.le_of_ble_eq_true rfl, Nat.le_of_ble_eq_true rfl⟩).run (fun r45 hc45 => ?_)
          refine lv_lstore (lv' := [(7, .long r45), (5, .long n.toInt64), (0, .ref o), (1, .long all), (3, .int k), (4, .int n)]) hx hb dX3_share_48 hl (by decide) rfl (fun ls hl => ?_)
          refine lv_iload_n hx hb dX3_share_50 rfl (lv_at hl 4 rfl) ?_
          refine lv_i2l (v := k.toInt64) hx hb dX3_share_51 rfl ?_
          refine lv_lload_n hx hb dX3_share_52 rfl (lv_at hl 3 rfl) ?_
          refine lv_lload hx hb dX3_share_53 (lv_at hl 1 rfl) ?_
          refine vp_callSl (va_runS (As := [.long all, .long n.toInt64]) (rest := [.long k.toInt64]) ⟨hx, hb, hml, hown, hTB⟩ (c_J9_floorMod_f86c9 l D cZ cI cJ all n.toInt64 (by rw [i2l]; omega)) (cw_S hTB tb_22_5 tb_22_1 tb_22_3 tb_22_4 nd_J9_floorMod_f86c9 rfl rfl ⟨Nat.le_of_ble_eq_true rfl, Nat.le_of_ble_eq_true rfl⟩) (prr_S hK hP [] rfl) rfl rfl hl.1 rfl (lv_room (Nat.le_of_ble_eq_true rfl)) dX3_share_55 ⟨Nat.le_of_ble_eq_true rfl, Nat.le_of_ble_eq_true rfl⟩).run (fun r55 hc55 => ?_)
          refine W.lcmp hx hb dX3_share_58 ?_
          refine lv_if_ge (tgt := 69) hx hb dX3_share_59 (by decide) (fun c_59 => ?_) (fun c_59 => ?_)
          · have c_59 : r55.toInt ≤ k.toInt64.toInt := lc_ge c_59
            refine lv_lload hx hb dX3_share_69 (lv_at hl 0 rfl) ?_
            rw [i2l] at hc45 hc55
            rw [i2l, hc55] at c_59
            have hm0 := Int.emod_lt_of_pos all.toInt (show 0 < n.toInt by omega)
            have fin9 : r45.toInt = shv all.toInt k.toInt n.toInt := by unfold shv; rw [hc45, if_neg (by omega)]
            exact hret hP hD hS () (⟨fun q => absurd (show shok n from ⟨by omega, by omega⟩) q, fun _ => ⟨show ¬ shbad k n by omega, fin9⟩⟩) [0] rfl (by decide) dX3_share_71 (Nat.le_of_ble_eq_true rfl) (Nat.le_of_ble_eq_true rfl)
          · have c_59 : k.toInt64.toInt < r55.toInt := lc_nge c_59
            refine lv_lload hx hb dX3_share_62 (lv_at hl 0 rfl) ?_
            refine lv_lconst (v := 1) hx hb dX3_share_64 (by decide) ?_
            refine lv_ladd hx hb dX3_share_65 ?_
            refine lv_goto (tgt := 71) hx hb dX3_share_66 (by decide) ?_
            rw [i2l] at hc45 hc55
            rw [i2l, hc55] at c_59
            have hm0 := Int.emod_lt_of_pos all.toInt (show 0 < n.toInt by omega)
            have fin9 : (r45 + 1).toInt = shv all.toInt k.toInt n.toInt := by
              have hq := sh_up (A := all.toInt) (N := n.toInt) (by omega) (by omega) (by have := sI_rng all; omega)
              have hqr := sI_rng r45
              unfold shv; rw [if_pos (by omega), add_rng (by rw [t1]; omega) (by rw [t1]; omega), t1, hc45]
            exact hret hP hD hS () (⟨fun q => absurd (show shok n from ⟨by omega, by omega⟩) q, fun _ => ⟨show ¬ shbad k n by omega, fin9⟩⟩) [0] rfl (by decide) dX3_share_71 (Nat.le_of_ble_eq_true rfl) (Nat.le_of_ble_eq_true rfl)
        · have c_24 : n.toInt ≤ k.toInt := ic_nlt c_24
          exact hthr (text := "no such share") hP hD hS () (⟨⟨by omega, by omega⟩, by omega⟩) [0] rfl (by decide) hown (hTB _ tb_16_12) (hTB _ tb_16_13) hX.2.2.2.2.2.1 (at_I hTX hX.2.2.1) ot_I (hl.1.trans hml.symm) dX3_share_27 dX3_share_30 dX3_share_31 dX3_share_33 dX3_share_36 (Nat.le_of_ble_eq_true rfl) (Nat.le_of_ble_eq_true rfl) (Nat.le_of_ble_eq_true rfl) (Nat.le_of_ble_eq_true rfl)
    · have c_10 : (1000000 : Int) < n.toInt := ic_nle c_10
      refine lv_ldc2 (v := (-4611686018427387904)) hx hb hown (hTB _ tb_14_22) dX3_share_13 ?_
      exact hret hP hD hS () (⟨fun _ => rfl, fun q => absurd q (by omega)⟩) [0] rfl (by decide) dX3_share_16 (Nat.le_of_ble_eq_true rfl) (Nat.le_of_ble_eq_true rfl)

set_option maxHeartbeats 4000000 in
set_option maxRecDepth 100000 in
theorem c_X3_digit (l : Launch) (D : va_G) (cZ cI cJ : ClassId) (hl9 : l.stackTraces = false) (o tl sx sy wx wy kx ky fx fy dv sp p1 p2 : Nat) (cn ph : Int32) (a : Int64) (base k : Int32) : Ti l D cZ cI cJ yX3_digit cX3_digit 8 (some .int) { frames := 6, cells := 1, slots := 6, locals := 82 } [.ref o, .long a, .int base, .int k] [(o, .inr (3, [.ref tl, .ref sx, .ref sy, .ref wx, .ref wy, .ref kx, .ref ky, .int cn, .int ph, .ref fx, .ref fy, .ref dv, .ref sp, .ref p1, .ref p2]))] IOB (S := Unit) (SX := Unit) (fun z _ => (¬ dgok base → z = -1) ∧ (dgok base → ¬ dgbad a base k ∧ z.toInt = ((dgN a base k.toInt.toNat % base.toInt.toNat : Nat) : Int))) (fun _ => [(o, .inr (3, [.ref tl, .ref sx, .ref sy, .ref wx, .ref wy, .ref kx, .ref ky, .int cn, .int ph, .ref fx, .ref fy, .ref dv, .ref sp, .ref p1, .ref p2]))]) (fun _ => dgok base ∧ dgbad a base k) (fun _ => [(o, .inr (3, [.ref tl, .ref sx, .ref sy, .ref wx, .ref wy, .ref kx, .ref ky, .int cn, .int ph, .ref fx, .ref fy, .ref dv, .ref sp, .ref p1, .ref p2]))]) := by
  refine Ti.of hl9 (by decide +kernel) (by decide) ?_
  intro p e s m args below meth c A Q hB hret hthr hxo hP hD hA
  obtain ⟨⟨hx, hb, hr, hlocks, hml, hown, hnm, hTB, hK⟩, hTX, hX⟩ := hB
  have hown : s.vm.findClass RX3 = some m.cls := hown
  have hS : va_S A s.heap s.heap [] := va_S.rf
  have hl := lv_entry ([.ref o, .long a, .int base, .int k]) (n := 8) (Nat.le_of_ble_eq_true rfl)
  rw [lg_entry_eq]
  generalize (lg_sl ([.ref o, .long a, .int base, .int k]) ++ List.replicate (8 - (lg_sl ([.ref o, .long a, .int base, .int k])).length) Slot.unset).toArray = ls at hl ⊢
  have hl : lv_has ls 8 [(0, .ref o), (1, .long a), (3, .int base), (4, .int k)] := hl
  refine lv_iload_n hx hb dX3_digit_0 rfl (lv_at hl 2 rfl) ?_
  refine lv_iconst (v := 2) hx hb dX3_digit_1 (by decide) ?_
  refine lv_icmp_lt (tgt := 11) hx hb dX3_digit_2 (by decide) (fun c_2 => ?_) (fun c_2 => ?_)
  · have c_2 : base.toInt < (2 : Int) := ic_lt c_2
    refine lv_iconst (v := (-1)) hx hb dX3_digit_11 (by decide) ?_
    exact hret hP hD hS rfl () (⟨fun _ => rfl, fun q => absurd q (by omega)⟩) [0] rfl (by decide) dX3_digit_12 (Nat.le_of_ble_eq_true rfl) (Nat.le_of_ble_eq_true rfl)
  · have c_2 : (2 : Int) ≤ base.toInt := ic_nlt c_2
    refine lv_iload_n hx hb dX3_digit_5 rfl (lv_at hl 2 rfl) ?_
    refine lv_bipush (v := 36) hx hb dX3_digit_6 (by decide) ?_
    refine lv_icmp_le (tgt := 13) hx hb dX3_digit_8 (by decide) (fun c_8 => ?_) (fun c_8 => ?_)
    · have c_8 : base.toInt ≤ (36 : Int) := ic_le c_8
      refine lv_lload_n hx hb dX3_digit_13 rfl (lv_at hl 1 rfl) ?_
      refine lv_lconst (v := 0) hx hb dX3_digit_14 (by decide) ?_
      refine W.lcmp hx hb dX3_digit_15 ?_
      have J25 : ∀ (am : Int64), (am.toInt = -((a.toInt.natAbs : Nat) : Int)) → ∀ (H : Heap) (locs : List Loc), va_P D vwCl [(o, .inr (3, [.ref tl, .ref sx, .ref sy, .ref wx, .ref wy, .ref kx, .ref ky, .int cn, .int ph, .ref fx, .ref fy, .ref dv, .ref sp, .ref p1, .ref p2]))] H → va_D A [(o, .inr (3, [.ref tl, .ref sx, .ref sy, .ref wx, .ref wy, .ref kx, .ref ky, .int cn, .int ph, .ref fx, .ref fy, .ref dv, .ref sp, .ref p1, .ref p2]))] → va_S A s.heap H locs → ∀ (ls : Array Slot), lv_has ls 8 [(0, .ref o), (1, .long a), (3, .int base), (4, .int k)] → W p l e { frames := 6, cells := 1, slots := 6, locals := 82 } s m args below meth c H locs 0 0 Q (F0 m 25 ls [.long am]) := by
        intro am y1 H locs hP hD hS ls hl
        refine lv_lstore (lv' := [(5, .long am), (0, .ref o), (1, .long a), (3, .int base), (4, .int k)]) hx hb dX3_digit_25 hl (by decide) rfl (fun ls hl => ?_)
        refine lv_iconst (v := 0) hx hb dX3_digit_27 (by decide) ?_
        refine lv_istore (lv' := [(7, .int 0), (5, .long am), (0, .ref o), (1, .long a), (3, .int base), (4, .int k)]) hx hb dX3_digit_28 hl (by decide) rfl (fun ls hl => ?_)
        have L30 : ∀ (n30 : Nat) (i : Nat) (rs : Int64), (64 < i + n30 ∧ i ≤ 64 ∧ (i = 0 ∨ (i : Int) ≤ k.toInt)) → (rs.toInt = -((dgN a base i : Nat) : Int)) → ∀ (H : Heap) (locs : List Loc), va_P D vwCl [(o, .inr (3, [.ref tl, .ref sx, .ref sy, .ref wx, .ref wy, .ref kx, .ref ky, .int cn, .int ph, .ref fx, .ref fy, .ref dv, .ref sp, .ref p1, .ref p2]))] H → va_D A [(o, .inr (3, [.ref tl, .ref sx, .ref sy, .ref wx, .ref wy, .ref kx, .ref ky, .int cn, .int ph, .ref fx, .ref fy, .ref dv, .ref sp, .ref p1, .ref p2]))] → va_S A s.heap H locs → ∀ (ls : Array Slot), lv_has ls 8 [(0, .ref o), (1, .long a), (3, .int base), (4, .int k), (5, .long rs), (7, .int (nI i))] → W p l e { frames := 6, cells := 1, slots := 6, locals := 82 } s m args below meth c H locs 0 0 Q (F0 m 30 ls []) := by
          intro n30
          induction n30 with
          | zero =>
            intro i rs q1 q2
            exfalso; omega
          | succ n30 ih30 =>
            intro i rs q1 q2 H locs hP hD hS ls hl
            have ni := nI_toInt (n := i) (by omega)
            have hrs := sI_rng rs
            have J57 : ∀ (i : Nat) (rs : Int64), (i ≤ 64 ∧ (i = 0 ∨ (i : Int) ≤ k.toInt) ∧ (k.toInt ≤ (i : Int) ∨ 64 ≤ i)) → (rs.toInt = -((dgN a base i : Nat) : Int)) → ∀ (H : Heap) (locs : List Loc), va_P D vwCl [(o, .inr (3, [.ref tl, .ref sx, .ref sy, .ref wx, .ref wy, .ref kx, .ref ky, .int cn, .int ph, .ref fx, .ref fy, .ref dv, .ref sp, .ref p1, .ref p2]))] H → va_D A [(o, .inr (3, [.ref tl, .ref sx, .ref sy, .ref wx, .ref wy, .ref kx, .ref ky, .int cn, .int ph, .ref fx, .ref fy, .ref dv, .ref sp, .ref p1, .ref p2]))] → va_S A s.heap H locs → ∀ (ls : Array Slot), lv_has ls 8 [(0, .ref o), (1, .long a), (3, .int base), (4, .int k), (5, .long rs), (7, .int (nI i))] → W p l e { frames := 6, cells := 1, slots := 6, locals := 82 } s m args below meth c H locs 0 0 Q (F0 m 57 ls []) := by
              intro i rs q1 q2 H locs hP hD hS ls hl
              refine lv_iload hx hb dX3_digit_57 (lv_at hl 3 rfl) ?_
              refine lv_if_lt (tgt := 81) hx hb dX3_digit_59 (by decide) (fun c_59 => ?_) (fun c_59 => ?_)
              · have c_59 : k.toInt < (0 : Int) := ic_lt c_59
                exact hthr (text := "no such digit") hP hD hS () (⟨⟨by omega, by omega⟩, Or.inl c_59⟩) [0] rfl (by decide) hown (hTB _ tb_16_12) (hTB _ tb_16_13) hX.2.2.2.2.2.2 (at_I hTX hX.2.2.1) ot_I (hl.1.trans hml.symm) dX3_digit_81 dX3_digit_84 dX3_digit_85 dX3_digit_87 dX3_digit_90 (Nat.le_of_ble_eq_true rfl) (Nat.le_of_ble_eq_true rfl) (Nat.le_of_ble_eq_true rfl) (Nat.le_of_ble_eq_true rfl)
              · have c_59 : (0 : Int) ≤ k.toInt := ic_nlt c_59
                refine lv_iload hx hb dX3_digit_62 (lv_at hl 3 rfl) ?_
                refine lv_bipush (v := 64) hx hb dX3_digit_64 (by decide) ?_
                refine lv_icmp_ge (tgt := 81) hx hb dX3_digit_66 (by decide) (fun c_66 => ?_) (fun c_66 => ?_)
                · have c_66 : (64 : Int) ≤ k.toInt := ic_le c_66
                  exact hthr (text := "no such digit") hP hD hS () (⟨⟨by omega, by omega⟩, Or.inr ⟨by omega, dgN_64 ⟨by omega, by omega⟩ (by omega)⟩⟩) [0] rfl (by decide) hown (hTB _ tb_16_12) (hTB _ tb_16_13) hX.2.2.2.2.2.2 (at_I hTX hX.2.2.1) ot_I (hl.1.trans hml.symm) dX3_digit_81 dX3_digit_84 dX3_digit_85 dX3_digit_87 dX3_digit_90 (Nat.le_of_ble_eq_true rfl) (Nat.le_of_ble_eq_true rfl) (Nat.le_of_ble_eq_true rfl) (Nat.le_of_ble_eq_true rfl)
                · have c_66 : k.toInt < (64 : Int) := ic_nle c_66
                  refine lv_iload hx hb dX3_digit_69 (lv_at hl 3 rfl) ?_
                  refine lv_if_le (tgt := 91) hx hb dX3_digit_71 (by decide) (fun c_71 => ?_) (fun c_71 => ?_)
                  · have c_71 : k.toInt ≤ (0 : Int) := ic_le c_71
                    refine lv_lload hx hb dX3_digit_91 (lv_at hl 4 rfl) ?_
                    refine lv_iload_n hx hb dX3_digit_93 rfl (lv_at hl 2 rfl) ?_
                    refine lv_i2l (v := base.toInt64) hx hb dX3_digit_94 rfl ?_
                    refine lv_lrem hx hb dX3_digit_95 (i2l_ne (by omega)) ?_
                    refine lv_lneg hx hb dX3_digit_96 ?_
                    refine lv_l2i (v := (-(rs - rs / base.toInt64 * base.toInt64)).toInt32) hx hb dX3_digit_97 rfl ?_
                    have hB0 : 0 < base.toInt.toNat := by omega
                    have hB1 : base.toInt64.toInt = ((base.toInt.toNat : Nat) : Int) := by rw [i2l]; omega
                    have ek : i = k.toInt.toNat := by omega
                    rw [ek] at q2
                    have hfin := dg_rem q2 hB0 hB1 (by omega)
                    exact hret hP hD hS rfl () (⟨fun q => absurd (show dgok base from ⟨by omega, by omega⟩) q, fun _ => ⟨fun q => by rcases q with q | ⟨q1, q3⟩; omega; omega, hfin⟩⟩) [0] rfl (by decide) dX3_digit_98 (Nat.le_of_ble_eq_true rfl) (Nat.le_of_ble_eq_true rfl)
                  · have c_71 : (0 : Int) < k.toInt := ic_nle c_71
                    refine lv_lload hx hb dX3_digit_74 (lv_at hl 4 rfl) ?_
                    refine lv_lconst (v := 0) hx hb dX3_digit_76 (by decide) ?_
                    refine W.lcmp hx hb dX3_digit_77 ?_
                    refine lv_if_ne (tgt := 91) hx hb dX3_digit_78 (by decide) (fun c_78 => ?_) (fun c_78 => ?_)
                    · have c_78 : rs.toInt ≠ (0 : Int) := lc_ne c_78
                      refine lv_lload hx hb dX3_digit_91 (lv_at hl 4 rfl) ?_
                      refine lv_iload_n hx hb dX3_digit_93 rfl (lv_at hl 2 rfl) ?_
                      refine lv_i2l (v := base.toInt64) hx hb dX3_digit_94 rfl ?_
                      refine lv_lrem hx hb dX3_digit_95 (i2l_ne (by omega)) ?_
                      refine lv_lneg hx hb dX3_digit_96 ?_
                      refine lv_l2i (v := (-(rs - rs / base.toInt64 * base.toInt64)).toInt32) hx hb dX3_digit_97 rfl ?_
                      have hB0 : 0 < base.toInt.toNat := by omega
                      have hB1 : base.toInt64.toInt = ((base.toInt.toNat : Nat) : Int) := by rw [i2l]; omega
                      have ek : i = k.toInt.toNat := by omega
                      rw [ek] at q2
                      have hfin := dg_rem q2 hB0 hB1 (by omega)
                      exact hret hP hD hS rfl () (⟨fun q => absurd (show dgok base from ⟨by omega, by omega⟩) q, fun _ => ⟨fun q => by rcases q with q | ⟨q1, q3⟩; omega; rw [q3] at q2; exact c_78 (by rw [q2]; rfl), hfin⟩⟩) [0] rfl (by decide) dX3_digit_98 (Nat.le_of_ble_eq_true rfl) (Nat.le_of_ble_eq_true rfl)
                    · have c_78 : rs.toInt = (0 : Int) := lc_eq c_78
                      exact hthr (text := "no such digit") hP hD hS () (⟨⟨by omega, by omega⟩, Or.inr ⟨c_71, by rw [show k.toInt.toNat = i by omega]; omega⟩⟩) [0] rfl (by decide) hown (hTB _ tb_16_12) (hTB _ tb_16_13) hX.2.2.2.2.2.2 (at_I hTX hX.2.2.1) ot_I (hl.1.trans hml.symm) dX3_digit_81 dX3_digit_84 dX3_digit_85 dX3_digit_87 dX3_digit_90 (Nat.le_of_ble_eq_true rfl) (Nat.le_of_ble_eq_true rfl) (Nat.le_of_ble_eq_true rfl) (Nat.le_of_ble_eq_true rfl)
            refine lv_iload hx hb dX3_digit_30 (lv_at hl 5 rfl) ?_
            refine lv_iload hx hb dX3_digit_32 (lv_at hl 3 rfl) ?_
            refine lv_icmp_ge (tgt := 57) hx hb dX3_digit_34 (by decide) (fun c_34 => ?_) (fun c_34 => ?_)
            · have c_34 : k.toInt ≤ (nI i).toInt := ic_le c_34
              refine J57 i rs ?_ ?_ _ _ hP hD hS _ (lv_sub hl [0, 1, 2, 3, 4, 5] rfl)
              · omega
              · exact q2
            · have c_34 : (nI i).toInt < k.toInt := ic_nle c_34
              refine lv_iload hx hb dX3_digit_37 (lv_at hl 5 rfl) ?_
              refine lv_bipush (v := 64) hx hb dX3_digit_39 (by decide) ?_
              refine lv_icmp_ge (tgt := 57) hx hb dX3_digit_41 (by decide) (fun c_41 => ?_) (fun c_41 => ?_)
              · have c_41 : (64 : Int) ≤ (nI i).toInt := ic_le c_41
                refine J57 i rs ?_ ?_ _ _ hP hD hS _ (lv_sub hl [0, 1, 2, 3, 4, 5] rfl)
                · omega
                · exact q2
              · have c_41 : (nI i).toInt < (64 : Int) := ic_nle c_41
                refine lv_lload hx hb dX3_digit_44 (lv_at hl 4 rfl) ?_
                refine lv_iload_n hx hb dX3_digit_46 rfl (lv_at hl 2 rfl) ?_
                refine lv_i2l (v := base.toInt64) hx hb dX3_digit_47 rfl ?_
                refine lv_ldiv hx hb dX3_digit_48 (i2l_ne (by omega)) ?_
                refine lv_lstore (lv' := [(5, .long (rs / base.toInt64)), (0, .ref o), (1, .long a), (3, .int base), (4, .int k), (7, .int (nI i))]) hx hb dX3_digit_49 hl (by decide) rfl (fun ls hl => ?_)
                obtain ⟨i7_1, ei7_1⟩ : ∃ y : Int32, y = (nI i) + 1 := ⟨_, rfl⟩
                refine lv_iinc (v := i7_1) (lv' := [(7, .int i7_1), (5, .long (rs / base.toInt64)), (0, .ref o), (1, .long a), (3, .int base), (4, .int k)]) hx hb dX3_digit_51 hl (k := 5) rfl (by rw [ei7_1]; rfl) (by decide) rfl (fun ls hl => ?_)
                refine lv_goto (tgt := 30) hx hb dX3_digit_54 (by decide) ?_
                have hB0 : 0 < base.toInt.toNat := by omega
                have hB1 : base.toInt64.toInt = ((base.toInt.toNat : Nat) : Int) := by rw [i2l]; omega
                have q9 : i7_1 = nI (i + 1) := by rw [ei7_1]; exact nI_1 i
                subst q9
                refine ih30 (i + 1) (rs / base.toInt64) ?_ ?_ _ _ hP hD hS _ (lv_sub hl [2, 3, 4, 5, 1, 0] rfl)
                · omega
                · rw [dgN_s]; exact dg_neg q2 hB0 hB1
        refine L30 65 0 am ?_ ?_ _ _ hP hD hS _ (lv_sub hl [2, 3, 4, 5, 1, 0] rfl)
        · omega
        · rw [dgN_0]; exact y1
      refine lv_if_ge (tgt := 23) hx hb dX3_digit_16 (by decide) (fun c_16 => ?_) (fun c_16 => ?_)
      · have c_16 : (0 : Int) ≤ a.toInt := lc_ge c_16
        refine lv_lload_n hx hb dX3_digit_23 rfl (lv_at hl 1 rfl) ?_
        refine lv_lneg hx hb dX3_digit_24 ?_
        refine J25 (-a) ?_ _ _ hP hD hS _ (lv_sub hl [0, 1, 2, 3] rfl)
        · rw [neg_rng (by have := sI_rng a; omega)]; omega
      · have c_16 : a.toInt < (0 : Int) := lc_nge c_16
        refine lv_lload_n hx hb dX3_digit_19 rfl (lv_at hl 1 rfl) ?_
        refine lv_goto (tgt := 25) hx hb dX3_digit_20 (by decide) ?_
        refine J25 a ?_ _ _ hP hD hS _ (lv_sub hl [0, 1, 2, 3] rfl)
        · omega
    · have c_8 : (36 : Int) < base.toInt := ic_nle c_8
      refine lv_iconst (v := (-1)) hx hb dX3_digit_11 (by decide) ?_
      exact hret hP hD hS rfl () (⟨fun _ => rfl, fun q => absurd q (by omega)⟩) [0] rfl (by decide) dX3_digit_12 (Nat.le_of_ble_eq_true rfl) (Nat.le_of_ble_eq_true rfl)
