theorem nd_X2_init : yX2_init.cls ≠ "java/lang/invoke/MethodHandle" ∧ yX2_init.cls ≠ "java/lang/invoke/VarHandle" ∧ (parseMethodDescriptor yX2_init.desc).map (fun d => d.parameters.length) = some 0 := by decide +kernel
theorem nd_X2_put : yX2_put.cls ≠ "java/lang/invoke/MethodHandle" ∧ yX2_put.cls ≠ "java/lang/invoke/VarHandle" ∧ (parseMethodDescriptor yX2_put.desc).map (fun d => d.parameters.length) = some 1 := by decide +kernel
theorem nd_X2_copy : yX2_copy.cls ≠ "java/lang/invoke/MethodHandle" ∧ yX2_copy.cls ≠ "java/lang/invoke/VarHandle" ∧ (parseMethodDescriptor yX2_copy.desc).map (fun d => d.parameters.length) = some 1 := by decide +kernel
theorem nd_X2_copyAmount : yX2_copyAmount.cls ≠ "java/lang/invoke/MethodHandle" ∧ yX2_copyAmount.cls ≠ "java/lang/invoke/VarHandle" ∧ (parseMethodDescriptor yX2_copyAmount.desc).map (fun d => d.parameters.length) = some 1 := by decide +kernel
theorem nd_X2_sign : yX2_sign.cls ≠ "java/lang/invoke/MethodHandle" ∧ yX2_sign.cls ≠ "java/lang/invoke/VarHandle" ∧ (parseMethodDescriptor yX2_sign.desc).map (fun d => d.parameters.length) = some 0 := by decide +kernel
theorem nd_X2_isOdd : yX2_isOdd.cls ≠ "java/lang/invoke/MethodHandle" ∧ yX2_isOdd.cls ≠ "java/lang/invoke/VarHandle" ∧ (parseMethodDescriptor yX2_isOdd.desc).map (fun d => d.parameters.length) = some 0 := by decide +kernel
theorem nd_X2_isOne : yX2_isOne.cls ≠ "java/lang/invoke/MethodHandle" ∧ yX2_isOne.cls ≠ "java/lang/invoke/VarHandle" ∧ (parseMethodDescriptor yX2_isOne.desc).map (fun d => d.parameters.length) = some 0 := by decide +kernel
theorem nd_X2_compare : yX2_compare.cls ≠ "java/lang/invoke/MethodHandle" ∧ yX2_compare.cls ≠ "java/lang/invoke/VarHandle" ∧ (parseMethodDescriptor yX2_compare.desc).map (fun d => d.parameters.length) = some 1 := by decide +kernel
theorem nd_X2_negate : yX2_negate.cls ≠ "java/lang/invoke/MethodHandle" ∧ yX2_negate.cls ≠ "java/lang/invoke/VarHandle" ∧ (parseMethodDescriptor yX2_negate.desc).map (fun d => d.parameters.length) = some 0 := by decide +kernel
theorem nd_X2_addParts : yX2_addParts.cls ≠ "java/lang/invoke/MethodHandle" ∧ yX2_addParts.cls ≠ "java/lang/invoke/VarHandle" ∧ (parseMethodDescriptor yX2_addParts.desc).map (fun d => d.parameters.length) = some 2 := by decide +kernel
theorem nd_X2_subtract : yX2_subtract.cls ≠ "java/lang/invoke/MethodHandle" ∧ yX2_subtract.cls ≠ "java/lang/invoke/VarHandle" ∧ (parseMethodDescriptor yX2_subtract.desc).map (fun d => d.parameters.length) = some 1 := by decide +kernel
theorem nd_X2_addProduct : yX2_addProduct.cls ≠ "java/lang/invoke/MethodHandle" ∧ yX2_addProduct.cls ≠ "java/lang/invoke/VarHandle" ∧ (parseMethodDescriptor yX2_addProduct.desc).map (fun d => d.parameters.length) = some 2 := by decide +kernel
theorem nd_X2_addSpan : yX2_addSpan.cls ≠ "java/lang/invoke/MethodHandle" ∧ yX2_addSpan.cls ≠ "java/lang/invoke/VarHandle" ∧ (parseMethodDescriptor yX2_addSpan.desc).map (fun d => d.parameters.length) = some 4 := by decide +kernel
theorem nd_X2_putSpan : yX2_putSpan.cls ≠ "java/lang/invoke/MethodHandle" ∧ yX2_putSpan.cls ≠ "java/lang/invoke/VarHandle" ∧ (parseMethodDescriptor yX2_putSpan.desc).map (fun d => d.parameters.length) = some 4 := by decide +kernel
theorem nd_X2_addScaled : yX2_addScaled.cls ≠ "java/lang/invoke/MethodHandle" ∧ yX2_addScaled.cls ≠ "java/lang/invoke/VarHandle" ∧ (parseMethodDescriptor yX2_addScaled.desc).map (fun d => d.parameters.length) = some 2 := by decide +kernel
theorem nd_X2_twice : yX2_twice.cls ≠ "java/lang/invoke/MethodHandle" ∧ yX2_twice.cls ≠ "java/lang/invoke/VarHandle" ∧ (parseMethodDescriptor yX2_twice.desc).map (fun d => d.parameters.length) = some 0 := by decide +kernel
theorem nd_X2_half : yX2_half.cls ≠ "java/lang/invoke/MethodHandle" ∧ yX2_half.cls ≠ "java/lang/invoke/VarHandle" ∧ (parseMethodDescriptor yX2_half.desc).map (fun d => d.parameters.length) = some 0 := by decide +kernel
theorem nd_X2_setLowestBit : yX2_setLowestBit.cls ≠ "java/lang/invoke/MethodHandle" ∧ yX2_setLowestBit.cls ≠ "java/lang/invoke/VarHandle" ∧ (parseMethodDescriptor yX2_setLowestBit.desc).map (fun d => d.parameters.length) = some 0 := by decide +kernel
theorem nd_X2_limbs : yX2_limbs.cls ≠ "java/lang/invoke/MethodHandle" ∧ yX2_limbs.cls ≠ "java/lang/invoke/VarHandle" ∧ (parseMethodDescriptor yX2_limbs.desc).map (fun d => d.parameters.length) = some 0 := by decide +kernel
theorem nd_X2_limbOfAmount : yX2_limbOfAmount.cls ≠ "java/lang/invoke/MethodHandle" ∧ yX2_limbOfAmount.cls ≠ "java/lang/invoke/VarHandle" ∧ (parseMethodDescriptor yX2_limbOfAmount.desc).map (fun d => d.parameters.length) = some 1 := by decide +kernel
theorem nd_X2_lowOfAmount : yX2_lowOfAmount.cls ≠ "java/lang/invoke/MethodHandle" ∧ yX2_lowOfAmount.cls ≠ "java/lang/invoke/VarHandle" ∧ (parseMethodDescriptor yX2_lowOfAmount.desc).map (fun d => d.parameters.length) = some 0 := by decide +kernel
theorem nd_X2_highOfAmount : yX2_highOfAmount.cls ≠ "java/lang/invoke/MethodHandle" ∧ yX2_highOfAmount.cls ≠ "java/lang/invoke/VarHandle" ∧ (parseMethodDescriptor yX2_highOfAmount.desc).map (fun d => d.parameters.length) = some 0 := by decide +kernel
theorem nd_X2_isBelowUnsigned : yX2_isBelowUnsigned.cls ≠ "java/lang/invoke/MethodHandle" ∧ yX2_isBelowUnsigned.cls ≠ "java/lang/invoke/VarHandle" ∧ (parseMethodDescriptor yX2_isBelowUnsigned.desc).map (fun d => d.parameters.length) = some 2 := by decide +kernel
theorem nd_X2_highOfProduct : yX2_highOfProduct.cls ≠ "java/lang/invoke/MethodHandle" ∧ yX2_highOfProduct.cls ≠ "java/lang/invoke/VarHandle" ∧ (parseMethodDescriptor yX2_highOfProduct.desc).map (fun d => d.parameters.length) = some 2 := by decide +kernel

set_option maxHeartbeats 4000000 in
set_option maxRecDepth 100000 in
theorem c_X2_init (l : Launch) (D : va_G) (cZ cI cJ : ClassId) (o : Nat) (hi lo : Int64) : Cv l D cZ cI cJ yX2_init cX2_init 1 { frames := 1, cells := 0, slots := 0, locals := 12 } [.ref o] [(o, .inr (2, [.long hi, .long lo]))] (S := Int64 × Int64) (fun u => u = (hi, lo)) (fun u => [(o, .inr (2, [.long u.1, .long u.2]))]) := by
  refine Cv.of (by decide) ?_
  intro p e s m args below meth c A Q hB hret hP hD hA
  obtain ⟨hx, hb, hr, hlocks, hml, hown, hnm, hTB, hK⟩ := hB
  have hown : s.vm.findClass RX2 = some m.cls := hown
  have hS : va_S A s.heap s.heap [] := va_S.rf
  have hl := lv_entry ([.ref o]) (n := 1) (Nat.le_of_ble_eq_true rfl)
  rw [lg_entry_eq]
  generalize (lg_sl ([.ref o]) ++ List.replicate (1 - (lg_sl ([.ref o])).length) Slot.unset).toArray = ls at hl ⊢
  have hl : lv_has ls 1 [(0, .ref o)] := hl
  refine lv_aload_n hx hb dX2_init_0 rfl (lv_at hl 0 rfl) ?_
  refine W.objInit hx hb hown (hTB _ tb_2_23) (hTB _ tb_1_12) (hTB _ tb_1_13) rfl (by rw [hml]; exact hl.1) rfl dX2_init_1 (Nat.le_of_ble_eq_true rfl) (Nat.le_of_ble_eq_true rfl) ?_
  refine W.eq (g2 := F0 m 4 ls []) rfl ?_
  exact hret hP hD hS (hi, lo) rfl [0] rfl (by decide) dX2_init_4 (Nat.le_of_ble_eq_true rfl) (Nat.le_of_ble_eq_true rfl)

set_option maxHeartbeats 4000000 in
set_option maxRecDepth 100000 in
theorem c_X2_put (l : Launch) (D : va_G) (cZ cI cJ : ClassId) (o : Nat) (hi lo : Int64) (v : Int64) : Cv l D cZ cI cJ yX2_put cX2_put 3 { frames := 0, cells := 0, slots := 0, locals := 0 } [.ref o, .long v] [(o, .inr (2, [.long hi, .long lo]))] (S := Int64 × Int64) (fun u => wv u.1 u.2 = v.toInt) (fun u => [(o, .inr (2, [.long u.1, .long u.2]))]) := by
  refine Cv.of (by decide) ?_
  intro p e s m args below meth c A Q hB hret hP hD hA
  obtain ⟨hx, hb, hr, hlocks, hml, hown, hnm, hTB, hK⟩ := hB
  have hown : s.vm.findClass RX2 = some m.cls := hown
  have hS : va_S A s.heap s.heap [] := va_S.rf
  have hl := lv_entry ([.ref o, .long v]) (n := 3) (Nat.le_of_ble_eq_true rfl)
  rw [lg_entry_eq]
  generalize (lg_sl ([.ref o, .long v]) ++ List.replicate (3 - (lg_sl ([.ref o, .long v])).length) Slot.unset).toArray = ls at hl ⊢
  have hl : lv_has ls 3 [(0, .ref o), (1, .long v)] := hl
  refine lv_aload_n hx hb dX2_put_0 rfl (lv_at hl 0 rfl) ?_
  refine lv_lload_n hx hb dX2_put_1 rfl (lv_at hl 1 rfl) ?_
  refine va_put (D := D) (ci := 2) (v := .long v) (ty := .long) (C := RX2) (T := TX2) (N := 2) hx hb hTB tb_X2 tyX2 tyX2_ok nmX2 hown hK.1 hP hD hS 0 rfl rfl 1 (by decide) (hTB _ tb_4_21) (fun _ h9 => h9) rfl (by decide +kernel) rfl rfl (Nat.le_of_ble_eq_true rfl) dX2_put_2 (fun H locs hP hD hS => ?_)
  have hP : va_P D vwCl [(o, .inr (2, [.long hi, .long v]))] H := hP
  have hD : va_D A [(o, .inr (2, [.long hi, .long v]))] := hD
  refine lv_aload_n hx hb dX2_put_5 rfl (lv_at hl 0 rfl) ?_
  refine lv_lload_n hx hb dX2_put_6 rfl (lv_at hl 1 rfl) ?_
  refine lv_lconst (v := 0) hx hb dX2_put_7 (by decide) ?_
  refine W.lcmp hx hb dX2_put_8 ?_
  refine lv_if_ge (tgt := 18) hx hb dX2_put_9 (by decide) (fun c_9 => ?_) (fun c_9 => ?_)
  · have c_9 : (0 : Int) ≤ v.toInt := lc_ge c_9
    refine lv_lconst (v := 0) hx hb dX2_put_18 (by decide) ?_
    refine va_put (D := D) (ci := 2) (v := .long 0) (ty := .long) (C := RX2) (T := TX2) (N := 2) hx hb hTB tb_X2 tyX2 tyX2_ok nmX2 hown hK.1 hP hD hS 0 rfl rfl 0 (by decide) (hTB _ tb_4_23) (fun _ h9 => h9) rfl (by decide +kernel) rfl rfl (Nat.le_of_ble_eq_true rfl) dX2_put_19 (fun H locs hP hD hS => ?_)
    have hP : va_P D vwCl [(o, .inr (2, [.long 0, .long v]))] H := hP
    have hD : va_D A [(o, .inr (2, [.long 0, .long v]))] := hD
    exact hret hP hD hS (0, v) (wv_put0 (i64_le.mpr c_9)) [0] rfl (by decide) dX2_put_22 (Nat.le_of_ble_eq_true rfl) (Nat.le_of_ble_eq_true rfl)
  · have c_9 : v.toInt < (0 : Int) := lc_nge c_9
    refine lv_ldc2 (v := (-1)) hx hb hown (hTB _ tb_4_22) dX2_put_12 ?_
    refine lv_goto (tgt := 19) hx hb dX2_put_15 (by decide) ?_
    refine va_put (D := D) (ci := 2) (v := .long (-1)) (ty := .long) (C := RX2) (T := TX2) (N := 2) hx hb hTB tb_X2 tyX2 tyX2_ok nmX2 hown hK.1 hP hD hS 0 rfl rfl 0 (by decide) (hTB _ tb_4_23) (fun _ h9 => h9) rfl (by decide +kernel) rfl rfl (Nat.le_of_ble_eq_true rfl) dX2_put_19 (fun H locs hP hD hS => ?_)
    have hP : va_P D vwCl [(o, .inr (2, [.long (-1), .long v]))] H := hP
    have hD : va_D A [(o, .inr (2, [.long (-1), .long v]))] := hD
    exact hret hP hD hS ((-1), v) (wv_putm (v := v) (fun q => by rw [i64_le, t0] at q; omega)) [0] rfl (by decide) dX2_put_22 (Nat.le_of_ble_eq_true rfl) (Nat.le_of_ble_eq_true rfl)

set_option maxHeartbeats 4000000 in
set_option maxRecDepth 100000 in
theorem c_X2_copy (l : Launch) (D : va_G) (cZ cI cJ : ClassId) (o x : Nat) (hi lo h2 l2 : Int64) : Cv l D cZ cI cJ yX2_copy cX2_copy 2 { frames := 0, cells := 0, slots := 0, locals := 0 } [.ref o, .ref x] [(o, .inr (2, [.long hi, .long lo])), (x, .inr (2, [.long h2, .long l2]))] (S := Int64 × Int64) (fun u => u = (h2, l2)) (fun u => [(o, .inr (2, [.long u.1, .long u.2])), (x, .inr (2, [.long h2, .long l2]))]) := by
  refine Cv.of (by decide) ?_
  intro p e s m args below meth c A Q hB hret hP hD hA
  obtain ⟨hx, hb, hr, hlocks, hml, hown, hnm, hTB, hK⟩ := hB
  have hown : s.vm.findClass RX2 = some m.cls := hown
  have hS : va_S A s.heap s.heap [] := va_S.rf
  have hl := lv_entry ([.ref o, .ref x]) (n := 2) (Nat.le_of_ble_eq_true rfl)
  rw [lg_entry_eq]
  generalize (lg_sl ([.ref o, .ref x]) ++ List.replicate (2 - (lg_sl ([.ref o, .ref x])).length) Slot.unset).toArray = ls at hl ⊢
  have hl : lv_has ls 2 [(0, .ref o), (1, .ref x)] := hl
  refine lv_aload_n hx hb dX2_copy_0 rfl (lv_at hl 0 rfl) ?_
  refine lv_aload_n hx hb dX2_copy_1 rfl (lv_at hl 1 rfl) ?_
  refine va_get (D := D) (ci := 2) (v := .long l2) (C := RX2) (T := TX2) (N := 2) hx hb hTB tb_X2 hown hK.1 hP 1 rfl rfl 1 (by decide) (hTB _ tb_4_21) (fun _ h9 => h9) rfl dX2_copy_2 ?_
  refine va_put (D := D) (ci := 2) (v := .long l2) (ty := .long) (C := RX2) (T := TX2) (N := 2) hx hb hTB tb_X2 tyX2 tyX2_ok nmX2 hown hK.1 hP hD hS 0 rfl rfl 1 (by decide) (hTB _ tb_4_21) (fun _ h9 => h9) rfl (by decide +kernel) rfl rfl (Nat.le_of_ble_eq_true rfl) dX2_copy_5 (fun H locs hP hD hS => ?_)
  have hP : va_P D vwCl [(o, .inr (2, [.long hi, .long l2])), (x, .inr (2, [.long h2, .long l2]))] H := hP
  have hD : va_D A [(o, .inr (2, [.long hi, .long l2])), (x, .inr (2, [.long h2, .long l2]))] := hD
  refine lv_aload_n hx hb dX2_copy_8 rfl (lv_at hl 0 rfl) ?_
  refine lv_aload_n hx hb dX2_copy_9 rfl (lv_at hl 1 rfl) ?_
  refine va_get (D := D) (ci := 2) (v := .long h2) (C := RX2) (T := TX2) (N := 2) hx hb hTB tb_X2 hown hK.1 hP 1 rfl rfl 0 (by decide) (hTB _ tb_4_23) (fun _ h9 => h9) rfl dX2_copy_10 ?_
  refine va_put (D := D) (ci := 2) (v := .long h2) (ty := .long) (C := RX2) (T := TX2) (N := 2) hx hb hTB tb_X2 tyX2 tyX2_ok nmX2 hown hK.1 hP hD hS 0 rfl rfl 0 (by decide) (hTB _ tb_4_23) (fun _ h9 => h9) rfl (by decide +kernel) rfl rfl (Nat.le_of_ble_eq_true rfl) dX2_copy_13 (fun H locs hP hD hS => ?_)
  have hP : va_P D vwCl [(o, .inr (2, [.long h2, .long l2])), (x, .inr (2, [.long h2, .long l2]))] H := hP
  have hD : va_D A [(o, .inr (2, [.long h2, .long l2])), (x, .inr (2, [.long h2, .long l2]))] := hD
  exact hret hP hD hS (h2, l2) rfl [0, 1] rfl (by decide) dX2_copy_16 (Nat.le_of_ble_eq_true rfl) (Nat.le_of_ble_eq_true rfl)

set_option maxHeartbeats 4000000 in
set_option maxRecDepth 100000 in
theorem c_X2_sign (l : Launch) (D : va_G) (cZ cI cJ : ClassId) (o : Nat) (hi lo : Int64) : Ri l D cZ cI cJ yX2_sign cX2_sign 1 (some .int) { frames := 0, cells := 0, slots := 0, locals := 0 } [.ref o] [(o, .inr (2, [.long hi, .long lo]))] (fun r => r = sg (wv hi lo)) := by
  refine Ri.of (by decide) ?_
  intro p e s m args below meth c Q hB hret hP
  obtain ⟨hx, hb, hr, hlocks, hml, hown, hnm, hTB, hK⟩ := hB
  have hown : s.vm.findClass RX2 = some m.cls := hown
  have hl := lv_entry ([.ref o]) (n := 1) (Nat.le_of_ble_eq_true rfl)
  rw [lg_entry_eq]
  generalize (lg_sl ([.ref o]) ++ List.replicate (1 - (lg_sl ([.ref o])).length) Slot.unset).toArray = ls at hl ⊢
  have hl : lv_has ls 1 [(0, .ref o)] := hl
  refine lv_aload_n hx hb dX2_sign_0 rfl (lv_at hl 0 rfl) ?_
  refine va_get (D := D) (ci := 2) (v := .long hi) (C := RX2) (T := TX2) (N := 2) hx hb hTB tb_X2 hown hK.1 hP 0 rfl rfl 0 (by decide) (hTB _ tb_4_23) (fun _ h9 => h9) rfl dX2_sign_1 ?_
  refine lv_lconst (v := 0) hx hb dX2_sign_4 (by decide) ?_
  refine W.lcmp hx hb dX2_sign_5 ?_
  refine lv_if_eq (tgt := 24) hx hb dX2_sign_6 (by decide) (fun c_6 => ?_) (fun c_6 => ?_)
  · have c_6 : hi.toInt = (0 : Int) := lc_eq c_6
    refine lv_aload_n hx hb dX2_sign_24 rfl (lv_at hl 0 rfl) ?_
    refine va_get (D := D) (ci := 2) (v := .long lo) (C := RX2) (T := TX2) (N := 2) hx hb hTB tb_X2 hown hK.1 hP 0 rfl rfl 1 (by decide) (hTB _ tb_4_21) (fun _ h9 => h9) rfl dX2_sign_25 ?_
    refine lv_lconst (v := 0) hx hb dX2_sign_28 (by decide) ?_
    refine W.lcmp hx hb dX2_sign_29 ?_
    refine lv_if_ne (tgt := 37) hx hb dX2_sign_30 (by decide) (fun c_30 => ?_) (fun c_30 => ?_)
    · have c_30 : lo.toInt ≠ (0 : Int) := lc_ne c_30
      refine lv_iconst (v := 1) hx hb dX2_sign_37 (by decide) ?_
      exact hret rfl (by have := uN_lt lo; have := uN_of lo; have := sI_rng lo; unfold sg wv; split <;> (try split) <;> first | rfl | omega) dX2_sign_38
    · have c_30 : lo.toInt = (0 : Int) := lc_eq c_30
      refine lv_iconst (v := 0) hx hb dX2_sign_33 (by decide) ?_
      refine lv_goto (tgt := 38) hx hb dX2_sign_34 (by decide) ?_
      exact hret rfl (by have := uN_lt lo; have := uN_of lo; have := sI_rng lo; unfold sg wv; split <;> (try split) <;> first | rfl | omega) dX2_sign_38
  · have c_6 : hi.toInt ≠ (0 : Int) := lc_ne c_6
    refine lv_aload_n hx hb dX2_sign_9 rfl (lv_at hl 0 rfl) ?_
    refine va_get (D := D) (ci := 2) (v := .long hi) (C := RX2) (T := TX2) (N := 2) hx hb hTB tb_X2 hown hK.1 hP 0 rfl rfl 0 (by decide) (hTB _ tb_4_23) (fun _ h9 => h9) rfl dX2_sign_10 ?_
    refine lv_lconst (v := 0) hx hb dX2_sign_13 (by decide) ?_
    refine W.lcmp hx hb dX2_sign_14 ?_
    refine lv_if_ge (tgt := 22) hx hb dX2_sign_15 (by decide) (fun c_15 => ?_) (fun c_15 => ?_)
    · have c_15 : (0 : Int) ≤ hi.toInt := lc_ge c_15
      refine lv_iconst (v := 1) hx hb dX2_sign_22 (by decide) ?_
      exact hret rfl (by have := uN_lt lo; have := uN_of lo; have := sI_rng lo; unfold sg wv; split <;> (try split) <;> first | rfl | omega) dX2_sign_23
    · have c_15 : hi.toInt < (0 : Int) := lc_nge c_15
      refine lv_iconst (v := (-1)) hx hb dX2_sign_18 (by decide) ?_
      refine lv_goto (tgt := 23) hx hb dX2_sign_19 (by decide) ?_
      exact hret rfl (by have := uN_lt lo; have := uN_of lo; have := sI_rng lo; unfold sg wv; split <;> (try split) <;> first | rfl | omega) dX2_sign_23

set_option maxHeartbeats 4000000 in
set_option maxRecDepth 100000 in
theorem c_X2_isOdd (l : Launch) (D : va_G) (cZ cI cJ : ClassId) (o : Nat) (hi lo : Int64) : Ri l D cZ cI cJ yX2_isOdd cX2_isOdd 1 (some .boolean) { frames := 0, cells := 0, slots := 0, locals := 0 } [.ref o] [(o, .inr (2, [.long hi, .long lo]))] (fun r => r = bz (wv hi lo % 2 = 1)) := by
  refine Ri.of (by decide) ?_
  intro p e s m args below meth c Q hB hret hP
  obtain ⟨hx, hb, hr, hlocks, hml, hown, hnm, hTB, hK⟩ := hB
  have hown : s.vm.findClass RX2 = some m.cls := hown
  have hl := lv_entry ([.ref o]) (n := 1) (Nat.le_of_ble_eq_true rfl)
  rw [lg_entry_eq]
  generalize (lg_sl ([.ref o]) ++ List.replicate (1 - (lg_sl ([.ref o])).length) Slot.unset).toArray = ls at hl ⊢
  have hl : lv_has ls 1 [(0, .ref o)] := hl
  refine lv_aload_n hx hb dX2_isOdd_0 rfl (lv_at hl 0 rfl) ?_
  refine va_get (D := D) (ci := 2) (v := .long lo) (C := RX2) (T := TX2) (N := 2) hx hb hTB tb_X2 hown hK.1 hP 0 rfl rfl 1 (by decide) (hTB _ tb_4_21) (fun _ h9 => h9) rfl dX2_isOdd_1 ?_
  refine lv_lconst (v := 1) hx hb dX2_isOdd_4 (by decide) ?_
  refine lv_land hx hb dX2_isOdd_5 ?_
  refine lv_lconst (v := 0) hx hb dX2_isOdd_6 (by decide) ?_
  refine W.lcmp hx hb dX2_isOdd_7 ?_
  refine lv_if_eq (tgt := 15) hx hb dX2_isOdd_8 (by decide) (fun c_8 => ?_) (fun c_8 => ?_)
  · have c_8 : (lo &&& 1).toInt = (0 : Int) := lc_eq c_8
    refine lv_iconst (v := 0) hx hb dX2_isOdd_15 (by decide) ?_
    exact hret rfl (bz_f (by rw [wv_odd0 (i64_eq.mpr c_8)]; omega)) dX2_isOdd_16
  · have c_8 : (lo &&& 1).toInt ≠ (0 : Int) := lc_ne c_8
    refine lv_iconst (v := 1) hx hb dX2_isOdd_11 (by decide) ?_
    refine lv_goto (tgt := 16) hx hb dX2_isOdd_12 (by decide) ?_
    exact hret rfl (bz_t (wv_odd1 (fun q => c_8 (i64_eq.mp q)))) dX2_isOdd_16

set_option maxHeartbeats 4000000 in
set_option maxRecDepth 100000 in
theorem c_X2_isOne (l : Launch) (D : va_G) (cZ cI cJ : ClassId) (o : Nat) (hi lo : Int64) : Ri l D cZ cI cJ yX2_isOne cX2_isOne 1 (some .boolean) { frames := 0, cells := 0, slots := 0, locals := 0 } [.ref o] [(o, .inr (2, [.long hi, .long lo]))] (fun r => r = bz (wv hi lo = 1)) := by
  refine Ri.of (by decide) ?_
  intro p e s m args below meth c Q hB hret hP
  obtain ⟨hx, hb, hr, hlocks, hml, hown, hnm, hTB, hK⟩ := hB
  have hown : s.vm.findClass RX2 = some m.cls := hown
  have hl := lv_entry ([.ref o]) (n := 1) (Nat.le_of_ble_eq_true rfl)
  rw [lg_entry_eq]
  generalize (lg_sl ([.ref o]) ++ List.replicate (1 - (lg_sl ([.ref o])).length) Slot.unset).toArray = ls at hl ⊢
  have hl : lv_has ls 1 [(0, .ref o)] := hl
  refine lv_aload_n hx hb dX2_isOne_0 rfl (lv_at hl 0 rfl) ?_
  refine va_get (D := D) (ci := 2) (v := .long hi) (C := RX2) (T := TX2) (N := 2) hx hb hTB tb_X2 hown hK.1 hP 0 rfl rfl 0 (by decide) (hTB _ tb_4_23) (fun _ h9 => h9) rfl dX2_isOne_1 ?_
  refine lv_lconst (v := 0) hx hb dX2_isOne_4 (by decide) ?_
  refine W.lcmp hx hb dX2_isOne_5 ?_
  refine lv_if_ne (tgt := 22) hx hb dX2_isOne_6 (by decide) (fun c_6 => ?_) (fun c_6 => ?_)
  · have c_6 : hi.toInt ≠ (0 : Int) := lc_ne c_6
    refine lv_iconst (v := 0) hx hb dX2_isOne_22 (by decide) ?_
    exact hret rfl (bz_f (fun q => c_6 (i64_eq.mp (wv_one.mp q).1))) dX2_isOne_23
  · have c_6 : hi.toInt = (0 : Int) := lc_eq c_6
    refine lv_aload_n hx hb dX2_isOne_9 rfl (lv_at hl 0 rfl) ?_
    refine va_get (D := D) (ci := 2) (v := .long lo) (C := RX2) (T := TX2) (N := 2) hx hb hTB tb_X2 hown hK.1 hP 0 rfl rfl 1 (by decide) (hTB _ tb_4_21) (fun _ h9 => h9) rfl dX2_isOne_10 ?_
    refine lv_lconst (v := 1) hx hb dX2_isOne_13 (by decide) ?_
    refine W.lcmp hx hb dX2_isOne_14 ?_
    refine lv_if_ne (tgt := 22) hx hb dX2_isOne_15 (by decide) (fun c_15 => ?_) (fun c_15 => ?_)
    · have c_15 : lo.toInt ≠ (1 : Int) := lc_ne c_15
      refine lv_iconst (v := 0) hx hb dX2_isOne_22 (by decide) ?_
      exact hret rfl (bz_f (fun q => c_15 (i64_eq.mp (wv_one.mp q).2))) dX2_isOne_23
    · have c_15 : lo.toInt = (1 : Int) := lc_eq c_15
      refine lv_iconst (v := 1) hx hb dX2_isOne_18 (by decide) ?_
      refine lv_goto (tgt := 23) hx hb dX2_isOne_19 (by decide) ?_
      exact hret rfl (bz_t (wv_one.mpr ⟨i64_eq.mpr c_6, i64_eq.mpr c_15⟩)) dX2_isOne_23

set_option maxHeartbeats 4000000 in
set_option maxRecDepth 100000 in
theorem c_X2_isBelowUnsigned (l : Launch) (D : va_G) (cZ cI cJ : ClassId) (a b : Int64) : Ri l D cZ cI cJ yX2_isBelowUnsigned cX2_isBelowUnsigned 4 (some .boolean) { frames := 0, cells := 0, slots := 0, locals := 0 } [.long a, .long b] [] (fun r => r = bz (uN a < uN b)) := by
  refine Ri.of (by decide) ?_
  intro p e s m args below meth c Q hB hret hP
  obtain ⟨hx, hb, hr, hlocks, hml, hown, hnm, hTB, hK⟩ := hB
  have hown : s.vm.findClass RX2 = some m.cls := hown
  have hl := lv_entry ([.long a, .long b]) (n := 4) (Nat.le_of_ble_eq_true rfl)
  rw [lg_entry_eq]
  generalize (lg_sl ([.long a, .long b]) ++ List.replicate (4 - (lg_sl ([.long a, .long b])).length) Slot.unset).toArray = ls at hl ⊢
  have hl : lv_has ls 4 [(0, .long a), (2, .long b)] := hl
  refine lv_lload_n hx hb dX2_isBelowUnsigned_0 rfl (lv_at hl 0 rfl) ?_
  refine lv_ldc2 (v := (-9223372036854775808)) hx hb hown (hTB _ tb_5_19) dX2_isBelowUnsigned_1 ?_
  refine lv_lxor hx hb dX2_isBelowUnsigned_4 ?_
  refine lv_lload_n hx hb dX2_isBelowUnsigned_5 rfl (lv_at hl 1 rfl) ?_
  refine lv_ldc2 (v := (-9223372036854775808)) hx hb hown (hTB _ tb_5_19) dX2_isBelowUnsigned_6 ?_
  refine lv_lxor hx hb dX2_isBelowUnsigned_9 ?_
  refine W.lcmp hx hb dX2_isBelowUnsigned_10 ?_
  refine lv_if_ge (tgt := 18) hx hb dX2_isBelowUnsigned_11 (by decide) (fun c_11 => ?_) (fun c_11 => ?_)
  · have c_11 : (b ^^^ (-9223372036854775808)).toInt ≤ (a ^^^ (-9223372036854775808)).toInt := lc_ge c_11
    refine lv_iconst (v := 0) hx hb dX2_isBelowUnsigned_18 (by decide) ?_
    exact hret rfl (bz_f (fun q => by have := (below_iff a b).mpr q; rw [i64_lt] at this; omega)) dX2_isBelowUnsigned_19
  · have c_11 : (a ^^^ (-9223372036854775808)).toInt < (b ^^^ (-9223372036854775808)).toInt := lc_nge c_11
    refine lv_iconst (v := 1) hx hb dX2_isBelowUnsigned_14 (by decide) ?_
    refine lv_goto (tgt := 19) hx hb dX2_isBelowUnsigned_15 (by decide) ?_
    exact hret rfl (bz_t ((below_iff a b).mp (i64_lt.mpr c_11))) dX2_isBelowUnsigned_19

set_option maxHeartbeats 4000000 in
set_option maxRecDepth 100000 in
theorem c_X2_compare (l : Launch) (D : va_G) (cZ cI cJ : ClassId) (o x : Nat) (hi lo h2 l2 : Int64) : Ri l D cZ cI cJ yX2_compare cX2_compare 2 (some .int) { frames := 1, cells := 0, slots := 0, locals := 23 } [.ref o, .ref x] [(o, .inr (2, [.long hi, .long lo])), (x, .inr (2, [.long h2, .long l2]))] (fun r => r = cm (wv hi lo) (wv h2 l2)) := by
  refine Ri.of (by decide) ?_
  intro p e s m args below meth c Q hB hret hP
  obtain ⟨hx, hb, hr, hlocks, hml, hown, hnm, hTB, hK⟩ := hB
  have hown : s.vm.findClass RX2 = some m.cls := hown
  have hl := lv_entry ([.ref o, .ref x]) (n := 2) (Nat.le_of_ble_eq_true rfl)
  rw [lg_entry_eq]
  generalize (lg_sl ([.ref o, .ref x]) ++ List.replicate (2 - (lg_sl ([.ref o, .ref x])).length) Slot.unset).toArray = ls at hl ⊢
  have hl : lv_has ls 2 [(0, .ref o), (1, .ref x)] := hl
  refine lv_aload_n hx hb dX2_compare_0 rfl (lv_at hl 0 rfl) ?_
  refine va_get (D := D) (ci := 2) (v := .long hi) (C := RX2) (T := TX2) (N := 2) hx hb hTB tb_X2 hown hK.1 hP 0 rfl rfl 0 (by decide) (hTB _ tb_4_23) (fun _ h9 => h9) rfl dX2_compare_1 ?_
  refine lv_aload_n hx hb dX2_compare_4 rfl (lv_at hl 1 rfl) ?_
  refine va_get (D := D) (ci := 2) (v := .long h2) (C := RX2) (T := TX2) (N := 2) hx hb hTB tb_X2 hown hK.1 hP 1 rfl rfl 0 (by decide) (hTB _ tb_4_23) (fun _ h9 => h9) rfl dX2_compare_5 ?_
  refine W.lcmp hx hb dX2_compare_8 ?_
  refine lv_if_eq (tgt := 30) hx hb dX2_compare_9 (by decide) (fun c_9 => ?_) (fun c_9 => ?_)
  · have c_9 : hi.toInt = h2.toInt := lc_eq c_9
    refine lv_aload_n hx hb dX2_compare_30 rfl (lv_at hl 0 rfl) ?_
    refine va_get (D := D) (ci := 2) (v := .long lo) (C := RX2) (T := TX2) (N := 2) hx hb hTB tb_X2 hown hK.1 hP 0 rfl rfl 1 (by decide) (hTB _ tb_4_21) (fun _ h9 => h9) rfl dX2_compare_31 ?_
    refine lv_aload_n hx hb dX2_compare_34 rfl (lv_at hl 1 rfl) ?_
    refine va_get (D := D) (ci := 2) (v := .long l2) (C := RX2) (T := TX2) (N := 2) hx hb hTB tb_X2 hown hK.1 hP 1 rfl rfl 1 (by decide) (hTB _ tb_4_21) (fun _ h9 => h9) rfl dX2_compare_35 ?_
    refine W.lcmp hx hb dX2_compare_38 ?_
    refine lv_if_ne (tgt := 44) hx hb dX2_compare_39 (by decide) (fun c_39 => ?_) (fun c_39 => ?_)
    · have c_39 : lo.toInt ≠ l2.toInt := lc_ne c_39
      refine lv_aload_n hx hb dX2_compare_44 rfl (lv_at hl 0 rfl) ?_
      refine va_get (D := D) (ci := 2) (v := .long lo) (C := RX2) (T := TX2) (N := 2) hx hb hTB tb_X2 hown hK.1 hP 0 rfl rfl 1 (by decide) (hTB _ tb_4_21) (fun _ h9 => h9) rfl dX2_compare_45 ?_
      refine lv_aload_n hx hb dX2_compare_48 rfl (lv_at hl 1 rfl) ?_
      refine va_get (D := D) (ci := 2) (v := .long l2) (C := RX2) (T := TX2) (N := 2) hx hb hTB tb_X2 hown hK.1 hP 1 rfl rfl 1 (by decide) (hTB _ tb_4_21) (fun _ h9 => h9) rfl dX2_compare_49 ?_
      refine vp_callSi (va_runS (As := [.long lo, .long l2]) (rest := []) ⟨hx, hb, hml, hown, hTB⟩ (c_X2_isBelowUnsigned l D cZ cI cJ lo l2) (cw_S hTB tb_5_18 tb_2_9 tb_5_16 tb_5_17 nd_X2_isBelowUnsigned rfl rfl ⟨Nat.le_of_ble_eq_true rfl, Nat.le_of_ble_eq_true rfl⟩) (prr_S hK hP [] rfl) rfl rfl hl.1 rfl (lv_room (Nat.le_of_ble_eq_true rfl)) dX2_compare_52 ⟨Nat.le_of_ble_eq_true rfl, Nat.le_of_ble_eq_true rfl⟩).run (fun r52 hc52 => ?_)
      subst hc52
      refine lv_if_eq (tgt := 62) hx hb dX2_compare_55 (by decide) (fun c_55 => ?_) (fun c_55 => ?_)
      · have c_55 := bz_0 c_55
        refine lv_iconst (v := 1) hx hb dX2_compare_62 (by decide) ?_
        exact hret rfl (by have := uN_lt lo; have := uN_lt l2; have := uN_of lo; have := uN_of l2; have := sI_rng lo; have := sI_rng l2; unfold cm wv; split <;> (try split) <;> first | rfl | omega) dX2_compare_63
      · have c_55 := bz_1 c_55
        refine lv_iconst (v := (-1)) hx hb dX2_compare_58 (by decide) ?_
        refine lv_goto (tgt := 63) hx hb dX2_compare_59 (by decide) ?_
        exact hret rfl (by have := uN_lt lo; have := uN_lt l2; have := uN_of lo; have := uN_of l2; have := sI_rng lo; have := sI_rng l2; unfold cm wv; split <;> (try split) <;> first | rfl | omega) dX2_compare_63
    · have c_39 : lo.toInt = l2.toInt := lc_eq c_39
      refine lv_iconst (v := 0) hx hb dX2_compare_42 (by decide) ?_
      exact hret rfl (by have := uN_lt lo; have := uN_lt l2; have := uN_of lo; have := uN_of l2; have := sI_rng lo; have := sI_rng l2; unfold cm wv; split <;> (try split) <;> first | rfl | omega) dX2_compare_43
  · have c_9 : hi.toInt ≠ h2.toInt := lc_ne c_9
    refine lv_aload_n hx hb dX2_compare_12 rfl (lv_at hl 0 rfl) ?_
    refine va_get (D := D) (ci := 2) (v := .long hi) (C := RX2) (T := TX2) (N := 2) hx hb hTB tb_X2 hown hK.1 hP 0 rfl rfl 0 (by decide) (hTB _ tb_4_23) (fun _ h9 => h9) rfl dX2_compare_13 ?_
    refine lv_aload_n hx hb dX2_compare_16 rfl (lv_at hl 1 rfl) ?_
    refine va_get (D := D) (ci := 2) (v := .long h2) (C := RX2) (T := TX2) (N := 2) hx hb hTB tb_X2 hown hK.1 hP 1 rfl rfl 0 (by decide) (hTB _ tb_4_23) (fun _ h9 => h9) rfl dX2_compare_17 ?_
    refine W.lcmp hx hb dX2_compare_20 ?_
    refine lv_if_ge (tgt := 28) hx hb dX2_compare_21 (by decide) (fun c_21 => ?_) (fun c_21 => ?_)
    · have c_21 : h2.toInt ≤ hi.toInt := lc_ge c_21
      refine lv_iconst (v := 1) hx hb dX2_compare_28 (by decide) ?_
      exact hret rfl (by have := uN_lt lo; have := uN_lt l2; have := uN_of lo; have := uN_of l2; have := sI_rng lo; have := sI_rng l2; unfold cm wv; split <;> (try split) <;> first | rfl | omega) dX2_compare_29
    · have c_21 : hi.toInt < h2.toInt := lc_nge c_21
      refine lv_iconst (v := (-1)) hx hb dX2_compare_24 (by decide) ?_
      refine lv_goto (tgt := 29) hx hb dX2_compare_25 (by decide) ?_
      exact hret rfl (by have := uN_lt lo; have := uN_lt l2; have := uN_of lo; have := uN_of l2; have := sI_rng lo; have := sI_rng l2; unfold cm wv; split <;> (try split) <;> first | rfl | omega) dX2_compare_29

set_option maxHeartbeats 4000000 in
set_option maxRecDepth 100000 in
theorem c_X2_negate (l : Launch) (D : va_G) (cZ cI cJ : ClassId) (o : Nat) (hi lo : Int64) : Cv l D cZ cI cJ yX2_negate cX2_negate 1 { frames := 0, cells := 0, slots := 0, locals := 0 } [.ref o] [(o, .inr (2, [.long hi, .long lo]))] (S := Int64 × Int64) (fun u => In (-(wv hi lo)) → wv u.1 u.2 = -(wv hi lo)) (fun u => [(o, .inr (2, [.long u.1, .long u.2]))]) := by
  refine Cv.of (by decide) ?_
  intro p e s m args below meth c A Q hB hret hP hD hA
  obtain ⟨hx, hb, hr, hlocks, hml, hown, hnm, hTB, hK⟩ := hB
  have hown : s.vm.findClass RX2 = some m.cls := hown
  have hS : va_S A s.heap s.heap [] := va_S.rf
  have hl := lv_entry ([.ref o]) (n := 1) (Nat.le_of_ble_eq_true rfl)
  rw [lg_entry_eq]
  generalize (lg_sl ([.ref o]) ++ List.replicate (1 - (lg_sl ([.ref o])).length) Slot.unset).toArray = ls at hl ⊢
  have hl : lv_has ls 1 [(0, .ref o)] := hl
  refine lv_aload_n hx hb dX2_negate_0 rfl (lv_at hl 0 rfl) ?_
  refine lv_aload_n hx hb dX2_negate_1 rfl (lv_at hl 0 rfl) ?_
  refine va_get (D := D) (ci := 2) (v := .long lo) (C := RX2) (T := TX2) (N := 2) hx hb hTB tb_X2 hown hK.1 hP 0 rfl rfl 1 (by decide) (hTB _ tb_4_21) (fun _ h9 => h9) rfl dX2_negate_2 ?_
  refine lv_lneg hx hb dX2_negate_5 ?_
  refine va_put (D := D) (ci := 2) (v := .long (-lo)) (ty := .long) (C := RX2) (T := TX2) (N := 2) hx hb hTB tb_X2 tyX2 tyX2_ok nmX2 hown hK.1 hP hD hS 0 rfl rfl 1 (by decide) (hTB _ tb_4_21) (fun _ h9 => h9) rfl (by decide +kernel) rfl rfl (Nat.le_of_ble_eq_true rfl) dX2_negate_6 (fun H locs hP hD hS => ?_)
  have hP : va_P D vwCl [(o, .inr (2, [.long hi, .long (-lo)]))] H := hP
  have hD : va_D A [(o, .inr (2, [.long hi, .long (-lo)]))] := hD
  refine lv_aload_n hx hb dX2_negate_9 rfl (lv_at hl 0 rfl) ?_
  refine lv_aload_n hx hb dX2_negate_10 rfl (lv_at hl 0 rfl) ?_
  refine va_get (D := D) (ci := 2) (v := .long (-lo)) (C := RX2) (T := TX2) (N := 2) hx hb hTB tb_X2 hown hK.1 hP 0 rfl rfl 1 (by decide) (hTB _ tb_4_21) (fun _ h9 => h9) rfl dX2_negate_11 ?_
  refine lv_lconst (v := 0) hx hb dX2_negate_14 (by decide) ?_
  refine W.lcmp hx hb dX2_negate_15 ?_
  refine lv_if_ne (tgt := 27) hx hb dX2_negate_16 (by decide) (fun c_16 => ?_) (fun c_16 => ?_)
  · have c_16 : (-lo).toInt ≠ (0 : Int) := lc_ne c_16
    refine lv_aload_n hx hb dX2_negate_27 rfl (lv_at hl 0 rfl) ?_
    refine va_get (D := D) (ci := 2) (v := .long hi) (C := RX2) (T := TX2) (N := 2) hx hb hTB tb_X2 hown hK.1 hP 0 rfl rfl 0 (by decide) (hTB _ tb_4_23) (fun _ h9 => h9) rfl dX2_negate_28 ?_
    refine lv_ldc2 (v := (-1)) hx hb hown (hTB _ tb_4_22) dX2_negate_31 ?_
    refine lv_lxor hx hb dX2_negate_34 ?_
    refine va_put (D := D) (ci := 2) (v := .long (hi ^^^ (-1))) (ty := .long) (C := RX2) (T := TX2) (N := 2) hx hb hTB tb_X2 tyX2 tyX2_ok nmX2 hown hK.1 hP hD hS 0 rfl rfl 0 (by decide) (hTB _ tb_4_23) (fun _ h9 => h9) rfl (by decide +kernel) rfl rfl (Nat.le_of_ble_eq_true rfl) dX2_negate_35 (fun H locs hP hD hS => ?_)
    have hP : va_P D vwCl [(o, .inr (2, [.long (hi ^^^ (-1)), .long (-lo)]))] H := hP
    have hD : va_D A [(o, .inr (2, [.long (hi ^^^ (-1)), .long (-lo)]))] := hD
    exact hret hP hD hS (hi ^^^ (-1), -lo) (fun hz => wv_neg1 (fun q => c_16 (i64_eq.mp q)) hz) [0] rfl (by decide) dX2_negate_38 (Nat.le_of_ble_eq_true rfl) (Nat.le_of_ble_eq_true rfl)
  · have c_16 : (-lo).toInt = (0 : Int) := lc_eq c_16
    refine lv_aload_n hx hb dX2_negate_19 rfl (lv_at hl 0 rfl) ?_
    refine va_get (D := D) (ci := 2) (v := .long hi) (C := RX2) (T := TX2) (N := 2) hx hb hTB tb_X2 hown hK.1 hP 0 rfl rfl 0 (by decide) (hTB _ tb_4_23) (fun _ h9 => h9) rfl dX2_negate_20 ?_
    refine lv_lneg hx hb dX2_negate_23 ?_
    refine lv_goto (tgt := 35) hx hb dX2_negate_24 (by decide) ?_
    refine va_put (D := D) (ci := 2) (v := .long (-hi)) (ty := .long) (C := RX2) (T := TX2) (N := 2) hx hb hTB tb_X2 tyX2 tyX2_ok nmX2 hown hK.1 hP hD hS 0 rfl rfl 0 (by decide) (hTB _ tb_4_23) (fun _ h9 => h9) rfl (by decide +kernel) rfl rfl (Nat.le_of_ble_eq_true rfl) dX2_negate_35 (fun H locs hP hD hS => ?_)
    have hP : va_P D vwCl [(o, .inr (2, [.long (-hi), .long (-lo)]))] H := hP
    have hD : va_D A [(o, .inr (2, [.long (-hi), .long (-lo)]))] := hD
    exact hret hP hD hS (-hi, -lo) (fun hz => wv_neg0 (i64_eq.mpr c_16) hz) [0] rfl (by decide) dX2_negate_38 (Nat.le_of_ble_eq_true rfl) (Nat.le_of_ble_eq_true rfl)

set_option maxHeartbeats 4000000 in
set_option maxRecDepth 100000 in
theorem c_X2_addParts (l : Launch) (D : va_G) (cZ cI cJ : ClassId) (o : Nat) (hi lo : Int64) (oh ol : Int64) : Cv l D cZ cI cJ yX2_addParts cX2_addParts 5 { frames := 1, cells := 0, slots := 0, locals := 23 } [.ref o, .long oh, .long ol] [(o, .inr (2, [.long hi, .long lo]))] (S := Int64 × Int64) (fun u => In (wv hi lo + wv oh ol) → wv u.1 u.2 = wv hi lo + wv oh ol) (fun u => [(o, .inr (2, [.long u.1, .long u.2]))]) := by
  refine Cv.of (by decide) ?_
  intro p e s m args below meth c A Q hB hret hP hD hA
  obtain ⟨hx, hb, hr, hlocks, hml, hown, hnm, hTB, hK⟩ := hB
  have hown : s.vm.findClass RX2 = some m.cls := hown
  have hS : va_S A s.heap s.heap [] := va_S.rf
  have hl := lv_entry ([.ref o, .long oh, .long ol]) (n := 5) (Nat.le_of_ble_eq_true rfl)
  rw [lg_entry_eq]
  generalize (lg_sl ([.ref o, .long oh, .long ol]) ++ List.replicate (5 - (lg_sl ([.ref o, .long oh, .long ol])).length) Slot.unset).toArray = ls at hl ⊢
  have hl : lv_has ls 5 [(0, .ref o), (1, .long oh), (3, .long ol)] := hl
  refine lv_aload_n hx hb dX2_addParts_0 rfl (lv_at hl 0 rfl) ?_
  refine lv_dup hx hb dX2_addParts_1 rfl ?_
  refine va_get (D := D) (ci := 2) (v := .long lo) (C := RX2) (T := TX2) (N := 2) hx hb hTB tb_X2 hown hK.1 hP 0 rfl rfl 1 (by decide) (hTB _ tb_4_21) (fun _ h9 => h9) rfl dX2_addParts_2 ?_
  refine lv_lload_n hx hb dX2_addParts_5 rfl (lv_at hl 2 rfl) ?_
  refine lv_ladd hx hb dX2_addParts_6 ?_
  refine va_put (D := D) (ci := 2) (v := .long (lo + ol)) (ty := .long) (C := RX2) (T := TX2) (N := 2) hx hb hTB tb_X2 tyX2 tyX2_ok nmX2 hown hK.1 hP hD hS 0 rfl rfl 1 (by decide) (hTB _ tb_4_21) (fun _ h9 => h9) rfl (by decide +kernel) rfl rfl (Nat.le_of_ble_eq_true rfl) dX2_addParts_7 (fun H locs hP hD hS => ?_)
  have hP : va_P D vwCl [(o, .inr (2, [.long hi, .long (lo + ol)]))] H := hP
  have hD : va_D A [(o, .inr (2, [.long hi, .long (lo + ol)]))] := hD
  refine lv_aload_n hx hb dX2_addParts_10 rfl (lv_at hl 0 rfl) ?_
  refine lv_dup hx hb dX2_addParts_11 rfl ?_
  refine va_get (D := D) (ci := 2) (v := .long hi) (C := RX2) (T := TX2) (N := 2) hx hb hTB tb_X2 hown hK.1 hP 0 rfl rfl 0 (by decide) (hTB _ tb_4_23) (fun _ h9 => h9) rfl dX2_addParts_12 ?_
  refine lv_lload_n hx hb dX2_addParts_15 rfl (lv_at hl 1 rfl) ?_
  refine lv_ladd hx hb dX2_addParts_16 ?_
  refine va_put (D := D) (ci := 2) (v := .long (hi + oh)) (ty := .long) (C := RX2) (T := TX2) (N := 2) hx hb hTB tb_X2 tyX2 tyX2_ok nmX2 hown hK.1 hP hD hS 0 rfl rfl 0 (by decide) (hTB _ tb_4_23) (fun _ h9 => h9) rfl (by decide +kernel) rfl rfl (Nat.le_of_ble_eq_true rfl) dX2_addParts_17 (fun H locs hP hD hS => ?_)
  have hP : va_P D vwCl [(o, .inr (2, [.long (hi + oh), .long (lo + ol)]))] H := hP
  have hD : va_D A [(o, .inr (2, [.long (hi + oh), .long (lo + ol)]))] := hD
  refine lv_aload_n hx hb dX2_addParts_20 rfl (lv_at hl 0 rfl) ?_
  refine va_get (D := D) (ci := 2) (v := .long (lo + ol)) (C := RX2) (T := TX2) (N := 2) hx hb hTB tb_X2 hown hK.1 hP 0 rfl rfl 1 (by decide) (hTB _ tb_4_21) (fun _ h9 => h9) rfl dX2_addParts_21 ?_
  refine lv_lload_n hx hb dX2_addParts_24 rfl (lv_at hl 2 rfl) ?_
  refine vp_callSi (va_runS (As := [.long (lo + ol), .long ol]) (rest := []) ⟨hx, hb, hml, hown, hTB⟩ (c_X2_isBelowUnsigned l D cZ cI cJ (lo + ol) ol) (cw_S hTB tb_5_18 tb_2_9 tb_5_16 tb_5_17 nd_X2_isBelowUnsigned rfl rfl ⟨Nat.le_of_ble_eq_true rfl, Nat.le_of_ble_eq_true rfl⟩) (prr_S hK hP [] rfl) rfl rfl hl.1 rfl (lv_room (Nat.le_of_ble_eq_true rfl)) dX2_addParts_25 ⟨Nat.le_of_ble_eq_true rfl, Nat.le_of_ble_eq_true rfl⟩).run (fun r25 hc25 => ?_)
  subst hc25
  refine lv_if_eq (tgt := 41) hx hb dX2_addParts_28 (by decide) (fun c_28 => ?_) (fun c_28 => ?_)
  · have c_28 := bz_0 c_28
    exact hret hP hD hS (hi + oh, lo + ol) (fun hz => wv_add0 c_28 hz) [0] rfl (by decide) dX2_addParts_41 (Nat.le_of_ble_eq_true rfl) (Nat.le_of_ble_eq_true rfl)
  · have c_28 := bz_1 c_28
    refine lv_aload_n hx hb dX2_addParts_31 rfl (lv_at hl 0 rfl) ?_
    refine lv_dup hx hb dX2_addParts_32 rfl ?_
    refine va_get (D := D) (ci := 2) (v := .long (hi + oh)) (C := RX2) (T := TX2) (N := 2) hx hb hTB tb_X2 hown hK.1 hP 0 rfl rfl 0 (by decide) (hTB _ tb_4_23) (fun _ h9 => h9) rfl dX2_addParts_33 ?_
    refine lv_lconst (v := 1) hx hb dX2_addParts_36 (by decide) ?_
    refine lv_ladd hx hb dX2_addParts_37 ?_
    refine va_put (D := D) (ci := 2) (v := .long ((hi + oh) + 1)) (ty := .long) (C := RX2) (T := TX2) (N := 2) hx hb hTB tb_X2 tyX2 tyX2_ok nmX2 hown hK.1 hP hD hS 0 rfl rfl 0 (by decide) (hTB _ tb_4_23) (fun _ h9 => h9) rfl (by decide +kernel) rfl rfl (Nat.le_of_ble_eq_true rfl) dX2_addParts_38 (fun H locs hP hD hS => ?_)
    have hP : va_P D vwCl [(o, .inr (2, [.long ((hi + oh) + 1), .long (lo + ol)]))] H := hP
    have hD : va_D A [(o, .inr (2, [.long ((hi + oh) + 1), .long (lo + ol)]))] := hD
    exact hret hP hD hS ((hi + oh) + 1, lo + ol) (fun hz => wv_add1 c_28 hz) [0] rfl (by decide) dX2_addParts_41 (Nat.le_of_ble_eq_true rfl) (Nat.le_of_ble_eq_true rfl)

set_option maxHeartbeats 4000000 in
set_option maxRecDepth 100000 in
theorem c_X2_subtract (l : Launch) (D : va_G) (cZ cI cJ : ClassId) (o x : Nat) (hi lo h2 l2 : Int64) : Cv l D cZ cI cJ yX2_subtract cX2_subtract 2 { frames := 1, cells := 0, slots := 0, locals := 23 } [.ref o, .ref x] [(o, .inr (2, [.long hi, .long lo])), (x, .inr (2, [.long h2, .long l2]))] (S := Int64 × Int64) (fun u => In (wv hi lo - wv h2 l2) → wv u.1 u.2 = wv hi lo - wv h2 l2) (fun u => [(o, .inr (2, [.long u.1, .long u.2])), (x, .inr (2, [.long h2, .long l2]))]) := by
  refine Cv.of (by decide) ?_
  intro p e s m args below meth c A Q hB hret hP hD hA
  obtain ⟨hx, hb, hr, hlocks, hml, hown, hnm, hTB, hK⟩ := hB
  have hown : s.vm.findClass RX2 = some m.cls := hown
  have hS : va_S A s.heap s.heap [] := va_S.rf
  have hl := lv_entry ([.ref o, .ref x]) (n := 2) (Nat.le_of_ble_eq_true rfl)
  rw [lg_entry_eq]
  generalize (lg_sl ([.ref o, .ref x]) ++ List.replicate (2 - (lg_sl ([.ref o, .ref x])).length) Slot.unset).toArray = ls at hl ⊢
  have hl : lv_has ls 2 [(0, .ref o), (1, .ref x)] := hl
  refine lv_aload_n hx hb dX2_subtract_0 rfl (lv_at hl 0 rfl) ?_
  refine va_get (D := D) (ci := 2) (v := .long lo) (C := RX2) (T := TX2) (N := 2) hx hb hTB tb_X2 hown hK.1 hP 0 rfl rfl 1 (by decide) (hTB _ tb_4_21) (fun _ h9 => h9) rfl dX2_subtract_1 ?_
  refine lv_aload_n hx hb dX2_subtract_4 rfl (lv_at hl 1 rfl) ?_
  refine va_get (D := D) (ci := 2) (v := .long l2) (C := RX2) (T := TX2) (N := 2) hx hb hTB tb_X2 hown hK.1 hP 1 rfl rfl 1 (by decide) (hTB _ tb_4_21) (fun _ h9 => h9) rfl dX2_subtract_5 ?_
  refine vp_callSi (va_runS (As := [.long lo, .long l2]) (rest := []) ⟨hx, hb, hml, hown, hTB⟩ (c_X2_isBelowUnsigned l D cZ cI cJ lo l2) (cw_S hTB tb_5_18 tb_2_9 tb_5_16 tb_5_17 nd_X2_isBelowUnsigned rfl rfl ⟨Nat.le_of_ble_eq_true rfl, Nat.le_of_ble_eq_true rfl⟩) (prr_S hK hP [] rfl) rfl rfl hl.1 rfl (lv_room (Nat.le_of_ble_eq_true rfl)) dX2_subtract_8 ⟨Nat.le_of_ble_eq_true rfl, Nat.le_of_ble_eq_true rfl⟩).run (fun r8 hc8 => ?_)
  subst hc8
  refine lv_if_eq (tgt := 24) hx hb dX2_subtract_11 (by decide) (fun c_11 => ?_) (fun c_11 => ?_)
  · have c_11 := bz_0 c_11
    refine lv_aload_n hx hb dX2_subtract_24 rfl (lv_at hl 0 rfl) ?_
    refine lv_dup hx hb dX2_subtract_25 rfl ?_
    refine va_get (D := D) (ci := 2) (v := .long lo) (C := RX2) (T := TX2) (N := 2) hx hb hTB tb_X2 hown hK.1 hP 0 rfl rfl 1 (by decide) (hTB _ tb_4_21) (fun _ h9 => h9) rfl dX2_subtract_26 ?_
    refine lv_aload_n hx hb dX2_subtract_29 rfl (lv_at hl 1 rfl) ?_
    refine va_get (D := D) (ci := 2) (v := .long l2) (C := RX2) (T := TX2) (N := 2) hx hb hTB tb_X2 hown hK.1 hP 1 rfl rfl 1 (by decide) (hTB _ tb_4_21) (fun _ h9 => h9) rfl dX2_subtract_30 ?_
    refine lv_lsub hx hb dX2_subtract_33 ?_
    refine va_put (D := D) (ci := 2) (v := .long (lo - l2)) (ty := .long) (C := RX2) (T := TX2) (N := 2) hx hb hTB tb_X2 tyX2 tyX2_ok nmX2 hown hK.1 hP hD hS 0 rfl rfl 1 (by decide) (hTB _ tb_4_21) (fun _ h9 => h9) rfl (by decide +kernel) rfl rfl (Nat.le_of_ble_eq_true rfl) dX2_subtract_34 (fun H locs hP hD hS => ?_)
    have hP : va_P D vwCl [(o, .inr (2, [.long hi, .long (lo - l2)])), (x, .inr (2, [.long h2, .long l2]))] H := hP
    have hD : va_D A [(o, .inr (2, [.long hi, .long (lo - l2)])), (x, .inr (2, [.long h2, .long l2]))] := hD
    refine lv_aload_n hx hb dX2_subtract_37 rfl (lv_at hl 0 rfl) ?_
    refine lv_dup hx hb dX2_subtract_38 rfl ?_
    refine va_get (D := D) (ci := 2) (v := .long hi) (C := RX2) (T := TX2) (N := 2) hx hb hTB tb_X2 hown hK.1 hP 0 rfl rfl 0 (by decide) (hTB _ tb_4_23) (fun _ h9 => h9) rfl dX2_subtract_39 ?_
    refine lv_aload_n hx hb dX2_subtract_42 rfl (lv_at hl 1 rfl) ?_
    refine va_get (D := D) (ci := 2) (v := .long h2) (C := RX2) (T := TX2) (N := 2) hx hb hTB tb_X2 hown hK.1 hP 1 rfl rfl 0 (by decide) (hTB _ tb_4_23) (fun _ h9 => h9) rfl dX2_subtract_43 ?_
    refine lv_lsub hx hb dX2_subtract_46 ?_
    refine va_put (D := D) (ci := 2) (v := .long (hi - h2)) (ty := .long) (C := RX2) (T := TX2) (N := 2) hx hb hTB tb_X2 tyX2 tyX2_ok nmX2 hown hK.1 hP hD hS 0 rfl rfl 0 (by decide) (hTB _ tb_4_23) (fun _ h9 => h9) rfl (by decide +kernel) rfl rfl (Nat.le_of_ble_eq_true rfl) dX2_subtract_47 (fun H locs hP hD hS => ?_)
    have hP : va_P D vwCl [(o, .inr (2, [.long (hi - h2), .long (lo - l2)])), (x, .inr (2, [.long h2, .long l2]))] H := hP
    have hD : va_D A [(o, .inr (2, [.long (hi - h2), .long (lo - l2)])), (x, .inr (2, [.long h2, .long l2]))] := hD
    exact hret hP hD hS (hi - h2, lo - l2) (fun hz => wv_sub0 c_11 hz) [0, 1] rfl (by decide) dX2_subtract_50 (Nat.le_of_ble_eq_true rfl) (Nat.le_of_ble_eq_true rfl)
  · have c_11 := bz_1 c_11
    refine lv_aload_n hx hb dX2_subtract_14 rfl (lv_at hl 0 rfl) ?_
    refine lv_dup hx hb dX2_subtract_15 rfl ?_
    refine va_get (D := D) (ci := 2) (v := .long hi) (C := RX2) (T := TX2) (N := 2) hx hb hTB tb_X2 hown hK.1 hP 0 rfl rfl 0 (by decide) (hTB _ tb_4_23) (fun _ h9 => h9) rfl dX2_subtract_16 ?_
    refine lv_lconst (v := 1) hx hb dX2_subtract_19 (by decide) ?_
    refine lv_lsub hx hb dX2_subtract_20 ?_
    refine va_put (D := D) (ci := 2) (v := .long (hi - 1)) (ty := .long) (C := RX2) (T := TX2) (N := 2) hx hb hTB tb_X2 tyX2 tyX2_ok nmX2 hown hK.1 hP hD hS 0 rfl rfl 0 (by decide) (hTB _ tb_4_23) (fun _ h9 => h9) rfl (by decide +kernel) rfl rfl (Nat.le_of_ble_eq_true rfl) dX2_subtract_21 (fun H locs hP hD hS => ?_)
    have hP : va_P D vwCl [(o, .inr (2, [.long (hi - 1), .long lo])), (x, .inr (2, [.long h2, .long l2]))] H := hP
    have hD : va_D A [(o, .inr (2, [.long (hi - 1), .long lo])), (x, .inr (2, [.long h2, .long l2]))] := hD
    refine lv_aload_n hx hb dX2_subtract_24 rfl (lv_at hl 0 rfl) ?_
    refine lv_dup hx hb dX2_subtract_25 rfl ?_
    refine va_get (D := D) (ci := 2) (v := .long lo) (C := RX2) (T := TX2) (N := 2) hx hb hTB tb_X2 hown hK.1 hP 0 rfl rfl 1 (by decide) (hTB _ tb_4_21) (fun _ h9 => h9) rfl dX2_subtract_26 ?_
    refine lv_aload_n hx hb dX2_subtract_29 rfl (lv_at hl 1 rfl) ?_
    refine va_get (D := D) (ci := 2) (v := .long l2) (C := RX2) (T := TX2) (N := 2) hx hb hTB tb_X2 hown hK.1 hP 1 rfl rfl 1 (by decide) (hTB _ tb_4_21) (fun _ h9 => h9) rfl dX2_subtract_30 ?_
    refine lv_lsub hx hb dX2_subtract_33 ?_
    refine va_put (D := D) (ci := 2) (v := .long (lo - l2)) (ty := .long) (C := RX2) (T := TX2) (N := 2) hx hb hTB tb_X2 tyX2 tyX2_ok nmX2 hown hK.1 hP hD hS 0 rfl rfl 1 (by decide) (hTB _ tb_4_21) (fun _ h9 => h9) rfl (by decide +kernel) rfl rfl (Nat.le_of_ble_eq_true rfl) dX2_subtract_34 (fun H locs hP hD hS => ?_)
    have hP : va_P D vwCl [(o, .inr (2, [.long (hi - 1), .long (lo - l2)])), (x, .inr (2, [.long h2, .long l2]))] H := hP
    have hD : va_D A [(o, .inr (2, [.long (hi - 1), .long (lo - l2)])), (x, .inr (2, [.long h2, .long l2]))] := hD
    refine lv_aload_n hx hb dX2_subtract_37 rfl (lv_at hl 0 rfl) ?_
    refine lv_dup hx hb dX2_subtract_38 rfl ?_
    refine va_get (D := D) (ci := 2) (v := .long (hi - 1)) (C := RX2) (T := TX2) (N := 2) hx hb hTB tb_X2 hown hK.1 hP 0 rfl rfl 0 (by decide) (hTB _ tb_4_23) (fun _ h9 => h9) rfl dX2_subtract_39 ?_
    refine lv_aload_n hx hb dX2_subtract_42 rfl (lv_at hl 1 rfl) ?_
    refine va_get (D := D) (ci := 2) (v := .long h2) (C := RX2) (T := TX2) (N := 2) hx hb hTB tb_X2 hown hK.1 hP 1 rfl rfl 0 (by decide) (hTB _ tb_4_23) (fun _ h9 => h9) rfl dX2_subtract_43 ?_
    refine lv_lsub hx hb dX2_subtract_46 ?_
    refine va_put (D := D) (ci := 2) (v := .long ((hi - 1) - h2)) (ty := .long) (C := RX2) (T := TX2) (N := 2) hx hb hTB tb_X2 tyX2 tyX2_ok nmX2 hown hK.1 hP hD hS 0 rfl rfl 0 (by decide) (hTB _ tb_4_23) (fun _ h9 => h9) rfl (by decide +kernel) rfl rfl (Nat.le_of_ble_eq_true rfl) dX2_subtract_47 (fun H locs hP hD hS => ?_)
    have hP : va_P D vwCl [(o, .inr (2, [.long ((hi - 1) - h2), .long (lo - l2)])), (x, .inr (2, [.long h2, .long l2]))] H := hP
    have hD : va_D A [(o, .inr (2, [.long ((hi - 1) - h2), .long (lo - l2)])), (x, .inr (2, [.long h2, .long l2]))] := hD
    exact hret hP hD hS ((hi - 1) - h2, lo - l2) (fun hz => wv_sub1 c_11 hz) [0, 1] rfl (by decide) dX2_subtract_50 (Nat.le_of_ble_eq_true rfl) (Nat.le_of_ble_eq_true rfl)

set_option maxHeartbeats 4000000 in
set_option maxRecDepth 100000 in
theorem c_X2_highOfProduct (l : Launch) (D : va_G) (cZ cI cJ : ClassId) (a b : Int64) : Rl l D cZ cI cJ yX2_highOfProduct cX2_highOfProduct 16 (some .long) { frames := 0, cells := 0, slots := 0, locals := 0 } [.long a, .long b] [] (fun r => r = hop a b) := by
  refine Rl.of (by decide) ?_
  intro p e s m args below meth c Q hB hret hP
  obtain ⟨hx, hb, hr, hlocks, hml, hown, hnm, hTB, hK⟩ := hB
  have hown : s.vm.findClass RX2 = some m.cls := hown
  have hl := lv_entry ([.long a, .long b]) (n := 16) (Nat.le_of_ble_eq_true rfl)
  rw [lg_entry_eq]
  generalize (lg_sl ([.long a, .long b]) ++ List.replicate (16 - (lg_sl ([.long a, .long b])).length) Slot.unset).toArray = ls at hl ⊢
  have hl : lv_has ls 16 [(0, .long a), (2, .long b)] := hl
  refine lv_lload_n hx hb dX2_highOfProduct_0 rfl (lv_at hl 0 rfl) ?_
  refine lv_ldc2 (v := 4294967295) hx hb hown (hTB _ tb_5_11) dX2_highOfProduct_1 ?_
  refine lv_land hx hb dX2_highOfProduct_4 ?_
  refine lv_lstore (lv' := [(4, .long (a &&& 4294967295)), (0, .long a), (2, .long b)]) hx hb dX2_highOfProduct_5 hl (by decide) rfl (fun ls hl => ?_)
  refine lv_lload_n hx hb dX2_highOfProduct_7 rfl (lv_at hl 1 rfl) ?_
  refine lv_bipush (v := 32) hx hb dX2_highOfProduct_8 (by decide) ?_
  refine lv_lshr (v := a >>> ((32 : Int32).toInt64 &&& 63)) hx hb dX2_highOfProduct_10 rfl ?_
  refine lv_lstore (lv' := [(6, .long (a >>> ((32 : Int32).toInt64 &&& 63))), (4, .long (a &&& 4294967295)), (0, .long a), (2, .long b)]) hx hb dX2_highOfProduct_11 hl (by decide) rfl (fun ls hl => ?_)
  refine lv_lload_n hx hb dX2_highOfProduct_13 rfl (lv_at hl 3 rfl) ?_
  refine lv_ldc2 (v := 4294967295) hx hb hown (hTB _ tb_5_11) dX2_highOfProduct_14 ?_
  refine lv_land hx hb dX2_highOfProduct_17 ?_
  refine lv_lstore (lv' := [(8, .long (b &&& 4294967295)), (6, .long (a >>> ((32 : Int32).toInt64 &&& 63))), (4, .long (a &&& 4294967295)), (0, .long a), (2, .long b)]) hx hb dX2_highOfProduct_18 hl (by decide) rfl (fun ls hl => ?_)
  refine lv_lload_n hx hb dX2_highOfProduct_20 rfl (lv_at hl 4 rfl) ?_
  refine lv_bipush (v := 32) hx hb dX2_highOfProduct_21 (by decide) ?_
  refine lv_lshr (v := b >>> ((32 : Int32).toInt64 &&& 63)) hx hb dX2_highOfProduct_23 rfl ?_
  refine lv_lstore (lv' := [(10, .long (b >>> ((32 : Int32).toInt64 &&& 63))), (8, .long (b &&& 4294967295)), (6, .long (a >>> ((32 : Int32).toInt64 &&& 63))), (4, .long (a &&& 4294967295)), (0, .long a), (2, .long b)]) hx hb dX2_highOfProduct_24 hl (by decide) rfl (fun ls hl => ?_)
  refine lv_lload hx hb dX2_highOfProduct_26 (lv_at hl 2 rfl) ?_
  refine lv_lload hx hb dX2_highOfProduct_28 (lv_at hl 1 rfl) ?_
  refine lv_lmul hx hb dX2_highOfProduct_30 ?_
  refine lv_lload hx hb dX2_highOfProduct_31 (lv_at hl 3 rfl) ?_
  refine lv_lload hx hb dX2_highOfProduct_33 (lv_at hl 1 rfl) ?_
  refine lv_lmul hx hb dX2_highOfProduct_35 ?_
  refine lv_bipush (v := 32) hx hb dX2_highOfProduct_36 (by decide) ?_
  refine lv_lushr (v := (((a &&& 4294967295) * (b &&& 4294967295)).toUInt64 >>> ((32 : Int32).toInt64.toUInt64 &&& Int64.toUInt64 63)).toInt64) hx hb dX2_highOfProduct_38 rfl ?_
  refine lv_ladd hx hb dX2_highOfProduct_39 ?_
  refine lv_lstore (lv' := [(12, .long (((a >>> ((32 : Int32).toInt64 &&& 63)) * (b &&& 4294967295)) + ((((a &&& 4294967295) * (b &&& 4294967295)).toUInt64 >>> ((32 : Int32).toInt64.toUInt64 &&& Int64.toUInt64 63)).toInt64))), (10, .long (b >>> ((32 : Int32).toInt64 &&& 63))), (8, .long (b &&& 4294967295)), (6, .long (a >>> ((32 : Int32).toInt64 &&& 63))), (4, .long (a &&& 4294967295)), (0, .long a), (2, .long b)]) hx hb dX2_highOfProduct_40 hl (by decide) rfl (fun ls hl => ?_)
  refine lv_lload hx hb dX2_highOfProduct_42 (lv_at hl 4 rfl) ?_
  refine lv_lload hx hb dX2_highOfProduct_44 (lv_at hl 1 rfl) ?_
  refine lv_lmul hx hb dX2_highOfProduct_46 ?_
  refine lv_lload hx hb dX2_highOfProduct_47 (lv_at hl 0 rfl) ?_
  refine lv_ldc2 (v := 4294967295) hx hb hown (hTB _ tb_5_11) dX2_highOfProduct_49 ?_
  refine lv_land hx hb dX2_highOfProduct_52 ?_
  refine lv_ladd hx hb dX2_highOfProduct_53 ?_
  refine lv_lstore (lv' := [(14, .long (((a &&& 4294967295) * (b >>> ((32 : Int32).toInt64 &&& 63))) + ((((a >>> ((32 : Int32).toInt64 &&& 63)) * (b &&& 4294967295)) + ((((a &&& 4294967295) * (b &&& 4294967295)).toUInt64 >>> ((32 : Int32).toInt64.toUInt64 &&& Int64.toUInt64 63)).toInt64)) &&& 4294967295))), (12, .long (((a >>> ((32 : Int32).toInt64 &&& 63)) * (b &&& 4294967295)) + ((((a &&& 4294967295) * (b &&& 4294967295)).toUInt64 >>> ((32 : Int32).toInt64.toUInt64 &&& Int64.toUInt64 63)).toInt64))), (10, .long (b >>> ((32 : Int32).toInt64 &&& 63))), (8, .long (b &&& 4294967295)), (6, .long (a >>> ((32 : Int32).toInt64 &&& 63))), (4, .long (a &&& 4294967295)), (0, .long a), (2, .long b)]) hx hb dX2_highOfProduct_54 hl (by decide) rfl (fun ls hl => ?_)
  refine lv_lload hx hb dX2_highOfProduct_56 (lv_at hl 4 rfl) ?_
  refine lv_lload hx hb dX2_highOfProduct_58 (lv_at hl 2 rfl) ?_
  refine lv_lmul hx hb dX2_highOfProduct_60 ?_
  refine lv_lload hx hb dX2_highOfProduct_61 (lv_at hl 1 rfl) ?_
  refine lv_bipush (v := 32) hx hb dX2_highOfProduct_63 (by decide) ?_
  refine lv_lshr (v := (((a >>> ((32 : Int32).toInt64 &&& 63)) * (b &&& 4294967295)) + ((((a &&& 4294967295) * (b &&& 4294967295)).toUInt64 >>> ((32 : Int32).toInt64.toUInt64 &&& Int64.toUInt64 63)).toInt64)) >>> ((32 : Int32).toInt64 &&& 63)) hx hb dX2_highOfProduct_65 rfl ?_
  refine lv_ladd hx hb dX2_highOfProduct_66 ?_
  refine lv_lload hx hb dX2_highOfProduct_67 (lv_at hl 0 rfl) ?_
  refine lv_bipush (v := 32) hx hb dX2_highOfProduct_69 (by decide) ?_
  refine lv_lshr (v := (((a &&& 4294967295) * (b >>> ((32 : Int32).toInt64 &&& 63))) + ((((a >>> ((32 : Int32).toInt64 &&& 63)) * (b &&& 4294967295)) + ((((a &&& 4294967295) * (b &&& 4294967295)).toUInt64 >>> ((32 : Int32).toInt64.toUInt64 &&& Int64.toUInt64 63)).toInt64)) &&& 4294967295)) >>> ((32 : Int32).toInt64 &&& 63)) hx hb dX2_highOfProduct_71 rfl ?_
  refine lv_ladd hx hb dX2_highOfProduct_72 ?_
  exact hret rfl dX2_highOfProduct_73

set_option maxHeartbeats 4000000 in
set_option maxRecDepth 100000 in
theorem c_X2_twice (l : Launch) (D : va_G) (cZ cI cJ : ClassId) (o : Nat) (hi lo : Int64) : Cv l D cZ cI cJ yX2_twice cX2_twice 1 { frames := 0, cells := 0, slots := 0, locals := 0 } [.ref o] [(o, .inr (2, [.long hi, .long lo]))] (S := Int64 × Int64) (fun u => In (2 * wv hi lo) → wv u.1 u.2 = 2 * wv hi lo) (fun u => [(o, .inr (2, [.long u.1, .long u.2]))]) := by
  refine Cv.of (by decide) ?_
  intro p e s m args below meth c A Q hB hret hP hD hA
  obtain ⟨hx, hb, hr, hlocks, hml, hown, hnm, hTB, hK⟩ := hB
  have hown : s.vm.findClass RX2 = some m.cls := hown
  have hS : va_S A s.heap s.heap [] := va_S.rf
  have hl := lv_entry ([.ref o]) (n := 1) (Nat.le_of_ble_eq_true rfl)
  rw [lg_entry_eq]
  generalize (lg_sl ([.ref o]) ++ List.replicate (1 - (lg_sl ([.ref o])).length) Slot.unset).toArray = ls at hl ⊢
  have hl : lv_has ls 1 [(0, .ref o)] := hl
  refine lv_aload_n hx hb dX2_twice_0 rfl (lv_at hl 0 rfl) ?_
  refine lv_aload_n hx hb dX2_twice_1 rfl (lv_at hl 0 rfl) ?_
  refine va_get (D := D) (ci := 2) (v := .long hi) (C := RX2) (T := TX2) (N := 2) hx hb hTB tb_X2 hown hK.1 hP 0 rfl rfl 0 (by decide) (hTB _ tb_4_23) (fun _ h9 => h9) rfl dX2_twice_2 ?_
  refine lv_iconst (v := 1) hx hb dX2_twice_5 (by decide) ?_
  refine lv_lshl (v := hi <<< ((1 : Int32).toInt64 &&& 63)) hx hb dX2_twice_6 rfl ?_
  refine lv_aload_n hx hb dX2_twice_7 rfl (lv_at hl 0 rfl) ?_
  refine va_get (D := D) (ci := 2) (v := .long lo) (C := RX2) (T := TX2) (N := 2) hx hb hTB tb_X2 hown hK.1 hP 0 rfl rfl 1 (by decide) (hTB _ tb_4_21) (fun _ h9 => h9) rfl dX2_twice_8 ?_
  refine lv_bipush (v := 63) hx hb dX2_twice_11 (by decide) ?_
  refine lv_lushr (v := (lo.toUInt64 >>> ((63 : Int32).toInt64.toUInt64 &&& Int64.toUInt64 63)).toInt64) hx hb dX2_twice_13 rfl ?_
  refine lv_lor hx hb dX2_twice_14 ?_
  refine va_put (D := D) (ci := 2) (v := .long ((hi <<< ((1 : Int32).toInt64 &&& 63)) ||| ((lo.toUInt64 >>> ((63 : Int32).toInt64.toUInt64 &&& Int64.toUInt64 63)).toInt64))) (ty := .long) (C := RX2) (T := TX2) (N := 2) hx hb hTB tb_X2 tyX2 tyX2_ok nmX2 hown hK.1 hP hD hS 0 rfl rfl 0 (by decide) (hTB _ tb_4_23) (fun _ h9 => h9) rfl (by decide +kernel) rfl rfl (Nat.le_of_ble_eq_true rfl) dX2_twice_15 (fun H locs hP hD hS => ?_)
  have hP : va_P D vwCl [(o, .inr (2, [.long ((hi <<< ((1 : Int32).toInt64 &&& 63)) ||| ((lo.toUInt64 >>> ((63 : Int32).toInt64.toUInt64 &&& Int64.toUInt64 63)).toInt64)), .long lo]))] H := hP
  have hD : va_D A [(o, .inr (2, [.long ((hi <<< ((1 : Int32).toInt64 &&& 63)) ||| ((lo.toUInt64 >>> ((63 : Int32).toInt64.toUInt64 &&& Int64.toUInt64 63)).toInt64)), .long lo]))] := hD
  refine lv_aload_n hx hb dX2_twice_18 rfl (lv_at hl 0 rfl) ?_
  refine lv_aload_n hx hb dX2_twice_19 rfl (lv_at hl 0 rfl) ?_
  refine va_get (D := D) (ci := 2) (v := .long lo) (C := RX2) (T := TX2) (N := 2) hx hb hTB tb_X2 hown hK.1 hP 0 rfl rfl 1 (by decide) (hTB _ tb_4_21) (fun _ h9 => h9) rfl dX2_twice_20 ?_
  refine lv_iconst (v := 1) hx hb dX2_twice_23 (by decide) ?_
  refine lv_lshl (v := lo <<< ((1 : Int32).toInt64 &&& 63)) hx hb dX2_twice_24 rfl ?_
  refine va_put (D := D) (ci := 2) (v := .long (lo <<< ((1 : Int32).toInt64 &&& 63))) (ty := .long) (C := RX2) (T := TX2) (N := 2) hx hb hTB tb_X2 tyX2 tyX2_ok nmX2 hown hK.1 hP hD hS 0 rfl rfl 1 (by decide) (hTB _ tb_4_21) (fun _ h9 => h9) rfl (by decide +kernel) rfl rfl (Nat.le_of_ble_eq_true rfl) dX2_twice_25 (fun H locs hP hD hS => ?_)
  have hP : va_P D vwCl [(o, .inr (2, [.long ((hi <<< ((1 : Int32).toInt64 &&& 63)) ||| ((lo.toUInt64 >>> ((63 : Int32).toInt64.toUInt64 &&& Int64.toUInt64 63)).toInt64)), .long (lo <<< ((1 : Int32).toInt64 &&& 63))]))] H := hP
  have hD : va_D A [(o, .inr (2, [.long ((hi <<< ((1 : Int32).toInt64 &&& 63)) ||| ((lo.toUInt64 >>> ((63 : Int32).toInt64.toUInt64 &&& Int64.toUInt64 63)).toInt64)), .long (lo <<< ((1 : Int32).toInt64 &&& 63))]))] := hD
  exact hret hP hD hS ((hi <<< ((1 : Int32).toInt64 &&& 63)) ||| ((lo.toUInt64 >>> ((63 : Int32).toInt64.toUInt64 &&& Int64.toUInt64 63)).toInt64), lo <<< ((1 : Int32).toInt64 &&& 63)) (fun hz => wv_twice hz) [0] rfl (by decide) dX2_twice_28 (Nat.le_of_ble_eq_true rfl) (Nat.le_of_ble_eq_true rfl)

set_option maxHeartbeats 4000000 in
set_option maxRecDepth 100000 in
theorem c_X2_half (l : Launch) (D : va_G) (cZ cI cJ : ClassId) (o : Nat) (hi lo : Int64) : Cv l D cZ cI cJ yX2_half cX2_half 1 { frames := 0, cells := 0, slots := 0, locals := 0 } [.ref o] [(o, .inr (2, [.long hi, .long lo]))] (S := Int64 × Int64) (fun u => wv u.1 u.2 = wv hi lo / 2) (fun u => [(o, .inr (2, [.long u.1, .long u.2]))]) := by
  refine Cv.of (by decide) ?_
  intro p e s m args below meth c A Q hB hret hP hD hA
  obtain ⟨hx, hb, hr, hlocks, hml, hown, hnm, hTB, hK⟩ := hB
  have hown : s.vm.findClass RX2 = some m.cls := hown
  have hS : va_S A s.heap s.heap [] := va_S.rf
  have hl := lv_entry ([.ref o]) (n := 1) (Nat.le_of_ble_eq_true rfl)
  rw [lg_entry_eq]
  generalize (lg_sl ([.ref o]) ++ List.replicate (1 - (lg_sl ([.ref o])).length) Slot.unset).toArray = ls at hl ⊢
  have hl : lv_has ls 1 [(0, .ref o)] := hl
  refine lv_aload_n hx hb dX2_half_0 rfl (lv_at hl 0 rfl) ?_
  refine lv_aload_n hx hb dX2_half_1 rfl (lv_at hl 0 rfl) ?_
  refine va_get (D := D) (ci := 2) (v := .long lo) (C := RX2) (T := TX2) (N := 2) hx hb hTB tb_X2 hown hK.1 hP 0 rfl rfl 1 (by decide) (hTB _ tb_4_21) (fun _ h9 => h9) rfl dX2_half_2 ?_
  refine lv_iconst (v := 1) hx hb dX2_half_5 (by decide) ?_
  refine lv_lushr (v := (lo.toUInt64 >>> ((1 : Int32).toInt64.toUInt64 &&& Int64.toUInt64 63)).toInt64) hx hb dX2_half_6 rfl ?_
  refine lv_aload_n hx hb dX2_half_7 rfl (lv_at hl 0 rfl) ?_
  refine va_get (D := D) (ci := 2) (v := .long hi) (C := RX2) (T := TX2) (N := 2) hx hb hTB tb_X2 hown hK.1 hP 0 rfl rfl 0 (by decide) (hTB _ tb_4_23) (fun _ h9 => h9) rfl dX2_half_8 ?_
  refine lv_bipush (v := 63) hx hb dX2_half_11 (by decide) ?_
  refine lv_lshl (v := hi <<< ((63 : Int32).toInt64 &&& 63)) hx hb dX2_half_13 rfl ?_
  refine lv_lor hx hb dX2_half_14 ?_
  refine va_put (D := D) (ci := 2) (v := .long (((lo.toUInt64 >>> ((1 : Int32).toInt64.toUInt64 &&& Int64.toUInt64 63)).toInt64) ||| (hi <<< ((63 : Int32).toInt64 &&& 63)))) (ty := .long) (C := RX2) (T := TX2) (N := 2) hx hb hTB tb_X2 tyX2 tyX2_ok nmX2 hown hK.1 hP hD hS 0 rfl rfl 1 (by decide) (hTB _ tb_4_21) (fun _ h9 => h9) rfl (by decide +kernel) rfl rfl (Nat.le_of_ble_eq_true rfl) dX2_half_15 (fun H locs hP hD hS => ?_)
  have hP : va_P D vwCl [(o, .inr (2, [.long hi, .long (((lo.toUInt64 >>> ((1 : Int32).toInt64.toUInt64 &&& Int64.toUInt64 63)).toInt64) ||| (hi <<< ((63 : Int32).toInt64 &&& 63)))]))] H := hP
  have hD : va_D A [(o, .inr (2, [.long hi, .long (((lo.toUInt64 >>> ((1 : Int32).toInt64.toUInt64 &&& Int64.toUInt64 63)).toInt64) ||| (hi <<< ((63 : Int32).toInt64 &&& 63)))]))] := hD
  refine lv_aload_n hx hb dX2_half_18 rfl (lv_at hl 0 rfl) ?_
  refine lv_aload_n hx hb dX2_half_19 rfl (lv_at hl 0 rfl) ?_
  refine va_get (D := D) (ci := 2) (v := .long hi) (C := RX2) (T := TX2) (N := 2) hx hb hTB tb_X2 hown hK.1 hP 0 rfl rfl 0 (by decide) (hTB _ tb_4_23) (fun _ h9 => h9) rfl dX2_half_20 ?_
  refine lv_iconst (v := 1) hx hb dX2_half_23 (by decide) ?_
  refine lv_lshr (v := hi >>> ((1 : Int32).toInt64 &&& 63)) hx hb dX2_half_24 rfl ?_
  refine va_put (D := D) (ci := 2) (v := .long (hi >>> ((1 : Int32).toInt64 &&& 63))) (ty := .long) (C := RX2) (T := TX2) (N := 2) hx hb hTB tb_X2 tyX2 tyX2_ok nmX2 hown hK.1 hP hD hS 0 rfl rfl 0 (by decide) (hTB _ tb_4_23) (fun _ h9 => h9) rfl (by decide +kernel) rfl rfl (Nat.le_of_ble_eq_true rfl) dX2_half_25 (fun H locs hP hD hS => ?_)
  have hP : va_P D vwCl [(o, .inr (2, [.long (hi >>> ((1 : Int32).toInt64 &&& 63)), .long (((lo.toUInt64 >>> ((1 : Int32).toInt64.toUInt64 &&& Int64.toUInt64 63)).toInt64) ||| (hi <<< ((63 : Int32).toInt64 &&& 63)))]))] H := hP
  have hD : va_D A [(o, .inr (2, [.long (hi >>> ((1 : Int32).toInt64 &&& 63)), .long (((lo.toUInt64 >>> ((1 : Int32).toInt64.toUInt64 &&& Int64.toUInt64 63)).toInt64) ||| (hi <<< ((63 : Int32).toInt64 &&& 63)))]))] := hD
  exact hret hP hD hS (hi >>> ((1 : Int32).toInt64 &&& 63), ((lo.toUInt64 >>> ((1 : Int32).toInt64.toUInt64 &&& Int64.toUInt64 63)).toInt64) ||| (hi <<< ((63 : Int32).toInt64 &&& 63))) (wv_half hi lo) [0] rfl (by decide) dX2_half_28 (Nat.le_of_ble_eq_true rfl) (Nat.le_of_ble_eq_true rfl)

set_option maxHeartbeats 4000000 in
set_option maxRecDepth 100000 in
theorem c_X2_setLowestBit (l : Launch) (D : va_G) (cZ cI cJ : ClassId) (o : Nat) (hi lo : Int64) : Cv l D cZ cI cJ yX2_setLowestBit cX2_setLowestBit 1 { frames := 0, cells := 0, slots := 0, locals := 0 } [.ref o] [(o, .inr (2, [.long hi, .long lo]))] (S := Int64 × Int64) (fun u => wv u.1 u.2 = wv hi lo + (1 - wv hi lo % 2)) (fun u => [(o, .inr (2, [.long u.1, .long u.2]))]) := by
  refine Cv.of (by decide) ?_
  intro p e s m args below meth c A Q hB hret hP hD hA
  obtain ⟨hx, hb, hr, hlocks, hml, hown, hnm, hTB, hK⟩ := hB
  have hown : s.vm.findClass RX2 = some m.cls := hown
  have hS : va_S A s.heap s.heap [] := va_S.rf
  have hl := lv_entry ([.ref o]) (n := 1) (Nat.le_of_ble_eq_true rfl)
  rw [lg_entry_eq]
  generalize (lg_sl ([.ref o]) ++ List.replicate (1 - (lg_sl ([.ref o])).length) Slot.unset).toArray = ls at hl ⊢
  have hl : lv_has ls 1 [(0, .ref o)] := hl
  refine lv_aload_n hx hb dX2_setLowestBit_0 rfl (lv_at hl 0 rfl) ?_
  refine lv_aload_n hx hb dX2_setLowestBit_1 rfl (lv_at hl 0 rfl) ?_
  refine va_get (D := D) (ci := 2) (v := .long lo) (C := RX2) (T := TX2) (N := 2) hx hb hTB tb_X2 hown hK.1 hP 0 rfl rfl 1 (by decide) (hTB _ tb_4_21) (fun _ h9 => h9) rfl dX2_setLowestBit_2 ?_
  refine lv_lconst (v := 1) hx hb dX2_setLowestBit_5 (by decide) ?_
  refine lv_lor hx hb dX2_setLowestBit_6 ?_
  refine va_put (D := D) (ci := 2) (v := .long (lo ||| 1)) (ty := .long) (C := RX2) (T := TX2) (N := 2) hx hb hTB tb_X2 tyX2 tyX2_ok nmX2 hown hK.1 hP hD hS 0 rfl rfl 1 (by decide) (hTB _ tb_4_21) (fun _ h9 => h9) rfl (by decide +kernel) rfl rfl (Nat.le_of_ble_eq_true rfl) dX2_setLowestBit_7 (fun H locs hP hD hS => ?_)
  have hP : va_P D vwCl [(o, .inr (2, [.long hi, .long (lo ||| 1)]))] H := hP
  have hD : va_D A [(o, .inr (2, [.long hi, .long (lo ||| 1)]))] := hD
  exact hret hP hD hS (hi, lo ||| 1) (wv_bit hi lo) [0] rfl (by decide) dX2_setLowestBit_10 (Nat.le_of_ble_eq_true rfl) (Nat.le_of_ble_eq_true rfl)

set_option maxHeartbeats 4000000 in
set_option maxRecDepth 100000 in
theorem c_X2_lowOfAmount (l : Launch) (D : va_G) (cZ cI cJ : ClassId) (o : Nat) (hi lo : Int64) : Rl l D cZ cI cJ yX2_lowOfAmount cX2_lowOfAmount 1 (some .long) { frames := 0, cells := 0, slots := 0, locals := 0 } [.ref o] [(o, .inr (2, [.long hi, .long lo]))] (fun r => uN r = (wv hi lo).natAbs % 18446744073709551616) := by
  refine Rl.of (by decide) ?_
  intro p e s m args below meth c Q hB hret hP
  obtain ⟨hx, hb, hr, hlocks, hml, hown, hnm, hTB, hK⟩ := hB
  have hown : s.vm.findClass RX2 = some m.cls := hown
  have hl := lv_entry ([.ref o]) (n := 1) (Nat.le_of_ble_eq_true rfl)
  rw [lg_entry_eq]
  generalize (lg_sl ([.ref o]) ++ List.replicate (1 - (lg_sl ([.ref o])).length) Slot.unset).toArray = ls at hl ⊢
  have hl : lv_has ls 1 [(0, .ref o)] := hl
  refine lv_aload_n hx hb dX2_lowOfAmount_0 rfl (lv_at hl 0 rfl) ?_
  refine va_get (D := D) (ci := 2) (v := .long hi) (C := RX2) (T := TX2) (N := 2) hx hb hTB tb_X2 hown hK.1 hP 0 rfl rfl 0 (by decide) (hTB _ tb_4_23) (fun _ h9 => h9) rfl dX2_lowOfAmount_1 ?_
  refine lv_lconst (v := 0) hx hb dX2_lowOfAmount_4 (by decide) ?_
  refine W.lcmp hx hb dX2_lowOfAmount_5 ?_
  refine lv_if_ge (tgt := 17) hx hb dX2_lowOfAmount_6 (by decide) (fun c_6 => ?_) (fun c_6 => ?_)
  · have c_6 : (0 : Int) ≤ hi.toInt := lc_ge c_6
    refine lv_aload_n hx hb dX2_lowOfAmount_17 rfl (lv_at hl 0 rfl) ?_
    refine va_get (D := D) (ci := 2) (v := .long lo) (C := RX2) (T := TX2) (N := 2) hx hb hTB tb_X2 hown hK.1 hP 0 rfl rfl 1 (by decide) (hTB _ tb_4_21) (fun _ h9 => h9) rfl dX2_lowOfAmount_18 ?_
    exact hret (am_lo0 (fun q => by rw [i64_lt, t0] at q; omega)) dX2_lowOfAmount_21
  · have c_6 : hi.toInt < (0 : Int) := lc_nge c_6
    refine lv_aload_n hx hb dX2_lowOfAmount_9 rfl (lv_at hl 0 rfl) ?_
    refine va_get (D := D) (ci := 2) (v := .long lo) (C := RX2) (T := TX2) (N := 2) hx hb hTB tb_X2 hown hK.1 hP 0 rfl rfl 1 (by decide) (hTB _ tb_4_21) (fun _ h9 => h9) rfl dX2_lowOfAmount_10 ?_
    refine lv_lneg hx hb dX2_lowOfAmount_13 ?_
    refine lv_goto (tgt := 21) hx hb dX2_lowOfAmount_14 (by decide) ?_
    exact hret (am_lo1 (i64_lt.mpr c_6)) dX2_lowOfAmount_21

set_option maxHeartbeats 4000000 in
set_option maxRecDepth 100000 in
theorem c_X2_highOfAmount (l : Launch) (D : va_G) (cZ cI cJ : ClassId) (o : Nat) (hi lo : Int64) : Rl l D cZ cI cJ yX2_highOfAmount cX2_highOfAmount 1 (some .long) { frames := 0, cells := 0, slots := 0, locals := 0 } [.ref o] [(o, .inr (2, [.long hi, .long lo]))] (fun r => uN r = (wv hi lo).natAbs / 18446744073709551616) := by
  refine Rl.of (by decide) ?_
  intro p e s m args below meth c Q hB hret hP
  obtain ⟨hx, hb, hr, hlocks, hml, hown, hnm, hTB, hK⟩ := hB
  have hown : s.vm.findClass RX2 = some m.cls := hown
  have hl := lv_entry ([.ref o]) (n := 1) (Nat.le_of_ble_eq_true rfl)
  rw [lg_entry_eq]
  generalize (lg_sl ([.ref o]) ++ List.replicate (1 - (lg_sl ([.ref o])).length) Slot.unset).toArray = ls at hl ⊢
  have hl : lv_has ls 1 [(0, .ref o)] := hl
  refine lv_aload_n hx hb dX2_highOfAmount_0 rfl (lv_at hl 0 rfl) ?_
  refine va_get (D := D) (ci := 2) (v := .long hi) (C := RX2) (T := TX2) (N := 2) hx hb hTB tb_X2 hown hK.1 hP 0 rfl rfl 0 (by decide) (hTB _ tb_4_23) (fun _ h9 => h9) rfl dX2_highOfAmount_1 ?_
  refine lv_lconst (v := 0) hx hb dX2_highOfAmount_4 (by decide) ?_
  refine W.lcmp hx hb dX2_highOfAmount_5 ?_
  refine lv_if_lt (tgt := 14) hx hb dX2_highOfAmount_6 (by decide) (fun c_6 => ?_) (fun c_6 => ?_)
  · have c_6 : hi.toInt < (0 : Int) := lc_lt c_6
    refine lv_aload_n hx hb dX2_highOfAmount_14 rfl (lv_at hl 0 rfl) ?_
    refine va_get (D := D) (ci := 2) (v := .long lo) (C := RX2) (T := TX2) (N := 2) hx hb hTB tb_X2 hown hK.1 hP 0 rfl rfl 1 (by decide) (hTB _ tb_4_21) (fun _ h9 => h9) rfl dX2_highOfAmount_15 ?_
    refine lv_lconst (v := 0) hx hb dX2_highOfAmount_18 (by decide) ?_
    refine W.lcmp hx hb dX2_highOfAmount_19 ?_
    refine lv_if_ne (tgt := 31) hx hb dX2_highOfAmount_20 (by decide) (fun c_20 => ?_) (fun c_20 => ?_)
    · have c_20 : lo.toInt ≠ (0 : Int) := lc_ne c_20
      refine lv_aload_n hx hb dX2_highOfAmount_31 rfl (lv_at hl 0 rfl) ?_
      refine va_get (D := D) (ci := 2) (v := .long hi) (C := RX2) (T := TX2) (N := 2) hx hb hTB tb_X2 hown hK.1 hP 0 rfl rfl 0 (by decide) (hTB _ tb_4_23) (fun _ h9 => h9) rfl dX2_highOfAmount_32 ?_
      refine lv_ldc2 (v := (-1)) hx hb hown (hTB _ tb_4_22) dX2_highOfAmount_35 ?_
      refine lv_lxor hx hb dX2_highOfAmount_38 ?_
      exact hret (am_hi2 (fun q => by rw [i64_le, t0] at q; omega) (fun q => c_20 (i64_eq.mp q))) dX2_highOfAmount_39
    · have c_20 : lo.toInt = (0 : Int) := lc_eq c_20
      refine lv_aload_n hx hb dX2_highOfAmount_23 rfl (lv_at hl 0 rfl) ?_
      refine va_get (D := D) (ci := 2) (v := .long hi) (C := RX2) (T := TX2) (N := 2) hx hb hTB tb_X2 hown hK.1 hP 0 rfl rfl 0 (by decide) (hTB _ tb_4_23) (fun _ h9 => h9) rfl dX2_highOfAmount_24 ?_
      refine lv_lneg hx hb dX2_highOfAmount_27 ?_
      refine lv_goto (tgt := 39) hx hb dX2_highOfAmount_28 (by decide) ?_
      exact hret (am_hi1 (fun q => by rw [i64_le, t0] at q; omega) (i64_eq.mpr c_20)) dX2_highOfAmount_39
  · have c_6 : (0 : Int) ≤ hi.toInt := lc_nlt c_6
    refine lv_aload_n hx hb dX2_highOfAmount_9 rfl (lv_at hl 0 rfl) ?_
    refine va_get (D := D) (ci := 2) (v := .long hi) (C := RX2) (T := TX2) (N := 2) hx hb hTB tb_X2 hown hK.1 hP 0 rfl rfl 0 (by decide) (hTB _ tb_4_23) (fun _ h9 => h9) rfl dX2_highOfAmount_10 ?_
    exact hret (am_hi0 (i64_le.mpr c_6)) dX2_highOfAmount_13

set_option maxHeartbeats 4000000 in
set_option maxRecDepth 100000 in
theorem c_X2_copyAmount (l : Launch) (D : va_G) (cZ cI cJ : ClassId) (o x : Nat) (hi lo h2 l2 : Int64) : Cv l D cZ cI cJ yX2_copyAmount cX2_copyAmount 2 { frames := 1, cells := 0, slots := 0, locals := 21 } [.ref o, .ref x] [(o, .inr (2, [.long hi, .long lo])), (x, .inr (2, [.long h2, .long l2]))] (S := Int64 × Int64) (fun u => In (-(wv h2 l2)) → wv u.1 u.2 = (wv h2 l2).natAbs) (fun u => [(o, .inr (2, [.long u.1, .long u.2])), (x, .inr (2, [.long h2, .long l2]))]) := by
  refine Cv.of (by decide) ?_
  intro p e s m args below meth c A Q hB hret hP hD hA
  obtain ⟨hx, hb, hr, hlocks, hml, hown, hnm, hTB, hK⟩ := hB
  have hown : s.vm.findClass RX2 = some m.cls := hown
  have hS : va_S A s.heap s.heap [] := va_S.rf
  have hl := lv_entry ([.ref o, .ref x]) (n := 2) (Nat.le_of_ble_eq_true rfl)
  rw [lg_entry_eq]
  generalize (lg_sl ([.ref o, .ref x]) ++ List.replicate (2 - (lg_sl ([.ref o, .ref x])).length) Slot.unset).toArray = ls at hl ⊢
  have hl : lv_has ls 2 [(0, .ref o), (1, .ref x)] := hl
  refine lv_aload_n hx hb dX2_copyAmount_0 rfl (lv_at hl 0 rfl) ?_
  refine lv_aload_n hx hb dX2_copyAmount_1 rfl (lv_at hl 1 rfl) ?_
  refine fin_v (wr := []) (va_runV (As := [.ref x]) (rest := []) ⟨hx, hb, hml, hown, hTB⟩ (c_X2_copy l D cZ cI cJ o x hi lo h2 l2 _) (cw_V hTB tb_10_10 tb_2_9 tb_10_23 tb_10_8 tb_10_9 nd_X2_copy rfl rfl ⟨Nat.le_of_ble_eq_true rfl, Nat.le_of_ble_eq_true rfl⟩) (pre_V (q0 := 0) hK hP hD [0, 1] rfl rfl rfl rfl) rfl rfl hl.1 rfl (lv_room (Nat.le_of_ble_eq_true rfl)) dX2_copyAmount_2 ⟨Nat.le_of_ble_eq_true rfl, Nat.le_of_ble_eq_true rfl⟩) hP hD hS hA [0, 1] [] rfl rfl rfl (by decide) (fun u2 H locs hc2 hP hD hS => ?_)
  obtain ⟨w2h, w2l⟩ := u2
  have h2_ := hc2
  have hP : va_P D vwCl [(o, .inr (2, [.long w2h, .long w2l])), (x, .inr (2, [.long h2, .long l2]))] H := hP
  have hD : va_D A [(o, .inr (2, [.long w2h, .long w2l])), (x, .inr (2, [.long h2, .long l2]))] := hD
  refine lv_aload_n hx hb dX2_copyAmount_5 rfl (lv_at hl 0 rfl) ?_
  refine va_get (D := D) (ci := 2) (v := .long w2h) (C := RX2) (T := TX2) (N := 2) hx hb hTB tb_X2 hown hK.1 hP 0 rfl rfl 0 (by decide) (hTB _ tb_4_23) (fun _ h9 => h9) rfl dX2_copyAmount_6 ?_
  refine lv_lconst (v := 0) hx hb dX2_copyAmount_9 (by decide) ?_
  refine W.lcmp hx hb dX2_copyAmount_10 ?_
  refine lv_if_ge (tgt := 18) hx hb dX2_copyAmount_11 (by decide) (fun c_11 => ?_) (fun c_11 => ?_)
  · have c_11 : (0 : Int) ≤ w2h.toInt := lc_ge c_11
    exact hret hP hD hS (w2h, w2l) (fun hz => by have hc := congrArg (fun z : Int64 × Int64 => wv z.1 z.2) h2_; dsimp only at hc; rw [hc]; have := uN_lt l2; have hq := congrArg (fun z : Int64 × Int64 => z.1) h2_; dsimp only at hq; rw [hq] at c_11; unfold wv; omega) [0, 1] rfl (by decide) dX2_copyAmount_18 (Nat.le_of_ble_eq_true rfl) (Nat.le_of_ble_eq_true rfl)
  · have c_11 : w2h.toInt < (0 : Int) := lc_nge c_11
    refine lv_aload_n hx hb dX2_copyAmount_14 rfl (lv_at hl 0 rfl) ?_
    refine fin_v (wr := [(x, .inr (2, [.long h2, .long l2]))]) (va_runV (As := []) (rest := []) ⟨hx, hb, hml, hown, hTB⟩ (c_X2_negate l D cZ cI cJ o w2h w2l _) (cw_V hTB tb_9_14 tb_2_9 tb_11_0 tb_9_12 tb_9_13 nd_X2_negate rfl rfl ⟨Nat.le_of_ble_eq_true rfl, Nat.le_of_ble_eq_true rfl⟩) (pre_V (q0 := 0) hK hP hD [0] rfl rfl rfl rfl) rfl rfl hl.1 rfl (lv_room (Nat.le_of_ble_eq_true rfl)) dX2_copyAmount_15 ⟨Nat.le_of_ble_eq_true rfl, Nat.le_of_ble_eq_true rfl⟩) hP hD hS hA [0] [1] rfl rfl rfl (by decide) (fun u15 H locs hc15 hP hD hS => ?_)
    obtain ⟨w15h, w15l⟩ := u15
    have hP : va_P D vwCl [(x, .inr (2, [.long h2, .long l2])), (o, .inr (2, [.long w15h, .long w15l]))] H := hP
    have hD : va_D A [(x, .inr (2, [.long h2, .long l2])), (o, .inr (2, [.long w15h, .long w15l]))] := hD
    exact hret hP hD hS (w15h, w15l) (fun hz => by have hc := congrArg (fun z : Int64 × Int64 => wv z.1 z.2) h2_; dsimp only at hc; rw [hc15 (by rw [hc]; exact hz), hc]; have := uN_lt l2; have hq := congrArg (fun z : Int64 × Int64 => z.1) h2_; dsimp only at hq; rw [hq] at c_11; unfold wv; omega) [1, 0] rfl (by decide) dX2_copyAmount_18 (Nat.le_of_ble_eq_true rfl) (Nat.le_of_ble_eq_true rfl)

set_option maxHeartbeats 4000000 in
set_option maxRecDepth 100000 in
theorem c_X2_addProduct (l : Launch) (D : va_G) (cZ cI cJ : ClassId) (o : Nat) (hi lo : Int64) (a b : Int64) : Cv l D cZ cI cJ yX2_addProduct cX2_addProduct 5 { frames := 2, cells := 0, slots := 0, locals := 47 } [.ref o, .long a, .long b] [(o, .inr (2, [.long hi, .long lo]))] (S := Int64 × Int64) (fun u => In (wv hi lo + a.toInt * b.toInt) → wv u.1 u.2 = wv hi lo + a.toInt * b.toInt) (fun u => [(o, .inr (2, [.long u.1, .long u.2]))]) := by
  refine Cv.of (by decide) ?_
  intro p e s m args below meth c A Q hB hret hP hD hA
  obtain ⟨hx, hb, hr, hlocks, hml, hown, hnm, hTB, hK⟩ := hB
  have hown : s.vm.findClass RX2 = some m.cls := hown
  have hS : va_S A s.heap s.heap [] := va_S.rf
  have hl := lv_entry ([.ref o, .long a, .long b]) (n := 5) (Nat.le_of_ble_eq_true rfl)
  rw [lg_entry_eq]
  generalize (lg_sl ([.ref o, .long a, .long b]) ++ List.replicate (5 - (lg_sl ([.ref o, .long a, .long b])).length) Slot.unset).toArray = ls at hl ⊢
  have hl : lv_has ls 5 [(0, .ref o), (1, .long a), (3, .long b)] := hl
  refine lv_aload_n hx hb dX2_addProduct_0 rfl (lv_at hl 0 rfl) ?_
  refine lv_lload_n hx hb dX2_addProduct_1 rfl (lv_at hl 1 rfl) ?_
  refine lv_lload_n hx hb dX2_addProduct_2 rfl (lv_at hl 2 rfl) ?_
  refine vp_callSl (va_runS (As := [.long a, .long b]) (rest := [.ref o]) ⟨hx, hb, hml, hown, hTB⟩ (c_X2_highOfProduct l D cZ cI cJ a b) (cw_S hTB tb_5_10 tb_2_9 tb_5_8 tb_5_9 nd_X2_highOfProduct rfl rfl ⟨Nat.le_of_ble_eq_true rfl, Nat.le_of_ble_eq_true rfl⟩) (prr_S hK hP [] rfl) rfl rfl hl.1 rfl (lv_room (Nat.le_of_ble_eq_true rfl)) dX2_addProduct_3 ⟨Nat.le_of_ble_eq_true rfl, Nat.le_of_ble_eq_true rfl⟩).run (fun r3 hc3 => ?_)
  subst hc3
  refine lv_lload_n hx hb dX2_addProduct_6 rfl (lv_at hl 1 rfl) ?_
  refine lv_lload_n hx hb dX2_addProduct_7 rfl (lv_at hl 2 rfl) ?_
  refine lv_lmul hx hb dX2_addProduct_8 ?_
  refine fin_v (wr := []) (va_runV (As := [.long (hop a b), .long (a * b)]) (rest := []) ⟨hx, hb, hml, hown, hTB⟩ (c_X2_addParts l D cZ cI cJ o hi lo (hop a b) (a * b) _) (cw_V hTB tb_5_15 tb_2_9 tb_5_12 tb_5_13 tb_5_14 nd_X2_addParts rfl rfl ⟨Nat.le_of_ble_eq_true rfl, Nat.le_of_ble_eq_true rfl⟩) (pre_V (q0 := 0) hK hP hD [0] rfl rfl rfl rfl) rfl rfl hl.1 rfl (lv_room (Nat.le_of_ble_eq_true rfl)) dX2_addProduct_9 ⟨Nat.le_of_ble_eq_true rfl, Nat.le_of_ble_eq_true rfl⟩) hP hD hS hA [0] [] rfl rfl rfl (by decide) (fun u9 H locs hc9 hP hD hS => ?_)
  obtain ⟨w9h, w9l⟩ := u9
  have hP : va_P D vwCl [(o, .inr (2, [.long w9h, .long w9l]))] H := hP
  have hD : va_D A [(o, .inr (2, [.long w9h, .long w9l]))] := hD
  exact hret hP hD hS (w9h, w9l) (by rw [wv_hop] at hc9; exact hc9) [0] rfl (by decide) dX2_addProduct_12 (Nat.le_of_ble_eq_true rfl) (Nat.le_of_ble_eq_true rfl)

set_option maxHeartbeats 4000000 in
set_option maxRecDepth 100000 in
theorem c_X2_addSpan (l : Launch) (D : va_G) (cZ cI cJ : ClassId) (o : Nat) (hi lo : Int64) (fx fy sx sy : Int64) : Cv l D cZ cI cJ yX2_addSpan cX2_addSpan 9 { frames := 3, cells := 0, slots := 0, locals := 71 } [.ref o, .long fx, .long fy, .long sx, .long sy] [(o, .inr (2, [.long hi, .long lo]))] (S := Int64 × Int64) (fun u => fy.toInt ≠ -9223372036854775808 → In (wv hi lo + fx.toInt * sy.toInt) → In (wv hi lo + fx.toInt * sy.toInt - fy.toInt * sx.toInt) → wv u.1 u.2 = wv hi lo + fx.toInt * sy.toInt - fy.toInt * sx.toInt) (fun u => [(o, .inr (2, [.long u.1, .long u.2]))]) := by
  refine Cv.of (by decide) ?_
  intro p e s m args below meth c A Q hB hret hP hD hA
  obtain ⟨hx, hb, hr, hlocks, hml, hown, hnm, hTB, hK⟩ := hB
  have hown : s.vm.findClass RX2 = some m.cls := hown
  have hS : va_S A s.heap s.heap [] := va_S.rf
  have hl := lv_entry ([.ref o, .long fx, .long fy, .long sx, .long sy]) (n := 9) (Nat.le_of_ble_eq_true rfl)
  rw [lg_entry_eq]
  generalize (lg_sl ([.ref o, .long fx, .long fy, .long sx, .long sy]) ++ List.replicate (9 - (lg_sl ([.ref o, .long fx, .long fy, .long sx, .long sy])).length) Slot.unset).toArray = ls at hl ⊢
  have hl : lv_has ls 9 [(0, .ref o), (1, .long fx), (3, .long fy), (5, .long sx), (7, .long sy)] := hl
  refine lv_aload_n hx hb dX2_addSpan_0 rfl (lv_at hl 0 rfl) ?_
  refine lv_lload_n hx hb dX2_addSpan_1 rfl (lv_at hl 1 rfl) ?_
  refine lv_lload hx hb dX2_addSpan_2 (lv_at hl 4 rfl) ?_
  refine fin_v (wr := []) (va_runV (As := [.long fx, .long sy]) (rest := []) ⟨hx, hb, hml, hown, hTB⟩ (c_X2_addProduct l D cZ cI cJ o hi lo fx sy _) (cw_V hTB tb_5_7 tb_2_9 tb_5_4 tb_5_5 tb_5_6 nd_X2_addProduct rfl rfl ⟨Nat.le_of_ble_eq_true rfl, Nat.le_of_ble_eq_true rfl⟩) (pre_V (q0 := 0) hK hP hD [0] rfl rfl rfl rfl) rfl rfl hl.1 rfl (lv_room (Nat.le_of_ble_eq_true rfl)) dX2_addSpan_4 ⟨Nat.le_of_ble_eq_true rfl, Nat.le_of_ble_eq_true rfl⟩) hP hD hS hA [0] [] rfl rfl rfl (by decide) (fun u4 H locs hc4 hP hD hS => ?_)
  obtain ⟨w4h, w4l⟩ := u4
  have hP : va_P D vwCl [(o, .inr (2, [.long w4h, .long w4l]))] H := hP
  have hD : va_D A [(o, .inr (2, [.long w4h, .long w4l]))] := hD
  refine lv_aload_n hx hb dX2_addSpan_7 rfl (lv_at hl 0 rfl) ?_
  refine lv_lload_n hx hb dX2_addSpan_8 rfl (lv_at hl 2 rfl) ?_
  refine lv_lneg hx hb dX2_addSpan_9 ?_
  refine lv_lload hx hb dX2_addSpan_10 (lv_at hl 3 rfl) ?_
  refine fin_v (wr := []) (va_runV (As := [.long (-fy), .long sx]) (rest := []) ⟨hx, hb, hml, hown, hTB⟩ (c_X2_addProduct l D cZ cI cJ o w4h w4l (-fy) sx _) (cw_V hTB tb_5_7 tb_2_9 tb_5_4 tb_5_5 tb_5_6 nd_X2_addProduct rfl rfl ⟨Nat.le_of_ble_eq_true rfl, Nat.le_of_ble_eq_true rfl⟩) (pre_V (q0 := 0) hK hP hD [0] rfl rfl rfl rfl) rfl rfl hl.1 rfl (lv_room (Nat.le_of_ble_eq_true rfl)) dX2_addSpan_12 ⟨Nat.le_of_ble_eq_true rfl, Nat.le_of_ble_eq_true rfl⟩) hP hD hS hA [0] [] rfl rfl rfl (by decide) (fun u12 H locs hc12 hP hD hS => ?_)
  obtain ⟨w12h, w12l⟩ := u12
  have hP : va_P D vwCl [(o, .inr (2, [.long w12h, .long w12l]))] H := hP
  have hD : va_D A [(o, .inr (2, [.long w12h, .long w12l]))] := hD
  exact hret hP hD hS (w12h, w12l) (fun q1 q2 q3 => by have e1 := hc4 q2; dsimp only at e1; have r := sI_rng fy; rw [neg_rng (by omega), Int.neg_mul, e1, ← Int.sub_eq_add_neg] at hc12; exact hc12 q3) [0] rfl (by decide) dX2_addSpan_15 (Nat.le_of_ble_eq_true rfl) (Nat.le_of_ble_eq_true rfl)

set_option maxHeartbeats 4000000 in
set_option maxRecDepth 100000 in
theorem c_X2_putSpan (l : Launch) (D : va_G) (cZ cI cJ : ClassId) (o : Nat) (hi lo : Int64) (fx fy sx sy : Int64) : Cv l D cZ cI cJ yX2_putSpan cX2_putSpan 9 { frames := 4, cells := 0, slots := 0, locals := 99 } [.ref o, .long fx, .long fy, .long sx, .long sy] [(o, .inr (2, [.long hi, .long lo]))] (S := Int64 × Int64) (fun u => fy.toInt ≠ -9223372036854775808 → In (fx.toInt * sy.toInt) → In (fx.toInt * sy.toInt - fy.toInt * sx.toInt) → wv u.1 u.2 = fx.toInt * sy.toInt - fy.toInt * sx.toInt) (fun u => [(o, .inr (2, [.long u.1, .long u.2]))]) := by
  refine Cv.of (by decide) ?_
  intro p e s m args below meth c A Q hB hret hP hD hA
  obtain ⟨hx, hb, hr, hlocks, hml, hown, hnm, hTB, hK⟩ := hB
  have hown : s.vm.findClass RX2 = some m.cls := hown
  have hS : va_S A s.heap s.heap [] := va_S.rf
  have hl := lv_entry ([.ref o, .long fx, .long fy, .long sx, .long sy]) (n := 9) (Nat.le_of_ble_eq_true rfl)
  rw [lg_entry_eq]
  generalize (lg_sl ([.ref o, .long fx, .long fy, .long sx, .long sy]) ++ List.replicate (9 - (lg_sl ([.ref o, .long fx, .long fy, .long sx, .long sy])).length) Slot.unset).toArray = ls at hl ⊢
  have hl : lv_has ls 9 [(0, .ref o), (1, .long fx), (3, .long fy), (5, .long sx), (7, .long sy)] := hl
  refine lv_aload_n hx hb dX2_putSpan_0 rfl (lv_at hl 0 rfl) ?_
  refine lv_lconst (v := 0) hx hb dX2_putSpan_1 (by decide) ?_
  refine fin_v (wr := []) (va_runV (As := [.long 0]) (rest := []) ⟨hx, hb, hml, hown, hTB⟩ (c_X2_put l D cZ cI cJ o hi lo 0 _) (cw_V hTB tb_4_20 tb_2_9 tb_4_17 tb_4_18 tb_4_19 nd_X2_put rfl rfl ⟨Nat.le_of_ble_eq_true rfl, Nat.le_of_ble_eq_true rfl⟩) (pre_V (q0 := 0) hK hP hD [0] rfl rfl rfl rfl) rfl rfl hl.1 rfl (lv_room (Nat.le_of_ble_eq_true rfl)) dX2_putSpan_2 ⟨Nat.le_of_ble_eq_true rfl, Nat.le_of_ble_eq_true rfl⟩) hP hD hS hA [0] [] rfl rfl rfl (by decide) (fun u2 H locs hc2 hP hD hS => ?_)
  obtain ⟨w2h, w2l⟩ := u2
  have hP : va_P D vwCl [(o, .inr (2, [.long w2h, .long w2l]))] H := hP
  have hD : va_D A [(o, .inr (2, [.long w2h, .long w2l]))] := hD
  refine lv_aload_n hx hb dX2_putSpan_5 rfl (lv_at hl 0 rfl) ?_
  refine lv_lload_n hx hb dX2_putSpan_6 rfl (lv_at hl 1 rfl) ?_
  refine lv_lload_n hx hb dX2_putSpan_7 rfl (lv_at hl 2 rfl) ?_
  refine lv_lload hx hb dX2_putSpan_8 (lv_at hl 3 rfl) ?_
  refine lv_lload hx hb dX2_putSpan_10 (lv_at hl 4 rfl) ?_
  refine fin_v (wr := []) (va_runV (As := [.long fx, .long fy, .long sx, .long sy]) (rest := []) ⟨hx, hb, hml, hown, hTB⟩ (c_X2_addSpan l D cZ cI cJ o w2h w2l fx fy sx sy _) (cw_V hTB tb_5_3 tb_2_9 tb_5_0 tb_5_1 tb_5_2 nd_X2_addSpan rfl rfl ⟨Nat.le_of_ble_eq_true rfl, Nat.le_of_ble_eq_true rfl⟩) (pre_V (q0 := 0) hK hP hD [0] rfl rfl rfl rfl) rfl rfl hl.1 rfl (lv_room (Nat.le_of_ble_eq_true rfl)) dX2_putSpan_12 ⟨Nat.le_of_ble_eq_true rfl, Nat.le_of_ble_eq_true rfl⟩) hP hD hS hA [0] [] rfl rfl rfl (by decide) (fun u12 H locs hc12 hP hD hS => ?_)
  obtain ⟨w12h, w12l⟩ := u12
  have hP : va_P D vwCl [(o, .inr (2, [.long w12h, .long w12l]))] H := hP
  have hD : va_D A [(o, .inr (2, [.long w12h, .long w12l]))] := hD
  exact hret hP hD hS (w12h, w12l) (fun q1 q2 q3 => by dsimp only at hc2; rw [hc2, t0, Int.zero_add] at hc12; exact hc12 q1 q2 q3) [0] rfl (by decide) dX2_putSpan_15 (Nat.le_of_ble_eq_true rfl) (Nat.le_of_ble_eq_true rfl)

set_option maxHeartbeats 4000000 in
set_option maxRecDepth 100000 in
theorem c_X2_addScaled (l : Launch) (D : va_G) (cZ cI cJ : ClassId) (o x : Nat) (hi lo h2 l2 f : Int64) : Cv l D cZ cI cJ yX2_addScaled cX2_addScaled 8 { frames := 2, cells := 0, slots := 0, locals := 47 } [.ref o, .ref x, .long f] [(o, .inr (2, [.long hi, .long lo])), (x, .inr (2, [.long h2, .long l2]))] (S := Int64 × Int64) (fun u => In (wv h2 l2 * f.toInt) → In (wv hi lo + wv h2 l2 * f.toInt) → wv u.1 u.2 = wv hi lo + wv h2 l2 * f.toInt) (fun u => [(o, .inr (2, [.long u.1, .long u.2])), (x, .inr (2, [.long h2, .long l2]))]) := by
  refine Cv.of (by decide) ?_
  intro p e s m args below meth c A Q hB hret hP hD hA
  obtain ⟨hx, hb, hr, hlocks, hml, hown, hnm, hTB, hK⟩ := hB
  have hown : s.vm.findClass RX2 = some m.cls := hown
  have hS : va_S A s.heap s.heap [] := va_S.rf
  have hl := lv_entry ([.ref o, .ref x, .long f]) (n := 8) (Nat.le_of_ble_eq_true rfl)
  rw [lg_entry_eq]
  generalize (lg_sl ([.ref o, .ref x, .long f]) ++ List.replicate (8 - (lg_sl ([.ref o, .ref x, .long f])).length) Slot.unset).toArray = ls at hl ⊢
  have hl : lv_has ls 8 [(0, .ref o), (1, .ref x), (2, .long f)] := hl
  refine lv_aload_n hx hb dX2_addScaled_0 rfl (lv_at hl 1 rfl) ?_
  refine va_get (D := D) (ci := 2) (v := .long l2) (C := RX2) (T := TX2) (N := 2) hx hb hTB tb_X2 hown hK.1 hP 1 rfl rfl 1 (by decide) (hTB _ tb_4_21) (fun _ h9 => h9) rfl dX2_addScaled_1 ?_
  refine lv_lconst (v := 0) hx hb dX2_addScaled_4 (by decide) ?_
  refine W.lcmp hx hb dX2_addScaled_5 ?_
  refine lv_if_ge (tgt := 13) hx hb dX2_addScaled_6 (by decide) (fun c_6 => ?_) (fun c_6 => ?_)
  · have c_6 : (0 : Int) ≤ l2.toInt := lc_ge c_6
    refine lv_lconst (v := 0) hx hb dX2_addScaled_13 (by decide) ?_
    refine lv_lstore (lv' := [(4, .long 0), (0, .ref o), (1, .ref x), (2, .long f)]) hx hb dX2_addScaled_14 hl (by decide) rfl (fun ls hl => ?_)
    refine lv_aload_n hx hb dX2_addScaled_16 rfl (lv_at hl 2 rfl) ?_
    refine va_get (D := D) (ci := 2) (v := .long h2) (C := RX2) (T := TX2) (N := 2) hx hb hTB tb_X2 hown hK.1 hP 1 rfl rfl 0 (by decide) (hTB _ tb_4_23) (fun _ h9 => h9) rfl dX2_addScaled_17 ?_
    refine lv_lload_n hx hb dX2_addScaled_20 rfl (lv_at hl 3 rfl) ?_
    refine lv_lmul hx hb dX2_addScaled_21 ?_
    refine lv_aload_n hx hb dX2_addScaled_22 rfl (lv_at hl 2 rfl) ?_
    refine va_get (D := D) (ci := 2) (v := .long l2) (C := RX2) (T := TX2) (N := 2) hx hb hTB tb_X2 hown hK.1 hP 1 rfl rfl 1 (by decide) (hTB _ tb_4_21) (fun _ h9 => h9) rfl dX2_addScaled_23 ?_
    refine lv_lload_n hx hb dX2_addScaled_26 rfl (lv_at hl 3 rfl) ?_
    refine vp_callSl (va_runS (As := [.long l2, .long f]) (rest := [.long (h2 * f)]) ⟨hx, hb, hml, hown, hTB⟩ (c_X2_highOfProduct l D cZ cI cJ l2 f) (cw_S hTB tb_5_10 tb_2_9 tb_5_8 tb_5_9 nd_X2_highOfProduct rfl rfl ⟨Nat.le_of_ble_eq_true rfl, Nat.le_of_ble_eq_true rfl⟩) (prr_S hK hP [] rfl) rfl rfl hl.1 rfl (lv_room (Nat.le_of_ble_eq_true rfl)) dX2_addScaled_27 ⟨Nat.le_of_ble_eq_true rfl, Nat.le_of_ble_eq_true rfl⟩).run (fun r27 hc27 => ?_)
    subst hc27
    refine lv_ladd hx hb dX2_addScaled_30 ?_
    refine lv_lload hx hb dX2_addScaled_31 (lv_at hl 0 rfl) ?_
    refine lv_ladd hx hb dX2_addScaled_33 ?_
    refine lv_lstore (lv' := [(6, .long (((h2 * f) + (hop l2 f)) + 0)), (4, .long 0), (0, .ref o), (1, .ref x), (2, .long f)]) hx hb dX2_addScaled_34 hl (by decide) rfl (fun ls hl => ?_)
    refine lv_aload_n hx hb dX2_addScaled_36 rfl (lv_at hl 2 rfl) ?_
    refine lv_lload hx hb dX2_addScaled_37 (lv_at hl 0 rfl) ?_
    refine lv_aload_n hx hb dX2_addScaled_39 rfl (lv_at hl 3 rfl) ?_
    refine va_get (D := D) (ci := 2) (v := .long l2) (C := RX2) (T := TX2) (N := 2) hx hb hTB tb_X2 hown hK.1 hP 1 rfl rfl 1 (by decide) (hTB _ tb_4_21) (fun _ h9 => h9) rfl dX2_addScaled_40 ?_
    refine lv_lload_n hx hb dX2_addScaled_43 rfl (lv_at hl 4 rfl) ?_
    refine lv_lmul hx hb dX2_addScaled_44 ?_
    refine fin_v (wr := [(x, .inr (2, [.long h2, .long l2]))]) (va_runV (As := [.long (((h2 * f) + (hop l2 f)) + 0), .long (l2 * f)]) (rest := []) ⟨hx, hb, hml, hown, hTB⟩ (c_X2_addParts l D cZ cI cJ o hi lo (((h2 * f) + (hop l2 f)) + 0) (l2 * f) _) (cw_V hTB tb_5_15 tb_2_9 tb_5_12 tb_5_13 tb_5_14 nd_X2_addParts rfl rfl ⟨Nat.le_of_ble_eq_true rfl, Nat.le_of_ble_eq_true rfl⟩) (pre_V (q0 := 0) hK hP hD [0] rfl rfl rfl rfl) rfl rfl hl.1 rfl (lv_room (Nat.le_of_ble_eq_true rfl)) dX2_addScaled_45 ⟨Nat.le_of_ble_eq_true rfl, Nat.le_of_ble_eq_true rfl⟩) hP hD hS hA [0] [1] rfl rfl rfl (by decide) (fun u45 H locs hc45 hP hD hS => ?_)
    obtain ⟨w45h, w45l⟩ := u45
    have hP : va_P D vwCl [(x, .inr (2, [.long h2, .long l2])), (o, .inr (2, [.long w45h, .long w45l]))] H := hP
    have hD : va_D A [(x, .inr (2, [.long h2, .long l2])), (o, .inr (2, [.long w45h, .long w45l]))] := hD
    exact hret hP hD hS (w45h, w45l) (fun q1 q2 => by rw [wv_scaled q1 (Or.inr ⟨fun q => by rw [i64_lt, t0] at q; omega, rfl⟩)] at hc45; exact hc45 q2) [1, 0] rfl (by decide) dX2_addScaled_48 (Nat.le_of_ble_eq_true rfl) (Nat.le_of_ble_eq_true rfl)
  · have c_6 : l2.toInt < (0 : Int) := lc_nge c_6
    refine lv_lload_n hx hb dX2_addScaled_9 rfl (lv_at hl 2 rfl) ?_
    refine lv_goto (tgt := 14) hx hb dX2_addScaled_10 (by decide) ?_
    refine lv_lstore (lv' := [(4, .long f), (0, .ref o), (1, .ref x), (2, .long f)]) hx hb dX2_addScaled_14 hl (by decide) rfl (fun ls hl => ?_)
    refine lv_aload_n hx hb dX2_addScaled_16 rfl (lv_at hl 2 rfl) ?_
    refine va_get (D := D) (ci := 2) (v := .long h2) (C := RX2) (T := TX2) (N := 2) hx hb hTB tb_X2 hown hK.1 hP 1 rfl rfl 0 (by decide) (hTB _ tb_4_23) (fun _ h9 => h9) rfl dX2_addScaled_17 ?_
    refine lv_lload_n hx hb dX2_addScaled_20 rfl (lv_at hl 3 rfl) ?_
    refine lv_lmul hx hb dX2_addScaled_21 ?_
    refine lv_aload_n hx hb dX2_addScaled_22 rfl (lv_at hl 2 rfl) ?_
    refine va_get (D := D) (ci := 2) (v := .long l2) (C := RX2) (T := TX2) (N := 2) hx hb hTB tb_X2 hown hK.1 hP 1 rfl rfl 1 (by decide) (hTB _ tb_4_21) (fun _ h9 => h9) rfl dX2_addScaled_23 ?_
    refine lv_lload_n hx hb dX2_addScaled_26 rfl (lv_at hl 3 rfl) ?_
    refine vp_callSl (va_runS (As := [.long l2, .long f]) (rest := [.long (h2 * f)]) ⟨hx, hb, hml, hown, hTB⟩ (c_X2_highOfProduct l D cZ cI cJ l2 f) (cw_S hTB tb_5_10 tb_2_9 tb_5_8 tb_5_9 nd_X2_highOfProduct rfl rfl ⟨Nat.le_of_ble_eq_true rfl, Nat.le_of_ble_eq_true rfl⟩) (prr_S hK hP [] rfl) rfl rfl hl.1 rfl (lv_room (Nat.le_of_ble_eq_true rfl)) dX2_addScaled_27 ⟨Nat.le_of_ble_eq_true rfl, Nat.le_of_ble_eq_true rfl⟩).run (fun r27 hc27 => ?_)
    subst hc27
    refine lv_ladd hx hb dX2_addScaled_30 ?_
    refine lv_lload hx hb dX2_addScaled_31 (lv_at hl 0 rfl) ?_
    refine lv_ladd hx hb dX2_addScaled_33 ?_
    refine lv_lstore (lv' := [(6, .long (((h2 * f) + (hop l2 f)) + f)), (4, .long f), (0, .ref o), (1, .ref x), (2, .long f)]) hx hb dX2_addScaled_34 hl (by decide) rfl (fun ls hl => ?_)
    refine lv_aload_n hx hb dX2_addScaled_36 rfl (lv_at hl 2 rfl) ?_
    refine lv_lload hx hb dX2_addScaled_37 (lv_at hl 0 rfl) ?_
    refine lv_aload_n hx hb dX2_addScaled_39 rfl (lv_at hl 3 rfl) ?_
    refine va_get (D := D) (ci := 2) (v := .long l2) (C := RX2) (T := TX2) (N := 2) hx hb hTB tb_X2 hown hK.1 hP 1 rfl rfl 1 (by decide) (hTB _ tb_4_21) (fun _ h9 => h9) rfl dX2_addScaled_40 ?_
    refine lv_lload_n hx hb dX2_addScaled_43 rfl (lv_at hl 4 rfl) ?_
    refine lv_lmul hx hb dX2_addScaled_44 ?_
    refine fin_v (wr := [(x, .inr (2, [.long h2, .long l2]))]) (va_runV (As := [.long (((h2 * f) + (hop l2 f)) + f), .long (l2 * f)]) (rest := []) ⟨hx, hb, hml, hown, hTB⟩ (c_X2_addParts l D cZ cI cJ o hi lo (((h2 * f) + (hop l2 f)) + f) (l2 * f) _) (cw_V hTB tb_5_15 tb_2_9 tb_5_12 tb_5_13 tb_5_14 nd_X2_addParts rfl rfl ⟨Nat.le_of_ble_eq_true rfl, Nat.le_of_ble_eq_true rfl⟩) (pre_V (q0 := 0) hK hP hD [0] rfl rfl rfl rfl) rfl rfl hl.1 rfl (lv_room (Nat.le_of_ble_eq_true rfl)) dX2_addScaled_45 ⟨Nat.le_of_ble_eq_true rfl, Nat.le_of_ble_eq_true rfl⟩) hP hD hS hA [0] [1] rfl rfl rfl (by decide) (fun u45 H locs hc45 hP hD hS => ?_)
    obtain ⟨w45h, w45l⟩ := u45
    have hP : va_P D vwCl [(x, .inr (2, [.long h2, .long l2])), (o, .inr (2, [.long w45h, .long w45l]))] H := hP
    have hD : va_D A [(x, .inr (2, [.long h2, .long l2])), (o, .inr (2, [.long w45h, .long w45l]))] := hD
    exact hret hP hD hS (w45h, w45l) (fun q1 q2 => by rw [wv_scaled q1 (Or.inl ⟨i64_lt.mpr c_6, rfl⟩)] at hc45; exact hc45 q2) [1, 0] rfl (by decide) dX2_addScaled_48 (Nat.le_of_ble_eq_true rfl) (Nat.le_of_ble_eq_true rfl)

set_option maxHeartbeats 4000000 in
set_option maxRecDepth 100000 in
theorem c_X2_limbs (l : Launch) (D : va_G) (cZ cI cJ : ClassId) (o : Nat) (hi lo : Int64) : Ri l D cZ cI cJ yX2_limbs cX2_limbs 3 (some .int) { frames := 1, cells := 0, slots := 0, locals := 20 } [.ref o] [(o, .inr (2, [.long hi, .long lo]))] (fun r => r = nI (nl (wv hi lo).natAbs)) := by
  refine Ri.of (by decide) ?_
  intro p e s m args below meth c Q hB hret hP
  obtain ⟨hx, hb, hr, hlocks, hml, hown, hnm, hTB, hK⟩ := hB
  have hown : s.vm.findClass RX2 = some m.cls := hown
  have hl := lv_entry ([.ref o]) (n := 3) (Nat.le_of_ble_eq_true rfl)
  rw [lg_entry_eq]
  generalize (lg_sl ([.ref o]) ++ List.replicate (3 - (lg_sl ([.ref o])).length) Slot.unset).toArray = ls at hl ⊢
  have hl : lv_has ls 3 [(0, .ref o)] := hl
  refine lv_aload_n hx hb dX2_limbs_0 rfl (lv_at hl 0 rfl) ?_
  refine vp_callSl (va_runV (As := []) (rest := []) ⟨hx, hb, hml, hown, hTB⟩ (c_X2_highOfAmount l D cZ cI cJ o hi lo) (cw_V hTB tb_16_21 tb_2_9 tb_16_18 tb_16_19 tb_16_20 nd_X2_highOfAmount rfl rfl ⟨Nat.le_of_ble_eq_true rfl, Nat.le_of_ble_eq_true rfl⟩) (prr_V (q0 := 0) hK hP [0] rfl rfl rfl) rfl rfl hl.1 rfl (lv_room (Nat.le_of_ble_eq_true rfl)) dX2_limbs_1 ⟨Nat.le_of_ble_eq_true rfl, Nat.le_of_ble_eq_true rfl⟩).run (fun r1 hc1 => ?_)
  refine lv_lstore_n (lv' := [(1, .long r1), (0, .ref o)]) hx hb dX2_limbs_4 rfl hl (by decide) rfl (fun ls hl => ?_)
  refine lv_lload_n hx hb dX2_limbs_5 rfl (lv_at hl 0 rfl) ?_
  refine lv_lconst (v := 0) hx hb dX2_limbs_6 (by decide) ?_
  refine W.lcmp hx hb dX2_limbs_7 ?_
  refine lv_if_eq (tgt := 26) hx hb dX2_limbs_8 (by decide) (fun c_8 => ?_) (fun c_8 => ?_)
  · have c_8 : r1.toInt = (0 : Int) := lc_eq c_8
    refine lv_aload_n hx hb dX2_limbs_26 rfl (lv_at hl 1 rfl) ?_
    refine vp_callSl (va_runV (As := []) (rest := []) ⟨hx, hb, hml, hown, hTB⟩ (c_X2_lowOfAmount l D cZ cI cJ o hi lo) (cw_V hTB tb_17_1 tb_2_9 tb_16_22 tb_16_23 tb_17_0 nd_X2_lowOfAmount rfl rfl ⟨Nat.le_of_ble_eq_true rfl, Nat.le_of_ble_eq_true rfl⟩) (prr_V (q0 := 0) hK hP [0] rfl rfl rfl) rfl rfl hl.1 rfl (lv_room (Nat.le_of_ble_eq_true rfl)) dX2_limbs_27 ⟨Nat.le_of_ble_eq_true rfl, Nat.le_of_ble_eq_true rfl⟩).run (fun r27 hc27 => ?_)
    refine lv_bipush (v := 32) hx hb dX2_limbs_30 (by decide) ?_
    refine lv_lushr (v := (r27.toUInt64 >>> ((32 : Int32).toInt64.toUInt64 &&& Int64.toUInt64 63)).toInt64) hx hb dX2_limbs_32 rfl ?_
    refine lv_lconst (v := 0) hx hb dX2_limbs_33 (by decide) ?_
    refine W.lcmp hx hb dX2_limbs_34 ?_
    refine lv_if_eq (tgt := 42) hx hb dX2_limbs_35 (by decide) (fun c_35 => ?_) (fun c_35 => ?_)
    · have c_35 : ((r27.toUInt64 >>> ((32 : Int32).toInt64.toUInt64 &&& Int64.toUInt64 63)).toInt64).toInt = (0 : Int) := lc_eq c_35
      refine lv_iconst (v := 1) hx hb dX2_limbs_42 (by decide) ?_
      exact hret rfl (by have g1 := uN_s32 r1; have g2 := uN_of r1; have g3 := sI_rng r1; have g4 := uN_of (r1.toUInt64 >>> ((32 : Int32).toInt64.toUInt64 &&& Int64.toUInt64 63)).toInt64; have g5 := sI_rng (r1.toUInt64 >>> ((32 : Int32).toInt64.toUInt64 &&& Int64.toUInt64 63)).toInt64; have g6 := uN_lt r1; have k1 := uN_s32 r27; have k2 := uN_of r27; have k4 := uN_of (r27.toUInt64 >>> ((32 : Int32).toInt64.toUInt64 &&& Int64.toUInt64 63)).toInt64; have k5 := sI_rng (r27.toUInt64 >>> ((32 : Int32).toInt64.toUInt64 &&& Int64.toUInt64 63)).toInt64; have k6 := uN_lt r27; rw [show nl (wv hi lo).natAbs = 1 by (unfold nl; rw [if_pos (by omega)])]; rfl) dX2_limbs_43
    · have c_35 : ((r27.toUInt64 >>> ((32 : Int32).toInt64.toUInt64 &&& Int64.toUInt64 63)).toInt64).toInt ≠ (0 : Int) := lc_ne c_35
      refine lv_iconst (v := 2) hx hb dX2_limbs_38 (by decide) ?_
      refine lv_goto (tgt := 43) hx hb dX2_limbs_39 (by decide) ?_
      exact hret rfl (by have g1 := uN_s32 r1; have g2 := uN_of r1; have g3 := sI_rng r1; have g4 := uN_of (r1.toUInt64 >>> ((32 : Int32).toInt64.toUInt64 &&& Int64.toUInt64 63)).toInt64; have g5 := sI_rng (r1.toUInt64 >>> ((32 : Int32).toInt64.toUInt64 &&& Int64.toUInt64 63)).toInt64; have g6 := uN_lt r1; have k1 := uN_s32 r27; have k2 := uN_of r27; have k4 := uN_of (r27.toUInt64 >>> ((32 : Int32).toInt64.toUInt64 &&& Int64.toUInt64 63)).toInt64; have k5 := sI_rng (r27.toUInt64 >>> ((32 : Int32).toInt64.toUInt64 &&& Int64.toUInt64 63)).toInt64; have k6 := uN_lt r27; rw [show nl (wv hi lo).natAbs = 2 by (unfold nl; rw [if_neg (by omega), if_pos (by omega)])]; rfl) dX2_limbs_43
  · have c_8 : r1.toInt ≠ (0 : Int) := lc_ne c_8
    refine lv_lload_n hx hb dX2_limbs_11 rfl (lv_at hl 0 rfl) ?_
    refine lv_bipush (v := 32) hx hb dX2_limbs_12 (by decide) ?_
    refine lv_lushr (v := (r1.toUInt64 >>> ((32 : Int32).toInt64.toUInt64 &&& Int64.toUInt64 63)).toInt64) hx hb dX2_limbs_14 rfl ?_
    refine lv_lconst (v := 0) hx hb dX2_limbs_15 (by decide) ?_
    refine W.lcmp hx hb dX2_limbs_16 ?_
    refine lv_if_eq (tgt := 24) hx hb dX2_limbs_17 (by decide) (fun c_17 => ?_) (fun c_17 => ?_)
    · have c_17 : ((r1.toUInt64 >>> ((32 : Int32).toInt64.toUInt64 &&& Int64.toUInt64 63)).toInt64).toInt = (0 : Int) := lc_eq c_17
      refine lv_iconst (v := 3) hx hb dX2_limbs_24 (by decide) ?_
      exact hret rfl (by have g1 := uN_s32 r1; have g2 := uN_of r1; have g3 := sI_rng r1; have g4 := uN_of (r1.toUInt64 >>> ((32 : Int32).toInt64.toUInt64 &&& Int64.toUInt64 63)).toInt64; have g5 := sI_rng (r1.toUInt64 >>> ((32 : Int32).toInt64.toUInt64 &&& Int64.toUInt64 63)).toInt64; have g6 := uN_lt r1; rw [show nl (wv hi lo).natAbs = 3 by (unfold nl; rw [if_neg (by omega), if_neg (by omega), if_pos (by omega)])]; rfl) dX2_limbs_25
    · have c_17 : ((r1.toUInt64 >>> ((32 : Int32).toInt64.toUInt64 &&& Int64.toUInt64 63)).toInt64).toInt ≠ (0 : Int) := lc_ne c_17
      refine lv_iconst (v := 4) hx hb dX2_limbs_20 (by decide) ?_
      refine lv_goto (tgt := 25) hx hb dX2_limbs_21 (by decide) ?_
      exact hret rfl (by have g1 := uN_s32 r1; have g2 := uN_of r1; have g3 := sI_rng r1; have g4 := uN_of (r1.toUInt64 >>> ((32 : Int32).toInt64.toUInt64 &&& Int64.toUInt64 63)).toInt64; have g5 := sI_rng (r1.toUInt64 >>> ((32 : Int32).toInt64.toUInt64 &&& Int64.toUInt64 63)).toInt64; have g6 := uN_lt r1; rw [show nl (wv hi lo).natAbs = 4 by (unfold nl; rw [if_neg (by omega), if_neg (by omega), if_neg (by omega)])]; rfl) dX2_limbs_25

set_option maxHeartbeats 4000000 in
set_option maxRecDepth 100000 in
theorem c_X2_limbOfAmount (l : Launch) (D : va_G) (cZ cI cJ : ClassId) (o : Nat) (hi lo : Int64) (k : Int32) (n : Nat) (hn : n < 4) (hk : k = nI n) : Rl l D cZ cI cJ yX2_limbOfAmount cX2_limbOfAmount 4 (some .long) { frames := 1, cells := 0, slots := 0, locals := 20 } [.ref o, .int k] [(o, .inr (2, [.long hi, .long lo]))] (fun r => uN r = lb (wv hi lo).natAbs n) := by
  refine Rl.of (by decide) ?_
  intro p e s m args below meth c Q hB hret hP
  obtain ⟨hx, hb, hr, hlocks, hml, hown, hnm, hTB, hK⟩ := hB
  have hown : s.vm.findClass RX2 = some m.cls := hown
  have hl := lv_entry ([.ref o, .int k]) (n := 4) (Nat.le_of_ble_eq_true rfl)
  rw [lg_entry_eq]
  generalize (lg_sl ([.ref o, .int k]) ++ List.replicate (4 - (lg_sl ([.ref o, .int k])).length) Slot.unset).toArray = ls at hl ⊢
  have hl : lv_has ls 4 [(0, .ref o), (1, .int k)] := hl
  refine lv_iload_n hx hb dX2_limbOfAmount_0 rfl (lv_at hl 1 rfl) ?_
  refine lv_iconst (v := 2) hx hb dX2_limbOfAmount_1 (by decide) ?_
  refine lv_icmp_ge (tgt := 12) hx hb dX2_limbOfAmount_2 (by decide) (fun c_2 => ?_) (fun c_2 => ?_)
  · refine lv_aload_n hx hb dX2_limbOfAmount_12 rfl (lv_at hl 0 rfl) ?_
    refine vp_callSl (va_runV (As := []) (rest := []) ⟨hx, hb, hml, hown, hTB⟩ (c_X2_highOfAmount l D cZ cI cJ o hi lo) (cw_V hTB tb_16_21 tb_2_9 tb_16_18 tb_16_19 tb_16_20 nd_X2_highOfAmount rfl rfl ⟨Nat.le_of_ble_eq_true rfl, Nat.le_of_ble_eq_true rfl⟩) (prr_V (q0 := 0) hK hP [0] rfl rfl rfl) rfl rfl hl.1 rfl (lv_room (Nat.le_of_ble_eq_true rfl)) dX2_limbOfAmount_13 ⟨Nat.le_of_ble_eq_true rfl, Nat.le_of_ble_eq_true rfl⟩).run (fun r13 hc13 => ?_)
    refine lv_lstore_n (lv' := [(2, .long r13), (0, .ref o), (1, .int k)]) hx hb dX2_limbOfAmount_16 rfl hl (by decide) rfl (fun ls hl => ?_)
    refine lv_iload_n hx hb dX2_limbOfAmount_17 rfl (lv_at hl 2 rfl) ?_
    refine lv_iconst (v := 1) hx hb dX2_limbOfAmount_18 (by decide) ?_
    refine lv_iand hx hb dX2_limbOfAmount_19 ?_
    refine lv_if_ne (tgt := 31) hx hb dX2_limbOfAmount_20 (by decide) (fun c_20 => ?_) (fun c_20 => ?_)
    · refine lv_lload_n hx hb dX2_limbOfAmount_31 rfl (lv_at hl 0 rfl) ?_
      refine lv_bipush (v := 32) hx hb dX2_limbOfAmount_32 (by decide) ?_
      refine lv_lushr (v := (r13.toUInt64 >>> ((32 : Int32).toInt64.toUInt64 &&& Int64.toUInt64 63)).toInt64) hx hb dX2_limbOfAmount_34 rfl ?_
      exact hret (by subst hk; have hw := wv_in hi lo; unfold In at hw; have g := uN_s32 r13; rw [g]; rcases (show n = 0 ∨ n = 1 ∨ n = 2 ∨ n = 3 by omega) with rfl | rfl | rfl | rfl <;> first | (exact absurd c_2 (by decide)) | (exact absurd c_20 (by decide)) | (simp only [lb, Nat.reducePow, Nat.pow_zero]; omega)) dX2_limbOfAmount_35
    · refine lv_lload_n hx hb dX2_limbOfAmount_23 rfl (lv_at hl 0 rfl) ?_
      refine lv_ldc2 (v := 4294967295) hx hb hown (hTB _ tb_5_11) dX2_limbOfAmount_24 ?_
      refine lv_land hx hb dX2_limbOfAmount_27 ?_
      refine lv_goto (tgt := 35) hx hb dX2_limbOfAmount_28 (by decide) ?_
      exact hret (by subst hk; have hw := wv_in hi lo; unfold In at hw; have g := uN_lo r13; rw [g]; rcases (show n = 0 ∨ n = 1 ∨ n = 2 ∨ n = 3 by omega) with rfl | rfl | rfl | rfl <;> first | (exact absurd c_2 (by decide)) | (exact absurd c_20 (by decide)) | (simp only [lb, Nat.reducePow, Nat.pow_zero]; omega)) dX2_limbOfAmount_35
  · refine lv_aload_n hx hb dX2_limbOfAmount_5 rfl (lv_at hl 0 rfl) ?_
    refine vp_callSl (va_runV (As := []) (rest := []) ⟨hx, hb, hml, hown, hTB⟩ (c_X2_lowOfAmount l D cZ cI cJ o hi lo) (cw_V hTB tb_17_1 tb_2_9 tb_16_22 tb_16_23 tb_17_0 nd_X2_lowOfAmount rfl rfl ⟨Nat.le_of_ble_eq_true rfl, Nat.le_of_ble_eq_true rfl⟩) (prr_V (q0 := 0) hK hP [0] rfl rfl rfl) rfl rfl hl.1 rfl (lv_room (Nat.le_of_ble_eq_true rfl)) dX2_limbOfAmount_6 ⟨Nat.le_of_ble_eq_true rfl, Nat.le_of_ble_eq_true rfl⟩).run (fun r6 hc6 => ?_)
    refine lv_goto (tgt := 16) hx hb dX2_limbOfAmount_9 (by decide) ?_
    refine lv_lstore_n (lv' := [(2, .long r6), (0, .ref o), (1, .int k)]) hx hb dX2_limbOfAmount_16 rfl hl (by decide) rfl (fun ls hl => ?_)
    refine lv_iload_n hx hb dX2_limbOfAmount_17 rfl (lv_at hl 2 rfl) ?_
    refine lv_iconst (v := 1) hx hb dX2_limbOfAmount_18 (by decide) ?_
    refine lv_iand hx hb dX2_limbOfAmount_19 ?_
    refine lv_if_ne (tgt := 31) hx hb dX2_limbOfAmount_20 (by decide) (fun c_20 => ?_) (fun c_20 => ?_)
    · refine lv_lload_n hx hb dX2_limbOfAmount_31 rfl (lv_at hl 0 rfl) ?_
      refine lv_bipush (v := 32) hx hb dX2_limbOfAmount_32 (by decide) ?_
      refine lv_lushr (v := (r6.toUInt64 >>> ((32 : Int32).toInt64.toUInt64 &&& Int64.toUInt64 63)).toInt64) hx hb dX2_limbOfAmount_34 rfl ?_
      exact hret (by subst hk; have hw := wv_in hi lo; unfold In at hw; have g := uN_s32 r6; rw [g]; rcases (show n = 0 ∨ n = 1 ∨ n = 2 ∨ n = 3 by omega) with rfl | rfl | rfl | rfl <;> first | (exact absurd c_2 (by decide)) | (exact absurd c_20 (by decide)) | (simp only [lb, Nat.reducePow, Nat.pow_zero]; omega)) dX2_limbOfAmount_35
    · refine lv_lload_n hx hb dX2_limbOfAmount_23 rfl (lv_at hl 0 rfl) ?_
      refine lv_ldc2 (v := 4294967295) hx hb hown (hTB _ tb_5_11) dX2_limbOfAmount_24 ?_
      refine lv_land hx hb dX2_limbOfAmount_27 ?_
      refine lv_goto (tgt := 35) hx hb dX2_limbOfAmount_28 (by decide) ?_
      exact hret (by subst hk; have hw := wv_in hi lo; unfold In at hw; have g := uN_lo r6; rw [g]; rcases (show n = 0 ∨ n = 1 ∨ n = 2 ∨ n = 3 by omega) with rfl | rfl | rfl | rfl <;> first | (exact absurd c_2 (by decide)) | (exact absurd c_20 (by decide)) | (simp only [lb, Nat.reducePow, Nat.pow_zero]; omega)) dX2_limbOfAmount_35
