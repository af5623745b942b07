theorem nd_X3_init : yX3_init.cls ≠ "java/lang/invoke/MethodHandle" ∧ yX3_init.cls ≠ "java/lang/invoke/VarHandle" ∧ (parseMethodDescriptor yX3_init.desc).map (fun d => d.parameters.length) = some 0 := by decide +kernel
theorem nd_X3_turn : yX3_turn.cls ≠ "java/lang/invoke/MethodHandle" ∧ yX3_turn.cls ≠ "java/lang/invoke/VarHandle" ∧ (parseMethodDescriptor yX3_turn.desc).map (fun d => d.parameters.length) = some 6 := by decide +kernel
theorem nd_X3_line : yX3_line.cls ≠ "java/lang/invoke/MethodHandle" ∧ yX3_line.cls ≠ "java/lang/invoke/VarHandle" ∧ (parseMethodDescriptor yX3_line.desc).map (fun d => d.parameters.length) = some 5 := by decide +kernel
theorem nd_X3_cross : yX3_cross.cls ≠ "java/lang/invoke/MethodHandle" ∧ yX3_cross.cls ≠ "java/lang/invoke/VarHandle" ∧ (parseMethodDescriptor yX3_cross.desc).map (fun d => d.parameters.length) = some 2 := by decide +kernel
theorem nd_X3_at : yX3_at.cls ≠ "java/lang/invoke/MethodHandle" ∧ yX3_at.cls ≠ "java/lang/invoke/VarHandle" ∧ (parseMethodDescriptor yX3_at.desc).map (fun d => d.parameters.length) = some 1 := by decide +kernel
theorem nd_X3_exact : yX3_exact.cls ≠ "java/lang/invoke/MethodHandle" ∧ yX3_exact.cls ≠ "java/lang/invoke/VarHandle" ∧ (parseMethodDescriptor yX3_exact.desc).map (fun d => d.parameters.length) = some 3 := by decide +kernel
theorem nd_X3_corner : yX3_corner.cls ≠ "java/lang/invoke/MethodHandle" ∧ yX3_corner.cls ≠ "java/lang/invoke/VarHandle" ∧ (parseMethodDescriptor yX3_corner.desc).map (fun d => d.parameters.length) = some 2 := by decide +kernel
theorem nd_X3_area2 : yX3_area2.cls ≠ "java/lang/invoke/MethodHandle" ∧ yX3_area2.cls ≠ "java/lang/invoke/VarHandle" ∧ (parseMethodDescriptor yX3_area2.desc).map (fun d => d.parameters.length) = some 1 := by decide +kernel
theorem nd_X3_inside : yX3_inside.cls ≠ "java/lang/invoke/MethodHandle" ∧ yX3_inside.cls ≠ "java/lang/invoke/VarHandle" ∧ (parseMethodDescriptor yX3_inside.desc).map (fun d => d.parameters.length) = some 2 := by decide +kernel
theorem nd_X3_over : yX3_over.cls ≠ "java/lang/invoke/MethodHandle" ∧ yX3_over.cls ≠ "java/lang/invoke/VarHandle" ∧ (parseMethodDescriptor yX3_over.desc).map (fun d => d.parameters.length) = some 3 := by decide +kernel
theorem nd_X3_product : yX3_product.cls ≠ "java/lang/invoke/MethodHandle" ∧ yX3_product.cls ≠ "java/lang/invoke/VarHandle" ∧ (parseMethodDescriptor yX3_product.desc).map (fun d => d.parameters.length) = some 3 := by decide +kernel
theorem nd_X3_ratio : yX3_ratio.cls ≠ "java/lang/invoke/MethodHandle" ∧ yX3_ratio.cls ≠ "java/lang/invoke/VarHandle" ∧ (parseMethodDescriptor yX3_ratio.desc).map (fun d => d.parameters.length) = some 4 := by decide +kernel
theorem nd_X3_share : yX3_share.cls ≠ "java/lang/invoke/MethodHandle" ∧ yX3_share.cls ≠ "java/lang/invoke/VarHandle" ∧ (parseMethodDescriptor yX3_share.desc).map (fun d => d.parameters.length) = some 3 := by decide +kernel
theorem nd_X3_digit : yX3_digit.cls ≠ "java/lang/invoke/MethodHandle" ∧ yX3_digit.cls ≠ "java/lang/invoke/VarHandle" ∧ (parseMethodDescriptor yX3_digit.desc).map (fun d => d.parameters.length) = some 3 := by decide +kernel
theorem nd_X3_clear : yX3_clear.cls ≠ "java/lang/invoke/MethodHandle" ∧ yX3_clear.cls ≠ "java/lang/invoke/VarHandle" ∧ (parseMethodDescriptor yX3_clear.desc).map (fun d => d.parameters.length) = some 0 := by decide +kernel
theorem nd_X3_count : yX3_count.cls ≠ "java/lang/invoke/MethodHandle" ∧ yX3_count.cls ≠ "java/lang/invoke/VarHandle" ∧ (parseMethodDescriptor yX3_count.desc).map (fun d => d.parameters.length) = some 1 := by decide +kernel
theorem nd_X3_isOnGrid : yX3_isOnGrid.cls ≠ "java/lang/invoke/MethodHandle" ∧ yX3_isOnGrid.cls ≠ "java/lang/invoke/VarHandle" ∧ (parseMethodDescriptor yX3_isOnGrid.desc).map (fun d => d.parameters.length) = some 2 := by decide +kernel
theorem nd_X3_isBetween : yX3_isBetween.cls ≠ "java/lang/invoke/MethodHandle" ∧ yX3_isBetween.cls ≠ "java/lang/invoke/VarHandle" ∧ (parseMethodDescriptor yX3_isBetween.desc).map (fun d => d.parameters.length) = some 3 := by decide +kernel
theorem nd_X3_isTold : yX3_isTold.cls ≠ "java/lang/invoke/MethodHandle" ∧ yX3_isTold.cls ≠ "java/lang/invoke/VarHandle" ∧ (parseMethodDescriptor yX3_isTold.desc).map (fun d => d.parameters.length) = some 1 := by decide +kernel
theorem nd_X3_isAnswerable : yX3_isAnswerable.cls ≠ "java/lang/invoke/MethodHandle" ∧ yX3_isAnswerable.cls ≠ "java/lang/invoke/VarHandle" ∧ (parseMethodDescriptor yX3_isAnswerable.desc).map (fun d => d.parameters.length) = some 1 := by decide +kernel
theorem nd_X3_linesTold : yX3_linesTold.cls ≠ "java/lang/invoke/MethodHandle" ∧ yX3_linesTold.cls ≠ "java/lang/invoke/VarHandle" ∧ (parseMethodDescriptor yX3_linesTold.desc).map (fun d => d.parameters.length) = some 0 := by decide +kernel
theorem nd_X3_cornerBehind : yX3_cornerBehind.cls ≠ "java/lang/invoke/MethodHandle" ∧ yX3_cornerBehind.cls ≠ "java/lang/invoke/VarHandle" ∧ (parseMethodDescriptor yX3_cornerBehind.desc).map (fun d => d.parameters.length) = some 1 := by decide +kernel
theorem nd_X3_sideOf : yX3_sideOf.cls ≠ "java/lang/invoke/MethodHandle" ∧ yX3_sideOf.cls ≠ "java/lang/invoke/VarHandle" ∧ (parseMethodDescriptor yX3_sideOf.desc).map (fun d => d.parameters.length) = some 6 := by decide +kernel
theorem nd_X3_meetsRay : yX3_meetsRay.cls ≠ "java/lang/invoke/MethodHandle" ∧ yX3_meetsRay.cls ≠ "java/lang/invoke/VarHandle" ∧ (parseMethodDescriptor yX3_meetsRay.desc).map (fun d => d.parameters.length) = some 4 := by decide +kernel
theorem nd_X3_meetOfOthers : yX3_meetOfOthers.cls ≠ "java/lang/invoke/MethodHandle" ∧ yX3_meetOfOthers.cls ≠ "java/lang/invoke/VarHandle" ∧ (parseMethodDescriptor yX3_meetOfOthers.desc).map (fun d => d.parameters.length) = some 2 := by decide +kernel
theorem nd_X3_isPartOfSpan : yX3_isPartOfSpan.cls ≠ "java/lang/invoke/MethodHandle" ∧ yX3_isPartOfSpan.cls ≠ "java/lang/invoke/VarHandle" ∧ (parseMethodDescriptor yX3_isPartOfSpan.desc).map (fun d => d.parameters.length) = some 1 := by decide +kernel
theorem nd_X3_meetOfParallels : yX3_meetOfParallels.cls ≠ "java/lang/invoke/MethodHandle" ∧ yX3_meetOfParallels.cls ≠ "java/lang/invoke/VarHandle" ∧ (parseMethodDescriptor yX3_meetOfParallels.desc).map (fun d => d.parameters.length) = some 2 := by decide +kernel
theorem nd_X3_ratioByRule : yX3_ratioByRule.cls ≠ "java/lang/invoke/MethodHandle" ∧ yX3_ratioByRule.cls ≠ "java/lang/invoke/VarHandle" ∧ (parseMethodDescriptor yX3_ratioByRule.desc).map (fun d => d.parameters.length) = some 4 := by decide +kernel
theorem nd_X3_limbOf : yX3_limbOf.cls ≠ "java/lang/invoke/MethodHandle" ∧ yX3_limbOf.cls ≠ "java/lang/invoke/VarHandle" ∧ (parseMethodDescriptor yX3_limbOf.desc).map (fun d => d.parameters.length) = some 2 := by decide +kernel

set_option maxHeartbeats 4000000 in
set_option maxRecDepth 100000 in
theorem c_X3_isOnGrid (l : Launch) (D : va_G) (cZ cI cJ : ClassId) (x y : Int64) : Ri l D cZ cI cJ yX3_isOnGrid cX3_isOnGrid 4 (some .boolean) { frames := 0, cells := 0, slots := 0, locals := 0 } [.long x, .long y] [] (fun r => r = bz (ogr x y)) := by
  refine Ri.of (by decide) ?_
  intro p e s m args below meth c Q hB hret hP
  obtain ⟨hx, hb, hr, hlocks, hml, hown, hnm, hTB, hK⟩ := hB
  have hown : s.vm.findClass RX3 = some m.cls := hown
  have hl := lv_entry ([.long x, .long y]) (n := 4) (Nat.le_of_ble_eq_true rfl)
  rw [lg_entry_eq]
  generalize (lg_sl ([.long x, .long y]) ++ List.replicate (4 - (lg_sl ([.long x, .long y])).length) Slot.unset).toArray = ls at hl ⊢
  have hl : lv_has ls 4 [(0, .long x), (2, .long y)] := hl
  refine lv_lload_n hx hb dX3_isOnGrid_0 rfl (lv_at hl 0 rfl) ?_
  refine lv_ldc2 (v := (-1099511627776)) hx hb hown (hTB _ tb_4_7) dX3_isOnGrid_1 ?_
  refine W.lcmp hx hb dX3_isOnGrid_4 ?_
  refine lv_if_lt (tgt := 36) hx hb dX3_isOnGrid_5 (by decide) (fun c_5 => ?_) (fun c_5 => ?_)
  · have c_5 : x.toInt < (-1099511627776 : Int) := lc_lt c_5
    refine lv_iconst (v := 0) hx hb dX3_isOnGrid_36 (by decide) ?_
    exact hret rfl (bz_f (by omega)) dX3_isOnGrid_37
  · have c_5 : (-1099511627776 : Int) ≤ x.toInt := lc_nlt c_5
    refine lv_lload_n hx hb dX3_isOnGrid_8 rfl (lv_at hl 0 rfl) ?_
    refine lv_ldc2 (v := 1099511627776) hx hb hown (hTB _ tb_4_8) dX3_isOnGrid_9 ?_
    refine W.lcmp hx hb dX3_isOnGrid_12 ?_
    refine lv_if_gt (tgt := 36) hx hb dX3_isOnGrid_13 (by decide) (fun c_13 => ?_) (fun c_13 => ?_)
    · have c_13 : (1099511627776 : Int) < x.toInt := lc_gt c_13
      refine lv_iconst (v := 0) hx hb dX3_isOnGrid_36 (by decide) ?_
      exact hret rfl (bz_f (by omega)) dX3_isOnGrid_37
    · have c_13 : x.toInt ≤ (1099511627776 : Int) := lc_ngt c_13
      refine lv_lload_n hx hb dX3_isOnGrid_16 rfl (lv_at hl 1 rfl) ?_
      refine lv_ldc2 (v := (-1099511627776)) hx hb hown (hTB _ tb_4_7) dX3_isOnGrid_17 ?_
      refine W.lcmp hx hb dX3_isOnGrid_20 ?_
      refine lv_if_lt (tgt := 36) hx hb dX3_isOnGrid_21 (by decide) (fun c_21 => ?_) (fun c_21 => ?_)
      · have c_21 : y.toInt < (-1099511627776 : Int) := lc_lt c_21
        refine lv_iconst (v := 0) hx hb dX3_isOnGrid_36 (by decide) ?_
        exact hret rfl (bz_f (by omega)) dX3_isOnGrid_37
      · have c_21 : (-1099511627776 : Int) ≤ y.toInt := lc_nlt c_21
        refine lv_lload_n hx hb dX3_isOnGrid_24 rfl (lv_at hl 1 rfl) ?_
        refine lv_ldc2 (v := 1099511627776) hx hb hown (hTB _ tb_4_8) dX3_isOnGrid_25 ?_
        refine W.lcmp hx hb dX3_isOnGrid_28 ?_
        refine lv_if_gt (tgt := 36) hx hb dX3_isOnGrid_29 (by decide) (fun c_29 => ?_) (fun c_29 => ?_)
        · have c_29 : (1099511627776 : Int) < y.toInt := lc_gt c_29
          refine lv_iconst (v := 0) hx hb dX3_isOnGrid_36 (by decide) ?_
          exact hret rfl (bz_f (by omega)) dX3_isOnGrid_37
        · have c_29 : y.toInt ≤ (1099511627776 : Int) := lc_ngt c_29
          refine lv_iconst (v := 1) hx hb dX3_isOnGrid_32 (by decide) ?_
          refine lv_goto (tgt := 37) hx hb dX3_isOnGrid_33 (by decide) ?_
          exact hret rfl (bz_t (by omega)) dX3_isOnGrid_37

set_option maxHeartbeats 4000000 in
set_option maxRecDepth 100000 in
theorem c_X3_isBetween (l : Launch) (D : va_G) (cZ cI cJ : ClassId) (x v y : Int64) : Ri l D cZ cI cJ yX3_isBetween cX3_isBetween 6 (some .boolean) { frames := 1, cells := 0, slots := 0, locals := 17 } [.long x, .long v, .long y] [] (fun r => r = bz (btw x v y)) := by
  refine Ri.of (by decide) ?_
  intro p e s m args below meth c Q hB hret hP
  obtain ⟨hx, hb, hr, hlocks, hml, hown, hnm, hTB, hK⟩ := hB
  have hown : s.vm.findClass RX3 = some m.cls := hown
  have hl := lv_entry ([.long x, .long v, .long y]) (n := 6) (Nat.le_of_ble_eq_true rfl)
  rw [lg_entry_eq]
  generalize (lg_sl ([.long x, .long v, .long y]) ++ List.replicate (6 - (lg_sl ([.long x, .long v, .long y])).length) Slot.unset).toArray = ls at hl ⊢
  have hl : lv_has ls 6 [(0, .long x), (2, .long v), (4, .long y)] := hl
  refine lv_lload_n hx hb dX3_isBetween_0 rfl (lv_at hl 0 rfl) ?_
  refine lv_lload hx hb dX3_isBetween_1 (lv_at hl 2 rfl) ?_
  refine va_mmin_long hx hb (hml.trans hl.1.symm) hown (hTB _ tb_8_19) (hTB _ tb_8_20) (hTB _ tb_8_21) (hTB _ tb_8_22) (Nat.le_of_ble_eq_true rfl) (Nat.le_of_ble_eq_true rfl) (Nat.zero_le _) (Nat.zero_le _) dX3_isBetween_3 ?_
  refine lv_lload_n hx hb dX3_isBetween_6 rfl (lv_at hl 1 rfl) ?_
  refine W.lcmp hx hb dX3_isBetween_7 ?_
  refine lv_if_gt (tgt := 26) hx hb dX3_isBetween_8 (by decide) (fun c_8 => ?_) (fun c_8 => ?_)
  · have c_8 : v.toInt < (if y < x then y else x).toInt := lc_gt c_8
    refine lv_iconst (v := 0) hx hb dX3_isBetween_26 (by decide) ?_
    exact hret rfl (bz_f (by rw [min_toInt] at c_8; split at c_8 <;> omega)) dX3_isBetween_27
  · have c_8 : (if y < x then y else x).toInt ≤ v.toInt := lc_ngt c_8
    refine lv_lload_n hx hb dX3_isBetween_11 rfl (lv_at hl 1 rfl) ?_
    refine lv_lload_n hx hb dX3_isBetween_12 rfl (lv_at hl 0 rfl) ?_
    refine lv_lload hx hb dX3_isBetween_13 (lv_at hl 2 rfl) ?_
    refine va_mmax_long hx hb (hml.trans hl.1.symm) hown (hTB _ tb_8_23) (hTB _ tb_9_0) (hTB _ tb_8_21) (hTB _ tb_9_1) (Nat.le_of_ble_eq_true rfl) (Nat.le_of_ble_eq_true rfl) (Nat.zero_le _) (Nat.zero_le _) dX3_isBetween_15 ?_
    refine W.lcmp hx hb dX3_isBetween_18 ?_
    refine lv_if_gt (tgt := 26) hx hb dX3_isBetween_19 (by decide) (fun c_19 => ?_) (fun c_19 => ?_)
    · have c_19 : (if y < x then x else y).toInt < v.toInt := lc_gt c_19
      refine lv_iconst (v := 0) hx hb dX3_isBetween_26 (by decide) ?_
      exact hret rfl (bz_f (by rw [min_toInt] at c_8; rw [max_toInt] at c_19; split at c_8 <;> split at c_19 <;> omega)) dX3_isBetween_27
    · have c_19 : v.toInt ≤ (if y < x then x else y).toInt := lc_ngt c_19
      refine lv_iconst (v := 1) hx hb dX3_isBetween_22 (by decide) ?_
      refine lv_goto (tgt := 27) hx hb dX3_isBetween_23 (by decide) ?_
      exact hret rfl (bz_t (by rw [min_toInt] at c_8; rw [max_toInt] at c_19; split at c_8 <;> split at c_19 <;> omega)) dX3_isBetween_27

set_option maxHeartbeats 4000000 in
set_option maxRecDepth 100000 in
theorem c_X3_isTold (l : Launch) (D : va_G) (cZ cI cJ : ClassId) (o tl sx sy wx wy kx ky fx fy dv sp p1 p2 : Nat) (cn ph : Int32) (ft : Nat → Int32) (k : Int32) : Ri l D cZ cI cJ yX3_isTold cX3_isTold 2 (some .boolean) { frames := 0, cells := 0, slots := 0, locals := 0 } [.ref o, .int k] [(o, .inr (3, [.ref tl, .ref sx, .ref sy, .ref wx, .ref wy, .ref kx, .ref ky, .int cn, .int ph, .ref fx, .ref fy, .ref dv, .ref sp, .ref p1, .ref p2])), (tl, .inl (cZ, 16, .inl ft))] (fun r => r = bz (ist ft k)) := by
  refine Ri.of (by decide) ?_
  intro p e s m args below meth c Q hB hret hP
  obtain ⟨hx, hb, hr, hlocks, hml, hown, hnm, hTB, hK⟩ := hB
  have hown : s.vm.findClass RX3 = some m.cls := hown
  have hl := lv_entry ([.ref o, .int k]) (n := 2) (Nat.le_of_ble_eq_true rfl)
  rw [lg_entry_eq]
  generalize (lg_sl ([.ref o, .int k]) ++ List.replicate (2 - (lg_sl ([.ref o, .int k])).length) Slot.unset).toArray = ls at hl ⊢
  have hl : lv_has ls 2 [(0, .ref o), (1, .int k)] := hl
  refine lv_iload_n hx hb dX3_isTold_0 rfl (lv_at hl 1 rfl) ?_
  refine lv_if_lt (tgt := 23) hx hb dX3_isTold_1 (by decide) (fun c_1 => ?_) (fun c_1 => ?_)
  · have c_1 : k.toInt < (0 : Int) := ic_lt c_1
    refine lv_iconst (v := 0) hx hb dX3_isTold_23 (by decide) ?_
    exact hret rfl (bz_f (by omega)) dX3_isTold_24
  · have c_1 : (0 : Int) ≤ k.toInt := ic_nlt c_1
    refine lv_iload_n hx hb dX3_isTold_4 rfl (lv_at hl 1 rfl) ?_
    refine lv_bipush (v := 16) hx hb dX3_isTold_5 (by decide) ?_
    refine lv_icmp_ge (tgt := 23) hx hb dX3_isTold_7 (by decide) (fun c_7 => ?_) (fun c_7 => ?_)
    · have c_7 : (16 : Int) ≤ k.toInt := ic_le c_7
      refine lv_iconst (v := 0) hx hb dX3_isTold_23 (by decide) ?_
      exact hret rfl (bz_f (by omega)) dX3_isTold_24
    · have c_7 : k.toInt < (16 : Int) := ic_nle c_7
      refine lv_aload_n hx hb dX3_isTold_10 rfl (lv_at hl 0 rfl) ?_
      refine va_get (D := D) (ci := 3) (v := .ref tl) (C := RX3) (T := TX3) (N := 15) hx hb hTB tb_X3 hown hK.1 hP 0 rfl rfl 0 (by decide) (hTB _ tb_1_15) (fun _ h9 => h9) rfl dX3_isTold_11 ?_
      refine lv_iload_n hx hb dX3_isTold_14 rfl (lv_at hl 1 rfl) ?_
      refine va_zald (f := ft) hx hb hK.1 hP 1 0 rfl rfl (vp_in_iff.mpr ⟨by omega, by omega⟩) dX3_isTold_15 ?_
      refine lv_if_eq (tgt := 23) hx hb dX3_isTold_16 (by decide) (fun c_16 => ?_) (fun c_16 => ?_)
      · have c_16 : (ft (k.toNatClampNeg)).toInt = (0 : Int) := ic_eq c_16
        refine lv_iconst (v := 0) hx hb dX3_isTold_23 (by decide) ?_
        exact hret rfl (bz_f (fun q => q.2.2 (i32_of (k := 0) c_16))) dX3_isTold_24
      · have c_16 : (ft (k.toNatClampNeg)).toInt ≠ (0 : Int) := ic_ne c_16
        refine lv_iconst (v := 1) hx hb dX3_isTold_19 (by decide) ?_
        refine lv_goto (tgt := 24) hx hb dX3_isTold_20 (by decide) ?_
        exact hret rfl (bz_t ⟨by omega, by omega, fun q => c_16 (by rw [q]; rfl)⟩) dX3_isTold_24

set_option maxHeartbeats 4000000 in
set_option maxRecDepth 100000 in
theorem c_X3_isAnswerable (l : Launch) (D : va_G) (cZ cI cJ : ClassId) (o tl sx sy wx wy kx ky fx fy dv sp p1 p2 : Nat) (cn ph : Int32) (axis : Int32) : Ri l D cZ cI cJ yX3_isAnswerable cX3_isAnswerable 2 (some .boolean) { frames := 0, cells := 0, slots := 0, locals := 0 } [.ref o, .int axis] [(o, .inr (3, [.ref tl, .ref sx, .ref sy, .ref wx, .ref wy, .ref kx, .ref ky, .int cn, .int ph, .ref fx, .ref fy, .ref dv, .ref sp, .ref p1, .ref p2]))] (fun r => r = bz (isa ph axis)) := by
  refine Ri.of (by decide) ?_
  intro p e s m args below meth c Q hB hret hP
  obtain ⟨hx, hb, hr, hlocks, hml, hown, hnm, hTB, hK⟩ := hB
  have hown : s.vm.findClass RX3 = some m.cls := hown
  have hl := lv_entry ([.ref o, .int axis]) (n := 2) (Nat.le_of_ble_eq_true rfl)
  rw [lg_entry_eq]
  generalize (lg_sl ([.ref o, .int axis]) ++ List.replicate (2 - (lg_sl ([.ref o, .int axis])).length) Slot.unset).toArray = ls at hl ⊢
  have hl : lv_has ls 2 [(0, .ref o), (1, .int axis)] := hl
  refine lv_aload_n hx hb dX3_isAnswerable_0 rfl (lv_at hl 0 rfl) ?_
  refine va_get (D := D) (ci := 3) (v := .int ph) (C := RX3) (T := TX3) (N := 15) hx hb hTB tb_X3 hown hK.1 hP 0 rfl rfl 8 (by decide) (hTB _ tb_2_14) (fun _ h9 => h9) rfl dX3_isAnswerable_1 ?_
  refine lv_if_eq (tgt := 20) hx hb dX3_isAnswerable_4 (by decide) (fun c_4 => ?_) (fun c_4 => ?_)
  · refine lv_iconst (v := 0) hx hb dX3_isAnswerable_20 (by decide) ?_
    exact hret rfl (bz_f (fun q => q.1 c_4)) dX3_isAnswerable_21
  · refine lv_iload_n hx hb dX3_isAnswerable_7 rfl (lv_at hl 1 rfl) ?_
    refine lv_if_eq (tgt := 16) hx hb dX3_isAnswerable_8 (by decide) (fun c_8 => ?_) (fun c_8 => ?_)
    · refine lv_iconst (v := 1) hx hb dX3_isAnswerable_16 (by decide) ?_
      refine lv_goto (tgt := 21) hx hb dX3_isAnswerable_17 (by decide) ?_
      exact hret rfl (bz_t ⟨c_4, Or.inl c_8⟩) dX3_isAnswerable_21
    · refine lv_iload_n hx hb dX3_isAnswerable_11 rfl (lv_at hl 1 rfl) ?_
      refine lv_iconst (v := 1) hx hb dX3_isAnswerable_12 (by decide) ?_
      refine lv_icmp_ne (tgt := 20) hx hb dX3_isAnswerable_13 (by decide) (fun c_13 => ?_) (fun c_13 => ?_)
      · refine lv_iconst (v := 0) hx hb dX3_isAnswerable_20 (by decide) ?_
        exact hret rfl (bz_f (fun q => q.2.elim c_8 c_13)) dX3_isAnswerable_21
      · refine lv_iconst (v := 1) hx hb dX3_isAnswerable_16 (by decide) ?_
        refine lv_goto (tgt := 21) hx hb dX3_isAnswerable_17 (by decide) ?_
        exact hret rfl (bz_t ⟨c_4, Or.inr c_13⟩) dX3_isAnswerable_21

set_option maxHeartbeats 4000000 in
set_option maxRecDepth 100000 in
theorem c_X3_linesTold (l : Launch) (D : va_G) (cZ cI cJ : ClassId) (o tl sx sy wx wy kx ky fx fy dv sp p1 p2 : Nat) (cn ph : Int32) (ft : Nat → Int32) : Ri l D cZ cI cJ yX3_linesTold cX3_linesTold 3 (some .int) { frames := 0, cells := 0, slots := 0, locals := 0 } [.ref o] [(o, .inr (3, [.ref tl, .ref sx, .ref sy, .ref wx, .ref wy, .ref kx, .ref ky, .int cn, .int ph, .ref fx, .ref fy, .ref dv, .ref sp, .ref p1, .ref p2])), (tl, .inl (cZ, 16, .inl ft))] (fun r => r = nI (cnt ft 16)) := by
  refine Ri.of (by decide) ?_
  intro p e s m args below meth c Q hB hret hP
  obtain ⟨hx, hb, hr, hlocks, hml, hown, hnm, hTB, hK⟩ := hB
  have hown : s.vm.findClass RX3 = some m.cls := hown
  have hl := lv_entry ([.ref o]) (n := 3) (Nat.le_of_ble_eq_true rfl)
  rw [lg_entry_eq]
  generalize (lg_sl ([.ref o]) ++ List.replicate (3 - (lg_sl ([.ref o])).length) Slot.unset).toArray = ls at hl ⊢
  have hl : lv_has ls 3 [(0, .ref o)] := hl
  refine lv_iconst (v := 0) hx hb dX3_linesTold_0 (by decide) ?_
  refine lv_istore_n (lv' := [(1, .int 0), (0, .ref o)]) hx hb dX3_linesTold_1 rfl hl (by decide) rfl (fun ls hl => ?_)
  refine lv_iconst (v := 0) hx hb dX3_linesTold_2 (by decide) ?_
  refine lv_istore_n (lv' := [(2, .int 0), (1, .int 0), (0, .ref o)]) hx hb dX3_linesTold_3 rfl hl (by decide) rfl (fun ls hl => ?_)
  have L4 : ∀ (n4 : Nat) (k : Nat), (16 < k + n4 ∧ k ≤ 16) → ∀ (ls : Array Slot), lv_has ls 3 [(0, .ref o), (1, .int (nI (cnt ft k))), (2, .int (nI k))] → W p l e { frames := 0, cells := 0, slots := 0, locals := 0 } s m args below meth c s.heap [] 0 0 Q (F0 m 4 ls []) := by
    intro n4
    induction n4 with
    | zero =>
      intro k g1
      exfalso; omega
    | succ n4 ih4 =>
      intro k g1 ls hl
      refine lv_iload_n hx hb dX3_linesTold_4 rfl (lv_at hl 2 rfl) ?_
      refine lv_bipush (v := 16) hx hb dX3_linesTold_5 (by decide) ?_
      refine lv_icmp_ge (tgt := 28) hx hb dX3_linesTold_7 (by decide) (fun c_7 => ?_) (fun c_7 => ?_)
      · refine lv_iload_n hx hb dX3_linesTold_28 rfl (lv_at hl 1 rfl) ?_
        exact hret rfl (by have := (nI_leI (a := 16) (b := k) (by omega) (by omega)).mp c_7; rw [show k = 16 from (by omega)]) dX3_linesTold_29
      · have hk : k < 16 := Nat.not_le.mp (fun q => c_7 ((nI_leI (a := 16) (b := k) (by omega) (by omega)).mpr q))
        refine lv_aload_n hx hb dX3_linesTold_10 rfl (lv_at hl 0 rfl) ?_
        refine va_get (D := D) (ci := 3) (v := .ref tl) (C := RX3) (T := TX3) (N := 15) hx hb hTB tb_X3 hown hK.1 hP 0 rfl rfl 0 (by decide) (hTB _ tb_1_15) (fun _ h9 => h9) rfl dX3_linesTold_11 ?_
        refine lv_iload_n hx hb dX3_linesTold_14 rfl (lv_at hl 2 rfl) ?_
        refine va_zald (f := ft) hx hb hK.1 hP 1 0 rfl rfl (vp_in_nI hk (by decide)) dX3_linesTold_15 ?_
        rw [show (nI k).toNatClampNeg = k from nI_clamp (by omega)]
        refine lv_if_eq (tgt := 22) hx hb dX3_linesTold_16 (by decide) (fun c_16 => ?_) (fun c_16 => ?_)
        · obtain ⟨i2_1, ei2_1⟩ : ∃ y : Int32, y = (nI k) + 1 := ⟨_, rfl⟩
          refine lv_iinc (v := i2_1) (lv' := [(2, .int i2_1), (0, .ref o), (1, .int (nI (cnt ft k)))]) hx hb dX3_linesTold_22 hl (k := 2) rfl (by rw [ei2_1]; rfl) (by decide) rfl (fun ls hl => ?_)
          refine lv_goto (tgt := 4) hx hb dX3_linesTold_25 (by decide) ?_
          have q9 : i2_1 = nI (k + 1) := by rw [ei2_1]; exact nI_1 k
          subst q9
          have q8 : cnt ft (k + 1) = cnt ft k := cnt_s0 c_16
          rw [← q8] at hl
          refine ih4 (k + 1) ?_ _ (lv_sub hl [1, 2, 0] rfl)
          · omega
        · obtain ⟨i1_2, ei1_2⟩ : ∃ y : Int32, y = (nI (cnt ft k)) + 1 := ⟨_, rfl⟩
          refine lv_iinc (v := i1_2) (lv' := [(1, .int i1_2), (0, .ref o), (2, .int (nI k))]) hx hb dX3_linesTold_19 hl (k := 1) rfl (by rw [ei1_2]; rfl) (by decide) rfl (fun ls hl => ?_)
          obtain ⟨i2_3, ei2_3⟩ : ∃ y : Int32, y = (nI k) + 1 := ⟨_, rfl⟩
          refine lv_iinc (v := i2_3) (lv' := [(2, .int i2_3), (1, .int i1_2), (0, .ref o)]) hx hb dX3_linesTold_22 hl (k := 2) rfl (by rw [ei2_3]; rfl) (by decide) rfl (fun ls hl => ?_)
          refine lv_goto (tgt := 4) hx hb dX3_linesTold_25 (by decide) ?_
          have q9 : i2_3 = nI (k + 1) := by rw [ei2_3]; exact nI_1 k
          subst q9
          have q8 : i1_2 = nI (cnt ft (k + 1)) := by rw [ei1_2, cnt_s1 c_16]; exact nI_1 _
          subst q8
          refine ih4 (k + 1) ?_ _ (lv_sub hl [2, 1, 0] rfl)
          · omega
  refine L4 17 0 ?_ _ (lv_sub hl [2, 1, 0] rfl)
  · omega

set_option maxHeartbeats 4000000 in
set_option maxRecDepth 100000 in
theorem c_X3_cornerBehind (l : Launch) (D : va_G) (cZ cI cJ : ClassId) (o tl sx sy wx wy kx ky fx fy dv sp p1 p2 : Nat) (ph : Int32) (n a : Nat) (hn : n ≤ 64) (ha : a < 64) : Ri l D cZ cI cJ yX3_cornerBehind cX3_cornerBehind 2 (some .int) { frames := 0, cells := 0, slots := 0, locals := 0 } [.ref o, .int (nI a)] [(o, .inr (3, [.ref tl, .ref sx, .ref sy, .ref wx, .ref wy, .ref kx, .ref ky, .int (nI n), .int ph, .ref fx, .ref fy, .ref dv, .ref sp, .ref p1, .ref p2]))] (fun r => r = nI (nxt a n)) := by
  refine Ri.of (by decide) ?_
  intro p e s m args below meth c Q hB hret hP
  obtain ⟨hx, hb, hr, hlocks, hml, hown, hnm, hTB, hK⟩ := hB
  have hown : s.vm.findClass RX3 = some m.cls := hown
  have hl := lv_entry ([.ref o, .int (nI a)]) (n := 2) (Nat.le_of_ble_eq_true rfl)
  rw [lg_entry_eq]
  generalize (lg_sl ([.ref o, .int (nI a)]) ++ List.replicate (2 - (lg_sl ([.ref o, .int (nI a)])).length) Slot.unset).toArray = ls at hl ⊢
  have hl : lv_has ls 2 [(0, .ref o), (1, .int (nI a))] := hl
  refine lv_iload_n hx hb dX3_cornerBehind_0 rfl (lv_at hl 1 rfl) ?_
  refine lv_iconst (v := 1) hx hb dX3_cornerBehind_1 (by decide) ?_
  refine lv_iadd hx hb dX3_cornerBehind_2 ?_
  refine lv_aload_n hx hb dX3_cornerBehind_3 rfl (lv_at hl 0 rfl) ?_
  refine va_get (D := D) (ci := 3) (v := .int (nI n)) (C := RX3) (T := TX3) (N := 15) hx hb hTB tb_X3 hown hK.1 hP 0 rfl rfl 7 (by decide) (hTB _ tb_2_13) (fun _ h9 => h9) rfl dX3_cornerBehind_4 ?_
  refine lv_icmp_ge (tgt := 16) hx hb dX3_cornerBehind_7 (by decide) (fun c_7 => ?_) (fun c_7 => ?_)
  · refine lv_iconst (v := 0) hx hb dX3_cornerBehind_16 (by decide) ?_
    exact hret rfl (by rw [nI_1] at c_7; have := (nI_leI (a := n) (b := a + 1) (by omega) (by omega)).mp c_7; unfold nxt; rw [if_neg (by omega)]; rfl) dX3_cornerBehind_17
  · refine lv_iload_n hx hb dX3_cornerBehind_10 rfl (lv_at hl 1 rfl) ?_
    refine lv_iconst (v := 1) hx hb dX3_cornerBehind_11 (by decide) ?_
    refine lv_iadd hx hb dX3_cornerBehind_12 ?_
    refine lv_goto (tgt := 17) hx hb dX3_cornerBehind_13 (by decide) ?_
    exact hret rfl (by rw [nI_1] at c_7; have hq : ¬ n ≤ a + 1 := (fun q => c_7 ((nI_leI (by omega) (by omega)).mpr q)); unfold nxt; rw [if_pos (by omega), nI_1]) dX3_cornerBehind_17

set_option maxHeartbeats 4000000 in
set_option maxRecDepth 100000 in
theorem c_X3_sideOf (l : Launch) (D : va_G) (cZ cI cJ : ClassId) (o tl sx sy wx wy kx ky fx fy dv sp p1 p2 : Nat) (cn ph : Int32) (sh sl : Int64) (ax ay bx by_ cx cy : Int64) (hga : ogr ax ay) (hgb : ogr bx by_) (hgc : ogr cx cy) : Ci l D cZ cI cJ yX3_sideOf cX3_sideOf 13 (some .int) { frames := 5, cells := 0, slots := 0, locals := 127 } [.ref o, .long ax, .long ay, .long bx, .long by_, .long cx, .long cy] [(o, .inr (3, [.ref tl, .ref sx, .ref sy, .ref wx, .ref wy, .ref kx, .ref ky, .int cn, .int ph, .ref fx, .ref fy, .ref dv, .ref sp, .ref p1, .ref p2])), (sp, .inr (2, [.long sh, .long sl]))] (S := Int64 × Int64) (fun z u => z = sg (det ax.toInt ay.toInt bx.toInt by_.toInt cx.toInt cy.toInt)) (fun u => [(o, .inr (3, [.ref tl, .ref sx, .ref sy, .ref wx, .ref wy, .ref kx, .ref ky, .int cn, .int ph, .ref fx, .ref fy, .ref dv, .ref sp, .ref p1, .ref p2])), (sp, .inr (2, [.long u.1, .long u.2]))]) := by
  refine Ci.of (by decide) ?_
  intro p e s m args below meth c A Q hB hret hP hD hA
  obtain ⟨hx, hb, hr, hlocks, hml, hown, hnm, hTB, hK⟩ := hB
  have hown : s.vm.findClass RX3 = some m.cls := hown
  have hS : va_S A s.heap s.heap [] := va_S.rf
  have e1 : (bx - ax).toInt = bx.toInt - ax.toInt := sub_rng (by omega) (by omega)
  have e2 : (by_ - ay).toInt = by_.toInt - ay.toInt := sub_rng (by omega) (by omega)
  have e3 : (cx - ax).toInt = cx.toInt - ax.toInt := sub_rng (by omega) (by omega)
  have e4 : (cy - ay).toInt = cy.toInt - ay.toInt := sub_rng (by omega) (by omega)
  have m1 := mul_bd (x := bx.toInt - ax.toInt) (y := cy.toInt - ay.toInt) (X := 2199023255552) (Y := 2199023255552) (by omega) (by omega) (by omega) (by omega)
  have m2 := mul_bd (x := by_.toInt - ay.toInt) (y := cx.toInt - ax.toInt) (X := 2199023255552) (Y := 2199023255552) (by omega) (by omega) (by omega) (by omega)
  have hl := lv_entry ([.ref o, .long ax, .long ay, .long bx, .long by_, .long cx, .long cy]) (n := 13) (Nat.le_of_ble_eq_true rfl)
  rw [lg_entry_eq]
  generalize (lg_sl ([.ref o, .long ax, .long ay, .long bx, .long by_, .long cx, .long cy]) ++ List.replicate (13 - (lg_sl ([.ref o, .long ax, .long ay, .long bx, .long by_, .long cx, .long cy])).length) Slot.unset).toArray = ls at hl ⊢
  have hl : lv_has ls 13 [(0, .ref o), (1, .long ax), (3, .long ay), (5, .long bx), (7, .long by_), (9, .long cx), (11, .long cy)] := hl
  refine lv_aload_n hx hb dX3_sideOf_0 rfl (lv_at hl 0 rfl) ?_
  refine va_get (D := D) (ci := 3) (v := .ref sp) (C := RX3) (T := TX3) (N := 15) hx hb hTB tb_X3 hown hK.1 hP 0 rfl rfl 12 (by decide) (hTB _ tb_2_10) (fun _ h9 => h9) rfl dX3_sideOf_1 ?_
  refine lv_lload hx hb dX3_sideOf_4 (lv_at hl 3 rfl) ?_
  refine lv_lload_n hx hb dX3_sideOf_6 rfl (lv_at hl 1 rfl) ?_
  refine lv_lsub hx hb dX3_sideOf_7 ?_
  refine lv_lload hx hb dX3_sideOf_8 (lv_at hl 4 rfl) ?_
  refine lv_lload_n hx hb dX3_sideOf_10 rfl (lv_at hl 2 rfl) ?_
  refine lv_lsub hx hb dX3_sideOf_11 ?_
  refine lv_lload hx hb dX3_sideOf_12 (lv_at hl 5 rfl) ?_
  refine lv_lload_n hx hb dX3_sideOf_14 rfl (lv_at hl 1 rfl) ?_
  refine lv_lsub hx hb dX3_sideOf_15 ?_
  refine lv_lload hx hb dX3_sideOf_16 (lv_at hl 6 rfl) ?_
  refine lv_lload_n hx hb dX3_sideOf_18 rfl (lv_at hl 2 rfl) ?_
  refine lv_lsub hx hb dX3_sideOf_19 ?_
  refine fin_v (wr := [(o, .inr (3, [.ref tl, .ref sx, .ref sy, .ref wx, .ref wy, .ref kx, .ref ky, .int cn, .int ph, .ref fx, .ref fy, .ref dv, .ref sp, .ref p1, .ref p2]))]) (va_runV (As := [.long (bx - ax), .long (by_ - ay), .long (cx - ax), .long (cy - ay)]) (rest := []) ⟨hx, hb, hml, hown, hTB⟩ (c_X2_putSpan l D cZ cI cJ sp sh sl (bx - ax) (by_ - ay) (cx - ax) (cy - ay) _) (cw_V hTB tb_4_16 tb_2_9 tb_4_13 tb_4_14 tb_4_15 nd_X2_putSpan rfl rfl ⟨Nat.le_of_ble_eq_true rfl, Nat.le_of_ble_eq_true rfl⟩) (pre_V (q0 := 1) hK hP hD [1] rfl rfl rfl rfl) rfl rfl hl.1 rfl (lv_room (Nat.le_of_ble_eq_true rfl)) dX3_sideOf_20 ⟨Nat.le_of_ble_eq_true rfl, Nat.le_of_ble_eq_true rfl⟩) hP hD hS hA [1] [0] rfl rfl rfl (by decide) (fun u20 H locs hc20 hP hD hS => ?_)
  obtain ⟨w20h, w20l⟩ := u20
  try dsimp only at hc20
  have hP : va_P D vwCl [(o, .inr (3, [.ref tl, .ref sx, .ref sy, .ref wx, .ref wy, .ref kx, .ref ky, .int cn, .int ph, .ref fx, .ref fy, .ref dv, .ref sp, .ref p1, .ref p2])), (sp, .inr (2, [.long w20h, .long w20l]))] H := hP
  have hD : va_D A [(o, .inr (3, [.ref tl, .ref sx, .ref sy, .ref wx, .ref wy, .ref kx, .ref ky, .int cn, .int ph, .ref fx, .ref fy, .ref dv, .ref sp, .ref p1, .ref p2])), (sp, .inr (2, [.long w20h, .long w20l]))] := hD
  refine lv_aload_n hx hb dX3_sideOf_23 rfl (lv_at hl 0 rfl) ?_
  refine va_get (D := D) (ci := 3) (v := .ref sp) (C := RX3) (T := TX3) (N := 15) hx hb hTB tb_X3 hown hK.1 hP 0 rfl rfl 12 (by decide) (hTB _ tb_2_10) (fun _ h9 => h9) rfl dX3_sideOf_24 ?_
  refine vp_callSi (va_runV (As := []) (rest := []) ⟨hx, hb, hml, hown, hTB⟩ (c_X2_sign l D cZ cI cJ sp w20h w20l) (cw_V hTB tb_5_23 tb_2_9 tb_5_20 tb_5_21 tb_5_22 nd_X2_sign rfl rfl ⟨Nat.le_of_ble_eq_true rfl, Nat.le_of_ble_eq_true rfl⟩) (prr_V (q0 := 1) hK hP [1] rfl rfl rfl) rfl rfl hl.1 rfl (lv_room (Nat.le_of_ble_eq_true rfl)) dX3_sideOf_27 ⟨Nat.le_of_ble_eq_true rfl, Nat.le_of_ble_eq_true rfl⟩).run (fun r27 hc27 => ?_)
  subst hc27
  exact hret hP hD hS rfl (w20h, w20l) (by rw [e1, e2, e3, e4] at hc20; rw [hc20 (by omega) (by unfold In; omega) (by unfold In; omega)]; rfl) [0, 1] rfl (by decide) dX3_sideOf_30 (Nat.le_of_ble_eq_true rfl) (Nat.le_of_ble_eq_true rfl)

set_option maxHeartbeats 4000000 in
set_option maxRecDepth 100000 in
theorem c_X3_meetsRay (l : Launch) (D : va_G) (cZ cI cJ : ClassId) (x z v : Int64) (side : Int32) : Ri l D cZ cI cJ yX3_meetsRay cX3_meetsRay 7 (some .boolean) { frames := 0, cells := 0, slots := 0, locals := 0 } [.long x, .long z, .long v, .int side] [] (fun r => r = bz (mry x z v side)) := by
  refine Ri.of (by decide) ?_
  intro p e s m args below meth c Q hB hret hP
  obtain ⟨hx, hb, hr, hlocks, hml, hown, hnm, hTB, hK⟩ := hB
  have hown : s.vm.findClass RX3 = some m.cls := hown
  have hl := lv_entry ([.long x, .long z, .long v, .int side]) (n := 7) (Nat.le_of_ble_eq_true rfl)
  rw [lg_entry_eq]
  generalize (lg_sl ([.long x, .long z, .long v, .int side]) ++ List.replicate (7 - (lg_sl ([.long x, .long z, .long v, .int side])).length) Slot.unset).toArray = ls at hl ⊢
  have hl : lv_has ls 7 [(0, .long x), (2, .long z), (4, .long v), (6, .int side)] := hl
  refine lv_lload_n hx hb dX3_meetsRay_0 rfl (lv_at hl 0 rfl) ?_
  refine lv_lload hx hb dX3_meetsRay_1 (lv_at hl 2 rfl) ?_
  refine W.lcmp hx hb dX3_meetsRay_3 ?_
  refine lv_if_gt (tgt := 25) hx hb dX3_meetsRay_4 (by decide) (fun c_4 => ?_) (fun c_4 => ?_)
  · have c_4 : v.toInt < x.toInt := lc_gt c_4
    refine lv_lload_n hx hb dX3_meetsRay_25 rfl (lv_at hl 1 rfl) ?_
    refine lv_lload hx hb dX3_meetsRay_26 (lv_at hl 2 rfl) ?_
    refine W.lcmp hx hb dX3_meetsRay_28 ?_
    refine lv_if_gt (tgt := 48) hx hb dX3_meetsRay_29 (by decide) (fun c_29 => ?_) (fun c_29 => ?_)
    · have c_29 : v.toInt < z.toInt := lc_gt c_29
      refine lv_iconst (v := 0) hx hb dX3_meetsRay_48 (by decide) ?_
      exact hret rfl (bz_f (by omega)) dX3_meetsRay_49
    · have c_29 : z.toInt ≤ v.toInt := lc_ngt c_29
      refine lv_lload hx hb dX3_meetsRay_32 (lv_at hl 2 rfl) ?_
      refine lv_lload_n hx hb dX3_meetsRay_34 rfl (lv_at hl 0 rfl) ?_
      refine W.lcmp hx hb dX3_meetsRay_35 ?_
      refine lv_if_ge (tgt := 48) hx hb dX3_meetsRay_36 (by decide) (fun c_36 => ?_) (fun c_36 => ?_)
      · have c_36 : x.toInt ≤ v.toInt := lc_ge c_36
        refine lv_iconst (v := 0) hx hb dX3_meetsRay_48 (by decide) ?_
        exact hret rfl (bz_f (by omega)) dX3_meetsRay_49
      · have c_36 : v.toInt < x.toInt := lc_nge c_36
        refine lv_iload hx hb dX3_meetsRay_39 (lv_at hl 3 rfl) ?_
        refine lv_if_ge (tgt := 48) hx hb dX3_meetsRay_41 (by decide) (fun c_41 => ?_) (fun c_41 => ?_)
        · have c_41 : (0 : Int) ≤ side.toInt := ic_le c_41
          refine lv_iconst (v := 0) hx hb dX3_meetsRay_48 (by decide) ?_
          exact hret rfl (bz_f (by omega)) dX3_meetsRay_49
        · have c_41 : side.toInt < (0 : Int) := ic_nle c_41
          refine lv_iconst (v := 1) hx hb dX3_meetsRay_44 (by decide) ?_
          refine lv_goto (tgt := 49) hx hb dX3_meetsRay_45 (by decide) ?_
          exact hret rfl (bz_t (by omega)) dX3_meetsRay_49
  · have c_4 : x.toInt ≤ v.toInt := lc_ngt c_4
    refine lv_lload hx hb dX3_meetsRay_7 (lv_at hl 2 rfl) ?_
    refine lv_lload_n hx hb dX3_meetsRay_9 rfl (lv_at hl 1 rfl) ?_
    refine W.lcmp hx hb dX3_meetsRay_10 ?_
    refine lv_if_ge (tgt := 25) hx hb dX3_meetsRay_11 (by decide) (fun c_11 => ?_) (fun c_11 => ?_)
    · have c_11 : z.toInt ≤ v.toInt := lc_ge c_11
      refine lv_lload_n hx hb dX3_meetsRay_25 rfl (lv_at hl 1 rfl) ?_
      refine lv_lload hx hb dX3_meetsRay_26 (lv_at hl 2 rfl) ?_
      refine W.lcmp hx hb dX3_meetsRay_28 ?_
      refine lv_if_gt (tgt := 48) hx hb dX3_meetsRay_29 (by decide) (fun c_29 => ?_) (fun c_29 => ?_)
      · have c_29 : v.toInt < z.toInt := lc_gt c_29
        refine lv_iconst (v := 0) hx hb dX3_meetsRay_48 (by decide) ?_
        exact hret rfl (bz_f (by omega)) dX3_meetsRay_49
      · have c_29 : z.toInt ≤ v.toInt := lc_ngt c_29
        refine lv_lload hx hb dX3_meetsRay_32 (lv_at hl 2 rfl) ?_
        refine lv_lload_n hx hb dX3_meetsRay_34 rfl (lv_at hl 0 rfl) ?_
        refine W.lcmp hx hb dX3_meetsRay_35 ?_
        refine lv_if_ge (tgt := 48) hx hb dX3_meetsRay_36 (by decide) (fun c_36 => ?_) (fun c_36 => ?_)
        · have c_36 : x.toInt ≤ v.toInt := lc_ge c_36
          refine lv_iconst (v := 0) hx hb dX3_meetsRay_48 (by decide) ?_
          exact hret rfl (bz_f (by omega)) dX3_meetsRay_49
        · have c_36 : v.toInt < x.toInt := lc_nge c_36
          refine lv_iload hx hb dX3_meetsRay_39 (lv_at hl 3 rfl) ?_
          refine lv_if_ge (tgt := 48) hx hb dX3_meetsRay_41 (by decide) (fun c_41 => ?_) (fun c_41 => ?_)
          · have c_41 : (0 : Int) ≤ side.toInt := ic_le c_41
            refine lv_iconst (v := 0) hx hb dX3_meetsRay_48 (by decide) ?_
            exact hret rfl (bz_f (by omega)) dX3_meetsRay_49
          · have c_41 : side.toInt < (0 : Int) := ic_nle c_41
            refine lv_iconst (v := 1) hx hb dX3_meetsRay_44 (by decide) ?_
            refine lv_goto (tgt := 49) hx hb dX3_meetsRay_45 (by decide) ?_
            exact hret rfl (bz_t (by omega)) dX3_meetsRay_49
    · have c_11 : v.toInt < z.toInt := lc_nge c_11
      refine lv_iload hx hb dX3_meetsRay_14 (lv_at hl 3 rfl) ?_
      refine lv_if_le (tgt := 23) hx hb dX3_meetsRay_16 (by decide) (fun c_16 => ?_) (fun c_16 => ?_)
      · have c_16 : side.toInt ≤ (0 : Int) := ic_le c_16
        refine lv_iconst (v := 0) hx hb dX3_meetsRay_23 (by decide) ?_
        exact hret rfl (bz_f (by omega)) dX3_meetsRay_24
      · have c_16 : (0 : Int) < side.toInt := ic_nle c_16
        refine lv_iconst (v := 1) hx hb dX3_meetsRay_19 (by decide) ?_
        refine lv_goto (tgt := 24) hx hb dX3_meetsRay_20 (by decide) ?_
        exact hret rfl (bz_t (by omega)) dX3_meetsRay_24

set_option maxHeartbeats 4000000 in
set_option maxRecDepth 100000 in
theorem c_X3_isPartOfSpan (l : Launch) (D : va_G) (cZ cI cJ : ClassId) (o tl sx sy wx wy kx ky fx fy dv sp p1 p2 : Nat) (cn ph : Int32) (sh sl : Int64) (pa : Nat) (ph2 pl2 : Int64) : Ri l D cZ cI cJ yX3_isPartOfSpan cX3_isPartOfSpan 2 (some .boolean) { frames := 2, cells := 0, slots := 0, locals := 44 } [.ref o, .ref pa] [(o, .inr (3, [.ref tl, .ref sx, .ref sy, .ref wx, .ref wy, .ref kx, .ref ky, .int cn, .int ph, .ref fx, .ref fy, .ref dv, .ref sp, .ref p1, .ref p2])), (sp, .inr (2, [.long sh, .long sl])), (pa, .inr (2, [.long ph2, .long pl2]))] (fun r => r = bz (0 ≤ wv ph2 pl2 ∧ wv ph2 pl2 ≤ wv sh sl)) := by
  refine Ri.of (by decide) ?_
  intro p e s m args below meth c Q hB hret hP
  obtain ⟨hx, hb, hr, hlocks, hml, hown, hnm, hTB, hK⟩ := hB
  have hown : s.vm.findClass RX3 = some m.cls := hown
  have hl := lv_entry ([.ref o, .ref pa]) (n := 2) (Nat.le_of_ble_eq_true rfl)
  rw [lg_entry_eq]
  generalize (lg_sl ([.ref o, .ref pa]) ++ List.replicate (2 - (lg_sl ([.ref o, .ref pa])).length) Slot.unset).toArray = ls at hl ⊢
  have hl : lv_has ls 2 [(0, .ref o), (1, .ref pa)] := hl
  refine lv_aload_n hx hb dX3_isPartOfSpan_0 rfl (lv_at hl 1 rfl) ?_
  refine vp_callSi (va_runV (As := []) (rest := []) ⟨hx, hb, hml, hown, hTB⟩ (c_X2_sign l D cZ cI cJ pa ph2 pl2) (cw_V hTB tb_5_23 tb_2_9 tb_5_20 tb_5_21 tb_5_22 nd_X2_sign rfl rfl ⟨Nat.le_of_ble_eq_true rfl, Nat.le_of_ble_eq_true rfl⟩) (prr_V (q0 := 2) hK hP [2] rfl rfl rfl) rfl rfl hl.1 rfl (lv_room (Nat.le_of_ble_eq_true rfl)) dX3_isPartOfSpan_1 ⟨Nat.le_of_ble_eq_true rfl, Nat.le_of_ble_eq_true rfl⟩).run (fun r1 hc1 => ?_)
  subst hc1
  refine lv_if_lt (tgt := 22) hx hb dX3_isPartOfSpan_4 (by decide) (fun c_4 => ?_) (fun c_4 => ?_)
  · have c_4 := sg_ltt c_4
    refine lv_iconst (v := 0) hx hb dX3_isPartOfSpan_22 (by decide) ?_
    exact hret rfl (bz_f (by omega)) dX3_isPartOfSpan_23
  · have c_4 := sg_ltf c_4
    refine lv_aload_n hx hb dX3_isPartOfSpan_7 rfl (lv_at hl 1 rfl) ?_
    refine lv_aload_n hx hb dX3_isPartOfSpan_8 rfl (lv_at hl 0 rfl) ?_
    refine va_get (D := D) (ci := 3) (v := .ref sp) (C := RX3) (T := TX3) (N := 15) hx hb hTB tb_X3 hown hK.1 hP 0 rfl rfl 12 (by decide) (hTB _ tb_2_10) (fun _ h9 => h9) rfl dX3_isPartOfSpan_9 ?_
    refine vp_callSi (va_runV (As := [.ref sp]) (rest := []) ⟨hx, hb, hml, hown, hTB⟩ (c_X2_compare l D cZ cI cJ pa sp ph2 pl2 sh sl) (cw_V hTB tb_9_22 tb_2_9 tb_9_19 tb_9_20 tb_9_21 nd_X2_compare rfl rfl ⟨Nat.le_of_ble_eq_true rfl, Nat.le_of_ble_eq_true rfl⟩) (prr_V (q0 := 2) hK hP [2, 1] rfl rfl rfl) rfl rfl hl.1 rfl (lv_room (Nat.le_of_ble_eq_true rfl)) dX3_isPartOfSpan_12 ⟨Nat.le_of_ble_eq_true rfl, Nat.le_of_ble_eq_true rfl⟩).run (fun r12 hc12 => ?_)
    subst hc12
    refine lv_if_gt (tgt := 22) hx hb dX3_isPartOfSpan_15 (by decide) (fun c_15 => ?_) (fun c_15 => ?_)
    · have c_15 := cm_gtt c_15
      refine lv_iconst (v := 0) hx hb dX3_isPartOfSpan_22 (by decide) ?_
      exact hret rfl (bz_f (by omega)) dX3_isPartOfSpan_23
    · have c_15 := cm_gtf c_15
      refine lv_iconst (v := 1) hx hb dX3_isPartOfSpan_18 (by decide) ?_
      refine lv_goto (tgt := 23) hx hb dX3_isPartOfSpan_19 (by decide) ?_
      exact hret rfl (bz_t (by omega)) dX3_isPartOfSpan_23

set_option maxHeartbeats 4000000 in
set_option maxRecDepth 100000 in
theorem c_X3_turn (l : Launch) (D : va_G) (cZ cI cJ : ClassId) (o tl sx sy wx wy kx ky fx fy dv sp p1 p2 : Nat) (cn ph : Int32) (sh sl : Int64) (ax ay bx by_ cx cy : Int64) : Ci l D cZ cI cJ yX3_turn cX3_turn 13 (some .int) { frames := 6, cells := 0, slots := 0, locals := 159 } [.ref o, .long ax, .long ay, .long bx, .long by_, .long cx, .long cy] [(o, .inr (3, [.ref tl, .ref sx, .ref sy, .ref wx, .ref wy, .ref kx, .ref ky, .int cn, .int ph, .ref fx, .ref fy, .ref dv, .ref sp, .ref p1, .ref p2])), (sp, .inr (2, [.long sh, .long sl]))] (S := Int64 × Int64) (fun z u => z = trn ax ay bx by_ cx cy) (fun u => [(o, .inr (3, [.ref tl, .ref sx, .ref sy, .ref wx, .ref wy, .ref kx, .ref ky, .int cn, .int ph, .ref fx, .ref fy, .ref dv, .ref sp, .ref p1, .ref p2])), (sp, .inr (2, [.long u.1, .long u.2]))]) := by
  refine Ci.of (by decide) ?_
  intro p e s m args below meth c A Q hB hret hP hD hA
  obtain ⟨hx, hb, hr, hlocks, hml, hown, hnm, hTB, hK⟩ := hB
  have hown : s.vm.findClass RX3 = some m.cls := hown
  have hS : va_S A s.heap s.heap [] := va_S.rf
  have hl := lv_entry ([.ref o, .long ax, .long ay, .long bx, .long by_, .long cx, .long cy]) (n := 13) (Nat.le_of_ble_eq_true rfl)
  rw [lg_entry_eq]
  generalize (lg_sl ([.ref o, .long ax, .long ay, .long bx, .long by_, .long cx, .long cy]) ++ List.replicate (13 - (lg_sl ([.ref o, .long ax, .long ay, .long bx, .long by_, .long cx, .long cy])).length) Slot.unset).toArray = ls at hl ⊢
  have hl : lv_has ls 13 [(0, .ref o), (1, .long ax), (3, .long ay), (5, .long bx), (7, .long by_), (9, .long cx), (11, .long cy)] := hl
  refine lv_lload_n hx hb dX3_turn_0 rfl (lv_at hl 1 rfl) ?_
  refine lv_lload_n hx hb dX3_turn_1 rfl (lv_at hl 2 rfl) ?_
  refine vp_callSi (va_runS (As := [.long ax, .long ay]) (rest := []) ⟨hx, hb, hml, hown, hTB⟩ (c_X3_isOnGrid l D cZ cI cJ ax ay) (cw_S hTB tb_4_6 tb_1_2 tb_4_4 tb_4_5 nd_X3_isOnGrid rfl rfl ⟨Nat.le_of_ble_eq_true rfl, Nat.le_of_ble_eq_true rfl⟩) (prr_S hK hP [] rfl) rfl rfl hl.1 rfl (lv_room (Nat.le_of_ble_eq_true rfl)) dX3_turn_2 ⟨Nat.le_of_ble_eq_true rfl, Nat.le_of_ble_eq_true rfl⟩).run (fun r2 hc2 => ?_)
  subst hc2
  refine lv_if_eq (tgt := 28) hx hb dX3_turn_5 (by decide) (fun c_5 => ?_) (fun c_5 => ?_)
  · have c_5 := bz_0 c_5
    refine lv_bipush (v := (-2)) hx hb dX3_turn_28 (by decide) ?_
    exact hret hP hD hS rfl (sh, sl) (by unfold trn; rw [if_neg]; intro q; exact c_5 q.1) [0, 1] rfl (by decide) dX3_turn_30 (Nat.le_of_ble_eq_true rfl) (Nat.le_of_ble_eq_true rfl)
  · have c_5 := bz_1 c_5
    refine lv_lload hx hb dX3_turn_8 (lv_at hl 3 rfl) ?_
    refine lv_lload hx hb dX3_turn_10 (lv_at hl 4 rfl) ?_
    refine vp_callSi (va_runS (As := [.long bx, .long by_]) (rest := []) ⟨hx, hb, hml, hown, hTB⟩ (c_X3_isOnGrid l D cZ cI cJ bx by_) (cw_S hTB tb_4_6 tb_1_2 tb_4_4 tb_4_5 nd_X3_isOnGrid rfl rfl ⟨Nat.le_of_ble_eq_true rfl, Nat.le_of_ble_eq_true rfl⟩) (prr_S hK hP [] rfl) rfl rfl hl.1 rfl (lv_room (Nat.le_of_ble_eq_true rfl)) dX3_turn_12 ⟨Nat.le_of_ble_eq_true rfl, Nat.le_of_ble_eq_true rfl⟩).run (fun r12 hc12 => ?_)
    subst hc12
    refine lv_if_eq (tgt := 28) hx hb dX3_turn_15 (by decide) (fun c_15 => ?_) (fun c_15 => ?_)
    · have c_15 := bz_0 c_15
      refine lv_bipush (v := (-2)) hx hb dX3_turn_28 (by decide) ?_
      exact hret hP hD hS rfl (sh, sl) (by unfold trn; rw [if_neg]; intro q; exact c_15 q.2.1) [0, 1] rfl (by decide) dX3_turn_30 (Nat.le_of_ble_eq_true rfl) (Nat.le_of_ble_eq_true rfl)
    · have c_15 := bz_1 c_15
      refine lv_lload hx hb dX3_turn_18 (lv_at hl 5 rfl) ?_
      refine lv_lload hx hb dX3_turn_20 (lv_at hl 6 rfl) ?_
      refine vp_callSi (va_runS (As := [.long cx, .long cy]) (rest := []) ⟨hx, hb, hml, hown, hTB⟩ (c_X3_isOnGrid l D cZ cI cJ cx cy) (cw_S hTB tb_4_6 tb_1_2 tb_4_4 tb_4_5 nd_X3_isOnGrid rfl rfl ⟨Nat.le_of_ble_eq_true rfl, Nat.le_of_ble_eq_true rfl⟩) (prr_S hK hP [] rfl) rfl rfl hl.1 rfl (lv_room (Nat.le_of_ble_eq_true rfl)) dX3_turn_22 ⟨Nat.le_of_ble_eq_true rfl, Nat.le_of_ble_eq_true rfl⟩).run (fun r22 hc22 => ?_)
      subst hc22
      refine lv_if_ne (tgt := 31) hx hb dX3_turn_25 (by decide) (fun c_25 => ?_) (fun c_25 => ?_)
      · have c_25 := bz_1 c_25
        refine lv_aload_n hx hb dX3_turn_31 rfl (lv_at hl 0 rfl) ?_
        refine lv_lload_n hx hb dX3_turn_32 rfl (lv_at hl 1 rfl) ?_
        refine lv_lload_n hx hb dX3_turn_33 rfl (lv_at hl 2 rfl) ?_
        refine lv_lload hx hb dX3_turn_34 (lv_at hl 3 rfl) ?_
        refine lv_lload hx hb dX3_turn_36 (lv_at hl 4 rfl) ?_
        refine lv_lload hx hb dX3_turn_38 (lv_at hl 5 rfl) ?_
        refine lv_lload hx hb dX3_turn_40 (lv_at hl 6 rfl) ?_
        refine fin_i (wr := []) (va_runV (As := [.long ax, .long ay, .long bx, .long by_, .long cx, .long cy]) (rest := []) ⟨hx, hb, hml, hown, hTB⟩ (c_X3_sideOf l D cZ cI cJ o tl sx sy wx wy kx ky fx fy dv sp p1 p2 cn ph sh sl ax ay bx by_ cx cy c_5 c_15 c_25 _) (cw_V hTB tb_4_12 tb_1_2 tb_4_9 tb_4_10 tb_4_11 nd_X3_sideOf rfl rfl ⟨Nat.le_of_ble_eq_true rfl, Nat.le_of_ble_eq_true rfl⟩) (pre_V (q0 := 0) hK hP hD [0, 1] rfl rfl rfl rfl) rfl rfl hl.1 rfl (lv_room (Nat.le_of_ble_eq_true rfl)) dX3_turn_42 ⟨Nat.le_of_ble_eq_true rfl, Nat.le_of_ble_eq_true rfl⟩) hP hD hS hA [0, 1] [] rfl rfl rfl (by decide) (fun r42 u42 H locs hc42 hP hD hS => ?_)
        obtain ⟨w42h, w42l⟩ := u42
        try dsimp only at hc42
        have hP : va_P D vwCl [(o, .inr (3, [.ref tl, .ref sx, .ref sy, .ref wx, .ref wy, .ref kx, .ref ky, .int cn, .int ph, .ref fx, .ref fy, .ref dv, .ref sp, .ref p1, .ref p2])), (sp, .inr (2, [.long w42h, .long w42l]))] H := hP
        have hD : va_D A [(o, .inr (3, [.ref tl, .ref sx, .ref sy, .ref wx, .ref wy, .ref kx, .ref ky, .int cn, .int ph, .ref fx, .ref fy, .ref dv, .ref sp, .ref p1, .ref p2])), (sp, .inr (2, [.long w42h, .long w42l]))] := hD
        subst hc42
        exact hret hP hD hS rfl (w42h, w42l) (by unfold trn; rw [if_pos ⟨c_5, c_15, c_25⟩]) [0, 1] rfl (by decide) dX3_turn_45 (Nat.le_of_ble_eq_true rfl) (Nat.le_of_ble_eq_true rfl)
      · have c_25 := bz_0 c_25
        refine lv_bipush (v := (-2)) hx hb dX3_turn_28 (by decide) ?_
        exact hret hP hD hS rfl (sh, sl) (by unfold trn; rw [if_neg]; intro q; exact c_25 q.2.2) [0, 1] rfl (by decide) dX3_turn_30 (Nat.le_of_ble_eq_true rfl) (Nat.le_of_ble_eq_true rfl)

set_option maxHeartbeats 4000000 in
set_option maxRecDepth 100000 in
theorem c_X3_line (l : Launch) (D : va_G) (cZ cI cJ : ClassId) (o tl sx sy wx wy kx ky fx fy dv sp p1 p2 : Nat) (cn ph : Int32) (ft : Nat → Int32) (fsx fsy fwx fwy : Nat → Int64) (k : Int32) (x0 y0 x1 y1 : Int64) : Ci l D cZ cI cJ yX3_line cX3_line 10 (some .boolean) { frames := 1, cells := 0, slots := 0, locals := 23 } [.ref o, .int k, .long x0, .long y0, .long x1, .long y1] [(o, .inr (3, [.ref tl, .ref sx, .ref sy, .ref wx, .ref wy, .ref kx, .ref ky, .int cn, .int ph, .ref fx, .ref fy, .ref dv, .ref sp, .ref p1, .ref p2])), (tl, .inl (cZ, 16, .inl ft)), (sx, .inl (cJ, 16, .inr (.inl fsx))), (sy, .inl (cJ, 16, .inr (.inl fsy))), (wx, .inl (cJ, 16, .inr (.inl fwx))), (wy, .inl (cJ, 16, .inr (.inl fwy)))] (S := (Nat → Int32) × (Nat → Int64) × (Nat → Int64) × (Nat → Int64) × (Nat → Int64)) (fun z u => z = bz (lnok k x0 y0 x1 y1) ∧ (lnok k x0 y0 x1 y1 → u = (upd ft k.toNatClampNeg 1, vp_updL fsx k.toNatClampNeg x0, vp_updL fsy k.toNatClampNeg y0, vp_updL fwx k.toNatClampNeg (x1 - x0), vp_updL fwy k.toNatClampNeg (y1 - y0))) ∧ (¬ lnok k x0 y0 x1 y1 → u = (ft, fsx, fsy, fwx, fwy))) (fun u => [(o, .inr (3, [.ref tl, .ref sx, .ref sy, .ref wx, .ref wy, .ref kx, .ref ky, .int cn, .int ph, .ref fx, .ref fy, .ref dv, .ref sp, .ref p1, .ref p2])), (tl, .inl (cZ, 16, .inl u.1)), (sx, .inl (cJ, 16, .inr (.inl u.2.1))), (sy, .inl (cJ, 16, .inr (.inl u.2.2.1))), (wx, .inl (cJ, 16, .inr (.inl u.2.2.2.1))), (wy, .inl (cJ, 16, .inr (.inl u.2.2.2.2)))]) := by
  refine Ci.of (by decide) ?_
  intro p e s m args below meth c A Q hB hret hP hD hA
  obtain ⟨hx, hb, hr, hlocks, hml, hown, hnm, hTB, hK⟩ := hB
  have hown : s.vm.findClass RX3 = some m.cls := hown
  have hS : va_S A s.heap s.heap [] := va_S.rf
  have hl := lv_entry ([.ref o, .int k, .long x0, .long y0, .long x1, .long y1]) (n := 10) (Nat.le_of_ble_eq_true rfl)
  rw [lg_entry_eq]
  generalize (lg_sl ([.ref o, .int k, .long x0, .long y0, .long x1, .long y1]) ++ List.replicate (10 - (lg_sl ([.ref o, .int k, .long x0, .long y0, .long x1, .long y1])).length) Slot.unset).toArray = ls at hl ⊢
  have hl : lv_has ls 10 [(0, .ref o), (1, .int k), (2, .long x0), (4, .long y0), (6, .long x1), (8, .long y1)] := hl
  refine lv_iload_n hx hb dX3_line_0 rfl (lv_at hl 1 rfl) ?_
  refine lv_if_lt (tgt := 29) hx hb dX3_line_1 (by decide) (fun c_1 => ?_) (fun c_1 => ?_)
  · have c_1 : k.toInt < (0 : Int) := ic_lt c_1
    refine lv_iconst (v := 0) hx hb dX3_line_29 (by decide) ?_
    exact hret hP hD hS rfl (ft, fsx, fsy, fwx, fwy) (⟨bz_f (fun q => absurd q.1 (by omega)), fun q => absurd q (fun q => absurd q.1 (by omega)), fun _ => rfl⟩) [0, 1, 2, 3, 4, 5] rfl (by decide) dX3_line_30 (Nat.le_of_ble_eq_true rfl) (Nat.le_of_ble_eq_true rfl)
  · have c_1 : (0 : Int) ≤ k.toInt := ic_nlt c_1
    refine lv_iload_n hx hb dX3_line_4 rfl (lv_at hl 1 rfl) ?_
    refine lv_bipush (v := 16) hx hb dX3_line_5 (by decide) ?_
    refine lv_icmp_ge (tgt := 29) hx hb dX3_line_7 (by decide) (fun c_7 => ?_) (fun c_7 => ?_)
    · have c_7 : (16 : Int) ≤ k.toInt := ic_le c_7
      refine lv_iconst (v := 0) hx hb dX3_line_29 (by decide) ?_
      exact hret hP hD hS rfl (ft, fsx, fsy, fwx, fwy) (⟨bz_f (fun q => absurd q.2.1 (by omega)), fun q => absurd q (fun q => absurd q.2.1 (by omega)), fun _ => rfl⟩) [0, 1, 2, 3, 4, 5] rfl (by decide) dX3_line_30 (Nat.le_of_ble_eq_true rfl) (Nat.le_of_ble_eq_true rfl)
    · have c_7 : k.toInt < (16 : Int) := ic_nle c_7
      refine lv_lload_n hx hb dX3_line_10 rfl (lv_at hl 2 rfl) ?_
      refine lv_lload hx hb dX3_line_11 (lv_at hl 3 rfl) ?_
      refine vp_callSi (va_runS (As := [.long x0, .long y0]) (rest := []) ⟨hx, hb, hml, hown, hTB⟩ (c_X3_isOnGrid l D cZ cI cJ x0 y0) (cw_S hTB tb_4_6 tb_1_2 tb_4_4 tb_4_5 nd_X3_isOnGrid rfl rfl ⟨Nat.le_of_ble_eq_true rfl, Nat.le_of_ble_eq_true rfl⟩) (prr_S hK hP [] rfl) rfl rfl hl.1 rfl (lv_room (Nat.le_of_ble_eq_true rfl)) dX3_line_13 ⟨Nat.le_of_ble_eq_true rfl, Nat.le_of_ble_eq_true rfl⟩).run (fun r13 hc13 => ?_)
      subst hc13
      refine lv_if_eq (tgt := 29) hx hb dX3_line_16 (by decide) (fun c_16 => ?_) (fun c_16 => ?_)
      · have c_16 := bz_0 c_16
        refine lv_iconst (v := 0) hx hb dX3_line_29 (by decide) ?_
        exact hret hP hD hS rfl (ft, fsx, fsy, fwx, fwy) (⟨bz_f (fun q => c_16 q.2.2.1), fun q => absurd q (fun q => c_16 q.2.2.1), fun _ => rfl⟩) [0, 1, 2, 3, 4, 5] rfl (by decide) dX3_line_30 (Nat.le_of_ble_eq_true rfl) (Nat.le_of_ble_eq_true rfl)
      · have c_16 := bz_1 c_16
        refine lv_lload hx hb dX3_line_19 (lv_at hl 4 rfl) ?_
        refine lv_lload hx hb dX3_line_21 (lv_at hl 5 rfl) ?_
        refine vp_callSi (va_runS (As := [.long x1, .long y1]) (rest := []) ⟨hx, hb, hml, hown, hTB⟩ (c_X3_isOnGrid l D cZ cI cJ x1 y1) (cw_S hTB tb_4_6 tb_1_2 tb_4_4 tb_4_5 nd_X3_isOnGrid rfl rfl ⟨Nat.le_of_ble_eq_true rfl, Nat.le_of_ble_eq_true rfl⟩) (prr_S hK hP [] rfl) rfl rfl hl.1 rfl (lv_room (Nat.le_of_ble_eq_true rfl)) dX3_line_23 ⟨Nat.le_of_ble_eq_true rfl, Nat.le_of_ble_eq_true rfl⟩).run (fun r23 hc23 => ?_)
        subst hc23
        refine lv_if_ne (tgt := 31) hx hb dX3_line_26 (by decide) (fun c_26 => ?_) (fun c_26 => ?_)
        · have c_26 := bz_1 c_26
          refine lv_lload_n hx hb dX3_line_31 rfl (lv_at hl 2 rfl) ?_
          refine lv_lload hx hb dX3_line_32 (lv_at hl 4 rfl) ?_
          refine W.lcmp hx hb dX3_line_34 ?_
          refine lv_if_ne (tgt := 48) hx hb dX3_line_35 (by decide) (fun c_35 => ?_) (fun c_35 => ?_)
          · have c_35 : x0.toInt ≠ x1.toInt := lc_ne c_35
            refine lv_aload_n hx hb dX3_line_48 rfl (lv_at hl 0 rfl) ?_
            refine va_get (D := D) (ci := 3) (v := .ref tl) (C := RX3) (T := TX3) (N := 15) hx hb hTB tb_X3 hown hK.1 hP 0 rfl rfl 0 (by decide) (hTB _ tb_1_15) (fun _ h9 => h9) rfl dX3_line_49 ?_
            refine lv_iload_n hx hb dX3_line_52 rfl (lv_at hl 1 rfl) ?_
            refine lv_iconst (v := 1) hx hb dX3_line_53 (by decide) ?_
            refine va_zast (f := ft) hx hb hK.1 hP hD hS 1 0 rfl rfl (vp_in_iff.mpr ⟨by omega, by omega⟩) dX3_line_54 (fun H locs hP hD hS => ?_)
            have hP : va_P D vwCl [(o, .inr (3, [.ref tl, .ref sx, .ref sy, .ref wx, .ref wy, .ref kx, .ref ky, .int cn, .int ph, .ref fx, .ref fy, .ref dv, .ref sp, .ref p1, .ref p2])), (tl, .inl (cZ, 16, .inl (upd ft k.toNatClampNeg 1))), (sx, .inl (cJ, 16, .inr (.inl fsx))), (sy, .inl (cJ, 16, .inr (.inl fsy))), (wx, .inl (cJ, 16, .inr (.inl fwx))), (wy, .inl (cJ, 16, .inr (.inl fwy)))] H := hP
            have hD : va_D A [(o, .inr (3, [.ref tl, .ref sx, .ref sy, .ref wx, .ref wy, .ref kx, .ref ky, .int cn, .int ph, .ref fx, .ref fy, .ref dv, .ref sp, .ref p1, .ref p2])), (tl, .inl (cZ, 16, .inl (upd ft k.toNatClampNeg 1))), (sx, .inl (cJ, 16, .inr (.inl fsx))), (sy, .inl (cJ, 16, .inr (.inl fsy))), (wx, .inl (cJ, 16, .inr (.inl fwx))), (wy, .inl (cJ, 16, .inr (.inl fwy)))] := hD
            refine lv_aload_n hx hb dX3_line_55 rfl (lv_at hl 0 rfl) ?_
            refine va_get (D := D) (ci := 3) (v := .ref sx) (C := RX3) (T := TX3) (N := 15) hx hb hTB tb_X3 hown hK.1 hP 0 rfl rfl 1 (by decide) (hTB _ tb_1_16) (fun _ h9 => h9) rfl dX3_line_56 ?_
            refine lv_iload_n hx hb dX3_line_59 rfl (lv_at hl 1 rfl) ?_
            refine lv_lload_n hx hb dX3_line_60 rfl (lv_at hl 2 rfl) ?_
            refine va_last (f := fsx) hx hb hK.1 hP hD hS 2 2 rfl rfl (vp_in_iff.mpr ⟨by omega, by omega⟩) dX3_line_61 (fun H locs hP hD hS => ?_)
            have hP : va_P D vwCl [(o, .inr (3, [.ref tl, .ref sx, .ref sy, .ref wx, .ref wy, .ref kx, .ref ky, .int cn, .int ph, .ref fx, .ref fy, .ref dv, .ref sp, .ref p1, .ref p2])), (tl, .inl (cZ, 16, .inl (upd ft k.toNatClampNeg 1))), (sx, .inl (cJ, 16, .inr (.inl (vp_updL fsx k.toNatClampNeg x0)))), (sy, .inl (cJ, 16, .inr (.inl fsy))), (wx, .inl (cJ, 16, .inr (.inl fwx))), (wy, .inl (cJ, 16, .inr (.inl fwy)))] H := hP
            have hD : va_D A [(o, .inr (3, [.ref tl, .ref sx, .ref sy, .ref wx, .ref wy, .ref kx, .ref ky, .int cn, .int ph, .ref fx, .ref fy, .ref dv, .ref sp, .ref p1, .ref p2])), (tl, .inl (cZ, 16, .inl (upd ft k.toNatClampNeg 1))), (sx, .inl (cJ, 16, .inr (.inl (vp_updL fsx k.toNatClampNeg x0)))), (sy, .inl (cJ, 16, .inr (.inl fsy))), (wx, .inl (cJ, 16, .inr (.inl fwx))), (wy, .inl (cJ, 16, .inr (.inl fwy)))] := hD
            refine lv_aload_n hx hb dX3_line_62 rfl (lv_at hl 0 rfl) ?_
            refine va_get (D := D) (ci := 3) (v := .ref sy) (C := RX3) (T := TX3) (N := 15) hx hb hTB tb_X3 hown hK.1 hP 0 rfl rfl 2 (by decide) (hTB _ tb_1_17) (fun _ h9 => h9) rfl dX3_line_63 ?_
            refine lv_iload_n hx hb dX3_line_66 rfl (lv_at hl 1 rfl) ?_
            refine lv_lload hx hb dX3_line_67 (lv_at hl 3 rfl) ?_
            refine va_last (f := fsy) hx hb hK.1 hP hD hS 3 2 rfl rfl (vp_in_iff.mpr ⟨by omega, by omega⟩) dX3_line_69 (fun H locs hP hD hS => ?_)
            have hP : va_P D vwCl [(o, .inr (3, [.ref tl, .ref sx, .ref sy, .ref wx, .ref wy, .ref kx, .ref ky, .int cn, .int ph, .ref fx, .ref fy, .ref dv, .ref sp, .ref p1, .ref p2])), (tl, .inl (cZ, 16, .inl (upd ft k.toNatClampNeg 1))), (sx, .inl (cJ, 16, .inr (.inl (vp_updL fsx k.toNatClampNeg x0)))), (sy, .inl (cJ, 16, .inr (.inl (vp_updL fsy k.toNatClampNeg y0)))), (wx, .inl (cJ, 16, .inr (.inl fwx))), (wy, .inl (cJ, 16, .inr (.inl fwy)))] H := hP
            have hD : va_D A [(o, .inr (3, [.ref tl, .ref sx, .ref sy, .ref wx, .ref wy, .ref kx, .ref ky, .int cn, .int ph, .ref fx, .ref fy, .ref dv, .ref sp, .ref p1, .ref p2])), (tl, .inl (cZ, 16, .inl (upd ft k.toNatClampNeg 1))), (sx, .inl (cJ, 16, .inr (.inl (vp_updL fsx k.toNatClampNeg x0)))), (sy, .inl (cJ, 16, .inr (.inl (vp_updL fsy k.toNatClampNeg y0)))), (wx, .inl (cJ, 16, .inr (.inl fwx))), (wy, .inl (cJ, 16, .inr (.inl fwy)))] := hD
            refine lv_aload_n hx hb dX3_line_70 rfl (lv_at hl 0 rfl) ?_
            refine va_get (D := D) (ci := 3) (v := .ref wx) (C := RX3) (T := TX3) (N := 15) hx hb hTB tb_X3 hown hK.1 hP 0 rfl rfl 3 (by decide) (hTB _ tb_1_18) (fun _ h9 => h9) rfl dX3_line_71 ?_
            refine lv_iload_n hx hb dX3_line_74 rfl (lv_at hl 1 rfl) ?_
            refine lv_lload hx hb dX3_line_75 (lv_at hl 4 rfl) ?_
            refine lv_lload_n hx hb dX3_line_77 rfl (lv_at hl 2 rfl) ?_
            refine lv_lsub hx hb dX3_line_78 ?_
            refine va_last (f := fwx) hx hb hK.1 hP hD hS 4 2 rfl rfl (vp_in_iff.mpr ⟨by omega, by omega⟩) dX3_line_79 (fun H locs hP hD hS => ?_)
            have hP : va_P D vwCl [(o, .inr (3, [.ref tl, .ref sx, .ref sy, .ref wx, .ref wy, .ref kx, .ref ky, .int cn, .int ph, .ref fx, .ref fy, .ref dv, .ref sp, .ref p1, .ref p2])), (tl, .inl (cZ, 16, .inl (upd ft k.toNatClampNeg 1))), (sx, .inl (cJ, 16, .inr (.inl (vp_updL fsx k.toNatClampNeg x0)))), (sy, .inl (cJ, 16, .inr (.inl (vp_updL fsy k.toNatClampNeg y0)))), (wx, .inl (cJ, 16, .inr (.inl (vp_updL fwx k.toNatClampNeg (x1 - x0))))), (wy, .inl (cJ, 16, .inr (.inl fwy)))] H := hP
            have hD : va_D A [(o, .inr (3, [.ref tl, .ref sx, .ref sy, .ref wx, .ref wy, .ref kx, .ref ky, .int cn, .int ph, .ref fx, .ref fy, .ref dv, .ref sp, .ref p1, .ref p2])), (tl, .inl (cZ, 16, .inl (upd ft k.toNatClampNeg 1))), (sx, .inl (cJ, 16, .inr (.inl (vp_updL fsx k.toNatClampNeg x0)))), (sy, .inl (cJ, 16, .inr (.inl (vp_updL fsy k.toNatClampNeg y0)))), (wx, .inl (cJ, 16, .inr (.inl (vp_updL fwx k.toNatClampNeg (x1 - x0))))), (wy, .inl (cJ, 16, .inr (.inl fwy)))] := hD
            refine lv_aload_n hx hb dX3_line_80 rfl (lv_at hl 0 rfl) ?_
            refine va_get (D := D) (ci := 3) (v := .ref wy) (C := RX3) (T := TX3) (N := 15) hx hb hTB tb_X3 hown hK.1 hP 0 rfl rfl 4 (by decide) (hTB _ tb_1_19) (fun _ h9 => h9) rfl dX3_line_81 ?_
            refine lv_iload_n hx hb dX3_line_84 rfl (lv_at hl 1 rfl) ?_
            refine lv_lload hx hb dX3_line_85 (lv_at hl 5 rfl) ?_
            refine lv_lload hx hb dX3_line_87 (lv_at hl 3 rfl) ?_
            refine lv_lsub hx hb dX3_line_89 ?_
            refine va_last (f := fwy) hx hb hK.1 hP hD hS 5 2 rfl rfl (vp_in_iff.mpr ⟨by omega, by omega⟩) dX3_line_90 (fun H locs hP hD hS => ?_)
            have hP : va_P D vwCl [(o, .inr (3, [.ref tl, .ref sx, .ref sy, .ref wx, .ref wy, .ref kx, .ref ky, .int cn, .int ph, .ref fx, .ref fy, .ref dv, .ref sp, .ref p1, .ref p2])), (tl, .inl (cZ, 16, .inl (upd ft k.toNatClampNeg 1))), (sx, .inl (cJ, 16, .inr (.inl (vp_updL fsx k.toNatClampNeg x0)))), (sy, .inl (cJ, 16, .inr (.inl (vp_updL fsy k.toNatClampNeg y0)))), (wx, .inl (cJ, 16, .inr (.inl (vp_updL fwx k.toNatClampNeg (x1 - x0))))), (wy, .inl (cJ, 16, .inr (.inl (vp_updL fwy k.toNatClampNeg (y1 - y0)))))] H := hP
            have hD : va_D A [(o, .inr (3, [.ref tl, .ref sx, .ref sy, .ref wx, .ref wy, .ref kx, .ref ky, .int cn, .int ph, .ref fx, .ref fy, .ref dv, .ref sp, .ref p1, .ref p2])), (tl, .inl (cZ, 16, .inl (upd ft k.toNatClampNeg 1))), (sx, .inl (cJ, 16, .inr (.inl (vp_updL fsx k.toNatClampNeg x0)))), (sy, .inl (cJ, 16, .inr (.inl (vp_updL fsy k.toNatClampNeg y0)))), (wx, .inl (cJ, 16, .inr (.inl (vp_updL fwx k.toNatClampNeg (x1 - x0))))), (wy, .inl (cJ, 16, .inr (.inl (vp_updL fwy k.toNatClampNeg (y1 - y0)))))] := hD
            refine lv_iconst (v := 1) hx hb dX3_line_91 (by decide) ?_
            exact hret hP hD hS rfl (upd ft k.toNatClampNeg 1, vp_updL fsx k.toNatClampNeg x0, vp_updL fsy k.toNatClampNeg y0, vp_updL fwx k.toNatClampNeg (x1 - x0), vp_updL fwy k.toNatClampNeg (y1 - y0)) (⟨bz_t ⟨c_1, c_7, c_16, c_26, by omega⟩, fun _ => rfl, fun q => absurd ⟨c_1, c_7, c_16, c_26, by omega⟩ q⟩) [0, 1, 2, 3, 4, 5] rfl (by decide) dX3_line_92 (Nat.le_of_ble_eq_true rfl) (Nat.le_of_ble_eq_true rfl)
          · have c_35 : x0.toInt = x1.toInt := lc_eq c_35
            refine lv_lload hx hb dX3_line_38 (lv_at hl 3 rfl) ?_
            refine lv_lload hx hb dX3_line_40 (lv_at hl 5 rfl) ?_
            refine W.lcmp hx hb dX3_line_42 ?_
            refine lv_if_ne (tgt := 48) hx hb dX3_line_43 (by decide) (fun c_43 => ?_) (fun c_43 => ?_)
            · have c_43 : y0.toInt ≠ y1.toInt := lc_ne c_43
              refine lv_aload_n hx hb dX3_line_48 rfl (lv_at hl 0 rfl) ?_
              refine va_get (D := D) (ci := 3) (v := .ref tl) (C := RX3) (T := TX3) (N := 15) hx hb hTB tb_X3 hown hK.1 hP 0 rfl rfl 0 (by decide) (hTB _ tb_1_15) (fun _ h9 => h9) rfl dX3_line_49 ?_
              refine lv_iload_n hx hb dX3_line_52 rfl (lv_at hl 1 rfl) ?_
              refine lv_iconst (v := 1) hx hb dX3_line_53 (by decide) ?_
              refine va_zast (f := ft) hx hb hK.1 hP hD hS 1 0 rfl rfl (vp_in_iff.mpr ⟨by omega, by omega⟩) dX3_line_54 (fun H locs hP hD hS => ?_)
              have hP : va_P D vwCl [(o, .inr (3, [.ref tl, .ref sx, .ref sy, .ref wx, .ref wy, .ref kx, .ref ky, .int cn, .int ph, .ref fx, .ref fy, .ref dv, .ref sp, .ref p1, .ref p2])), (tl, .inl (cZ, 16, .inl (upd ft k.toNatClampNeg 1))), (sx, .inl (cJ, 16, .inr (.inl fsx))), (sy, .inl (cJ, 16, .inr (.inl fsy))), (wx, .inl (cJ, 16, .inr (.inl fwx))), (wy, .inl (cJ, 16, .inr (.inl fwy)))] H := hP
              have hD : va_D A [(o, .inr (3, [.ref tl, .ref sx, .ref sy, .ref wx, .ref wy, .ref kx, .ref ky, .int cn, .int ph, .ref fx, .ref fy, .ref dv, .ref sp, .ref p1, .ref p2])), (tl, .inl (cZ, 16, .inl (upd ft k.toNatClampNeg 1))), (sx, .inl (cJ, 16, .inr (.inl fsx))), (sy, .inl (cJ, 16, .inr (.inl fsy))), (wx, .inl (cJ, 16, .inr (.inl fwx))), (wy, .inl (cJ, 16, .inr (.inl fwy)))] := hD
              refine lv_aload_n hx hb dX3_line_55 rfl (lv_at hl 0 rfl) ?_
              refine va_get (D := D) (ci := 3) (v := .ref sx) (C := RX3) (T := TX3) (N := 15) hx hb hTB tb_X3 hown hK.1 hP 0 rfl rfl 1 (by decide) (hTB _ tb_1_16) (fun _ h9 => h9) rfl dX3_line_56 ?_
              refine lv_iload_n hx hb dX3_line_59 rfl (lv_at hl 1 rfl) ?_
              refine lv_lload_n hx hb dX3_line_60 rfl (lv_at hl 2 rfl) ?_
              refine va_last (f := fsx) hx hb hK.1 hP hD hS 2 2 rfl rfl (vp_in_iff.mpr ⟨by omega, by omega⟩) dX3_line_61 (fun H locs hP hD hS => ?_)
              have hP : va_P D vwCl [(o, .inr (3, [.ref tl, .ref sx, .ref sy, .ref wx, .ref wy, .ref kx, .ref ky, .int cn, .int ph, .ref fx, .ref fy, .ref dv, .ref sp, .ref p1, .ref p2])), (tl, .inl (cZ, 16, .inl (upd ft k.toNatClampNeg 1))), (sx, .inl (cJ, 16, .inr (.inl (vp_updL fsx k.toNatClampNeg x0)))), (sy, .inl (cJ, 16, .inr (.inl fsy))), (wx, .inl (cJ, 16, .inr (.inl fwx))), (wy, .inl (cJ, 16, .inr (.inl fwy)))] H := hP
              have hD : va_D A [(o, .inr (3, [.ref tl, .ref sx, .ref sy, .ref wx, .ref wy, .ref kx, .ref ky, .int cn, .int ph, .ref fx, .ref fy, .ref dv, .ref sp, .ref p1, .ref p2])), (tl, .inl (cZ, 16, .inl (upd ft k.toNatClampNeg 1))), (sx, .inl (cJ, 16, .inr (.inl (vp_updL fsx k.toNatClampNeg x0)))), (sy, .inl (cJ, 16, .inr (.inl fsy))), (wx, .inl (cJ, 16, .inr (.inl fwx))), (wy, .inl (cJ, 16, .inr (.inl fwy)))] := hD
              refine lv_aload_n hx hb dX3_line_62 rfl (lv_at hl 0 rfl) ?_
              refine va_get (D := D) (ci := 3) (v := .ref sy) (C := RX3) (T := TX3) (N := 15) hx hb hTB tb_X3 hown hK.1 hP 0 rfl rfl 2 (by decide) (hTB _ tb_1_17) (fun _ h9 => h9) rfl dX3_line_63 ?_
              refine lv_iload_n hx hb dX3_line_66 rfl (lv_at hl 1 rfl) ?_
              refine lv_lload hx hb dX3_line_67 (lv_at hl 3 rfl) ?_
              refine va_last (f := fsy) hx hb hK.1 hP hD hS 3 2 rfl rfl (vp_in_iff.mpr ⟨by omega, by omega⟩) dX3_line_69 (fun H locs hP hD hS => ?_)
              have hP : va_P D vwCl [(o, .inr (3, [.ref tl, .ref sx, .ref sy, .ref wx, .ref wy, .ref kx, .ref ky, .int cn, .int ph, .ref fx, .ref fy, .ref dv, .ref sp, .ref p1, .ref p2])), (tl, .inl (cZ, 16, .inl (upd ft k.toNatClampNeg 1))), (sx, .inl (cJ, 16, .inr (.inl (vp_updL fsx k.toNatClampNeg x0)))), (sy, .inl (cJ, 16, .inr (.inl (vp_updL fsy k.toNatClampNeg y0)))), (wx, .inl (cJ, 16, .inr (.inl fwx))), (wy, .inl (cJ, 16, .inr (.inl fwy)))] H := hP
              have hD : va_D A [(o, .inr (3, [.ref tl, .ref sx, .ref sy, .ref wx, .ref wy, .ref kx, .ref ky, .int cn, .int ph, .ref fx, .ref fy, .ref dv, .ref sp, .ref p1, .ref p2])), (tl, .inl (cZ, 16, .inl (upd ft k.toNatClampNeg 1))), (sx, .inl (cJ, 16, .inr (.inl (vp_updL fsx k.toNatClampNeg x0)))), (sy, .inl (cJ, 16, .inr (.inl (vp_updL fsy k.toNatClampNeg y0)))), (wx, .inl (cJ, 16, .inr (.inl fwx))), (wy, .inl (cJ, 16, .inr (.inl fwy)))] := hD
              refine lv_aload_n hx hb dX3_line_70 rfl (lv_at hl 0 rfl) ?_
              refine va_get (D := D) (ci := 3) (v := .ref wx) (C := RX3) (T := TX3) (N := 15) hx hb hTB tb_X3 hown hK.1 hP 0 rfl rfl 3 (by decide) (hTB _ tb_1_18) (fun _ h9 => h9) rfl dX3_line_71 ?_
              refine lv_iload_n hx hb dX3_line_74 rfl (lv_at hl 1 rfl) ?_
              refine lv_lload hx hb dX3_line_75 (lv_at hl 4 rfl) ?_
              refine lv_lload_n hx hb dX3_line_77 rfl (lv_at hl 2 rfl) ?_
              refine lv_lsub hx hb dX3_line_78 ?_
              refine va_last (f := fwx) hx hb hK.1 hP hD hS 4 2 rfl rfl (vp_in_iff.mpr ⟨by omega, by omega⟩) dX3_line_79 (fun H locs hP hD hS => ?_)
              have hP : va_P D vwCl [(o, .inr (3, [.ref tl, .ref sx, .ref sy, .ref wx, .ref wy, .ref kx, .ref ky, .int cn, .int ph, .ref fx, .ref fy, .ref dv, .ref sp, .ref p1, .ref p2])), (tl, .inl (cZ, 16, .inl (upd ft k.toNatClampNeg 1))), (sx, .inl (cJ, 16, .inr (.inl (vp_updL fsx k.toNatClampNeg x0)))), (sy, .inl (cJ, 16, .inr (.inl (vp_updL fsy k.toNatClampNeg y0)))), (wx, .inl (cJ, 16, .inr (.inl (vp_updL fwx k.toNatClampNeg (x1 - x0))))), (wy, .inl (cJ, 16, .inr (.inl fwy)))] H := hP
              have hD : va_D A [(o, .inr (3, [.ref tl, .ref sx, .ref sy, .ref wx, .ref wy, .ref kx, .ref ky, .int cn, .int ph, .ref fx, .ref fy, .ref dv, .ref sp, .ref p1, .ref p2])), (tl, .inl (cZ, 16, .inl (upd ft k.toNatClampNeg 1))), (sx, .inl (cJ, 16, .inr (.inl (vp_updL fsx k.toNatClampNeg x0)))), (sy, .inl (cJ, 16, .inr (.inl (vp_updL fsy k.toNatClampNeg y0)))), (wx, .inl (cJ, 16, .inr (.inl (vp_updL fwx k.toNatClampNeg (x1 - x0))))), (wy, .inl (cJ, 16, .inr (.inl fwy)))] := hD
              refine lv_aload_n hx hb dX3_line_80 rfl (lv_at hl 0 rfl) ?_
              refine va_get (D := D) (ci := 3) (v := .ref wy) (C := RX3) (T := TX3) (N := 15) hx hb hTB tb_X3 hown hK.1 hP 0 rfl rfl 4 (by decide) (hTB _ tb_1_19) (fun _ h9 => h9) rfl dX3_line_81 ?_
              refine lv_iload_n hx hb dX3_line_84 rfl (lv_at hl 1 rfl) ?_
              refine lv_lload hx hb dX3_line_85 (lv_at hl 5 rfl) ?_
              refine lv_lload hx hb dX3_line_87 (lv_at hl 3 rfl) ?_
              refine lv_lsub hx hb dX3_line_89 ?_
              refine va_last (f := fwy) hx hb hK.1 hP hD hS 5 2 rfl rfl (vp_in_iff.mpr ⟨by omega, by omega⟩) dX3_line_90 (fun H locs hP hD hS => ?_)
              have hP : va_P D vwCl [(o, .inr (3, [.ref tl, .ref sx, .ref sy, .ref wx, .ref wy, .ref kx, .ref ky, .int cn, .int ph, .ref fx, .ref fy, .ref dv, .ref sp, .ref p1, .ref p2])), (tl, .inl (cZ, 16, .inl (upd ft k.toNatClampNeg 1))), (sx, .inl (cJ, 16, .inr (.inl (vp_updL fsx k.toNatClampNeg x0)))), (sy, .inl (cJ, 16, .inr (.inl (vp_updL fsy k.toNatClampNeg y0)))), (wx, .inl (cJ, 16, .inr (.inl (vp_updL fwx k.toNatClampNeg (x1 - x0))))), (wy, .inl (cJ, 16, .inr (.inl (vp_updL fwy k.toNatClampNeg (y1 - y0)))))] H := hP
              have hD : va_D A [(o, .inr (3, [.ref tl, .ref sx, .ref sy, .ref wx, .ref wy, .ref kx, .ref ky, .int cn, .int ph, .ref fx, .ref fy, .ref dv, .ref sp, .ref p1, .ref p2])), (tl, .inl (cZ, 16, .inl (upd ft k.toNatClampNeg 1))), (sx, .inl (cJ, 16, .inr (.inl (vp_updL fsx k.toNatClampNeg x0)))), (sy, .inl (cJ, 16, .inr (.inl (vp_updL fsy k.toNatClampNeg y0)))), (wx, .inl (cJ, 16, .inr (.inl (vp_updL fwx k.toNatClampNeg (x1 - x0))))), (wy, .inl (cJ, 16, .inr (.inl (vp_updL fwy k.toNatClampNeg (y1 - y0)))))] := hD
              refine lv_iconst (v := 1) hx hb dX3_line_91 (by decide) ?_
              exact hret hP hD hS rfl (upd ft k.toNatClampNeg 1, vp_updL fsx k.toNatClampNeg x0, vp_updL fsy k.toNatClampNeg y0, vp_updL fwx k.toNatClampNeg (x1 - x0), vp_updL fwy k.toNatClampNeg (y1 - y0)) (⟨bz_t ⟨c_1, c_7, c_16, c_26, by omega⟩, fun _ => rfl, fun q => absurd ⟨c_1, c_7, c_16, c_26, by omega⟩ q⟩) [0, 1, 2, 3, 4, 5] rfl (by decide) dX3_line_92 (Nat.le_of_ble_eq_true rfl) (Nat.le_of_ble_eq_true rfl)
            · have c_43 : y0.toInt = y1.toInt := lc_eq c_43
              refine lv_iconst (v := 0) hx hb dX3_line_46 (by decide) ?_
              exact hret hP hD hS rfl (ft, fsx, fsy, fwx, fwy) (⟨bz_f (fun q => q.2.2.2.2 ⟨c_35, c_43⟩), fun q => absurd q (fun q => q.2.2.2.2 ⟨c_35, c_43⟩), fun _ => rfl⟩) [0, 1, 2, 3, 4, 5] rfl (by decide) dX3_line_47 (Nat.le_of_ble_eq_true rfl) (Nat.le_of_ble_eq_true rfl)
        · have c_26 := bz_0 c_26
          refine lv_iconst (v := 0) hx hb dX3_line_29 (by decide) ?_
          exact hret hP hD hS rfl (ft, fsx, fsy, fwx, fwy) (⟨bz_f (fun q => c_26 q.2.2.2.1), fun q => absurd q (fun q => c_26 q.2.2.2.1), fun _ => rfl⟩) [0, 1, 2, 3, 4, 5] rfl (by decide) dX3_line_30 (Nat.le_of_ble_eq_true rfl) (Nat.le_of_ble_eq_true rfl)

set_option maxHeartbeats 4000000 in
set_option maxRecDepth 100000 in
theorem c_X3_corner (l : Launch) (D : va_G) (cZ cI cJ : ClassId) (o tl sx sy wx wy kx ky fx fy dv sp p1 p2 : Nat) (ph : Int32) (n : Nat) (fkx fky : Nat → Int64) (x y : Int64) (hn9 : n ≤ 64) : Ci l D cZ cI cJ yX3_corner cX3_corner 5 (some .boolean) { frames := 1, cells := 0, slots := 0, locals := 23 } [.ref o, .long x, .long y] [(o, .inr (3, [.ref tl, .ref sx, .ref sy, .ref wx, .ref wy, .ref kx, .ref ky, .int (nI n), .int ph, .ref fx, .ref fy, .ref dv, .ref sp, .ref p1, .ref p2])), (kx, .inl (cJ, 64, .inr (.inl fkx))), (ky, .inl (cJ, 64, .inr (.inl fky)))] (S := Nat × (Nat → Int64) × (Nat → Int64)) (fun z u => z = bz (n < 64 ∧ ogr x y) ∧ (n < 64 ∧ ogr x y → u = (n + 1, vp_updL fkx n x, vp_updL fky n y)) ∧ (¬ (n < 64 ∧ ogr x y) → u = (n, fkx, fky))) (fun u => [(o, .inr (3, [.ref tl, .ref sx, .ref sy, .ref wx, .ref wy, .ref kx, .ref ky, .int (nI u.1), .int ph, .ref fx, .ref fy, .ref dv, .ref sp, .ref p1, .ref p2])), (kx, .inl (cJ, 64, .inr (.inl u.2.1))), (ky, .inl (cJ, 64, .inr (.inl u.2.2)))]) := by
  refine Ci.of (by decide) ?_
  intro p e s m args below meth c A Q hB hret hP hD hA
  obtain ⟨hx, hb, hr, hlocks, hml, hown, hnm, hTB, hK⟩ := hB
  have hown : s.vm.findClass RX3 = some m.cls := hown
  have hS : va_S A s.heap s.heap [] := va_S.rf
  have hl := lv_entry ([.ref o, .long x, .long y]) (n := 5) (Nat.le_of_ble_eq_true rfl)
  rw [lg_entry_eq]
  generalize (lg_sl ([.ref o, .long x, .long y]) ++ List.replicate (5 - (lg_sl ([.ref o, .long x, .long y])).length) Slot.unset).toArray = ls at hl ⊢
  have hl : lv_has ls 5 [(0, .ref o), (1, .long x), (3, .long y)] := hl
  refine lv_aload_n hx hb dX3_corner_0 rfl (lv_at hl 0 rfl) ?_
  refine va_get (D := D) (ci := 3) (v := .int (nI n)) (C := RX3) (T := TX3) (N := 15) hx hb hTB tb_X3 hown hK.1 hP 0 rfl rfl 7 (by decide) (hTB _ tb_2_13) (fun _ h9 => h9) rfl dX3_corner_1 ?_
  refine lv_bipush (v := 64) hx hb dX3_corner_4 (by decide) ?_
  refine lv_icmp_ge (tgt := 17) hx hb dX3_corner_6 (by decide) (fun c_6 => ?_) (fun c_6 => ?_)
  · refine lv_iconst (v := 0) hx hb dX3_corner_17 (by decide) ?_
    exact hret hP hD hS rfl (n, fkx, fky) (⟨bz_f (fun q => absurd q.1 (by have := (nI_leI (a := 64) (b := n) (by omega) (by omega)).mp c_6; omega)), fun q => absurd q (fun q => absurd q.1 (by have := (nI_leI (a := 64) (b := n) (by omega) (by omega)).mp c_6; omega)), fun _ => rfl⟩) [0, 1, 2] rfl (by decide) dX3_corner_18 (Nat.le_of_ble_eq_true rfl) (Nat.le_of_ble_eq_true rfl)
  · have hn : n < 64 := Nat.not_le.mp (fun q => c_6 ((nI_leI (a := 64) (b := n) (by omega) (by omega)).mpr q))
    refine lv_lload_n hx hb dX3_corner_9 rfl (lv_at hl 1 rfl) ?_
    refine lv_lload_n hx hb dX3_corner_10 rfl (lv_at hl 2 rfl) ?_
    refine vp_callSi (va_runS (As := [.long x, .long y]) (rest := []) ⟨hx, hb, hml, hown, hTB⟩ (c_X3_isOnGrid l D cZ cI cJ x y) (cw_S hTB tb_4_6 tb_1_2 tb_4_4 tb_4_5 nd_X3_isOnGrid rfl rfl ⟨Nat.le_of_ble_eq_true rfl, Nat.le_of_ble_eq_true rfl⟩) (prr_S hK hP [] rfl) rfl rfl hl.1 rfl (lv_room (Nat.le_of_ble_eq_true rfl)) dX3_corner_11 ⟨Nat.le_of_ble_eq_true rfl, Nat.le_of_ble_eq_true rfl⟩).run (fun r11 hc11 => ?_)
    subst hc11
    refine lv_if_ne (tgt := 19) hx hb dX3_corner_14 (by decide) (fun c_14 => ?_) (fun c_14 => ?_)
    · have c_14 := bz_1 c_14
      refine lv_aload_n hx hb dX3_corner_19 rfl (lv_at hl 0 rfl) ?_
      refine va_get (D := D) (ci := 3) (v := .ref kx) (C := RX3) (T := TX3) (N := 15) hx hb hTB tb_X3 hown hK.1 hP 0 rfl rfl 5 (by decide) (hTB _ tb_1_20) (fun _ h9 => h9) rfl dX3_corner_20 ?_
      refine lv_aload_n hx hb dX3_corner_23 rfl (lv_at hl 0 rfl) ?_
      refine va_get (D := D) (ci := 3) (v := .int (nI n)) (C := RX3) (T := TX3) (N := 15) hx hb hTB tb_X3 hown hK.1 hP 0 rfl rfl 7 (by decide) (hTB _ tb_2_13) (fun _ h9 => h9) rfl dX3_corner_24 ?_
      refine lv_lload_n hx hb dX3_corner_27 rfl (lv_at hl 1 rfl) ?_
      refine va_last (f := fkx) hx hb hK.1 hP hD hS 1 2 rfl rfl (vp_in_nI hn (by decide)) dX3_corner_28 (fun H locs hP hD hS => ?_)
      rw [show (nI n).toNatClampNeg = n from nI_clamp (by omega)] at hP hD
      have hP : va_P D vwCl [(o, .inr (3, [.ref tl, .ref sx, .ref sy, .ref wx, .ref wy, .ref kx, .ref ky, .int (nI n), .int ph, .ref fx, .ref fy, .ref dv, .ref sp, .ref p1, .ref p2])), (kx, .inl (cJ, 64, .inr (.inl (vp_updL fkx n x)))), (ky, .inl (cJ, 64, .inr (.inl fky)))] H := hP
      have hD : va_D A [(o, .inr (3, [.ref tl, .ref sx, .ref sy, .ref wx, .ref wy, .ref kx, .ref ky, .int (nI n), .int ph, .ref fx, .ref fy, .ref dv, .ref sp, .ref p1, .ref p2])), (kx, .inl (cJ, 64, .inr (.inl (vp_updL fkx n x)))), (ky, .inl (cJ, 64, .inr (.inl fky)))] := hD
      refine lv_aload_n hx hb dX3_corner_29 rfl (lv_at hl 0 rfl) ?_
      refine va_get (D := D) (ci := 3) (v := .ref ky) (C := RX3) (T := TX3) (N := 15) hx hb hTB tb_X3 hown hK.1 hP 0 rfl rfl 6 (by decide) (hTB _ tb_1_21) (fun _ h9 => h9) rfl dX3_corner_30 ?_
      refine lv_aload_n hx hb dX3_corner_33 rfl (lv_at hl 0 rfl) ?_
      refine va_get (D := D) (ci := 3) (v := .int (nI n)) (C := RX3) (T := TX3) (N := 15) hx hb hTB tb_X3 hown hK.1 hP 0 rfl rfl 7 (by decide) (hTB _ tb_2_13) (fun _ h9 => h9) rfl dX3_corner_34 ?_
      refine lv_lload_n hx hb dX3_corner_37 rfl (lv_at hl 2 rfl) ?_
      refine va_last (f := fky) hx hb hK.1 hP hD hS 2 2 rfl rfl (vp_in_nI hn (by decide)) dX3_corner_38 (fun H locs hP hD hS => ?_)
      rw [show (nI n).toNatClampNeg = n from nI_clamp (by omega)] at hP hD
      have hP : va_P D vwCl [(o, .inr (3, [.ref tl, .ref sx, .ref sy, .ref wx, .ref wy, .ref kx, .ref ky, .int (nI n), .int ph, .ref fx, .ref fy, .ref dv, .ref sp, .ref p1, .ref p2])), (kx, .inl (cJ, 64, .inr (.inl (vp_updL fkx n x)))), (ky, .inl (cJ, 64, .inr (.inl (vp_updL fky n y))))] H := hP
      have hD : va_D A [(o, .inr (3, [.ref tl, .ref sx, .ref sy, .ref wx, .ref wy, .ref kx, .ref ky, .int (nI n), .int ph, .ref fx, .ref fy, .ref dv, .ref sp, .ref p1, .ref p2])), (kx, .inl (cJ, 64, .inr (.inl (vp_updL fkx n x)))), (ky, .inl (cJ, 64, .inr (.inl (vp_updL fky n y))))] := hD
      refine lv_aload_n hx hb dX3_corner_39 rfl (lv_at hl 0 rfl) ?_
      refine lv_dup hx hb dX3_corner_40 rfl ?_
      refine va_get (D := D) (ci := 3) (v := .int (nI n)) (C := RX3) (T := TX3) (N := 15) hx hb hTB tb_X3 hown hK.1 hP 0 rfl rfl 7 (by decide) (hTB _ tb_2_13) (fun _ h9 => h9) rfl dX3_corner_41 ?_
      refine lv_iconst (v := 1) hx hb dX3_corner_44 (by decide) ?_
      refine lv_iadd hx hb dX3_corner_45 ?_
      rw [nI_1]
      refine va_put (D := D) (ci := 3) (v := .int (nI (n + 1))) (ty := .int) (C := RX3) (T := TX3) (N := 15) hx hb hTB tb_X3 tyX3 tyX3_ok nmX3 hown hK.1 hP hD hS 0 rfl rfl 7 (by decide) (hTB _ tb_2_13) (fun _ h9 => h9) rfl (by decide +kernel) rfl rfl (Nat.le_of_ble_eq_true rfl) dX3_corner_46 (fun H locs hP hD hS => ?_)
      have hP : va_P D vwCl [(o, .inr (3, [.ref tl, .ref sx, .ref sy, .ref wx, .ref wy, .ref kx, .ref ky, .int (nI (n + 1)), .int ph, .ref fx, .ref fy, .ref dv, .ref sp, .ref p1, .ref p2])), (kx, .inl (cJ, 64, .inr (.inl (vp_updL fkx n x)))), (ky, .inl (cJ, 64, .inr (.inl (vp_updL fky n y))))] H := hP
      have hD : va_D A [(o, .inr (3, [.ref tl, .ref sx, .ref sy, .ref wx, .ref wy, .ref kx, .ref ky, .int (nI (n + 1)), .int ph, .ref fx, .ref fy, .ref dv, .ref sp, .ref p1, .ref p2])), (kx, .inl (cJ, 64, .inr (.inl (vp_updL fkx n x)))), (ky, .inl (cJ, 64, .inr (.inl (vp_updL fky n y))))] := hD
      refine lv_iconst (v := 1) hx hb dX3_corner_49 (by decide) ?_
      exact hret hP hD hS rfl (n + 1, vp_updL fkx n x, vp_updL fky n y) (⟨bz_t ⟨hn, c_14⟩, fun _ => rfl, fun q => absurd ⟨hn, c_14⟩ q⟩) [0, 1, 2] rfl (by decide) dX3_corner_50 (Nat.le_of_ble_eq_true rfl) (Nat.le_of_ble_eq_true rfl)
    · have c_14 := bz_0 c_14
      refine lv_iconst (v := 0) hx hb dX3_corner_17 (by decide) ?_
      exact hret hP hD hS rfl (n, fkx, fky) (⟨bz_f (fun q => c_14 q.2), fun q => absurd q (fun q => c_14 q.2), fun _ => rfl⟩) [0, 1, 2] rfl (by decide) dX3_corner_18 (Nat.le_of_ble_eq_true rfl) (Nat.le_of_ble_eq_true rfl)

set_option maxHeartbeats 4000000 in
set_option maxRecDepth 100000 in
theorem c_X3_clear (l : Launch) (D : va_G) (cZ cI cJ : ClassId) (o tl sx sy wx wy kx ky fx fy dv sp p1 p2 : Nat) (cn ph : Int32) (ft : Nat → Int32) : Cv l D cZ cI cJ yX3_clear cX3_clear 2 { frames := 0, cells := 0, slots := 0, locals := 0 } [.ref o] [(o, .inr (3, [.ref tl, .ref sx, .ref sy, .ref wx, .ref wy, .ref kx, .ref ky, .int cn, .int ph, .ref fx, .ref fy, .ref dv, .ref sp, .ref p1, .ref p2])), (tl, .inl (cZ, 16, .inl ft))] (S := Nat → Int32) (fun u => ∀ j, j < 16 → u j = 0) (fun u => [(o, .inr (3, [.ref tl, .ref sx, .ref sy, .ref wx, .ref wy, .ref kx, .ref ky, .int 0, .int 0, .ref fx, .ref fy, .ref dv, .ref sp, .ref p1, .ref p2])), (tl, .inl (cZ, 16, .inl u))]) := by
  refine Cv.of (by decide) ?_
  intro p e s m args below meth c A Q hB hret hP hD hA
  obtain ⟨hx, hb, hr, hlocks, hml, hown, hnm, hTB, hK⟩ := hB
  have hown : s.vm.findClass RX3 = some m.cls := hown
  have hS : va_S A s.heap s.heap [] := va_S.rf
  have hl := lv_entry ([.ref o]) (n := 2) (Nat.le_of_ble_eq_true rfl)
  rw [lg_entry_eq]
  generalize (lg_sl ([.ref o]) ++ List.replicate (2 - (lg_sl ([.ref o])).length) Slot.unset).toArray = ls at hl ⊢
  have hl : lv_has ls 2 [(0, .ref o)] := hl
  refine lv_iconst (v := 0) hx hb dX3_clear_0 (by decide) ?_
  refine lv_istore_n (lv' := [(1, .int 0), (0, .ref o)]) hx hb dX3_clear_1 rfl hl (by decide) rfl (fun ls hl => ?_)
  have L2 : ∀ (n2 : Nat) (k : Nat) (ft2 : Nat → Int32), (16 < k + n2 ∧ k ≤ 16) → (∀ j, j < k → ft2 j = 0) → ∀ (H : Heap) (locs : List Loc), va_P D vwCl [(o, .inr (3, [.ref tl, .ref sx, .ref sy, .ref wx, .ref wy, .ref kx, .ref ky, .int cn, .int ph, .ref fx, .ref fy, .ref dv, .ref sp, .ref p1, .ref p2])), (tl, .inl (cZ, 16, .inl ft2))] H → va_D A [(o, .inr (3, [.ref tl, .ref sx, .ref sy, .ref wx, .ref wy, .ref kx, .ref ky, .int cn, .int ph, .ref fx, .ref fy, .ref dv, .ref sp, .ref p1, .ref p2])), (tl, .inl (cZ, 16, .inl ft2))] → va_S A s.heap H locs → ∀ (ls : Array Slot), lv_has ls 2 [(0, .ref o), (1, .int (nI k))] → W p l e { frames := 0, cells := 0, slots := 0, locals := 0 } s m args below meth c H locs 0 0 Q (F0 m 2 ls []) := by
    intro n2
    induction n2 with
    | zero =>
      intro k ft2 g1 g2
      exfalso; omega
    | succ n2 ih2 =>
      intro k ft2 g1 g2 H locs hP hD hS ls hl
      refine lv_iload_n hx hb dX3_clear_2 rfl (lv_at hl 1 rfl) ?_
      refine lv_bipush (v := 16) hx hb dX3_clear_3 (by decide) ?_
      refine lv_icmp_ge (tgt := 21) hx hb dX3_clear_5 (by decide) (fun c_5 => ?_) (fun c_5 => ?_)
      · refine lv_aload_n hx hb dX3_clear_21 rfl (lv_at hl 0 rfl) ?_
        refine lv_iconst (v := 0) hx hb dX3_clear_22 (by decide) ?_
        refine va_put (D := D) (ci := 3) (v := .int 0) (ty := .int) (C := RX3) (T := TX3) (N := 15) hx hb hTB tb_X3 tyX3 tyX3_ok nmX3 hown hK.1 hP hD hS 0 rfl rfl 7 (by decide) (hTB _ tb_2_13) (fun _ h9 => h9) rfl (by decide +kernel) rfl rfl (Nat.le_of_ble_eq_true rfl) dX3_clear_23 (fun H locs hP hD hS => ?_)
        have hP : va_P D vwCl [(o, .inr (3, [.ref tl, .ref sx, .ref sy, .ref wx, .ref wy, .ref kx, .ref ky, .int 0, .int ph, .ref fx, .ref fy, .ref dv, .ref sp, .ref p1, .ref p2])), (tl, .inl (cZ, 16, .inl ft2))] H := hP
        have hD : va_D A [(o, .inr (3, [.ref tl, .ref sx, .ref sy, .ref wx, .ref wy, .ref kx, .ref ky, .int 0, .int ph, .ref fx, .ref fy, .ref dv, .ref sp, .ref p1, .ref p2])), (tl, .inl (cZ, 16, .inl ft2))] := hD
        refine lv_aload_n hx hb dX3_clear_26 rfl (lv_at hl 0 rfl) ?_
        refine lv_iconst (v := 0) hx hb dX3_clear_27 (by decide) ?_
        refine va_put (D := D) (ci := 3) (v := .int 0) (ty := .boolean) (C := RX3) (T := TX3) (N := 15) hx hb hTB tb_X3 tyX3 tyX3_ok nmX3 hown hK.1 hP hD hS 0 rfl rfl 8 (by decide) (hTB _ tb_2_14) (fun _ h9 => h9) rfl (by decide +kernel) rfl rfl (Nat.le_of_ble_eq_true rfl) dX3_clear_28 (fun H locs hP hD hS => ?_)
        have hP : va_P D vwCl [(o, .inr (3, [.ref tl, .ref sx, .ref sy, .ref wx, .ref wy, .ref kx, .ref ky, .int 0, .int 0, .ref fx, .ref fy, .ref dv, .ref sp, .ref p1, .ref p2])), (tl, .inl (cZ, 16, .inl ft2))] H := hP
        have hD : va_D A [(o, .inr (3, [.ref tl, .ref sx, .ref sy, .ref wx, .ref wy, .ref kx, .ref ky, .int 0, .int 0, .ref fx, .ref fy, .ref dv, .ref sp, .ref p1, .ref p2])), (tl, .inl (cZ, 16, .inl ft2))] := hD
        exact hret hP hD hS ft2 (by have := (nI_leI (a := 16) (b := k) (by omega) (by omega)).mp c_5; exact fun j hj => g2 j (by omega)) [0, 1] rfl (by decide) dX3_clear_31 (Nat.le_of_ble_eq_true rfl) (Nat.le_of_ble_eq_true rfl)
      · have hk : k < 16 := Nat.not_le.mp (fun q => c_5 ((nI_leI (a := 16) (b := k) (by omega) (by omega)).mpr q))
        refine lv_aload_n hx hb dX3_clear_8 rfl (lv_at hl 0 rfl) ?_
        refine va_get (D := D) (ci := 3) (v := .ref tl) (C := RX3) (T := TX3) (N := 15) hx hb hTB tb_X3 hown hK.1 hP 0 rfl rfl 0 (by decide) (hTB _ tb_1_15) (fun _ h9 => h9) rfl dX3_clear_9 ?_
        refine lv_iload_n hx hb dX3_clear_12 rfl (lv_at hl 1 rfl) ?_
        refine lv_iconst (v := 0) hx hb dX3_clear_13 (by decide) ?_
        refine va_zast (f := ft2) hx hb hK.1 hP hD hS 1 0 rfl rfl (vp_in_nI hk (by decide)) dX3_clear_14 (fun H locs hP hD hS => ?_)
        rw [show (nI k).toNatClampNeg = k from nI_clamp (by omega)] at hP hD
        have hP : va_P D vwCl [(o, .inr (3, [.ref tl, .ref sx, .ref sy, .ref wx, .ref wy, .ref kx, .ref ky, .int cn, .int ph, .ref fx, .ref fy, .ref dv, .ref sp, .ref p1, .ref p2])), (tl, .inl (cZ, 16, .inl (upd ft2 k 0)))] H := hP
        have hD : va_D A [(o, .inr (3, [.ref tl, .ref sx, .ref sy, .ref wx, .ref wy, .ref kx, .ref ky, .int cn, .int ph, .ref fx, .ref fy, .ref dv, .ref sp, .ref p1, .ref p2])), (tl, .inl (cZ, 16, .inl (upd ft2 k 0)))] := hD
        obtain ⟨i1_1, ei1_1⟩ : ∃ y : Int32, y = (nI k) + 1 := ⟨_, rfl⟩
        refine lv_iinc (v := i1_1) (lv' := [(1, .int i1_1), (0, .ref o)]) hx hb dX3_clear_15 hl (k := 1) rfl (by rw [ei1_1]; rfl) (by decide) rfl (fun ls hl => ?_)
        refine lv_goto (tgt := 2) hx hb dX3_clear_18 (by decide) ?_
        have q9 : i1_1 = nI (k + 1) := by rw [ei1_1]; exact nI_1 k
        subst q9
        refine ih2 (k + 1) (upd ft2 k 0) ?_ ?_ _ _ hP hD hS _ (lv_sub hl [1, 0] rfl)
        · omega
        · intro j hj
          by_cases h : j = k
          · subst h; exact pk_us
          · rw [pk_un h]; exact g2 j (by omega)
  refine L2 17 0 ft ?_ ?_ _ _ hP hD hS _ (lv_sub hl [1, 0] rfl)
  · omega
  · intro j hj; omega

set_option maxHeartbeats 4000000 in
set_option maxRecDepth 100000 in
theorem c_X3_count (l : Launch) (D : va_G) (cZ cI cJ : ClassId) (o tl sx sy wx wy kx ky fx fy dv sp p1 p2 : Nat) (cn ph : Int32) (ft : Nat → Int32) (what : Int32) : Ri l D cZ cI cJ yX3_count cX3_count 2 (some .int) { frames := 1, cells := 0, slots := 0, locals := 22 } [.ref o, .int what] [(o, .inr (3, [.ref tl, .ref sx, .ref sy, .ref wx, .ref wy, .ref kx, .ref ky, .int cn, .int ph, .ref fx, .ref fy, .ref dv, .ref sp, .ref p1, .ref p2])), (tl, .inl (cZ, 16, .inl ft))] (fun r => r = if what = 0 then nI (cnt ft 16) else if what = 1 then cn else if what = 2 then (if ph = 0 then 0 else 1) else -1) := by
  refine Ri.of (by decide) ?_
  intro p e s m args below meth c Q hB hret hP
  obtain ⟨hx, hb, hr, hlocks, hml, hown, hnm, hTB, hK⟩ := hB
  have hown : s.vm.findClass RX3 = some m.cls := hown
  have hl := lv_entry ([.ref o, .int what]) (n := 2) (Nat.le_of_ble_eq_true rfl)
  rw [lg_entry_eq]
  generalize (lg_sl ([.ref o, .int what]) ++ List.replicate (2 - (lg_sl ([.ref o, .int what])).length) Slot.unset).toArray = ls at hl ⊢
  have hl : lv_has ls 2 [(0, .ref o), (1, .int what)] := hl
  refine lv_iload_n hx hb dX3_count_0 rfl (lv_at hl 1 rfl) ?_
  rcases sw_2 what with k_1 | k_1 | k_1 | k_1
  · refine lv_tableIn (off := 27) (tgt := 28) hx hb dX3_count_1 (by rw [k_1]; decide) (by rw [k_1]; decide) (by rw [k_1]; rfl) (by decide) ?_
    refine lv_aload_n hx hb dX3_count_28 rfl (lv_at hl 0 rfl) ?_
    refine vp_callSi (va_runV (As := []) (rest := []) ⟨hx, hb, hml, hown, hTB⟩ (c_X3_linesTold l D cZ cI cJ o tl sx sy wx wy kx ky fx fy dv sp p1 p2 cn ph ft) (cw_V hTB tb_23_13 tb_1_2 tb_23_10 tb_23_11 tb_23_12 nd_X3_linesTold rfl rfl ⟨Nat.le_of_ble_eq_true rfl, Nat.le_of_ble_eq_true rfl⟩) (prr_V (q0 := 0) hK hP [0, 1] rfl rfl rfl) rfl rfl hl.1 rfl (lv_room (Nat.le_of_ble_eq_true rfl)) dX3_count_29 ⟨Nat.le_of_ble_eq_true rfl, Nat.le_of_ble_eq_true rfl⟩).run (fun r29 hc29 => ?_)
    subst hc29
    exact hret rfl (by rw [if_pos (i32_of (k := 0) k_1)]) dX3_count_32
  · refine lv_tableIn (off := 32) (tgt := 33) hx hb dX3_count_1 (by rw [k_1]; decide) (by rw [k_1]; decide) (by rw [k_1]; rfl) (by decide) ?_
    refine lv_aload_n hx hb dX3_count_33 rfl (lv_at hl 0 rfl) ?_
    refine va_get (D := D) (ci := 3) (v := .int cn) (C := RX3) (T := TX3) (N := 15) hx hb hTB tb_X3 hown hK.1 hP 0 rfl rfl 7 (by decide) (hTB _ tb_2_13) (fun _ h9 => h9) rfl dX3_count_34 ?_
    exact hret rfl (by rw [if_neg (i32_ne (k := 0) (by rw [k_1]; decide)), if_pos (i32_of (k := 1) k_1)]) dX3_count_37
  · refine lv_tableIn (off := 37) (tgt := 38) hx hb dX3_count_1 (by rw [k_1]; decide) (by rw [k_1]; decide) (by rw [k_1]; rfl) (by decide) ?_
    refine lv_aload_n hx hb dX3_count_38 rfl (lv_at hl 0 rfl) ?_
    refine va_get (D := D) (ci := 3) (v := .int ph) (C := RX3) (T := TX3) (N := 15) hx hb hTB tb_X3 hown hK.1 hP 0 rfl rfl 8 (by decide) (hTB _ tb_2_14) (fun _ h9 => h9) rfl dX3_count_39 ?_
    refine lv_if_eq (tgt := 49) hx hb dX3_count_42 (by decide) (fun c_42 => ?_) (fun c_42 => ?_)
    · refine lv_iconst (v := 0) hx hb dX3_count_49 (by decide) ?_
      exact hret rfl (by rw [if_neg (i32_ne (k := 0) (by rw [k_1]; decide)), if_neg (i32_ne (k := 1) (by rw [k_1]; decide)), if_pos (i32_of (k := 2) k_1), if_pos c_42]) dX3_count_50
    · refine lv_iconst (v := 1) hx hb dX3_count_45 (by decide) ?_
      refine lv_goto (tgt := 50) hx hb dX3_count_46 (by decide) ?_
      exact hret rfl (by rw [if_neg (i32_ne (k := 0) (by rw [k_1]; decide)), if_neg (i32_ne (k := 1) (by rw [k_1]; decide)), if_pos (i32_of (k := 2) k_1), if_neg c_42]) dX3_count_50
  · refine lv_tableOut (tgt := 51) hx hb dX3_count_1 k_1 (by decide) ?_
    refine lv_iconst (v := (-1)) hx hb dX3_count_51 (by decide) ?_
    exact hret rfl (by rw [if_neg (fun q => by rw [q] at k_1; revert k_1; decide), if_neg (fun q => by rw [q] at k_1; revert k_1; decide), if_neg (fun q => by rw [q] at k_1; revert k_1; decide)]) dX3_count_52

set_option maxHeartbeats 4000000 in
set_option maxRecDepth 100000 in
theorem c_X3_at (l : Launch) (D : va_G) (cZ cI cJ : ClassId) (o tl sx sy wx wy kx ky fx fy dv sp p1 p2 : Nat) (cn ph : Int32) (xu xl yu yl : Nat) (uh ul vh vl ah al bh bl : Int64) (q r d lm co : Nat) (qh ql rh rl dh dl mh ml : Int64) (axis : Int32) (hX0 : ph ≠ 0 → 0 < (wv vh vl).natAbs ∧ (wv uh ul).natAbs < 170141183460469231731687303715884105728 ∧ (wv vh vl).natAbs < 85070591730234615865843651857942052864) (hY0 : ph ≠ 0 → 0 < (wv bh bl).natAbs ∧ (wv ah al).natAbs < 170141183460469231731687303715884105728 ∧ (wv bh bl).natAbs < 85070591730234615865843651857942052864) : Cl l D cZ cI cJ yX3_at cX3_at 3 (some .long) { frames := 5, cells := 0, slots := 0, locals := 114 } [.ref o, .int axis] [(o, .inr (3, [.ref tl, .ref sx, .ref sy, .ref wx, .ref wy, .ref kx, .ref ky, .int cn, .int ph, .ref fx, .ref fy, .ref dv, .ref sp, .ref p1, .ref p2])), (fx, .inr (1, [.ref xu, .ref xl])), (fy, .inr (1, [.ref yu, .ref yl])), (xu, .inr (2, [.long uh, .long ul])), (xl, .inr (2, [.long vh, .long vl])), (yu, .inr (2, [.long ah, .long al])), (yl, .inr (2, [.long bh, .long bl])), (dv, .inr (0, [.ref q, .ref r, .ref d, .ref lm, .ref co])), (q, .inr (2, [.long qh, .long ql])), (r, .inr (2, [.long rh, .long rl])), (d, .inr (2, [.long dh, .long dl])), (lm, .inr (2, [.long mh, .long ml]))] (S := (Int64 × Int64) × (Int64 × Int64) × (Int64 × Int64) × (Int64 × Int64)) (fun z u => z = if isa ph axis then (if axis = 0 then rdv 4 (wv uh ul) (wv vh vl) else rdv 4 (wv ah al) (wv bh bl)) else -4611686018427387904) (fun u => [(o, .inr (3, [.ref tl, .ref sx, .ref sy, .ref wx, .ref wy, .ref kx, .ref ky, .int cn, .int ph, .ref fx, .ref fy, .ref dv, .ref sp, .ref p1, .ref p2])), (fx, .inr (1, [.ref xu, .ref xl])), (fy, .inr (1, [.ref yu, .ref yl])), (xu, .inr (2, [.long uh, .long ul])), (xl, .inr (2, [.long vh, .long vl])), (yu, .inr (2, [.long ah, .long al])), (yl, .inr (2, [.long bh, .long bl])), (dv, .inr (0, [.ref q, .ref r, .ref d, .ref lm, .ref co])), (q, .inr (2, [.long u.1.1, .long u.1.2])), (r, .inr (2, [.long u.2.1.1, .long u.2.1.2])), (d, .inr (2, [.long u.2.2.1.1, .long u.2.2.1.2])), (lm, .inr (2, [.long u.2.2.2.1, .long u.2.2.2.2]))]) := by
  refine Cl.of (by decide) ?_
  intro p e s m args below meth c A Q hB hret hP hD hA
  obtain ⟨hx, hb, hr, hlocks, hml, hown, hnm, hTB, hK⟩ := hB
  have hown : s.vm.findClass RX3 = some m.cls := hown
  have hS : va_S A s.heap s.heap [] := va_S.rf
  have hl := lv_entry ([.ref o, .int axis]) (n := 3) (Nat.le_of_ble_eq_true rfl)
  rw [lg_entry_eq]
  generalize (lg_sl ([.ref o, .int axis]) ++ List.replicate (3 - (lg_sl ([.ref o, .int axis])).length) Slot.unset).toArray = ls at hl ⊢
  have hl : lv_has ls 3 [(0, .ref o), (1, .int axis)] := hl
  refine lv_aload_n hx hb dX3_at_0 rfl (lv_at hl 0 rfl) ?_
  refine lv_iload_n hx hb dX3_at_1 rfl (lv_at hl 1 rfl) ?_
  refine vp_callSi (va_runV (As := [.int axis]) (rest := []) ⟨hx, hb, hml, hown, hTB⟩ (c_X3_isAnswerable l D cZ cI cJ o tl sx sy wx wy kx ky fx fy dv sp p1 p2 cn ph axis) (cw_V hTB tb_15_2 tb_1_2 tb_14_23 tb_15_0 tb_15_1 nd_X3_isAnswerable rfl rfl ⟨Nat.le_of_ble_eq_true rfl, Nat.le_of_ble_eq_true rfl⟩) (prr_V (q0 := 0) hK hP [0] rfl rfl rfl) rfl rfl hl.1 rfl (lv_room (Nat.le_of_ble_eq_true rfl)) dX3_at_2 ⟨Nat.le_of_ble_eq_true rfl, Nat.le_of_ble_eq_true rfl⟩).run (fun r2 hc2 => ?_)
  subst hc2
  refine lv_if_ne (tgt := 12) hx hb dX3_at_5 (by decide) (fun c_5 => ?_) (fun c_5 => ?_)
  · have c_5 := bz_1 c_5
    refine lv_iload_n hx hb dX3_at_12 rfl (lv_at hl 1 rfl) ?_
    refine lv_if_ne (tgt := 23) hx hb dX3_at_13 (by decide) (fun c_13 => ?_) (fun c_13 => ?_)
    · refine lv_aload_n hx hb dX3_at_23 rfl (lv_at hl 0 rfl) ?_
      refine va_get (D := D) (ci := 3) (v := .ref fy) (C := RX3) (T := TX3) (N := 15) hx hb hTB tb_X3 hown hK.1 hP 0 rfl rfl 10 (by decide) (hTB _ tb_2_2) (fun _ h9 => h9) rfl dX3_at_24 ?_
      refine lv_astore_n (lv' := [(2, .ref fy), (0, .ref o), (1, .int axis)]) hx hb dX3_at_27 rfl hl (by decide) rfl (fun ls hl => ?_)
      refine lv_aload_n hx hb dX3_at_28 rfl (lv_at hl 1 rfl) ?_
      refine va_get (D := D) (ci := 3) (v := .ref dv) (C := RX3) (T := TX3) (N := 15) hx hb hTB tb_X3 hown hK.1 hP 0 rfl rfl 11 (by decide) (hTB _ tb_2_6) (fun _ h9 => h9) rfl dX3_at_29 ?_
      refine lv_aload_n hx hb dX3_at_32 rfl (lv_at hl 0 rfl) ?_
      refine va_getN (D := D) (ci := 1) (v := .ref yu) (C := RX1) (T := TX1) (N := 2) hx hb hTB tb_X1 hown hK.1 hP 2 rfl rfl 0 (by decide) (va_Nw.use rfl (hK.2 _ nw_6)) (fun _ h9 => h9) rfl dX3_at_33 ?_
      refine lv_aload_n hx hb dX3_at_36 rfl (lv_at hl 0 rfl) ?_
      refine va_getN (D := D) (ci := 1) (v := .ref yl) (C := RX1) (T := TX1) (N := 2) hx hb hTB tb_X1 hown hK.1 hP 2 rfl rfl 1 (by decide) (va_Nw.use rfl (hK.2 _ nw_7)) (fun _ h9 => h9) rfl dX3_at_37 ?_
      refine lv_iconst (v := 4) hx hb dX3_at_40 (by decide) ?_
      refine fin_l (wr := [(o, .inr (3, [.ref tl, .ref sx, .ref sy, .ref wx, .ref wy, .ref kx, .ref ky, .int cn, .int ph, .ref fx, .ref fy, .ref dv, .ref sp, .ref p1, .ref p2])), (fx, .inr (1, [.ref xu, .ref xl])), (fy, .inr (1, [.ref yu, .ref yl])), (xu, .inr (2, [.long uh, .long ul])), (xl, .inr (2, [.long vh, .long vl]))]) (va_runV (As := [.ref yu, .ref yl, .int 4]) (rest := []) ⟨hx, hb, hml, hown, hTB⟩ (c_X0_rounded l D cZ cI cJ dv q r d lm co yu yl qh ql rh rl dh dl mh ml ah al bh bl 4 ((hY0 c_5.1).1) ((hY0 c_5.1).2.1) ((hY0 c_5.1).2.2) _) (cw_V hTB tb_15_6 tb_2_5 tb_15_3 tb_15_4 tb_15_5 nd_X0_rounded rfl rfl ⟨Nat.le_of_ble_eq_true rfl, Nat.le_of_ble_eq_true rfl⟩) (pre_V (q0 := 7) hK hP hD [7, 8, 9, 10, 11, 5, 6] rfl rfl rfl rfl) rfl rfl hl.1 rfl (lv_room (Nat.le_of_ble_eq_true rfl)) dX3_at_41 ⟨Nat.le_of_ble_eq_true rfl, Nat.le_of_ble_eq_true rfl⟩) hP hD hS hA [7, 8, 9, 10, 11, 5, 6] [0, 1, 2, 3, 4] rfl rfl rfl (by decide) (fun r41 u41 H locs hc41 hP hD hS => ?_)
      obtain ⟨⟨q2h, q2l⟩, ⟨r2h, r2l⟩, ⟨d2h, d2l⟩, m2h, m2l⟩ := u41
      try dsimp only at hc41
      have hP : va_P D vwCl [(o, .inr (3, [.ref tl, .ref sx, .ref sy, .ref wx, .ref wy, .ref kx, .ref ky, .int cn, .int ph, .ref fx, .ref fy, .ref dv, .ref sp, .ref p1, .ref p2])), (fx, .inr (1, [.ref xu, .ref xl])), (fy, .inr (1, [.ref yu, .ref yl])), (xu, .inr (2, [.long uh, .long ul])), (xl, .inr (2, [.long vh, .long vl])), (dv, .inr (0, [.ref q, .ref r, .ref d, .ref lm, .ref co])), (q, .inr (2, [.long q2h, .long q2l])), (r, .inr (2, [.long r2h, .long r2l])), (d, .inr (2, [.long d2h, .long d2l])), (lm, .inr (2, [.long m2h, .long m2l])), (yu, .inr (2, [.long ah, .long al])), (yl, .inr (2, [.long bh, .long bl]))] H := hP
      have hD : va_D A [(o, .inr (3, [.ref tl, .ref sx, .ref sy, .ref wx, .ref wy, .ref kx, .ref ky, .int cn, .int ph, .ref fx, .ref fy, .ref dv, .ref sp, .ref p1, .ref p2])), (fx, .inr (1, [.ref xu, .ref xl])), (fy, .inr (1, [.ref yu, .ref yl])), (xu, .inr (2, [.long uh, .long ul])), (xl, .inr (2, [.long vh, .long vl])), (dv, .inr (0, [.ref q, .ref r, .ref d, .ref lm, .ref co])), (q, .inr (2, [.long q2h, .long q2l])), (r, .inr (2, [.long r2h, .long r2l])), (d, .inr (2, [.long d2h, .long d2l])), (lm, .inr (2, [.long m2h, .long m2l])), (yu, .inr (2, [.long ah, .long al])), (yl, .inr (2, [.long bh, .long bl]))] := hD
      subst hc41
      exact hret hP hD hS ((q2h, q2l), (r2h, r2l), (d2h, d2l), (m2h, m2l)) (by rw [if_pos c_5, if_neg c_13]) [0, 1, 2, 3, 4, 10, 11, 5, 6, 7, 8, 9] rfl (by decide) dX3_at_44 (Nat.le_of_ble_eq_true rfl) (Nat.le_of_ble_eq_true rfl)
    · refine lv_aload_n hx hb dX3_at_16 rfl (lv_at hl 0 rfl) ?_
      refine va_get (D := D) (ci := 3) (v := .ref fx) (C := RX3) (T := TX3) (N := 15) hx hb hTB tb_X3 hown hK.1 hP 0 rfl rfl 9 (by decide) (hTB _ tb_2_1) (fun _ h9 => h9) rfl dX3_at_17 ?_
      refine lv_goto (tgt := 27) hx hb dX3_at_20 (by decide) ?_
      refine lv_astore_n (lv' := [(2, .ref fx), (0, .ref o), (1, .int axis)]) hx hb dX3_at_27 rfl hl (by decide) rfl (fun ls hl => ?_)
      refine lv_aload_n hx hb dX3_at_28 rfl (lv_at hl 1 rfl) ?_
      refine va_get (D := D) (ci := 3) (v := .ref dv) (C := RX3) (T := TX3) (N := 15) hx hb hTB tb_X3 hown hK.1 hP 0 rfl rfl 11 (by decide) (hTB _ tb_2_6) (fun _ h9 => h9) rfl dX3_at_29 ?_
      refine lv_aload_n hx hb dX3_at_32 rfl (lv_at hl 0 rfl) ?_
      refine va_getN (D := D) (ci := 1) (v := .ref xu) (C := RX1) (T := TX1) (N := 2) hx hb hTB tb_X1 hown hK.1 hP 1 rfl rfl 0 (by decide) (va_Nw.use rfl (hK.2 _ nw_6)) (fun _ h9 => h9) rfl dX3_at_33 ?_
      refine lv_aload_n hx hb dX3_at_36 rfl (lv_at hl 0 rfl) ?_
      refine va_getN (D := D) (ci := 1) (v := .ref xl) (C := RX1) (T := TX1) (N := 2) hx hb hTB tb_X1 hown hK.1 hP 1 rfl rfl 1 (by decide) (va_Nw.use rfl (hK.2 _ nw_7)) (fun _ h9 => h9) rfl dX3_at_37 ?_
      refine lv_iconst (v := 4) hx hb dX3_at_40 (by decide) ?_
      refine fin_l (wr := [(o, .inr (3, [.ref tl, .ref sx, .ref sy, .ref wx, .ref wy, .ref kx, .ref ky, .int cn, .int ph, .ref fx, .ref fy, .ref dv, .ref sp, .ref p1, .ref p2])), (fx, .inr (1, [.ref xu, .ref xl])), (fy, .inr (1, [.ref yu, .ref yl])), (yu, .inr (2, [.long ah, .long al])), (yl, .inr (2, [.long bh, .long bl]))]) (va_runV (As := [.ref xu, .ref xl, .int 4]) (rest := []) ⟨hx, hb, hml, hown, hTB⟩ (c_X0_rounded l D cZ cI cJ dv q r d lm co xu xl qh ql rh rl dh dl mh ml uh ul vh vl 4 ((hX0 c_5.1).1) ((hX0 c_5.1).2.1) ((hX0 c_5.1).2.2) _) (cw_V hTB tb_15_6 tb_2_5 tb_15_3 tb_15_4 tb_15_5 nd_X0_rounded rfl rfl ⟨Nat.le_of_ble_eq_true rfl, Nat.le_of_ble_eq_true rfl⟩) (pre_V (q0 := 7) hK hP hD [7, 8, 9, 10, 11, 3, 4] rfl rfl rfl rfl) rfl rfl hl.1 rfl (lv_room (Nat.le_of_ble_eq_true rfl)) dX3_at_41 ⟨Nat.le_of_ble_eq_true rfl, Nat.le_of_ble_eq_true rfl⟩) hP hD hS hA [7, 8, 9, 10, 11, 3, 4] [0, 1, 2, 5, 6] rfl rfl rfl (by decide) (fun r41 u41 H locs hc41 hP hD hS => ?_)
      obtain ⟨⟨q2h, q2l⟩, ⟨r2h, r2l⟩, ⟨d2h, d2l⟩, m2h, m2l⟩ := u41
      try dsimp only at hc41
      have hP : va_P D vwCl [(o, .inr (3, [.ref tl, .ref sx, .ref sy, .ref wx, .ref wy, .ref kx, .ref ky, .int cn, .int ph, .ref fx, .ref fy, .ref dv, .ref sp, .ref p1, .ref p2])), (fx, .inr (1, [.ref xu, .ref xl])), (fy, .inr (1, [.ref yu, .ref yl])), (yu, .inr (2, [.long ah, .long al])), (yl, .inr (2, [.long bh, .long bl])), (dv, .inr (0, [.ref q, .ref r, .ref d, .ref lm, .ref co])), (q, .inr (2, [.long q2h, .long q2l])), (r, .inr (2, [.long r2h, .long r2l])), (d, .inr (2, [.long d2h, .long d2l])), (lm, .inr (2, [.long m2h, .long m2l])), (xu, .inr (2, [.long uh, .long ul])), (xl, .inr (2, [.long vh, .long vl]))] H := hP
      have hD : va_D A [(o, .inr (3, [.ref tl, .ref sx, .ref sy, .ref wx, .ref wy, .ref kx, .ref ky, .int cn, .int ph, .ref fx, .ref fy, .ref dv, .ref sp, .ref p1, .ref p2])), (fx, .inr (1, [.ref xu, .ref xl])), (fy, .inr (1, [.ref yu, .ref yl])), (yu, .inr (2, [.long ah, .long al])), (yl, .inr (2, [.long bh, .long bl])), (dv, .inr (0, [.ref q, .ref r, .ref d, .ref lm, .ref co])), (q, .inr (2, [.long q2h, .long q2l])), (r, .inr (2, [.long r2h, .long r2l])), (d, .inr (2, [.long d2h, .long d2l])), (lm, .inr (2, [.long m2h, .long m2l])), (xu, .inr (2, [.long uh, .long ul])), (xl, .inr (2, [.long vh, .long vl]))] := hD
      subst hc41
      exact hret hP hD hS ((q2h, q2l), (r2h, r2l), (d2h, d2l), (m2h, m2l)) (by rw [if_pos c_5, if_pos c_13]) [0, 1, 2, 10, 11, 3, 4, 5, 6, 7, 8, 9] rfl (by decide) dX3_at_44 (Nat.le_of_ble_eq_true rfl) (Nat.le_of_ble_eq_true rfl)
  · have c_5 := bz_0 c_5
    refine lv_ldc2 (v := (-4611686018427387904)) hx hb hown (hTB _ tb_14_22) dX3_at_8 ?_
    exact hret hP hD hS ((qh, ql), (rh, rl), (dh, dl), (mh, ml)) (by rw [if_neg c_5]) [0, 1, 2, 3, 4, 5, 6, 7, 8, 9, 10, 11] rfl (by decide) dX3_at_11 (Nat.le_of_ble_eq_true rfl) (Nat.le_of_ble_eq_true rfl)
