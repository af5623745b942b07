theorem nd_X4_init : yX4_init.cls ≠ "java/lang/invoke/MethodHandle" ∧ yX4_init.cls ≠ "java/lang/invoke/VarHandle" ∧ (parseMethodDescriptor yX4_init.desc).map (fun d => d.parameters.length) = some 0 := by decide +kernel
theorem nd_X4_thrown : yX4_thrown.cls ≠ "java/lang/invoke/MethodHandle" ∧ yX4_thrown.cls ≠ "java/lang/invoke/VarHandle" ∧ (parseMethodDescriptor yX4_thrown.desc).map (fun d => d.parameters.length) = some 0 := by decide +kernel
theorem nd_X4_put : yX4_put.cls ≠ "java/lang/invoke/MethodHandle" ∧ yX4_put.cls ≠ "java/lang/invoke/VarHandle" ∧ (parseMethodDescriptor yX4_put.desc).map (fun d => d.parameters.length) = some 2 := by decide +kernel
theorem nd_X4_copy : yX4_copy.cls ≠ "java/lang/invoke/MethodHandle" ∧ yX4_copy.cls ≠ "java/lang/invoke/VarHandle" ∧ (parseMethodDescriptor yX4_copy.desc).map (fun d => d.parameters.length) = some 2 := by decide +kernel
theorem nd_X4_compare : yX4_compare.cls ≠ "java/lang/invoke/MethodHandle" ∧ yX4_compare.cls ≠ "java/lang/invoke/VarHandle" ∧ (parseMethodDescriptor yX4_compare.desc).map (fun d => d.parameters.length) = some 2 := by decide +kernel
theorem nd_X4_change : yX4_change.cls ≠ "java/lang/invoke/MethodHandle" ∧ yX4_change.cls ≠ "java/lang/invoke/VarHandle" ∧ (parseMethodDescriptor yX4_change.desc).map (fun d => d.parameters.length) = some 4 := by decide +kernel
theorem nd_X4_isNothing : yX4_isNothing.cls ≠ "java/lang/invoke/MethodHandle" ∧ yX4_isNothing.cls ≠ "java/lang/invoke/VarHandle" ∧ (parseMethodDescriptor yX4_isNothing.desc).map (fun d => d.parameters.length) = some 1 := by decide +kernel
theorem nd_X4_sum : yX4_sum.cls ≠ "java/lang/invoke/MethodHandle" ∧ yX4_sum.cls ≠ "java/lang/invoke/VarHandle" ∧ (parseMethodDescriptor yX4_sum.desc).map (fun d => d.parameters.length) = some 3 := by decide +kernel
theorem nd_X4_times : yX4_times.cls ≠ "java/lang/invoke/MethodHandle" ∧ yX4_times.cls ≠ "java/lang/invoke/VarHandle" ∧ (parseMethodDescriptor yX4_times.desc).map (fun d => d.parameters.length) = some 3 := by decide +kernel
theorem nd_X4_twice : yX4_twice.cls ≠ "java/lang/invoke/MethodHandle" ∧ yX4_twice.cls ≠ "java/lang/invoke/VarHandle" ∧ (parseMethodDescriptor yX4_twice.desc).map (fun d => d.parameters.length) = some 1 := by decide +kernel
theorem nd_X4_halve : yX4_halve.cls ≠ "java/lang/invoke/MethodHandle" ∧ yX4_halve.cls ≠ "java/lang/invoke/VarHandle" ∧ (parseMethodDescriptor yX4_halve.desc).map (fun d => d.parameters.length) = some 1 := by decide +kernel
theorem nd_X4_isEven : yX4_isEven.cls ≠ "java/lang/invoke/MethodHandle" ∧ yX4_isEven.cls ≠ "java/lang/invoke/VarHandle" ∧ (parseMethodDescriptor yX4_isEven.desc).map (fun d => d.parameters.length) = some 1 := by decide +kernel
theorem nd_X4_divide : yX4_divide.cls ≠ "java/lang/invoke/MethodHandle" ∧ yX4_divide.cls ≠ "java/lang/invoke/VarHandle" ∧ (parseMethodDescriptor yX4_divide.desc).map (fun d => d.parameters.length) = some 2 := by decide +kernel
theorem nd_X4_divisor : yX4_divisor.cls ≠ "java/lang/invoke/MethodHandle" ∧ yX4_divisor.cls ≠ "java/lang/invoke/VarHandle" ∧ (parseMethodDescriptor yX4_divisor.desc).map (fun d => d.parameters.length) = some 2 := by decide +kernel
theorem nd_X4_reduce : yX4_reduce.cls ≠ "java/lang/invoke/MethodHandle" ∧ yX4_reduce.cls ≠ "java/lang/invoke/VarHandle" ∧ (parseMethodDescriptor yX4_reduce.desc).map (fun d => d.parameters.length) = some 1 := by decide +kernel
theorem nd_X4_determinant : yX4_determinant.cls ≠ "java/lang/invoke/MethodHandle" ∧ yX4_determinant.cls ≠ "java/lang/invoke/VarHandle" ∧ (parseMethodDescriptor yX4_determinant.desc).map (fun d => d.parameters.length) = some 5 := by decide +kernel
theorem nd_X4_limbs : yX4_limbs.cls ≠ "java/lang/invoke/MethodHandle" ∧ yX4_limbs.cls ≠ "java/lang/invoke/VarHandle" ∧ (parseMethodDescriptor yX4_limbs.desc).map (fun d => d.parameters.length) = some 1 := by decide +kernel
theorem nd_X4_limbOf : yX4_limbOf.cls ≠ "java/lang/invoke/MethodHandle" ∧ yX4_limbOf.cls ≠ "java/lang/invoke/VarHandle" ∧ (parseMethodDescriptor yX4_limbOf.desc).map (fun d => d.parameters.length) = some 2 := by decide +kernel
theorem nd_X4_bits : yX4_bits.cls ≠ "java/lang/invoke/MethodHandle" ∧ yX4_bits.cls ≠ "java/lang/invoke/VarHandle" ∧ (parseMethodDescriptor yX4_bits.desc).map (fun d => d.parameters.length) = some 2 := by decide +kernel
theorem nd_X4_isPlace : yX4_isPlace.cls ≠ "java/lang/invoke/MethodHandle" ∧ yX4_isPlace.cls ≠ "java/lang/invoke/VarHandle" ∧ (parseMethodDescriptor yX4_isPlace.desc).map (fun d => d.parameters.length) = some 2 := by decide +kernel
theorem nd_X4_turned : yX4_turned.cls ≠ "java/lang/invoke/MethodHandle" ∧ yX4_turned.cls ≠ "java/lang/invoke/VarHandle" ∧ (parseMethodDescriptor yX4_turned.desc).map (fun d => d.parameters.length) = some 6 := by decide +kernel
theorem nd_X4_turn : yX4_turn.cls ≠ "java/lang/invoke/MethodHandle" ∧ yX4_turn.cls ≠ "java/lang/invoke/VarHandle" ∧ (parseMethodDescriptor yX4_turn.desc).map (fun d => d.parameters.length) = some 6 := by decide +kernel
theorem nd_X4_isLine : yX4_isLine.cls ≠ "java/lang/invoke/MethodHandle" ∧ yX4_isLine.cls ≠ "java/lang/invoke/VarHandle" ∧ (parseMethodDescriptor yX4_isLine.desc).map (fun d => d.parameters.length) = some 1 := by decide +kernel
theorem nd_X4_line : yX4_line.cls ≠ "java/lang/invoke/MethodHandle" ∧ yX4_line.cls ≠ "java/lang/invoke/VarHandle" ∧ (parseMethodDescriptor yX4_line.desc).map (fun d => d.parameters.length) = some 5 := by decide +kernel
theorem nd_X4_less : yX4_less.cls ≠ "java/lang/invoke/MethodHandle" ∧ yX4_less.cls ≠ "java/lang/invoke/VarHandle" ∧ (parseMethodDescriptor yX4_less.desc).map (fun d => d.parameters.length) = some 2 := by decide +kernel
theorem nd_X4_overlap : yX4_overlap.cls ≠ "java/lang/invoke/MethodHandle" ∧ yX4_overlap.cls ≠ "java/lang/invoke/VarHandle" ∧ (parseMethodDescriptor yX4_overlap.desc).map (fun d => d.parameters.length) = some 2 := by decide +kernel
theorem nd_X4_place : yX4_place.cls ≠ "java/lang/invoke/MethodHandle" ∧ yX4_place.cls ≠ "java/lang/invoke/VarHandle" ∧ (parseMethodDescriptor yX4_place.desc).map (fun d => d.parameters.length) = some 3 := by decide +kernel
theorem nd_X4_meet : yX4_meet.cls ≠ "java/lang/invoke/MethodHandle" ∧ yX4_meet.cls ≠ "java/lang/invoke/VarHandle" ∧ (parseMethodDescriptor yX4_meet.desc).map (fun d => d.parameters.length) = some 2 := by decide +kernel
theorem nd_X4_cross : yX4_cross.cls ≠ "java/lang/invoke/MethodHandle" ∧ yX4_cross.cls ≠ "java/lang/invoke/VarHandle" ∧ (parseMethodDescriptor yX4_cross.desc).map (fun d => d.parameters.length) = some 2 := by decide +kernel
theorem nd_X4_at : yX4_at.cls ≠ "java/lang/invoke/MethodHandle" ∧ yX4_at.cls ≠ "java/lang/invoke/VarHandle" ∧ (parseMethodDescriptor yX4_at.desc).map (fun d => d.parameters.length) = some 1 := by decide +kernel
theorem nd_X4_exact : yX4_exact.cls ≠ "java/lang/invoke/MethodHandle" ∧ yX4_exact.cls ≠ "java/lang/invoke/VarHandle" ∧ (parseMethodDescriptor yX4_exact.desc).map (fun d => d.parameters.length) = some 3 := by decide +kernel
theorem nd_X4_corner : yX4_corner.cls ≠ "java/lang/invoke/MethodHandle" ∧ yX4_corner.cls ≠ "java/lang/invoke/VarHandle" ∧ (parseMethodDescriptor yX4_corner.desc).map (fun d => d.parameters.length) = some 2 := by decide +kernel
theorem nd_X4_area2 : yX4_area2.cls ≠ "java/lang/invoke/MethodHandle" ∧ yX4_area2.cls ≠ "java/lang/invoke/VarHandle" ∧ (parseMethodDescriptor yX4_area2.desc).map (fun d => d.parameters.length) = some 1 := by decide +kernel
theorem nd_X4_inside : yX4_inside.cls ≠ "java/lang/invoke/MethodHandle" ∧ yX4_inside.cls ≠ "java/lang/invoke/VarHandle" ∧ (parseMethodDescriptor yX4_inside.desc).map (fun d => d.parameters.length) = some 2 := by decide +kernel
theorem nd_X4_quotient : yX4_quotient.cls ≠ "java/lang/invoke/MethodHandle" ∧ yX4_quotient.cls ≠ "java/lang/invoke/VarHandle" ∧ (parseMethodDescriptor yX4_quotient.desc).map (fun d => d.parameters.length) = some 2 := by decide +kernel
theorem nd_X4_ratioOf : yX4_ratioOf.cls ≠ "java/lang/invoke/MethodHandle" ∧ yX4_ratioOf.cls ≠ "java/lang/invoke/VarHandle" ∧ (parseMethodDescriptor yX4_ratioOf.desc).map (fun d => d.parameters.length) = some 4 := by decide +kernel
theorem nd_X4_over : yX4_over.cls ≠ "java/lang/invoke/MethodHandle" ∧ yX4_over.cls ≠ "java/lang/invoke/VarHandle" ∧ (parseMethodDescriptor yX4_over.desc).map (fun d => d.parameters.length) = some 3 := by decide +kernel
theorem nd_X4_product : yX4_product.cls ≠ "java/lang/invoke/MethodHandle" ∧ yX4_product.cls ≠ "java/lang/invoke/VarHandle" ∧ (parseMethodDescriptor yX4_product.desc).map (fun d => d.parameters.length) = some 3 := by decide +kernel
theorem nd_X4_ratio : yX4_ratio.cls ≠ "java/lang/invoke/MethodHandle" ∧ yX4_ratio.cls ≠ "java/lang/invoke/VarHandle" ∧ (parseMethodDescriptor yX4_ratio.desc).map (fun d => d.parameters.length) = some 4 := by decide +kernel
theorem nd_X4_share : yX4_share.cls ≠ "java/lang/invoke/MethodHandle" ∧ yX4_share.cls ≠ "java/lang/invoke/VarHandle" ∧ (parseMethodDescriptor yX4_share.desc).map (fun d => d.parameters.length) = some 3 := by decide +kernel
theorem nd_X4_digit : yX4_digit.cls ≠ "java/lang/invoke/MethodHandle" ∧ yX4_digit.cls ≠ "java/lang/invoke/VarHandle" ∧ (parseMethodDescriptor yX4_digit.desc).map (fun d => d.parameters.length) = some 3 := by decide +kernel
theorem nd_X4_clear : yX4_clear.cls ≠ "java/lang/invoke/MethodHandle" ∧ yX4_clear.cls ≠ "java/lang/invoke/VarHandle" ∧ (parseMethodDescriptor yX4_clear.desc).map (fun d => d.parameters.length) = some 0 := by decide +kernel
theorem nd_X4_count : yX4_count.cls ≠ "java/lang/invoke/MethodHandle" ∧ yX4_count.cls ≠ "java/lang/invoke/VarHandle" ∧ (parseMethodDescriptor yX4_count.desc).map (fun d => d.parameters.length) = some 1 := by decide +kernel

set_option maxHeartbeats 4000000 in
set_option maxRecDepth 100000 in
theorem c_X4_put (l : Launch) (D : va_G) (cZ cI cJ : ClassId) (o wa sa ma tl gx gy tx tz kx ky : Nat) (cd ln cn ah : Int32) (fw : Nat → Int64) (fs : Nat → Int32) (d : Nat) (v : Int64) (hlim : lim fw) (hd : d < 16) : Cv l D cZ cI cJ yX4_put cX4_put 7 { frames := 0, cells := 0, slots := 0, locals := 0 } [.ref o, .int (nI d), .long v] [(o, .inr (4, [.int cd, .ref wa, .ref sa, .ref ma, .ref tl, .ref gx, .ref gy, .ref tx, .ref tz, .int ln, .ref kx, .ref ky, .int cn, .int ah])), (wa, .inl (cJ, 96, .inr (.inl fw))), (sa, .inl (cI, 16, .inl fs))] (S := (Nat → Int64) × (Nat → Int32)) (fun u => upn fw u.1 d v.toInt.natAbs ∧ u.2 = upd fs d (sg v.toInt)) (fun u => [(o, .inr (4, [.int cd, .ref wa, .ref sa, .ref ma, .ref tl, .ref gx, .ref gy, .ref tx, .ref tz, .int ln, .ref kx, .ref ky, .int cn, .int ah])), (wa, .inl (cJ, 96, .inr (.inl u.1))), (sa, .inl (cI, 16, .inl u.2))]) := by
  refine Cv.of (by decide) ?_
  intro p e s m args below meth c A Q hB hret hP hD hA
  obtain ⟨hx, hb, hr, hlocks, hml, hown, hnm, hTB, hK⟩ := hB
  have hown : s.vm.findClass RX4 = some m.cls := hown
  have hS : va_S A s.heap s.heap [] := va_S.rf
  have hl := lv_entry ([.ref o, .int (nI d), .long v]) (n := 7) (Nat.le_of_ble_eq_true rfl)
  rw [lg_entry_eq]
  generalize (lg_sl ([.ref o, .int (nI d), .long v]) ++ List.replicate (7 - (lg_sl ([.ref o, .int (nI d), .long v])).length) Slot.unset).toArray = ls at hl ⊢
  have hl : lv_has ls 7 [(0, .ref o), (1, .int (nI d)), (2, .long v)] := hl
  refine lv_lload_n hx hb dX4_put_0 rfl (lv_at hl 2 rfl) ?_
  refine lv_lconst (v := 0) hx hb dX4_put_1 (by decide) ?_
  refine W.lcmp hx hb dX4_put_2 ?_
  have J12 : ∀ (mm : Int64), ((0 ≤ v.toInt ∧ mm = v) ∨ (v.toInt < 0 ∧ mm = -v)) → ∀ (H : Heap) (locs : List Loc), va_P D vwCl [(o, .inr (4, [.int cd, .ref wa, .ref sa, .ref ma, .ref tl, .ref gx, .ref gy, .ref tx, .ref tz, .int ln, .ref kx, .ref ky, .int cn, .int ah])), (wa, .inl (cJ, 96, .inr (.inl fw))), (sa, .inl (cI, 16, .inl fs))] H → va_D A [(o, .inr (4, [.int cd, .ref wa, .ref sa, .ref ma, .ref tl, .ref gx, .ref gy, .ref tx, .ref tz, .int ln, .ref kx, .ref ky, .int cn, .int ah])), (wa, .inl (cJ, 96, .inr (.inl fw))), (sa, .inl (cI, 16, .inl fs))] → va_S A s.heap H locs → ∀ (ls : Array Slot), lv_has ls 7 [(0, .ref o), (1, .int (nI d)), (2, .long v)] → W p l e { frames := 0, cells := 0, slots := 0, locals := 0 } s m args below meth c H locs 0 0 Q (F0 m 12 ls [.long mm]) := by
    intro mm hm H locs hP hD hS ls hl
    refine lv_lstore (lv' := [(4, .long mm), (0, .ref o), (1, .int (nI d)), (2, .long v)]) hx hb dX4_put_12 hl (by decide) rfl (fun ls hl => ?_)
    refine lv_iconst (v := 2) hx hb dX4_put_14 (by decide) ?_
    refine lv_istore (lv' := [(6, .int 2), (4, .long mm), (0, .ref o), (1, .int (nI d)), (2, .long v)]) hx hb dX4_put_15 hl (by decide) rfl (fun ls hl => ?_)
    have L17 : ∀ (n17 : Nat) (k : Nat) (g : Nat → Int64), (6 < k + n17 ∧ 2 ≤ k ∧ k ≤ 6) → (∀ j, 2 ≤ j → j < k → g (6 * d + j) = 0) → (lim g) → (∀ j, ¬ (6 * d ≤ j ∧ j < 6 * d + 6) → g j = fw j) → ∀ (H : Heap) (locs : List Loc), va_P D vwCl [(o, .inr (4, [.int cd, .ref wa, .ref sa, .ref ma, .ref tl, .ref gx, .ref gy, .ref tx, .ref tz, .int ln, .ref kx, .ref ky, .int cn, .int ah])), (wa, .inl (cJ, 96, .inr (.inl g))), (sa, .inl (cI, 16, .inl fs))] H → va_D A [(o, .inr (4, [.int cd, .ref wa, .ref sa, .ref ma, .ref tl, .ref gx, .ref gy, .ref tx, .ref tz, .int ln, .ref kx, .ref ky, .int cn, .int ah])), (wa, .inl (cJ, 96, .inr (.inl g))), (sa, .inl (cI, 16, .inl fs))] → va_S A s.heap H locs → ∀ (ls : Array Slot), lv_has ls 7 [(0, .ref o), (1, .int (nI d)), (2, .long v), (4, .long mm), (6, .int (nI k))] → W p l e { frames := 0, cells := 0, slots := 0, locals := 0 } s m args below meth c H locs 0 0 Q (F0 m 17 ls []) := by
      intro n17
      induction n17 with
      | zero =>
        intro k g g1 g2 g3 g4
        exfalso; omega
      | succ n17 ih17 =>
        intro k g g1 g2 g3 g4 H locs hP hD hS ls hl
        refine lv_iload hx hb dX4_put_17 (lv_at hl 4 rfl) ?_
        refine lv_bipush (v := 6) hx hb dX4_put_19 (by decide) ?_
        refine lv_icmp_ge (tgt := 43) hx hb dX4_put_21 (by decide) (fun c_21 => ?_) (fun c_21 => ?_)
        · have hke : k = 6 := by have := (nI_leI (a := 6) (b := k) (by omega) (by omega)).mp c_21; omega
          refine lv_aload_n hx hb dX4_put_43 rfl (lv_at hl 0 rfl) ?_
          refine va_get (D := D) (ci := 4) (v := .ref wa) (C := RX4) (T := TX4) (N := 14) hx hb hTB tb_X4 hown hK.1 hP 0 rfl rfl 1 (by decide) (hTB _ tb_3_13) (fun _ h9 => h9) rfl dX4_put_44 ?_
          refine lv_bipush (v := 6) hx hb dX4_put_47 (by decide) ?_
          refine lv_iload_n hx hb dX4_put_49 rfl (lv_at hl 1 rfl) ?_
          refine lv_imul hx hb dX4_put_50 ?_
          refine lv_lload hx hb dX4_put_51 (lv_at hl 3 rfl) ?_
          refine lv_ldc2 (v := 4294967295) hx hb hown (hTB _ tb_6_22) dX4_put_53 ?_
          refine lv_land hx hb dX4_put_56 ?_
          refine va_last (f := g) hx hb hK.1 hP hD hS 1 2 rfl rfl (ix0_in (d := d) (by omega)) dX4_put_57 (fun H locs hP hD hS => ?_)
          rw [show (6 * (nI d)).toNatClampNeg = 6 * d from ix0_cl (by omega)] at hP hD
          have hP : va_P D vwCl [(o, .inr (4, [.int cd, .ref wa, .ref sa, .ref ma, .ref tl, .ref gx, .ref gy, .ref tx, .ref tz, .int ln, .ref kx, .ref ky, .int cn, .int ah])), (wa, .inl (cJ, 96, .inr (.inl (vp_updL g (6 * d) (mm &&& 4294967295))))), (sa, .inl (cI, 16, .inl fs))] H := hP
          have hD : va_D A [(o, .inr (4, [.int cd, .ref wa, .ref sa, .ref ma, .ref tl, .ref gx, .ref gy, .ref tx, .ref tz, .int ln, .ref kx, .ref ky, .int cn, .int ah])), (wa, .inl (cJ, 96, .inr (.inl (vp_updL g (6 * d) (mm &&& 4294967295))))), (sa, .inl (cI, 16, .inl fs))] := hD
          refine lv_aload_n hx hb dX4_put_58 rfl (lv_at hl 0 rfl) ?_
          refine va_get (D := D) (ci := 4) (v := .ref wa) (C := RX4) (T := TX4) (N := 14) hx hb hTB tb_X4 hown hK.1 hP 0 rfl rfl 1 (by decide) (hTB _ tb_3_13) (fun _ h9 => h9) rfl dX4_put_59 ?_
          refine lv_bipush (v := 6) hx hb dX4_put_62 (by decide) ?_
          refine lv_iload_n hx hb dX4_put_64 rfl (lv_at hl 1 rfl) ?_
          refine lv_imul hx hb dX4_put_65 ?_
          refine lv_iconst (v := 1) hx hb dX4_put_66 (by decide) ?_
          refine lv_iadd hx hb dX4_put_67 ?_
          refine lv_lload hx hb dX4_put_68 (lv_at hl 3 rfl) ?_
          refine lv_bipush (v := 32) hx hb dX4_put_70 (by decide) ?_
          refine lv_lushr (v := (mm.toUInt64 >>> ((32 : Int32).toInt64.toUInt64 &&& Int64.toUInt64 63)).toInt64) hx hb dX4_put_72 rfl ?_
          refine va_last (f := (vp_updL g (6 * d) (mm &&& 4294967295))) hx hb hK.1 hP hD hS 1 2 rfl rfl (ix_in (d := d) (k := 1) (by omega)) dX4_put_73 (fun H locs hP hD hS => ?_)
          rw [show ((6 * (nI d)) + 1).toNatClampNeg = 6 * d + 1 from ix_cl (k := 1) (by omega)] at hP hD
          have hP : va_P D vwCl [(o, .inr (4, [.int cd, .ref wa, .ref sa, .ref ma, .ref tl, .ref gx, .ref gy, .ref tx, .ref tz, .int ln, .ref kx, .ref ky, .int cn, .int ah])), (wa, .inl (cJ, 96, .inr (.inl (vp_updL (vp_updL g (6 * d) (mm &&& 4294967295)) (6 * d + 1) ((mm.toUInt64 >>> ((32 : Int32).toInt64.toUInt64 &&& Int64.toUInt64 63)).toInt64))))), (sa, .inl (cI, 16, .inl fs))] H := hP
          have hD : va_D A [(o, .inr (4, [.int cd, .ref wa, .ref sa, .ref ma, .ref tl, .ref gx, .ref gy, .ref tx, .ref tz, .int ln, .ref kx, .ref ky, .int cn, .int ah])), (wa, .inl (cJ, 96, .inr (.inl (vp_updL (vp_updL g (6 * d) (mm &&& 4294967295)) (6 * d + 1) ((mm.toUInt64 >>> ((32 : Int32).toInt64.toUInt64 &&& Int64.toUInt64 63)).toInt64))))), (sa, .inl (cI, 16, .inl fs))] := hD
          refine lv_aload_n hx hb dX4_put_74 rfl (lv_at hl 0 rfl) ?_
          refine va_get (D := D) (ci := 4) (v := .ref sa) (C := RX4) (T := TX4) (N := 14) hx hb hTB tb_X4 hown hK.1 hP 0 rfl rfl 2 (by decide) (hTB _ tb_3_15) (fun _ h9 => h9) rfl dX4_put_75 ?_
          refine lv_iload_n hx hb dX4_put_78 rfl (lv_at hl 1 rfl) ?_
          refine lv_lload_n hx hb dX4_put_79 rfl (lv_at hl 2 rfl) ?_
          refine lv_lconst (v := 0) hx hb dX4_put_80 (by decide) ?_
          refine W.lcmp hx hb dX4_put_81 ?_
          refine lv_if_ge (tgt := 89) hx hb dX4_put_82 (by decide) (fun c_82 => ?_) (fun c_82 => ?_)
          · have c_82 : (0 : Int) ≤ v.toInt := lc_ge c_82
            refine lv_lload_n hx hb dX4_put_89 rfl (lv_at hl 2 rfl) ?_
            refine lv_lconst (v := 0) hx hb dX4_put_90 (by decide) ?_
            refine W.lcmp hx hb dX4_put_91 ?_
            refine lv_if_le (tgt := 99) hx hb dX4_put_92 (by decide) (fun c_92 => ?_) (fun c_92 => ?_)
            · have c_92 : v.toInt ≤ (0 : Int) := lc_le c_92
              refine lv_iconst (v := 0) hx hb dX4_put_99 (by decide) ?_
              refine va_iast (f := fs) hx hb hK.1 hP hD hS 2 1 rfl rfl (vp_in_nI (show d < 16 by omega) (by decide)) dX4_put_100 (fun H locs hP hD hS => ?_)
              rw [show (nI d).toNatClampNeg = d from nI_clamp (by omega)] at hP hD
              have hP : va_P D vwCl [(o, .inr (4, [.int cd, .ref wa, .ref sa, .ref ma, .ref tl, .ref gx, .ref gy, .ref tx, .ref tz, .int ln, .ref kx, .ref ky, .int cn, .int ah])), (wa, .inl (cJ, 96, .inr (.inl (vp_updL (vp_updL g (6 * d) (mm &&& 4294967295)) (6 * d + 1) ((mm.toUInt64 >>> ((32 : Int32).toInt64.toUInt64 &&& Int64.toUInt64 63)).toInt64))))), (sa, .inl (cI, 16, .inl (upd fs d 0)))] H := hP
              have hD : va_D A [(o, .inr (4, [.int cd, .ref wa, .ref sa, .ref ma, .ref tl, .ref gx, .ref gy, .ref tx, .ref tz, .int ln, .ref kx, .ref ky, .int cn, .int ah])), (wa, .inl (cJ, 96, .inr (.inl (vp_updL (vp_updL g (6 * d) (mm &&& 4294967295)) (6 * d + 1) ((mm.toUInt64 >>> ((32 : Int32).toInt64.toUInt64 &&& Int64.toUInt64 63)).toInt64))))), (sa, .inl (cI, 16, .inl (upd fs d 0)))] := hD
              exact hret hP hD hS (vp_updL (vp_updL g (6 * d) (mm &&& 4294967295)) (6 * d + 1) ((mm.toUInt64 >>> ((32 : Int32).toInt64.toUInt64 &&& Int64.toUInt64 63)).toInt64), upd fs d 0) (⟨⟨lim_up (lim_up g3 (by rw [uN_lo]; exact Nat.mod_lt _ (by decide))) (by rw [uN_s32]; have := uN_lt mm; omega), (put_num (f := fw) (fun j h1 h2 => g2 j h1 (by omega))).trans (abs_m (hm)), fun j hj => by dsimp only; rw [pk_uLn (by omega), pk_uLn (by omega)]; exact g4 j hj⟩, by rw [show sg v.toInt = 0 from by unfold sg; rw [if_neg (by omega), if_pos (by omega)]]⟩) [0, 1, 2] rfl (by decide) dX4_put_101 (Nat.le_of_ble_eq_true rfl) (Nat.le_of_ble_eq_true rfl)
            · have c_92 : (0 : Int) < v.toInt := lc_nle c_92
              refine lv_iconst (v := 1) hx hb dX4_put_95 (by decide) ?_
              refine lv_goto (tgt := 100) hx hb dX4_put_96 (by decide) ?_
              refine va_iast (f := fs) hx hb hK.1 hP hD hS 2 1 rfl rfl (vp_in_nI (show d < 16 by omega) (by decide)) dX4_put_100 (fun H locs hP hD hS => ?_)
              rw [show (nI d).toNatClampNeg = d from nI_clamp (by omega)] at hP hD
              have hP : va_P D vwCl [(o, .inr (4, [.int cd, .ref wa, .ref sa, .ref ma, .ref tl, .ref gx, .ref gy, .ref tx, .ref tz, .int ln, .ref kx, .ref ky, .int cn, .int ah])), (wa, .inl (cJ, 96, .inr (.inl (vp_updL (vp_updL g (6 * d) (mm &&& 4294967295)) (6 * d + 1) ((mm.toUInt64 >>> ((32 : Int32).toInt64.toUInt64 &&& Int64.toUInt64 63)).toInt64))))), (sa, .inl (cI, 16, .inl (upd fs d 1)))] H := hP
              have hD : va_D A [(o, .inr (4, [.int cd, .ref wa, .ref sa, .ref ma, .ref tl, .ref gx, .ref gy, .ref tx, .ref tz, .int ln, .ref kx, .ref ky, .int cn, .int ah])), (wa, .inl (cJ, 96, .inr (.inl (vp_updL (vp_updL g (6 * d) (mm &&& 4294967295)) (6 * d + 1) ((mm.toUInt64 >>> ((32 : Int32).toInt64.toUInt64 &&& Int64.toUInt64 63)).toInt64))))), (sa, .inl (cI, 16, .inl (upd fs d 1)))] := hD
              exact hret hP hD hS (vp_updL (vp_updL g (6 * d) (mm &&& 4294967295)) (6 * d + 1) ((mm.toUInt64 >>> ((32 : Int32).toInt64.toUInt64 &&& Int64.toUInt64 63)).toInt64), upd fs d 1) (⟨⟨lim_up (lim_up g3 (by rw [uN_lo]; exact Nat.mod_lt _ (by decide))) (by rw [uN_s32]; have := uN_lt mm; omega), (put_num (f := fw) (fun j h1 h2 => g2 j h1 (by omega))).trans (abs_m (hm)), fun j hj => by dsimp only; rw [pk_uLn (by omega), pk_uLn (by omega)]; exact g4 j hj⟩, by rw [show sg v.toInt = 1 from by unfold sg; rw [if_neg (by omega), if_neg (by omega)]]⟩) [0, 1, 2] rfl (by decide) dX4_put_101 (Nat.le_of_ble_eq_true rfl) (Nat.le_of_ble_eq_true rfl)
          · have c_82 : v.toInt < (0 : Int) := lc_nge c_82
            refine lv_iconst (v := (-1)) hx hb dX4_put_85 (by decide) ?_
            refine lv_goto (tgt := 100) hx hb dX4_put_86 (by decide) ?_
            refine va_iast (f := fs) hx hb hK.1 hP hD hS 2 1 rfl rfl (vp_in_nI (show d < 16 by omega) (by decide)) dX4_put_100 (fun H locs hP hD hS => ?_)
            rw [show (nI d).toNatClampNeg = d from nI_clamp (by omega)] at hP hD
            have hP : va_P D vwCl [(o, .inr (4, [.int cd, .ref wa, .ref sa, .ref ma, .ref tl, .ref gx, .ref gy, .ref tx, .ref tz, .int ln, .ref kx, .ref ky, .int cn, .int ah])), (wa, .inl (cJ, 96, .inr (.inl (vp_updL (vp_updL g (6 * d) (mm &&& 4294967295)) (6 * d + 1) ((mm.toUInt64 >>> ((32 : Int32).toInt64.toUInt64 &&& Int64.toUInt64 63)).toInt64))))), (sa, .inl (cI, 16, .inl (upd fs d (-1))))] H := hP
            have hD : va_D A [(o, .inr (4, [.int cd, .ref wa, .ref sa, .ref ma, .ref tl, .ref gx, .ref gy, .ref tx, .ref tz, .int ln, .ref kx, .ref ky, .int cn, .int ah])), (wa, .inl (cJ, 96, .inr (.inl (vp_updL (vp_updL g (6 * d) (mm &&& 4294967295)) (6 * d + 1) ((mm.toUInt64 >>> ((32 : Int32).toInt64.toUInt64 &&& Int64.toUInt64 63)).toInt64))))), (sa, .inl (cI, 16, .inl (upd fs d (-1))))] := hD
            exact hret hP hD hS (vp_updL (vp_updL g (6 * d) (mm &&& 4294967295)) (6 * d + 1) ((mm.toUInt64 >>> ((32 : Int32).toInt64.toUInt64 &&& Int64.toUInt64 63)).toInt64), upd fs d (-1)) (⟨⟨lim_up (lim_up g3 (by rw [uN_lo]; exact Nat.mod_lt _ (by decide))) (by rw [uN_s32]; have := uN_lt mm; omega), (put_num (f := fw) (fun j h1 h2 => g2 j h1 (by omega))).trans (abs_m (hm)), fun j hj => by dsimp only; rw [pk_uLn (by omega), pk_uLn (by omega)]; exact g4 j hj⟩, by rw [show sg v.toInt = (-1) from by unfold sg; rw [if_pos (by omega)]]⟩) [0, 1, 2] rfl (by decide) dX4_put_101 (Nat.le_of_ble_eq_true rfl) (Nat.le_of_ble_eq_true rfl)
        · have hk : k < 6 := Nat.not_le.mp (fun q => c_21 ((nI_leI (a := 6) (b := k) (by omega) (by omega)).mpr q))
          refine lv_aload_n hx hb dX4_put_24 rfl (lv_at hl 0 rfl) ?_
          refine va_get (D := D) (ci := 4) (v := .ref wa) (C := RX4) (T := TX4) (N := 14) hx hb hTB tb_X4 hown hK.1 hP 0 rfl rfl 1 (by decide) (hTB _ tb_3_13) (fun _ h9 => h9) rfl dX4_put_25 ?_
          refine lv_bipush (v := 6) hx hb dX4_put_28 (by decide) ?_
          refine lv_iload_n hx hb dX4_put_30 rfl (lv_at hl 1 rfl) ?_
          refine lv_imul hx hb dX4_put_31 ?_
          refine lv_iload hx hb dX4_put_32 (lv_at hl 4 rfl) ?_
          refine lv_iadd hx hb dX4_put_34 ?_
          refine lv_lconst (v := 0) hx hb dX4_put_35 (by decide) ?_
          refine va_last (f := g) hx hb hK.1 hP hD hS 1 2 rfl rfl (ix_in (d := d) (k := k) (by omega)) dX4_put_36 (fun H locs hP hD hS => ?_)
          rw [show ((6 * (nI d)) + (nI k)).toNatClampNeg = 6 * d + k from ix_cl (by omega)] at hP hD
          have hP : va_P D vwCl [(o, .inr (4, [.int cd, .ref wa, .ref sa, .ref ma, .ref tl, .ref gx, .ref gy, .ref tx, .ref tz, .int ln, .ref kx, .ref ky, .int cn, .int ah])), (wa, .inl (cJ, 96, .inr (.inl (vp_updL g (6 * d + k) 0)))), (sa, .inl (cI, 16, .inl fs))] H := hP
          have hD : va_D A [(o, .inr (4, [.int cd, .ref wa, .ref sa, .ref ma, .ref tl, .ref gx, .ref gy, .ref tx, .ref tz, .int ln, .ref kx, .ref ky, .int cn, .int ah])), (wa, .inl (cJ, 96, .inr (.inl (vp_updL g (6 * d + k) 0)))), (sa, .inl (cI, 16, .inl fs))] := hD
          obtain ⟨i6_1, ei6_1⟩ : ∃ y : Int32, y = (nI k) + 1 := ⟨_, rfl⟩
          refine lv_iinc (v := i6_1) (lv' := [(6, .int i6_1), (0, .ref o), (1, .int (nI d)), (2, .long v), (4, .long mm)]) hx hb dX4_put_37 hl (k := 4) rfl (by rw [ei6_1]; rfl) (by decide) rfl (fun ls hl => ?_)
          refine lv_goto (tgt := 17) hx hb dX4_put_40 (by decide) ?_
          have q6 : i6_1 = nI (k + 1) := by rw [ei6_1]; exact nI_1 k
          subst q6
          refine ih17 (k + 1) (vp_updL g (6 * d + k) 0) ?_ ?_ ?_ ?_ _ _ hP hD hS _ (lv_sub hl [1, 2, 3, 4, 0] rfl)
          · omega
          · intro j h1 h2
            by_cases h : j = k
            · subst h; exact pk_uLs
            · rw [pk_uLn (by omega)]; exact g2 j h1 (by omega)
          · exact lim_up g3 (by decide)
          · intro j hj
            rw [pk_uLn (by omega)]; exact g4 j hj
    refine L17 7 2 fw ?_ ?_ ?_ ?_ _ _ hP hD hS _ (lv_sub hl [2, 3, 4, 1, 0] rfl)
    · omega
    · intro j h1 h2; omega
    · exact hlim
    · intro j _; rfl
  refine lv_if_ge (tgt := 11) hx hb dX4_put_3 (by decide) (fun c_3 => ?_) (fun c_3 => ?_)
  · have c_3 : (0 : Int) ≤ v.toInt := lc_ge c_3
    refine lv_lload_n hx hb dX4_put_11 rfl (lv_at hl 2 rfl) ?_
    refine J12 v ?_ _ _ hP hD hS _ (lv_sub hl [0, 1, 2] rfl)
    · exact Or.inl ⟨c_3, rfl⟩
  · have c_3 : v.toInt < (0 : Int) := lc_nge c_3
    refine lv_lload_n hx hb dX4_put_6 rfl (lv_at hl 2 rfl) ?_
    refine lv_lneg hx hb dX4_put_7 ?_
    refine lv_goto (tgt := 12) hx hb dX4_put_8 (by decide) ?_
    refine J12 (-v) ?_ _ _ hP hD hS _ (lv_sub hl [0, 1, 2] rfl)
    · exact Or.inr ⟨c_3, rfl⟩

set_option maxHeartbeats 4000000 in
set_option maxRecDepth 100000 in
theorem c_X4_copy (l : Launch) (D : va_G) (cZ cI cJ : ClassId) (o wa sa ma tl gx gy tx tz kx ky : Nat) (cd ln cn ah : Int32) (fw : Nat → Int64) (fs : Nat → Int32) (d a : Nat) (hlim : lim fw) (hd : d < 16) (ha : a < 16) (hda : d ≠ a) : Cv l D cZ cI cJ yX4_copy cX4_copy 4 { frames := 0, cells := 0, slots := 0, locals := 0 } [.ref o, .int (nI d), .int (nI a)] [(o, .inr (4, [.int cd, .ref wa, .ref sa, .ref ma, .ref tl, .ref gx, .ref gy, .ref tx, .ref tz, .int ln, .ref kx, .ref ky, .int cn, .int ah])), (wa, .inl (cJ, 96, .inr (.inl fw))), (sa, .inl (cI, 16, .inl fs))] (S := (Nat → Int64) × (Nat → Int32)) (fun u => upn fw u.1 d (num fw a) ∧ u.2 = upd fs d (fs a)) (fun u => [(o, .inr (4, [.int cd, .ref wa, .ref sa, .ref ma, .ref tl, .ref gx, .ref gy, .ref tx, .ref tz, .int ln, .ref kx, .ref ky, .int cn, .int ah])), (wa, .inl (cJ, 96, .inr (.inl u.1))), (sa, .inl (cI, 16, .inl u.2))]) := by
  refine Cv.of (by decide) ?_
  intro p e s m args below meth c A Q hB hret hP hD hA
  obtain ⟨hx, hb, hr, hlocks, hml, hown, hnm, hTB, hK⟩ := hB
  have hown : s.vm.findClass RX4 = some m.cls := hown
  have hS : va_S A s.heap s.heap [] := va_S.rf
  have hl := lv_entry ([.ref o, .int (nI d), .int (nI a)]) (n := 4) (Nat.le_of_ble_eq_true rfl)
  rw [lg_entry_eq]
  generalize (lg_sl ([.ref o, .int (nI d), .int (nI a)]) ++ List.replicate (4 - (lg_sl ([.ref o, .int (nI d), .int (nI a)])).length) Slot.unset).toArray = ls at hl ⊢
  have hl : lv_has ls 4 [(0, .ref o), (1, .int (nI d)), (2, .int (nI a))] := hl
  refine lv_iconst (v := 0) hx hb dX4_copy_0 (by decide) ?_
  refine lv_istore_n (lv' := [(3, .int 0), (0, .ref o), (1, .int (nI d)), (2, .int (nI a))]) hx hb dX4_copy_1 rfl hl (by decide) rfl (fun ls hl => ?_)
  have L2 : ∀ (n2 : Nat) (k : Nat) (g : Nat → Int64), (6 < k + n2 ∧ k ≤ 6) → (∀ j, j < k → g (6 * d + j) = fw (6 * a + j)) → (lim g) → (∀ j, ¬ (6 * d ≤ j ∧ j < 6 * d + 6) → g j = fw j) → ∀ (H : Heap) (locs : List Loc), va_P D vwCl [(o, .inr (4, [.int cd, .ref wa, .ref sa, .ref ma, .ref tl, .ref gx, .ref gy, .ref tx, .ref tz, .int ln, .ref kx, .ref ky, .int cn, .int ah])), (wa, .inl (cJ, 96, .inr (.inl g))), (sa, .inl (cI, 16, .inl fs))] H → va_D A [(o, .inr (4, [.int cd, .ref wa, .ref sa, .ref ma, .ref tl, .ref gx, .ref gy, .ref tx, .ref tz, .int ln, .ref kx, .ref ky, .int cn, .int ah])), (wa, .inl (cJ, 96, .inr (.inl g))), (sa, .inl (cI, 16, .inl fs))] → va_S A s.heap H locs → ∀ (ls : Array Slot), lv_has ls 4 [(0, .ref o), (1, .int (nI d)), (2, .int (nI a)), (3, .int (nI k))] → W p l e { frames := 0, cells := 0, slots := 0, locals := 0 } s m args below meth c H locs 0 0 Q (F0 m 2 ls []) := by
    intro n2
    induction n2 with
    | zero =>
      intro k g g1 g2 g3 g4
      exfalso; omega
    | succ n2 ih2 =>
      intro k g g1 g2 g3 g4 H locs hP hD hS ls hl
      refine lv_iload_n hx hb dX4_copy_2 rfl (lv_at hl 3 rfl) ?_
      refine lv_bipush (v := 6) hx hb dX4_copy_3 (by decide) ?_
      refine lv_icmp_ge (tgt := 36) hx hb dX4_copy_5 (by decide) (fun c_5 => ?_) (fun c_5 => ?_)
      · have hke : k = 6 := by have := (nI_leI (a := 6) (b := k) (by omega) (by omega)).mp c_5; omega
        refine lv_aload_n hx hb dX4_copy_36 rfl (lv_at hl 0 rfl) ?_
        refine va_get (D := D) (ci := 4) (v := .ref sa) (C := RX4) (T := TX4) (N := 14) hx hb hTB tb_X4 hown hK.1 hP 0 rfl rfl 2 (by decide) (hTB _ tb_3_15) (fun _ h9 => h9) rfl dX4_copy_37 ?_
        refine lv_iload_n hx hb dX4_copy_40 rfl (lv_at hl 1 rfl) ?_
        refine lv_aload_n hx hb dX4_copy_41 rfl (lv_at hl 0 rfl) ?_
        refine va_get (D := D) (ci := 4) (v := .ref sa) (C := RX4) (T := TX4) (N := 14) hx hb hTB tb_X4 hown hK.1 hP 0 rfl rfl 2 (by decide) (hTB _ tb_3_15) (fun _ h9 => h9) rfl dX4_copy_42 ?_
        refine lv_iload_n hx hb dX4_copy_45 rfl (lv_at hl 2 rfl) ?_
        refine va_iald (f := fs) hx hb hK.1 hP 2 1 rfl rfl (vp_in_nI (show a < 16 by omega) (by decide)) dX4_copy_46 ?_
        rw [show (nI a).toNatClampNeg = a from nI_clamp (by omega)]
        refine va_iast (f := fs) hx hb hK.1 hP hD hS 2 1 rfl rfl (vp_in_nI (show d < 16 by omega) (by decide)) dX4_copy_47 (fun H locs hP hD hS => ?_)
        rw [show (nI d).toNatClampNeg = d from nI_clamp (by omega)] at hP hD
        have hP : va_P D vwCl [(o, .inr (4, [.int cd, .ref wa, .ref sa, .ref ma, .ref tl, .ref gx, .ref gy, .ref tx, .ref tz, .int ln, .ref kx, .ref ky, .int cn, .int ah])), (wa, .inl (cJ, 96, .inr (.inl g))), (sa, .inl (cI, 16, .inl (upd fs d (fs a))))] H := hP
        have hD : va_D A [(o, .inr (4, [.int cd, .ref wa, .ref sa, .ref ma, .ref tl, .ref gx, .ref gy, .ref tx, .ref tz, .int ln, .ref kx, .ref ky, .int cn, .int ah])), (wa, .inl (cJ, 96, .inr (.inl g))), (sa, .inl (cI, 16, .inl (upd fs d (fs a))))] := hD
        exact hret hP hD hS (g, upd fs d (fs a)) (⟨⟨g3, nm_congr (fun j hj => g2 j (by omega)), g4⟩, rfl⟩) [0, 1, 2] rfl (by decide) dX4_copy_48 (Nat.le_of_ble_eq_true rfl) (Nat.le_of_ble_eq_true rfl)
      · have hk : k < 6 := Nat.not_le.mp (fun q => c_5 ((nI_leI (a := 6) (b := k) (by omega) (by omega)).mpr q))
        refine lv_aload_n hx hb dX4_copy_8 rfl (lv_at hl 0 rfl) ?_
        refine va_get (D := D) (ci := 4) (v := .ref wa) (C := RX4) (T := TX4) (N := 14) hx hb hTB tb_X4 hown hK.1 hP 0 rfl rfl 1 (by decide) (hTB _ tb_3_13) (fun _ h9 => h9) rfl dX4_copy_9 ?_
        refine lv_bipush (v := 6) hx hb dX4_copy_12 (by decide) ?_
        refine lv_iload_n hx hb dX4_copy_14 rfl (lv_at hl 1 rfl) ?_
        refine lv_imul hx hb dX4_copy_15 ?_
        refine lv_iload_n hx hb dX4_copy_16 rfl (lv_at hl 3 rfl) ?_
        refine lv_iadd hx hb dX4_copy_17 ?_
        refine lv_aload_n hx hb dX4_copy_18 rfl (lv_at hl 0 rfl) ?_
        refine va_get (D := D) (ci := 4) (v := .ref wa) (C := RX4) (T := TX4) (N := 14) hx hb hTB tb_X4 hown hK.1 hP 0 rfl rfl 1 (by decide) (hTB _ tb_3_13) (fun _ h9 => h9) rfl dX4_copy_19 ?_
        refine lv_bipush (v := 6) hx hb dX4_copy_22 (by decide) ?_
        refine lv_iload_n hx hb dX4_copy_24 rfl (lv_at hl 2 rfl) ?_
        refine lv_imul hx hb dX4_copy_25 ?_
        refine lv_iload_n hx hb dX4_copy_26 rfl (lv_at hl 3 rfl) ?_
        refine lv_iadd hx hb dX4_copy_27 ?_
        refine va_lald (f := g) hx hb hK.1 hP 1 2 rfl rfl (ix_in (d := a) (k := k) (by omega)) dX4_copy_28 ?_
        rw [show ((6 * (nI a)) + (nI k)).toNatClampNeg = 6 * a + k from ix_cl (by omega)]
        refine va_last (f := g) hx hb hK.1 hP hD hS 1 2 rfl rfl (ix_in (d := d) (k := k) (by omega)) dX4_copy_29 (fun H locs hP hD hS => ?_)
        rw [show ((6 * (nI d)) + (nI k)).toNatClampNeg = 6 * d + k from ix_cl (by omega)] at hP hD
        have hP : va_P D vwCl [(o, .inr (4, [.int cd, .ref wa, .ref sa, .ref ma, .ref tl, .ref gx, .ref gy, .ref tx, .ref tz, .int ln, .ref kx, .ref ky, .int cn, .int ah])), (wa, .inl (cJ, 96, .inr (.inl (vp_updL g (6 * d + k) (g (6 * a + k)))))), (sa, .inl (cI, 16, .inl fs))] H := hP
        have hD : va_D A [(o, .inr (4, [.int cd, .ref wa, .ref sa, .ref ma, .ref tl, .ref gx, .ref gy, .ref tx, .ref tz, .int ln, .ref kx, .ref ky, .int cn, .int ah])), (wa, .inl (cJ, 96, .inr (.inl (vp_updL g (6 * d + k) (g (6 * a + k)))))), (sa, .inl (cI, 16, .inl fs))] := hD
        obtain ⟨i3_1, ei3_1⟩ : ∃ y : Int32, y = (nI k) + 1 := ⟨_, rfl⟩
        refine lv_iinc (v := i3_1) (lv' := [(3, .int i3_1), (0, .ref o), (1, .int (nI d)), (2, .int (nI a))]) hx hb dX4_copy_30 hl (k := 3) rfl (by rw [ei3_1]; rfl) (by decide) rfl (fun ls hl => ?_)
        refine lv_goto (tgt := 2) hx hb dX4_copy_33 (by decide) ?_
        have q3 : i3_1 = nI (k + 1) := by rw [ei3_1]; exact nI_1 k
        subst q3
        refine ih2 (k + 1) (vp_updL g (6 * d + k) (g (6 * a + k))) ?_ ?_ ?_ ?_ _ _ hP hD hS _ (lv_sub hl [1, 2, 3, 0] rfl)
        · omega
        · intro j h1
          by_cases h : j = k
          · subst h; rw [pk_uLs]; exact g4 _ (by omega)
          · rw [pk_uLn (by omega)]; exact g2 j (by omega)
        · exact lim_up g3 (g3 _ (by omega))
        · intro j hj
          rw [pk_uLn (by omega)]; exact g4 j hj
  refine L2 7 0 fw ?_ ?_ ?_ ?_ _ _ hP hD hS _ (lv_sub hl [1, 2, 3, 0] rfl)
  · omega
  · intro j h1; omega
  · exact hlim
  · intro j _; rfl

set_option maxHeartbeats 4000000 in
set_option maxRecDepth 100000 in
theorem c_X4_compare (l : Launch) (D : va_G) (cZ cI cJ : ClassId) (o wa sa ma tl gx gy tx tz kx ky : Nat) (cd ln cn ah : Int32) (fw : Nat → Int64) (a b : Nat) (hlim : lim fw) (ha : a < 16) (hb9 : b < 16) : Ri l D cZ cI cJ yX4_compare cX4_compare 4 (some .int) { frames := 0, cells := 0, slots := 0, locals := 0 } [.ref o, .int (nI a), .int (nI b)] [(o, .inr (4, [.int cd, .ref wa, .ref sa, .ref ma, .ref tl, .ref gx, .ref gy, .ref tx, .ref tz, .int ln, .ref kx, .ref ky, .int cn, .int ah])), (wa, .inl (cJ, 96, .inr (.inl fw)))] (fun r => r = cm (num fw a) (num fw b)) := by
  refine Ri.of (by decide) ?_
  intro p e s m args below meth c Q hB hret hP
  obtain ⟨hx, hb, hr, hlocks, hml, hown, hnm, hTB, hK⟩ := hB
  have hown : s.vm.findClass RX4 = some m.cls := hown
  have hl := lv_entry ([.ref o, .int (nI a), .int (nI b)]) (n := 4) (Nat.le_of_ble_eq_true rfl)
  rw [lg_entry_eq]
  generalize (lg_sl ([.ref o, .int (nI a), .int (nI b)]) ++ List.replicate (4 - (lg_sl ([.ref o, .int (nI a), .int (nI b)])).length) Slot.unset).toArray = ls at hl ⊢
  have hl : lv_has ls 4 [(0, .ref o), (1, .int (nI a)), (2, .int (nI b))] := hl
  refine lv_iconst (v := 5) hx hb dX4_compare_0 (by decide) ?_
  refine lv_istore_n (lv' := [(3, .int 5), (0, .ref o), (1, .int (nI a)), (2, .int (nI b))]) hx hb dX4_compare_1 rfl hl (by decide) rfl (fun ls hl => ?_)
  have L2 : ∀ (n2 : Nat) (j : Nat) (x3 : Int32), (j < n2 ∧ j ≤ 6) → (x3 = nI j - 1) → (∀ t, j ≤ t → t < 6 → fw (6 * a + t) = fw (6 * b + t)) → ∀ (ls : Array Slot), lv_has ls 4 [(0, .ref o), (1, .int (nI a)), (2, .int (nI b)), (3, .int x3)] → W p l e { frames := 0, cells := 0, slots := 0, locals := 0 } s m args below meth c s.heap [] 0 0 Q (F0 m 2 ls []) := by
    intro n2
    induction n2 with
    | zero =>
      intro j x3 g1 g2 g3
      exfalso; omega
    | succ n2 ih2 =>
      intro j x3 g1 g2 g3 ls hl
      refine lv_iload_n hx hb dX4_compare_2 rfl (lv_at hl 3 rfl) ?_
      refine lv_if_lt (tgt := 70) hx hb dX4_compare_3 (by decide) (fun c_3 => ?_) (fun c_3 => ?_)
      · refine lv_iconst (v := 0) hx hb dX4_compare_70 (by decide) ?_
        exact hret rfl (by have hj := ni_pt (by omega) g2 c_3; subst hj; unfold cm; rw [if_neg, if_pos]; exact congrArg Int.ofNat (nm_congr (fun t ht => g3 t (by omega) ht)); have e : num fw a = num fw b := nm_congr (fun t ht => g3 t (by omega) ht); omega) dX4_compare_71
      · obtain ⟨i, rfl, ei⟩ := ni_pf (by omega) g2 c_3
        refine lv_aload_n hx hb dX4_compare_6 rfl (lv_at hl 0 rfl) ?_
        refine va_get (D := D) (ci := 4) (v := .ref wa) (C := RX4) (T := TX4) (N := 14) hx hb hTB tb_X4 hown hK.1 hP 0 rfl rfl 1 (by decide) (hTB _ tb_3_13) (fun _ h9 => h9) rfl dX4_compare_7 ?_
        refine lv_bipush (v := 6) hx hb dX4_compare_10 (by decide) ?_
        refine lv_iload_n hx hb dX4_compare_12 rfl (lv_at hl 1 rfl) ?_
        refine lv_imul hx hb dX4_compare_13 ?_
        refine lv_iload_n hx hb dX4_compare_14 rfl (lv_at hl 3 rfl) ?_
        refine lv_iadd hx hb dX4_compare_15 ?_
        refine va_lald (f := fw) hx hb hK.1 hP 1 2 rfl rfl (by rw [ei]; exact ix_in (d := a) (k := i) (by omega)) dX4_compare_16 ?_
        rw [show ((6 * (nI a)) + x3).toNatClampNeg = 6 * a + i from by rw [ei]; exact ix_cl (by omega)]
        refine lv_aload_n hx hb dX4_compare_17 rfl (lv_at hl 0 rfl) ?_
        refine va_get (D := D) (ci := 4) (v := .ref wa) (C := RX4) (T := TX4) (N := 14) hx hb hTB tb_X4 hown hK.1 hP 0 rfl rfl 1 (by decide) (hTB _ tb_3_13) (fun _ h9 => h9) rfl dX4_compare_18 ?_
        refine lv_bipush (v := 6) hx hb dX4_compare_21 (by decide) ?_
        refine lv_iload_n hx hb dX4_compare_23 rfl (lv_at hl 2 rfl) ?_
        refine lv_imul hx hb dX4_compare_24 ?_
        refine lv_iload_n hx hb dX4_compare_25 rfl (lv_at hl 3 rfl) ?_
        refine lv_iadd hx hb dX4_compare_26 ?_
        refine va_lald (f := fw) hx hb hK.1 hP 1 2 rfl rfl (by rw [ei]; exact ix_in (d := b) (k := i) (by omega)) dX4_compare_27 ?_
        rw [show ((6 * (nI b)) + x3).toNatClampNeg = 6 * b + i from by rw [ei]; exact ix_cl (by omega)]
        refine W.lcmp hx hb dX4_compare_28 ?_
        refine lv_if_eq (tgt := 64) hx hb dX4_compare_29 (by decide) (fun c_29 => ?_) (fun c_29 => ?_)
        · have c_29 : (fw (6 * a + i)).toInt = (fw (6 * b + i)).toInt := lc_eq c_29
          obtain ⟨i3_1, ei3_1⟩ : ∃ y : Int32, y = x3 + (-1) := ⟨_, rfl⟩
          refine lv_iinc (v := i3_1) (lv' := [(3, .int i3_1), (0, .ref o), (1, .int (nI a)), (2, .int (nI b))]) hx hb dX4_compare_64 hl (k := 3) rfl (by rw [ei3_1]; rfl) (by decide) rfl (fun ls hl => ?_)
          refine lv_goto (tgt := 2) hx hb dX4_compare_67 (by decide) ?_
          refine ih2 i i3_1 ?_ ?_ ?_ _ (lv_sub hl [1, 2, 3, 0] rfl)
          · omega
          · rw [ei3_1, ei, ni_m]
          · intro t h1 h2
            by_cases h : t = i
            · subst h; exact i64_eq.mpr c_29
            · exact g3 t (by omega) h2
        · have c_29 : (fw (6 * a + i)).toInt ≠ (fw (6 * b + i)).toInt := lc_ne c_29
          refine lv_aload_n hx hb dX4_compare_32 rfl (lv_at hl 0 rfl) ?_
          refine va_get (D := D) (ci := 4) (v := .ref wa) (C := RX4) (T := TX4) (N := 14) hx hb hTB tb_X4 hown hK.1 hP 0 rfl rfl 1 (by decide) (hTB _ tb_3_13) (fun _ h9 => h9) rfl dX4_compare_33 ?_
          refine lv_bipush (v := 6) hx hb dX4_compare_36 (by decide) ?_
          refine lv_iload_n hx hb dX4_compare_38 rfl (lv_at hl 1 rfl) ?_
          refine lv_imul hx hb dX4_compare_39 ?_
          refine lv_iload_n hx hb dX4_compare_40 rfl (lv_at hl 3 rfl) ?_
          refine lv_iadd hx hb dX4_compare_41 ?_
          refine va_lald (f := fw) hx hb hK.1 hP 1 2 rfl rfl (by rw [ei]; exact ix_in (d := a) (k := i) (by omega)) dX4_compare_42 ?_
          rw [show ((6 * (nI a)) + x3).toNatClampNeg = 6 * a + i from by rw [ei]; exact ix_cl (by omega)]
          refine lv_aload_n hx hb dX4_compare_43 rfl (lv_at hl 0 rfl) ?_
          refine va_get (D := D) (ci := 4) (v := .ref wa) (C := RX4) (T := TX4) (N := 14) hx hb hTB tb_X4 hown hK.1 hP 0 rfl rfl 1 (by decide) (hTB _ tb_3_13) (fun _ h9 => h9) rfl dX4_compare_44 ?_
          refine lv_bipush (v := 6) hx hb dX4_compare_47 (by decide) ?_
          refine lv_iload_n hx hb dX4_compare_49 rfl (lv_at hl 2 rfl) ?_
          refine lv_imul hx hb dX4_compare_50 ?_
          refine lv_iload_n hx hb dX4_compare_51 rfl (lv_at hl 3 rfl) ?_
          refine lv_iadd hx hb dX4_compare_52 ?_
          refine va_lald (f := fw) hx hb hK.1 hP 1 2 rfl rfl (by rw [ei]; exact ix_in (d := b) (k := i) (by omega)) dX4_compare_53 ?_
          rw [show ((6 * (nI b)) + x3).toNatClampNeg = 6 * b + i from by rw [ei]; exact ix_cl (by omega)]
          refine W.lcmp hx hb dX4_compare_54 ?_
          refine lv_if_le (tgt := 62) hx hb dX4_compare_55 (by decide) (fun c_55 => ?_) (fun c_55 => ?_)
          · have c_55 : (fw (6 * a + i)).toInt ≤ (fw (6 * b + i)).toInt := lc_le c_55
            refine lv_iconst (v := (-1)) hx hb dX4_compare_62 (by decide) ?_
            exact hret rfl (by have la := uN_small (hlim (6 * a + i) (by omega)); have lb2 := uN_small (hlim (6 * b + i) (by omega)); have h := cmp_lt (f := fw) (a := 6 * a) (b := 6 * b) (k := i) (n := 6) (fun t h1 h2 => g3 t (by omega) h2) (by omega) (fun t ht => hlim _ (by omega)) (by omega); unfold cm num; rw [if_pos (by omega)]) dX4_compare_63
          · have c_55 : (fw (6 * b + i)).toInt < (fw (6 * a + i)).toInt := lc_nle c_55
            refine lv_iconst (v := 1) hx hb dX4_compare_58 (by decide) ?_
            refine lv_goto (tgt := 63) hx hb dX4_compare_59 (by decide) ?_
            exact hret rfl (by have la := uN_small (hlim (6 * a + i) (by omega)); have lb2 := uN_small (hlim (6 * b + i) (by omega)); have h := cmp_lt (f := fw) (a := 6 * b) (b := 6 * a) (k := i) (n := 6) (fun t h1 h2 => (g3 t (by omega) h2).symm) (by omega) (fun t ht => hlim _ (by omega)) (by omega); unfold cm num; rw [if_neg (by omega), if_neg (by omega)]) dX4_compare_63
  refine L2 7 6 5 ?_ ?_ ?_ _ (lv_sub hl [1, 2, 3, 0] rfl)
  · omega
  · rfl
  · intro t h1 h2; omega

set_option maxHeartbeats 4000000 in
set_option maxRecDepth 100000 in
theorem c_X4_change_p (l : Launch) (D : va_G) (cZ cI cJ : ClassId) (o wa sa ma tl gx gy tx tz kx ky : Nat) (cd ln cn ah : Int32) (fw : Nat → Int64) (d a b : Nat) (hlim : lim fw) (hd : d < 16) (ha : a < 16) (hb9 : b < 16) (hsum : num fw a + num fw b < 6277101735386680763835789423207666416102355444464034512896) : Cv l D cZ cI cJ yX4_change cX4_change 10 { frames := 0, cells := 0, slots := 0, locals := 0 } [.ref o, .int (nI d), .int (nI a), .int (nI b), .int 1] [(o, .inr (4, [.int cd, .ref wa, .ref sa, .ref ma, .ref tl, .ref gx, .ref gy, .ref tx, .ref tz, .int ln, .ref kx, .ref ky, .int cn, .int ah])), (wa, .inl (cJ, 96, .inr (.inl fw)))] (S := Nat → Int64) (fun u => upn fw u d (num fw a + num fw b)) (fun u => [(o, .inr (4, [.int cd, .ref wa, .ref sa, .ref ma, .ref tl, .ref gx, .ref gy, .ref tx, .ref tz, .int ln, .ref kx, .ref ky, .int cn, .int ah])), (wa, .inl (cJ, 96, .inr (.inl u)))]) := by
  refine Cv.of (by decide) ?_
  intro p e s m args below meth c A Q hB hret hP hD hA
  obtain ⟨hx, hb, hr, hlocks, hml, hown, hnm, hTB, hK⟩ := hB
  have hown : s.vm.findClass RX4 = some m.cls := hown
  have hS : va_S A s.heap s.heap [] := va_S.rf
  have hl := lv_entry ([.ref o, .int (nI d), .int (nI a), .int (nI b), .int 1]) (n := 10) (Nat.le_of_ble_eq_true rfl)
  rw [lg_entry_eq]
  generalize (lg_sl ([.ref o, .int (nI d), .int (nI a), .int (nI b), .int 1]) ++ List.replicate (10 - (lg_sl ([.ref o, .int (nI d), .int (nI a), .int (nI b), .int 1])).length) Slot.unset).toArray = ls at hl ⊢
  have hl : lv_has ls 10 [(0, .ref o), (1, .int (nI d)), (2, .int (nI a)), (3, .int (nI b)), (4, .int 1)] := hl
  refine lv_lconst (v := 0) hx hb dX4_change_0 (by decide) ?_
  refine lv_lstore (lv' := [(5, .long 0), (0, .ref o), (1, .int (nI d)), (2, .int (nI a)), (3, .int (nI b)), (4, .int 1)]) hx hb dX4_change_1 hl (by decide) rfl (fun ls hl => ?_)
  refine lv_iconst (v := 0) hx hb dX4_change_3 (by decide) ?_
  refine lv_istore (lv' := [(7, .int 0), (5, .long 0), (0, .ref o), (1, .int (nI d)), (2, .int (nI a)), (3, .int (nI b)), (4, .int 1)]) hx hb dX4_change_4 hl (by decide) rfl (fun ls hl => ?_)
  have L6 : ∀ (n6 : Nat) (k : Nat) (g : Nat → Int64) (cr : Int64), (6 < k + n6 ∧ k ≤ 6) → (((nm g (6 * d) k : Nat) : Int) + cr.toInt * (4294967296 : Int) ^ k = ((nm fw (6 * a) k : Nat) : Int) + ((nm fw (6 * b) k : Nat) : Int)) → (lim g) → (∀ j, ¬ (6 * d ≤ j ∧ j < 6 * d + k) → g j = fw j) → (0 ≤ cr.toInt ∧ cr.toInt ≤ 1) → ∀ (H : Heap) (locs : List Loc), va_P D vwCl [(o, .inr (4, [.int cd, .ref wa, .ref sa, .ref ma, .ref tl, .ref gx, .ref gy, .ref tx, .ref tz, .int ln, .ref kx, .ref ky, .int cn, .int ah])), (wa, .inl (cJ, 96, .inr (.inl g)))] H → va_D A [(o, .inr (4, [.int cd, .ref wa, .ref sa, .ref ma, .ref tl, .ref gx, .ref gy, .ref tx, .ref tz, .int ln, .ref kx, .ref ky, .int cn, .int ah])), (wa, .inl (cJ, 96, .inr (.inl g)))] → va_S A s.heap H locs → ∀ (ls : Array Slot), lv_has ls 10 [(0, .ref o), (1, .int (nI d)), (2, .int (nI a)), (3, .int (nI b)), (4, .int 1), (5, .long cr), (7, .int (nI k))] → W p l e { frames := 0, cells := 0, slots := 0, locals := 0 } s m args below meth c H locs 0 0 Q (F0 m 6 ls []) := by
    intro n6
    induction n6 with
    | zero =>
      intro k g cr g1 g2 g3 g4 g5
      exfalso; omega
    | succ n6 ih6 =>
      intro k g cr g1 g2 g3 g4 g5 H locs hP hD hS ls hl
      refine lv_iload hx hb dX4_change_6 (lv_at hl 6 rfl) ?_
      refine lv_bipush (v := 6) hx hb dX4_change_8 (by decide) ?_
      refine lv_icmp_ge (tgt := 110) hx hb dX4_change_10 (by decide) (fun c_10 => ?_) (fun c_10 => ?_)
      · have hke : k = 6 := by have := (nI_leI (a := 6) (b := k) (by omega) (by omega)).mp c_10; omega
        exact hret hP hD hS g (by subst hke; rw [pI6] at g2; have l1 := num_lt g3 hd; exact ⟨g3, (by unfold num at *; omega), fun j hj => g4 j hj⟩) [0, 1] rfl (by decide) dX4_change_110 (Nat.le_of_ble_eq_true rfl) (Nat.le_of_ble_eq_true rfl)
      · have hk : k < 6 := Nat.not_le.mp (fun q => c_10 ((nI_leI (a := 6) (b := k) (by omega) (by omega)).mpr q))
        refine lv_iload hx hb dX4_change_13 (lv_at hl 4 rfl) ?_
        refine lv_if_eq (tgt := 49) hx hb dX4_change_15 (by decide) (fun c_15 => absurd c_15 (by decide)) (fun c_15 => ?_)
        refine lv_aload_n hx hb dX4_change_18 rfl (lv_at hl 0 rfl) ?_
        refine va_get (D := D) (ci := 4) (v := .ref wa) (C := RX4) (T := TX4) (N := 14) hx hb hTB tb_X4 hown hK.1 hP 0 rfl rfl 1 (by decide) (hTB _ tb_3_13) (fun _ h9 => h9) rfl dX4_change_19 ?_
        refine lv_bipush (v := 6) hx hb dX4_change_22 (by decide) ?_
        refine lv_iload_n hx hb dX4_change_24 rfl (lv_at hl 2 rfl) ?_
        refine lv_imul hx hb dX4_change_25 ?_
        refine lv_iload hx hb dX4_change_26 (lv_at hl 6 rfl) ?_
        refine lv_iadd hx hb dX4_change_28 ?_
        refine va_lald (f := g) hx hb hK.1 hP 1 2 rfl rfl (ix_in (d := a) (k := k) (by omega)) dX4_change_29 ?_
        rw [show ((6 * (nI a)) + (nI k)).toNatClampNeg = 6 * a + k from ix_cl (by omega)]
        refine lv_aload_n hx hb dX4_change_30 rfl (lv_at hl 0 rfl) ?_
        refine va_get (D := D) (ci := 4) (v := .ref wa) (C := RX4) (T := TX4) (N := 14) hx hb hTB tb_X4 hown hK.1 hP 0 rfl rfl 1 (by decide) (hTB _ tb_3_13) (fun _ h9 => h9) rfl dX4_change_31 ?_
        refine lv_bipush (v := 6) hx hb dX4_change_34 (by decide) ?_
        refine lv_iload_n hx hb dX4_change_36 rfl (lv_at hl 3 rfl) ?_
        refine lv_imul hx hb dX4_change_37 ?_
        refine lv_iload hx hb dX4_change_38 (lv_at hl 6 rfl) ?_
        refine lv_iadd hx hb dX4_change_40 ?_
        refine va_lald (f := g) hx hb hK.1 hP 1 2 rfl rfl (ix_in (d := b) (k := k) (by omega)) dX4_change_41 ?_
        rw [show ((6 * (nI b)) + (nI k)).toNatClampNeg = 6 * b + k from ix_cl (by omega)]
        refine lv_ladd hx hb dX4_change_42 ?_
        refine lv_lload hx hb dX4_change_43 (lv_at hl 5 rfl) ?_
        refine lv_ladd hx hb dX4_change_45 ?_
        refine lv_topl (fun v9 ev9 => ?_)
        refine lv_goto (tgt := 77) hx hb dX4_change_46 (by decide) ?_
        refine lv_lstore (lv' := [(8, .long v9), (0, .ref o), (1, .int (nI d)), (2, .int (nI a)), (3, .int (nI b)), (4, .int 1), (5, .long cr), (7, .int (nI k))]) hx hb dX4_change_77 hl (by decide) rfl (fun ls hl => ?_)
        refine lv_aload_n hx hb dX4_change_79 rfl (lv_at hl 1 rfl) ?_
        refine va_get (D := D) (ci := 4) (v := .ref wa) (C := RX4) (T := TX4) (N := 14) hx hb hTB tb_X4 hown hK.1 hP 0 rfl rfl 1 (by decide) (hTB _ tb_3_13) (fun _ h9 => h9) rfl dX4_change_80 ?_
        refine lv_bipush (v := 6) hx hb dX4_change_83 (by decide) ?_
        refine lv_iload_n hx hb dX4_change_85 rfl (lv_at hl 2 rfl) ?_
        refine lv_imul hx hb dX4_change_86 ?_
        refine lv_iload hx hb dX4_change_87 (lv_at hl 7 rfl) ?_
        refine lv_iadd hx hb dX4_change_89 ?_
        refine lv_lload hx hb dX4_change_90 (lv_at hl 0 rfl) ?_
        refine lv_ldc2 (v := 4294967295) hx hb hown (hTB _ tb_6_22) dX4_change_92 ?_
        refine lv_land hx hb dX4_change_95 ?_
        refine va_last (f := g) hx hb hK.1 hP hD hS 1 2 rfl rfl (ix_in (d := d) (k := k) (by omega)) dX4_change_96 (fun H locs hP hD hS => ?_)
        rw [show ((6 * (nI d)) + (nI k)).toNatClampNeg = 6 * d + k from ix_cl (by omega)] at hP hD
        have hP : va_P D vwCl [(o, .inr (4, [.int cd, .ref wa, .ref sa, .ref ma, .ref tl, .ref gx, .ref gy, .ref tx, .ref tz, .int ln, .ref kx, .ref ky, .int cn, .int ah])), (wa, .inl (cJ, 96, .inr (.inl (vp_updL g (6 * d + k) (v9 &&& 4294967295)))))] H := hP
        have hD : va_D A [(o, .inr (4, [.int cd, .ref wa, .ref sa, .ref ma, .ref tl, .ref gx, .ref gy, .ref tx, .ref tz, .int ln, .ref kx, .ref ky, .int cn, .int ah])), (wa, .inl (cJ, 96, .inr (.inl (vp_updL g (6 * d + k) (v9 &&& 4294967295)))))] := hD
        refine lv_lload hx hb dX4_change_97 (lv_at hl 0 rfl) ?_
        refine lv_bipush (v := 32) hx hb dX4_change_99 (by decide) ?_
        refine lv_lshr (v := v9 >>> ((32 : Int32).toInt64 &&& 63)) hx hb dX4_change_101 rfl ?_
        refine lv_lstore (lv' := [(5, .long (v9 >>> ((32 : Int32).toInt64 &&& 63))), (8, .long v9), (0, .ref o), (1, .int (nI d)), (2, .int (nI a)), (3, .int (nI b)), (4, .int 1), (7, .int (nI k))]) hx hb dX4_change_102 hl (by decide) rfl (fun ls hl => ?_)
        obtain ⟨i7_1, ei7_1⟩ : ∃ y : Int32, y = (nI k) + 1 := ⟨_, rfl⟩
        refine lv_iinc (v := i7_1) (lv' := [(7, .int i7_1), (5, .long (v9 >>> ((32 : Int32).toInt64 &&& 63))), (8, .long v9), (0, .ref o), (1, .int (nI d)), (2, .int (nI a)), (3, .int (nI b)), (4, .int 1)]) hx hb dX4_change_104 hl (k := 7) rfl (by rw [ei7_1]; rfl) (by decide) rfl (fun ls hl => ?_)
        refine lv_goto (tgt := 6) hx hb dX4_change_107 (by decide) ?_
        have q7 : i7_1 = nI (k + 1) := by rw [ei7_1]; exact nI_1 k
        subst q7
        refine ih6 (k + 1) (vp_updL g (6 * d + k) (v9 &&& 4294967295)) (v9 >>> ((32 : Int32).toInt64 &&& 63)) ?_ ?_ ?_ ?_ ?_ _ _ hP hD hS _ (lv_sub hl [3, 4, 5, 6, 7, 1, 0] rfl)
        · omega
        · have xa : g (6 * a + k) = fw (6 * a + k) := g4 _ (by omega)
          have xb : g (6 * b + k) = fw (6 * b + k) := g4 _ (by omega)
          have la := g3 (6 * a + k) (by omega)
          have lb2 := g3 (6 * b + k) (by omega)
          have sa9 := uN_small la
          have sb9 := uN_small lb2
          have ev : v9.toInt = (g (6 * a + k)).toInt + (g (6 * b + k)).toInt + cr.toInt := by
            have e1 : (g (6 * a + k) + g (6 * b + k)).toInt = (g (6 * a + k)).toInt + (g (6 * b + k)).toInt := add_rng (by omega) (by omega)
            rw [ev9, add_rng (by omega) (by omega), e1]
          have cv := cut_v v9
          have lo9 : uN (v9 &&& 4294967295) < 4294967296 := by rw [uN_lo]; exact Nat.mod_lt _ (by decide)
          rw [nmI, nmI, nmI, nm_upd_lt, pk_uLs, pI]
          exact chg_p g2 (by rw [← xa, ← xb]; omega)
        · have xa : g (6 * a + k) = fw (6 * a + k) := g4 _ (by omega)
          have xb : g (6 * b + k) = fw (6 * b + k) := g4 _ (by omega)
          have la := g3 (6 * a + k) (by omega)
          have lb2 := g3 (6 * b + k) (by omega)
          have sa9 := uN_small la
          have sb9 := uN_small lb2
          have ev : v9.toInt = (g (6 * a + k)).toInt + (g (6 * b + k)).toInt + cr.toInt := by
            have e1 : (g (6 * a + k) + g (6 * b + k)).toInt = (g (6 * a + k)).toInt + (g (6 * b + k)).toInt := add_rng (by omega) (by omega)
            rw [ev9, add_rng (by omega) (by omega), e1]
          have cv := cut_v v9
          have lo9 : uN (v9 &&& 4294967295) < 4294967296 := by rw [uN_lo]; exact Nat.mod_lt _ (by decide)
          exact lim_up g3 lo9
        · intro j hj
          rw [pk_uLn (by omega)]; exact g4 j (by omega)
        · have xa : g (6 * a + k) = fw (6 * a + k) := g4 _ (by omega)
          have xb : g (6 * b + k) = fw (6 * b + k) := g4 _ (by omega)
          have la := g3 (6 * a + k) (by omega)
          have lb2 := g3 (6 * b + k) (by omega)
          have sa9 := uN_small la
          have sb9 := uN_small lb2
          have ev : v9.toInt = (g (6 * a + k)).toInt + (g (6 * b + k)).toInt + cr.toInt := by
            have e1 : (g (6 * a + k) + g (6 * b + k)).toInt = (g (6 * a + k)).toInt + (g (6 * b + k)).toInt := add_rng (by omega) (by omega)
            rw [ev9, add_rng (by omega) (by omega), e1]
          have cv := cut_v v9
          have lo9 : uN (v9 &&& 4294967295) < 4294967296 := by rw [uN_lo]; exact Nat.mod_lt _ (by decide)
          omega
  refine L6 7 0 fw 0 ?_ ?_ ?_ ?_ ?_ _ _ hP hD hS _ (lv_sub hl [2, 3, 4, 5, 6, 1, 0] rfl)
  · omega
  · rfl
  · exact hlim
  · intro j _; rfl
  · decide

set_option maxHeartbeats 4000000 in
set_option maxRecDepth 100000 in
theorem c_X4_change_m (l : Launch) (D : va_G) (cZ cI cJ : ClassId) (o wa sa ma tl gx gy tx tz kx ky : Nat) (cd ln cn ah : Int32) (fw : Nat → Int64) (d a b : Nat) (hlim : lim fw) (hd : d < 16) (ha : a < 16) (hb9 : b < 16) (hle : num fw b ≤ num fw a) : Cv l D cZ cI cJ yX4_change cX4_change 10 { frames := 0, cells := 0, slots := 0, locals := 0 } [.ref o, .int (nI d), .int (nI a), .int (nI b), .int 0] [(o, .inr (4, [.int cd, .ref wa, .ref sa, .ref ma, .ref tl, .ref gx, .ref gy, .ref tx, .ref tz, .int ln, .ref kx, .ref ky, .int cn, .int ah])), (wa, .inl (cJ, 96, .inr (.inl fw)))] (S := Nat → Int64) (fun u => upn fw u d (num fw a - num fw b)) (fun u => [(o, .inr (4, [.int cd, .ref wa, .ref sa, .ref ma, .ref tl, .ref gx, .ref gy, .ref tx, .ref tz, .int ln, .ref kx, .ref ky, .int cn, .int ah])), (wa, .inl (cJ, 96, .inr (.inl u)))]) := by
  refine Cv.of (by decide) ?_
  intro p e s m args below meth c A Q hB hret hP hD hA
  obtain ⟨hx, hb, hr, hlocks, hml, hown, hnm, hTB, hK⟩ := hB
  have hown : s.vm.findClass RX4 = some m.cls := hown
  have hS : va_S A s.heap s.heap [] := va_S.rf
  have hl := lv_entry ([.ref o, .int (nI d), .int (nI a), .int (nI b), .int 0]) (n := 10) (Nat.le_of_ble_eq_true rfl)
  rw [lg_entry_eq]
  generalize (lg_sl ([.ref o, .int (nI d), .int (nI a), .int (nI b), .int 0]) ++ List.replicate (10 - (lg_sl ([.ref o, .int (nI d), .int (nI a), .int (nI b), .int 0])).length) Slot.unset).toArray = ls at hl ⊢
  have hl : lv_has ls 10 [(0, .ref o), (1, .int (nI d)), (2, .int (nI a)), (3, .int (nI b)), (4, .int 0)] := hl
  refine lv_lconst (v := 0) hx hb dX4_change_0 (by decide) ?_
  refine lv_lstore (lv' := [(5, .long 0), (0, .ref o), (1, .int (nI d)), (2, .int (nI a)), (3, .int (nI b)), (4, .int 0)]) hx hb dX4_change_1 hl (by decide) rfl (fun ls hl => ?_)
  refine lv_iconst (v := 0) hx hb dX4_change_3 (by decide) ?_
  refine lv_istore (lv' := [(7, .int 0), (5, .long 0), (0, .ref o), (1, .int (nI d)), (2, .int (nI a)), (3, .int (nI b)), (4, .int 0)]) hx hb dX4_change_4 hl (by decide) rfl (fun ls hl => ?_)
  have L6 : ∀ (n6 : Nat) (k : Nat) (g : Nat → Int64) (cr : Int64), (6 < k + n6 ∧ k ≤ 6) → (((nm g (6 * d) k : Nat) : Int) + cr.toInt * (4294967296 : Int) ^ k = ((nm fw (6 * a) k : Nat) : Int) - ((nm fw (6 * b) k : Nat) : Int)) → (lim g) → (∀ j, ¬ (6 * d ≤ j ∧ j < 6 * d + k) → g j = fw j) → (-1 ≤ cr.toInt ∧ cr.toInt ≤ 0) → ∀ (H : Heap) (locs : List Loc), va_P D vwCl [(o, .inr (4, [.int cd, .ref wa, .ref sa, .ref ma, .ref tl, .ref gx, .ref gy, .ref tx, .ref tz, .int ln, .ref kx, .ref ky, .int cn, .int ah])), (wa, .inl (cJ, 96, .inr (.inl g)))] H → va_D A [(o, .inr (4, [.int cd, .ref wa, .ref sa, .ref ma, .ref tl, .ref gx, .ref gy, .ref tx, .ref tz, .int ln, .ref kx, .ref ky, .int cn, .int ah])), (wa, .inl (cJ, 96, .inr (.inl g)))] → va_S A s.heap H locs → ∀ (ls : Array Slot), lv_has ls 10 [(0, .ref o), (1, .int (nI d)), (2, .int (nI a)), (3, .int (nI b)), (4, .int 0), (5, .long cr), (7, .int (nI k))] → W p l e { frames := 0, cells := 0, slots := 0, locals := 0 } s m args below meth c H locs 0 0 Q (F0 m 6 ls []) := by
    intro n6
    induction n6 with
    | zero =>
      intro k g cr g1 g2 g3 g4 g5
      exfalso; omega
    | succ n6 ih6 =>
      intro k g cr g1 g2 g3 g4 g5 H locs hP hD hS ls hl
      refine lv_iload hx hb dX4_change_6 (lv_at hl 6 rfl) ?_
      refine lv_bipush (v := 6) hx hb dX4_change_8 (by decide) ?_
      refine lv_icmp_ge (tgt := 110) hx hb dX4_change_10 (by decide) (fun c_10 => ?_) (fun c_10 => ?_)
      · have hke : k = 6 := by have := (nI_leI (a := 6) (b := k) (by omega) (by omega)).mp c_10; omega
        exact hret hP hD hS g (by subst hke; rw [pI6] at g2; have l1 := num_lt g3 hd; exact ⟨g3, (by unfold num at *; omega), fun j hj => g4 j hj⟩) [0, 1] rfl (by decide) dX4_change_110 (Nat.le_of_ble_eq_true rfl) (Nat.le_of_ble_eq_true rfl)
      · have hk : k < 6 := Nat.not_le.mp (fun q => c_10 ((nI_leI (a := 6) (b := k) (by omega) (by omega)).mpr q))
        refine lv_iload hx hb dX4_change_13 (lv_at hl 4 rfl) ?_
        refine lv_if_eq (tgt := 49) hx hb dX4_change_15 (by decide) (fun c_15 => ?_) (fun c_15 => absurd c_15 (by decide))
        refine lv_aload_n hx hb dX4_change_49 rfl (lv_at hl 0 rfl) ?_
        refine va_get (D := D) (ci := 4) (v := .ref wa) (C := RX4) (T := TX4) (N := 14) hx hb hTB tb_X4 hown hK.1 hP 0 rfl rfl 1 (by decide) (hTB _ tb_3_13) (fun _ h9 => h9) rfl dX4_change_50 ?_
        refine lv_bipush (v := 6) hx hb dX4_change_53 (by decide) ?_
        refine lv_iload_n hx hb dX4_change_55 rfl (lv_at hl 2 rfl) ?_
        refine lv_imul hx hb dX4_change_56 ?_
        refine lv_iload hx hb dX4_change_57 (lv_at hl 6 rfl) ?_
        refine lv_iadd hx hb dX4_change_59 ?_
        refine va_lald (f := g) hx hb hK.1 hP 1 2 rfl rfl (ix_in (d := a) (k := k) (by omega)) dX4_change_60 ?_
        rw [show ((6 * (nI a)) + (nI k)).toNatClampNeg = 6 * a + k from ix_cl (by omega)]
        refine lv_aload_n hx hb dX4_change_61 rfl (lv_at hl 0 rfl) ?_
        refine va_get (D := D) (ci := 4) (v := .ref wa) (C := RX4) (T := TX4) (N := 14) hx hb hTB tb_X4 hown hK.1 hP 0 rfl rfl 1 (by decide) (hTB _ tb_3_13) (fun _ h9 => h9) rfl dX4_change_62 ?_
        refine lv_bipush (v := 6) hx hb dX4_change_65 (by decide) ?_
        refine lv_iload_n hx hb dX4_change_67 rfl (lv_at hl 3 rfl) ?_
        refine lv_imul hx hb dX4_change_68 ?_
        refine lv_iload hx hb dX4_change_69 (lv_at hl 6 rfl) ?_
        refine lv_iadd hx hb dX4_change_71 ?_
        refine va_lald (f := g) hx hb hK.1 hP 1 2 rfl rfl (ix_in (d := b) (k := k) (by omega)) dX4_change_72 ?_
        rw [show ((6 * (nI b)) + (nI k)).toNatClampNeg = 6 * b + k from ix_cl (by omega)]
        refine lv_lsub hx hb dX4_change_73 ?_
        refine lv_lload hx hb dX4_change_74 (lv_at hl 5 rfl) ?_
        refine lv_ladd hx hb dX4_change_76 ?_
        refine lv_topl (fun v9 ev9 => ?_)
        refine lv_lstore (lv' := [(8, .long v9), (0, .ref o), (1, .int (nI d)), (2, .int (nI a)), (3, .int (nI b)), (4, .int 0), (5, .long cr), (7, .int (nI k))]) hx hb dX4_change_77 hl (by decide) rfl (fun ls hl => ?_)
        refine lv_aload_n hx hb dX4_change_79 rfl (lv_at hl 1 rfl) ?_
        refine va_get (D := D) (ci := 4) (v := .ref wa) (C := RX4) (T := TX4) (N := 14) hx hb hTB tb_X4 hown hK.1 hP 0 rfl rfl 1 (by decide) (hTB _ tb_3_13) (fun _ h9 => h9) rfl dX4_change_80 ?_
        refine lv_bipush (v := 6) hx hb dX4_change_83 (by decide) ?_
        refine lv_iload_n hx hb dX4_change_85 rfl (lv_at hl 2 rfl) ?_
        refine lv_imul hx hb dX4_change_86 ?_
        refine lv_iload hx hb dX4_change_87 (lv_at hl 7 rfl) ?_
        refine lv_iadd hx hb dX4_change_89 ?_
        refine lv_lload hx hb dX4_change_90 (lv_at hl 0 rfl) ?_
        refine lv_ldc2 (v := 4294967295) hx hb hown (hTB _ tb_6_22) dX4_change_92 ?_
        refine lv_land hx hb dX4_change_95 ?_
        refine va_last (f := g) hx hb hK.1 hP hD hS 1 2 rfl rfl (ix_in (d := d) (k := k) (by omega)) dX4_change_96 (fun H locs hP hD hS => ?_)
        rw [show ((6 * (nI d)) + (nI k)).toNatClampNeg = 6 * d + k from ix_cl (by omega)] at hP hD
        have hP : va_P D vwCl [(o, .inr (4, [.int cd, .ref wa, .ref sa, .ref ma, .ref tl, .ref gx, .ref gy, .ref tx, .ref tz, .int ln, .ref kx, .ref ky, .int cn, .int ah])), (wa, .inl (cJ, 96, .inr (.inl (vp_updL g (6 * d + k) (v9 &&& 4294967295)))))] H := hP
        have hD : va_D A [(o, .inr (4, [.int cd, .ref wa, .ref sa, .ref ma, .ref tl, .ref gx, .ref gy, .ref tx, .ref tz, .int ln, .ref kx, .ref ky, .int cn, .int ah])), (wa, .inl (cJ, 96, .inr (.inl (vp_updL g (6 * d + k) (v9 &&& 4294967295)))))] := hD
        refine lv_lload hx hb dX4_change_97 (lv_at hl 0 rfl) ?_
        refine lv_bipush (v := 32) hx hb dX4_change_99 (by decide) ?_
        refine lv_lshr (v := v9 >>> ((32 : Int32).toInt64 &&& 63)) hx hb dX4_change_101 rfl ?_
        refine lv_lstore (lv' := [(5, .long (v9 >>> ((32 : Int32).toInt64 &&& 63))), (8, .long v9), (0, .ref o), (1, .int (nI d)), (2, .int (nI a)), (3, .int (nI b)), (4, .int 0), (7, .int (nI k))]) hx hb dX4_change_102 hl (by decide) rfl (fun ls hl => ?_)
        obtain ⟨i7_1, ei7_1⟩ : ∃ y : Int32, y = (nI k) + 1 := ⟨_, rfl⟩
        refine lv_iinc (v := i7_1) (lv' := [(7, .int i7_1), (5, .long (v9 >>> ((32 : Int32).toInt64 &&& 63))), (8, .long v9), (0, .ref o), (1, .int (nI d)), (2, .int (nI a)), (3, .int (nI b)), (4, .int 0)]) hx hb dX4_change_104 hl (k := 7) rfl (by rw [ei7_1]; rfl) (by decide) rfl (fun ls hl => ?_)
        refine lv_goto (tgt := 6) hx hb dX4_change_107 (by decide) ?_
        have q7 : i7_1 = nI (k + 1) := by rw [ei7_1]; exact nI_1 k
        subst q7
        refine ih6 (k + 1) (vp_updL g (6 * d + k) (v9 &&& 4294967295)) (v9 >>> ((32 : Int32).toInt64 &&& 63)) ?_ ?_ ?_ ?_ ?_ _ _ hP hD hS _ (lv_sub hl [3, 4, 5, 6, 7, 1, 0] rfl)
        · omega
        · have xa : g (6 * a + k) = fw (6 * a + k) := g4 _ (by omega)
          have xb : g (6 * b + k) = fw (6 * b + k) := g4 _ (by omega)
          have la := g3 (6 * a + k) (by omega)
          have lb2 := g3 (6 * b + k) (by omega)
          have sa9 := uN_small la
          have sb9 := uN_small lb2
          have ev : v9.toInt = (g (6 * a + k)).toInt - (g (6 * b + k)).toInt + cr.toInt := by
            have e1 : (g (6 * a + k) - g (6 * b + k)).toInt = (g (6 * a + k)).toInt - (g (6 * b + k)).toInt := sub_rng (by omega) (by omega)
            rw [ev9, add_rng (by omega) (by omega), e1]
          have cv := cut_v v9
          have lo9 : uN (v9 &&& 4294967295) < 4294967296 := by rw [uN_lo]; exact Nat.mod_lt _ (by decide)
          rw [nmI, nmI, nmI, nm_upd_lt, pk_uLs, pI]
          exact chg_m g2 (by rw [← xa, ← xb]; omega)
        · have xa : g (6 * a + k) = fw (6 * a + k) := g4 _ (by omega)
          have xb : g (6 * b + k) = fw (6 * b + k) := g4 _ (by omega)
          have la := g3 (6 * a + k) (by omega)
          have lb2 := g3 (6 * b + k) (by omega)
          have sa9 := uN_small la
          have sb9 := uN_small lb2
          have ev : v9.toInt = (g (6 * a + k)).toInt - (g (6 * b + k)).toInt + cr.toInt := by
            have e1 : (g (6 * a + k) - g (6 * b + k)).toInt = (g (6 * a + k)).toInt - (g (6 * b + k)).toInt := sub_rng (by omega) (by omega)
            rw [ev9, add_rng (by omega) (by omega), e1]
          have cv := cut_v v9
          have lo9 : uN (v9 &&& 4294967295) < 4294967296 := by rw [uN_lo]; exact Nat.mod_lt _ (by decide)
          exact lim_up g3 lo9
        · intro j hj
          rw [pk_uLn (by omega)]; exact g4 j (by omega)
        · have xa : g (6 * a + k) = fw (6 * a + k) := g4 _ (by omega)
          have xb : g (6 * b + k) = fw (6 * b + k) := g4 _ (by omega)
          have la := g3 (6 * a + k) (by omega)
          have lb2 := g3 (6 * b + k) (by omega)
          have sa9 := uN_small la
          have sb9 := uN_small lb2
          have ev : v9.toInt = (g (6 * a + k)).toInt - (g (6 * b + k)).toInt + cr.toInt := by
            have e1 : (g (6 * a + k) - g (6 * b + k)).toInt = (g (6 * a + k)).toInt - (g (6 * b + k)).toInt := sub_rng (by omega) (by omega)
            rw [ev9, add_rng (by omega) (by omega), e1]
          have cv := cut_v v9
          have lo9 : uN (v9 &&& 4294967295) < 4294967296 := by rw [uN_lo]; exact Nat.mod_lt _ (by decide)
          omega
  refine L6 7 0 fw 0 ?_ ?_ ?_ ?_ ?_ _ _ hP hD hS _ (lv_sub hl [2, 3, 4, 5, 6, 1, 0] rfl)
  · omega
  · rfl
  · exact hlim
  · intro j _; rfl
  · decide

set_option maxHeartbeats 4000000 in
set_option maxRecDepth 100000 in
theorem c_X4_isNothing (l : Launch) (D : va_G) (cZ cI cJ : ClassId) (o wa sa ma tl gx gy tx tz kx ky : Nat) (cd ln cn ah : Int32) (fw : Nat → Int64) (a : Nat) (ha : a < 16) : Ri l D cZ cI cJ yX4_isNothing cX4_isNothing 4 (some .boolean) { frames := 0, cells := 0, slots := 0, locals := 0 } [.ref o, .int (nI a)] [(o, .inr (4, [.int cd, .ref wa, .ref sa, .ref ma, .ref tl, .ref gx, .ref gy, .ref tx, .ref tz, .int ln, .ref kx, .ref ky, .int cn, .int ah])), (wa, .inl (cJ, 96, .inr (.inl fw)))] (fun r => r = bz (num fw a = 0)) := by
  refine Ri.of (by decide) ?_
  intro p e s m args below meth c Q hB hret hP
  obtain ⟨hx, hb, hr, hlocks, hml, hown, hnm, hTB, hK⟩ := hB
  have hown : s.vm.findClass RX4 = some m.cls := hown
  have hl := lv_entry ([.ref o, .int (nI a)]) (n := 4) (Nat.le_of_ble_eq_true rfl)
  rw [lg_entry_eq]
  generalize (lg_sl ([.ref o, .int (nI a)]) ++ List.replicate (4 - (lg_sl ([.ref o, .int (nI a)])).length) Slot.unset).toArray = ls at hl ⊢
  have hl : lv_has ls 4 [(0, .ref o), (1, .int (nI a))] := hl
  refine lv_iconst (v := 1) hx hb dX4_isNothing_0 (by decide) ?_
  refine lv_istore_n (lv' := [(2, .int 1), (0, .ref o), (1, .int (nI a))]) hx hb dX4_isNothing_1 rfl hl (by decide) rfl (fun ls hl => ?_)
  refine lv_iconst (v := 0) hx hb dX4_isNothing_2 (by decide) ?_
  refine lv_istore_n (lv' := [(3, .int 0), (2, .int 1), (0, .ref o), (1, .int (nI a))]) hx hb dX4_isNothing_3 rfl hl (by decide) rfl (fun ls hl => ?_)
  have L4 : ∀ (n4 : Nat) (k : Nat) (x2 : Int32), (6 < k + n4 ∧ k ≤ 6) → (x2 = bz (nm fw (6 * a) k = 0)) → ∀ (ls : Array Slot), lv_has ls 4 [(0, .ref o), (1, .int (nI a)), (2, .int x2), (3, .int (nI k))] → W p l e { frames := 0, cells := 0, slots := 0, locals := 0 } s m args below meth c s.heap [] 0 0 Q (F0 m 4 ls []) := by
    intro n4
    induction n4 with
    | zero =>
      intro k x2 g1 g2
      exfalso; omega
    | succ n4 ih4 =>
      intro k x2 g1 g2 ls hl
      refine lv_iload_n hx hb dX4_isNothing_4 rfl (lv_at hl 3 rfl) ?_
      refine lv_bipush (v := 6) hx hb dX4_isNothing_5 (by decide) ?_
      refine lv_icmp_ge (tgt := 42) hx hb dX4_isNothing_7 (by decide) (fun c_7 => ?_) (fun c_7 => ?_)
      · have hke : k = 6 := by have := (nI_leI (a := 6) (b := k) (by omega) (by omega)).mp c_7; omega
        refine lv_iload_n hx hb dX4_isNothing_42 rfl (lv_at hl 2 rfl) ?_
        exact hret (by rw [g2]; exact bz_nar) (by subst hke; exact g2) dX4_isNothing_43
      · have hk : k < 6 := Nat.not_le.mp (fun q => c_7 ((nI_leI (a := 6) (b := k) (by omega) (by omega)).mpr q))
        refine lv_iload_n hx hb dX4_isNothing_10 rfl (lv_at hl 2 rfl) ?_
        refine lv_if_eq (tgt := 34) hx hb dX4_isNothing_11 (by decide) (fun c_11 => ?_) (fun c_11 => ?_)
        · refine lv_iconst (v := 0) hx hb dX4_isNothing_34 (by decide) ?_
          refine lv_istore_n (lv' := [(2, .int 0), (0, .ref o), (1, .int (nI a)), (3, .int (nI k))]) hx hb dX4_isNothing_35 rfl hl (by decide) rfl (fun ls hl => ?_)
          obtain ⟨i3_1, ei3_1⟩ : ∃ y : Int32, y = (nI k) + 1 := ⟨_, rfl⟩
          refine lv_iinc (v := i3_1) (lv' := [(3, .int i3_1), (2, .int 0), (0, .ref o), (1, .int (nI a))]) hx hb dX4_isNothing_36 hl (k := 3) rfl (by rw [ei3_1]; rfl) (by decide) rfl (fun ls hl => ?_)
          refine lv_goto (tgt := 4) hx hb dX4_isNothing_39 (by decide) ?_
          have q3 : i3_1 = nI (k + 1) := by rw [ei3_1]; exact nI_1 k
          subst q3
          refine ih4 (k + 1) 0 ?_ ?_ _ (lv_sub hl [2, 3, 1, 0] rfl)
          · omega
          · rw [g2] at c_11; exact bz_f (fun q => bz_0 c_11 (nm_0.mpr (fun j hj => nm_0.mp q j (by omega))))
        · refine lv_aload_n hx hb dX4_isNothing_14 rfl (lv_at hl 0 rfl) ?_
          refine va_get (D := D) (ci := 4) (v := .ref wa) (C := RX4) (T := TX4) (N := 14) hx hb hTB tb_X4 hown hK.1 hP 0 rfl rfl 1 (by decide) (hTB _ tb_3_13) (fun _ h9 => h9) rfl dX4_isNothing_15 ?_
          refine lv_bipush (v := 6) hx hb dX4_isNothing_18 (by decide) ?_
          refine lv_iload_n hx hb dX4_isNothing_20 rfl (lv_at hl 1 rfl) ?_
          refine lv_imul hx hb dX4_isNothing_21 ?_
          refine lv_iload_n hx hb dX4_isNothing_22 rfl (lv_at hl 3 rfl) ?_
          refine lv_iadd hx hb dX4_isNothing_23 ?_
          refine va_lald (f := fw) hx hb hK.1 hP 1 2 rfl rfl (ix_in (d := a) (k := k) (by omega)) dX4_isNothing_24 ?_
          rw [show ((6 * (nI a)) + (nI k)).toNatClampNeg = 6 * a + k from ix_cl (by omega)]
          refine lv_lconst (v := 0) hx hb dX4_isNothing_25 (by decide) ?_
          refine W.lcmp hx hb dX4_isNothing_26 ?_
          refine lv_if_ne (tgt := 34) hx hb dX4_isNothing_27 (by decide) (fun c_27 => ?_) (fun c_27 => ?_)
          · have c_27 : (fw (6 * a + k)).toInt ≠ (0 : Int) := lc_ne c_27
            refine lv_iconst (v := 0) hx hb dX4_isNothing_34 (by decide) ?_
            refine lv_istore_n (lv' := [(2, .int 0), (0, .ref o), (1, .int (nI a)), (3, .int (nI k))]) hx hb dX4_isNothing_35 rfl hl (by decide) rfl (fun ls hl => ?_)
            obtain ⟨i3_2, ei3_2⟩ : ∃ y : Int32, y = (nI k) + 1 := ⟨_, rfl⟩
            refine lv_iinc (v := i3_2) (lv' := [(3, .int i3_2), (2, .int 0), (0, .ref o), (1, .int (nI a))]) hx hb dX4_isNothing_36 hl (k := 3) rfl (by rw [ei3_2]; rfl) (by decide) rfl (fun ls hl => ?_)
            refine lv_goto (tgt := 4) hx hb dX4_isNothing_39 (by decide) ?_
            have q3 : i3_2 = nI (k + 1) := by rw [ei3_2]; exact nI_1 k
            subst q3
            refine ih4 (k + 1) 0 ?_ ?_ _ (lv_sub hl [2, 3, 1, 0] rfl)
            · omega
            · exact bz_f (fun q => c_27 (i64_eq.mp (nm_0.mp q k (by omega))))
          · have c_27 : (fw (6 * a + k)).toInt = (0 : Int) := lc_eq c_27
            refine lv_iconst (v := 1) hx hb dX4_isNothing_30 (by decide) ?_
            refine lv_goto (tgt := 35) hx hb dX4_isNothing_31 (by decide) ?_
            refine lv_istore_n (lv' := [(2, .int 1), (0, .ref o), (1, .int (nI a)), (3, .int (nI k))]) hx hb dX4_isNothing_35 rfl hl (by decide) rfl (fun ls hl => ?_)
            obtain ⟨i3_3, ei3_3⟩ : ∃ y : Int32, y = (nI k) + 1 := ⟨_, rfl⟩
            refine lv_iinc (v := i3_3) (lv' := [(3, .int i3_3), (2, .int 1), (0, .ref o), (1, .int (nI a))]) hx hb dX4_isNothing_36 hl (k := 3) rfl (by rw [ei3_3]; rfl) (by decide) rfl (fun ls hl => ?_)
            refine lv_goto (tgt := 4) hx hb dX4_isNothing_39 (by decide) ?_
            have q3 : i3_3 = nI (k + 1) := by rw [ei3_3]; exact nI_1 k
            subst q3
            refine ih4 (k + 1) 1 ?_ ?_ _ (lv_sub hl [2, 3, 1, 0] rfl)
            · omega
            · rw [g2] at c_11; exact bz_t (nm_0.mpr (fun j hj => by
                by_cases h : j = k
                · subst h; exact i64_eq.mpr c_27
                · exact nm_0.mp (bz_1 c_11) j (by omega)))
  refine L4 7 0 1 ?_ ?_ _ (lv_sub hl [2, 3, 1, 0] rfl)
  · omega
  · rfl

set_option maxHeartbeats 4000000 in
set_option maxRecDepth 100000 in
theorem c_X4_isEven (l : Launch) (D : va_G) (cZ cI cJ : ClassId) (o wa sa ma tl gx gy tx tz kx ky : Nat) (cd ln cn ah : Int32) (fw : Nat → Int64) (a : Nat) (ha : a < 16) : Ri l D cZ cI cJ yX4_isEven cX4_isEven 2 (some .boolean) { frames := 0, cells := 0, slots := 0, locals := 0 } [.ref o, .int (nI a)] [(o, .inr (4, [.int cd, .ref wa, .ref sa, .ref ma, .ref tl, .ref gx, .ref gy, .ref tx, .ref tz, .int ln, .ref kx, .ref ky, .int cn, .int ah])), (wa, .inl (cJ, 96, .inr (.inl fw)))] (fun r => r = bz (num fw a % 2 = 0)) := by
  refine Ri.of (by decide) ?_
  intro p e s m args below meth c Q hB hret hP
  obtain ⟨hx, hb, hr, hlocks, hml, hown, hnm, hTB, hK⟩ := hB
  have hown : s.vm.findClass RX4 = some m.cls := hown
  have hl := lv_entry ([.ref o, .int (nI a)]) (n := 2) (Nat.le_of_ble_eq_true rfl)
  rw [lg_entry_eq]
  generalize (lg_sl ([.ref o, .int (nI a)]) ++ List.replicate (2 - (lg_sl ([.ref o, .int (nI a)])).length) Slot.unset).toArray = ls at hl ⊢
  have hl : lv_has ls 2 [(0, .ref o), (1, .int (nI a))] := hl
  refine lv_aload_n hx hb dX4_isEven_0 rfl (lv_at hl 0 rfl) ?_
  refine va_get (D := D) (ci := 4) (v := .ref wa) (C := RX4) (T := TX4) (N := 14) hx hb hTB tb_X4 hown hK.1 hP 0 rfl rfl 1 (by decide) (hTB _ tb_3_13) (fun _ h9 => h9) rfl dX4_isEven_1 ?_
  refine lv_bipush (v := 6) hx hb dX4_isEven_4 (by decide) ?_
  refine lv_iload_n hx hb dX4_isEven_6 rfl (lv_at hl 1 rfl) ?_
  refine lv_imul hx hb dX4_isEven_7 ?_
  refine va_lald (f := fw) hx hb hK.1 hP 1 2 rfl rfl (ix0_in (d := a) (by omega)) dX4_isEven_8 ?_
  rw [show (6 * (nI a)).toNatClampNeg = 6 * a from ix0_cl (by omega)]
  refine lv_lconst (v := 1) hx hb dX4_isEven_9 (by decide) ?_
  refine lv_land hx hb dX4_isEven_10 ?_
  refine lv_lconst (v := 0) hx hb dX4_isEven_11 (by decide) ?_
  refine W.lcmp hx hb dX4_isEven_12 ?_
  refine lv_if_ne (tgt := 20) hx hb dX4_isEven_13 (by decide) (fun c_13 => ?_) (fun c_13 => ?_)
  · have c_13 : ((fw (6 * a)) &&& 1).toInt ≠ (0 : Int) := lc_ne c_13
    refine lv_iconst (v := 0) hx hb dX4_isEven_20 (by decide) ?_
    exact hret rfl (bz_f (fun q => by rw [num_par] at q; exact c_13 (i64_eq.mp ((uN_bit _).mpr q)))) dX4_isEven_21
  · have c_13 : ((fw (6 * a)) &&& 1).toInt = (0 : Int) := lc_eq c_13
    refine lv_iconst (v := 1) hx hb dX4_isEven_16 (by decide) ?_
    refine lv_goto (tgt := 21) hx hb dX4_isEven_17 (by decide) ?_
    exact hret rfl (bz_t (by rw [num_par]; exact (uN_bit _).mp (i64_eq.mpr c_13))) dX4_isEven_21

set_option maxHeartbeats 4000000 in
set_option maxRecDepth 100000 in
theorem c_X4_twice (l : Launch) (D : va_G) (cZ cI cJ : ClassId) (o wa sa ma tl gx gy tx tz kx ky : Nat) (cd ln cn ah : Int32) (fw : Nat → Int64) (d : Nat) (hlim : lim fw) (hd : d < 16) (hsz : 2 * num fw d < 6277101735386680763835789423207666416102355444464034512896) : Cv l D cZ cI cJ yX4_twice cX4_twice 2 { frames := 1, cells := 0, slots := 0, locals := 29 } [.ref o, .int (nI d)] [(o, .inr (4, [.int cd, .ref wa, .ref sa, .ref ma, .ref tl, .ref gx, .ref gy, .ref tx, .ref tz, .int ln, .ref kx, .ref ky, .int cn, .int ah])), (wa, .inl (cJ, 96, .inr (.inl fw)))] (S := Nat → Int64) (fun u => upn fw u d (2 * num fw d)) (fun u => [(o, .inr (4, [.int cd, .ref wa, .ref sa, .ref ma, .ref tl, .ref gx, .ref gy, .ref tx, .ref tz, .int ln, .ref kx, .ref ky, .int cn, .int ah])), (wa, .inl (cJ, 96, .inr (.inl u)))]) := by
  refine Cv.of (by decide) ?_
  intro p e s m args below meth c A Q hB hret hP hD hA
  obtain ⟨hx, hb, hr, hlocks, hml, hown, hnm, hTB, hK⟩ := hB
  have hown : s.vm.findClass RX4 = some m.cls := hown
  have hS : va_S A s.heap s.heap [] := va_S.rf
  have hl := lv_entry ([.ref o, .int (nI d)]) (n := 2) (Nat.le_of_ble_eq_true rfl)
  rw [lg_entry_eq]
  generalize (lg_sl ([.ref o, .int (nI d)]) ++ List.replicate (2 - (lg_sl ([.ref o, .int (nI d)])).length) Slot.unset).toArray = ls at hl ⊢
  have hl : lv_has ls 2 [(0, .ref o), (1, .int (nI d))] := hl
  refine lv_aload_n hx hb dX4_twice_0 rfl (lv_at hl 0 rfl) ?_
  refine lv_iload_n hx hb dX4_twice_1 rfl (lv_at hl 1 rfl) ?_
  refine lv_iload_n hx hb dX4_twice_2 rfl (lv_at hl 1 rfl) ?_
  refine lv_iload_n hx hb dX4_twice_3 rfl (lv_at hl 1 rfl) ?_
  refine lv_iconst (v := 1) hx hb dX4_twice_4 (by decide) ?_
  refine fin_v (wr := []) (va_runV (As := [.int (nI d), .int (nI d), .int (nI d), .int 1]) (rest := []) ⟨hx, hb, hml, hown, hTB⟩ (c_X4_change_p l D cZ cI cJ o wa sa ma tl gx gy tx tz kx ky cd ln cn ah fw (d) (d) (d) hlim hd hd hd (by omega) _) (cw_V hTB tb_7_10 tb_1_5 tb_7_7 tb_7_8 tb_7_9 nd_X4_change rfl rfl ⟨Nat.le_of_ble_eq_true rfl, Nat.le_of_ble_eq_true rfl⟩) (pre_V (q0 := 0) hK hP hD [0, 1] rfl rfl rfl rfl) rfl rfl hl.1 rfl (lv_room (Nat.le_of_ble_eq_true rfl)) dX4_twice_5 ⟨Nat.le_of_ble_eq_true rfl, Nat.le_of_ble_eq_true rfl⟩) hP hD hS hA [0, 1] [] rfl rfl rfl (by decide) (fun u5 H locs hc5 hP hD hS => ?_)
  have hP : va_P D vwCl [(o, .inr (4, [.int cd, .ref wa, .ref sa, .ref ma, .ref tl, .ref gx, .ref gy, .ref tx, .ref tz, .int ln, .ref kx, .ref ky, .int cn, .int ah])), (wa, .inl (cJ, 96, .inr (.inl u5)))] H := hP
  have hD : va_D A [(o, .inr (4, [.int cd, .ref wa, .ref sa, .ref ma, .ref tl, .ref gx, .ref gy, .ref tx, .ref tz, .int ln, .ref kx, .ref ky, .int cn, .int ah])), (wa, .inl (cJ, 96, .inr (.inl u5)))] := hD
  exact hret hP hD hS u5 (by rw [Nat.two_mul]; exact hc5) [0, 1] rfl (by decide) dX4_twice_8 (Nat.le_of_ble_eq_true rfl) (Nat.le_of_ble_eq_true rfl)

set_option maxHeartbeats 4000000 in
set_option maxRecDepth 100000 in
theorem c_X4_halve (l : Launch) (D : va_G) (cZ cI cJ : ClassId) (o wa sa ma tl gx gy tx tz kx ky : Nat) (cd ln cn ah : Int32) (fw : Nat → Int64) (d : Nat) (hlim : lim fw) (hd : d < 16) : Cv l D cZ cI cJ yX4_halve cX4_halve 5 { frames := 0, cells := 0, slots := 0, locals := 0 } [.ref o, .int (nI d)] [(o, .inr (4, [.int cd, .ref wa, .ref sa, .ref ma, .ref tl, .ref gx, .ref gy, .ref tx, .ref tz, .int ln, .ref kx, .ref ky, .int cn, .int ah])), (wa, .inl (cJ, 96, .inr (.inl fw)))] (S := Nat → Int64) (fun u => upn fw u d (num fw d / 2)) (fun u => [(o, .inr (4, [.int cd, .ref wa, .ref sa, .ref ma, .ref tl, .ref gx, .ref gy, .ref tx, .ref tz, .int ln, .ref kx, .ref ky, .int cn, .int ah])), (wa, .inl (cJ, 96, .inr (.inl u)))]) := by
  refine Cv.of (by decide) ?_
  intro p e s m args below meth c A Q hB hret hP hD hA
  obtain ⟨hx, hb, hr, hlocks, hml, hown, hnm, hTB, hK⟩ := hB
  have hown : s.vm.findClass RX4 = some m.cls := hown
  have hS : va_S A s.heap s.heap [] := va_S.rf
  have hl := lv_entry ([.ref o, .int (nI d)]) (n := 5) (Nat.le_of_ble_eq_true rfl)
  rw [lg_entry_eq]
  generalize (lg_sl ([.ref o, .int (nI d)]) ++ List.replicate (5 - (lg_sl ([.ref o, .int (nI d)])).length) Slot.unset).toArray = ls at hl ⊢
  have hl : lv_has ls 5 [(0, .ref o), (1, .int (nI d))] := hl
  refine lv_iconst (v := 0) hx hb dX4_halve_0 (by decide) ?_
  refine lv_istore_n (lv' := [(2, .int 0), (0, .ref o), (1, .int (nI d))]) hx hb dX4_halve_1 rfl hl (by decide) rfl (fun ls hl => ?_)
  have L2 : ∀ (n2 : Nat) (k : Nat) (g : Nat → Int64), (6 < k + n2 ∧ k ≤ 6) → (2 * nm g (6 * d) k + uN (fw (6 * d)) % 2 = nm fw (6 * d) k + (if k < 6 then uN (fw (6 * d + k)) % 2 else 0) * 4294967296 ^ k) → (lim g) → (∀ j, ¬ (6 * d ≤ j ∧ j < 6 * d + k) → g j = fw j) → ∀ (H : Heap) (locs : List Loc), va_P D vwCl [(o, .inr (4, [.int cd, .ref wa, .ref sa, .ref ma, .ref tl, .ref gx, .ref gy, .ref tx, .ref tz, .int ln, .ref kx, .ref ky, .int cn, .int ah])), (wa, .inl (cJ, 96, .inr (.inl g)))] H → va_D A [(o, .inr (4, [.int cd, .ref wa, .ref sa, .ref ma, .ref tl, .ref gx, .ref gy, .ref tx, .ref tz, .int ln, .ref kx, .ref ky, .int cn, .int ah])), (wa, .inl (cJ, 96, .inr (.inl g)))] → va_S A s.heap H locs → ∀ (ls : Array Slot), lv_has ls 5 [(0, .ref o), (1, .int (nI d)), (2, .int (nI k))] → W p l e { frames := 0, cells := 0, slots := 0, locals := 0 } s m args below meth c H locs 0 0 Q (F0 m 2 ls []) := by
    intro n2
    induction n2 with
    | zero =>
      intro k g g1 g2 g3 g4
      exfalso; omega
    | succ n2 ih2 =>
      intro k g g1 g2 g3 g4 H locs hP hD hS ls hl
      refine lv_iload_n hx hb dX4_halve_2 rfl (lv_at hl 2 rfl) ?_
      refine lv_bipush (v := 6) hx hb dX4_halve_3 (by decide) ?_
      refine lv_icmp_ge (tgt := 71) hx hb dX4_halve_5 (by decide) (fun c_5 => ?_) (fun c_5 => ?_)
      · have hke : k = 6 := by have := (nI_leI (a := 6) (b := k) (by omega) (by omega)).mp c_5; omega
        exact hret hP hD hS g (by subst hke; rw [if_neg (by omega)] at g2; have e := num_par fw d; exact ⟨g3, (by unfold num at *; omega), fun j hj => g4 j hj⟩) [0, 1] rfl (by decide) dX4_halve_71 (Nat.le_of_ble_eq_true rfl) (Nat.le_of_ble_eq_true rfl)
      · have hk : k < 6 := Nat.not_le.mp (fun q => c_5 ((nI_leI (a := 6) (b := k) (by omega) (by omega)).mpr q))
        refine lv_iload_n hx hb dX4_halve_8 rfl (lv_at hl 2 rfl) ?_
        refine lv_iconst (v := 1) hx hb dX4_halve_9 (by decide) ?_
        refine lv_iadd hx hb dX4_halve_10 ?_
        refine lv_bipush (v := 6) hx hb dX4_halve_11 (by decide) ?_
        refine lv_icmp_ge (tgt := 34) hx hb dX4_halve_13 (by decide) (fun c_13 => ?_) (fun c_13 => ?_)
        · have hk5 : ¬ k + 1 < 6 := by rw [nI_1] at c_13; have := (nI_leI (a := 6) (b := k + 1) (by omega) (by omega)).mp c_13; omega
          refine lv_lconst (v := 0) hx hb dX4_halve_34 (by decide) ?_
          refine lv_lstore_n (lv' := [(3, .long 0), (0, .ref o), (1, .int (nI d)), (2, .int (nI k))]) hx hb dX4_halve_35 rfl hl (by decide) rfl (fun ls hl => ?_)
          refine lv_aload_n hx hb dX4_halve_36 rfl (lv_at hl 1 rfl) ?_
          refine va_get (D := D) (ci := 4) (v := .ref wa) (C := RX4) (T := TX4) (N := 14) hx hb hTB tb_X4 hown hK.1 hP 0 rfl rfl 1 (by decide) (hTB _ tb_3_13) (fun _ h9 => h9) rfl dX4_halve_37 ?_
          refine lv_bipush (v := 6) hx hb dX4_halve_40 (by decide) ?_
          refine lv_iload_n hx hb dX4_halve_42 rfl (lv_at hl 2 rfl) ?_
          refine lv_imul hx hb dX4_halve_43 ?_
          refine lv_iload_n hx hb dX4_halve_44 rfl (lv_at hl 3 rfl) ?_
          refine lv_iadd hx hb dX4_halve_45 ?_
          refine lv_aload_n hx hb dX4_halve_46 rfl (lv_at hl 1 rfl) ?_
          refine va_get (D := D) (ci := 4) (v := .ref wa) (C := RX4) (T := TX4) (N := 14) hx hb hTB tb_X4 hown hK.1 hP 0 rfl rfl 1 (by decide) (hTB _ tb_3_13) (fun _ h9 => h9) rfl dX4_halve_47 ?_
          refine lv_bipush (v := 6) hx hb dX4_halve_50 (by decide) ?_
          refine lv_iload_n hx hb dX4_halve_52 rfl (lv_at hl 2 rfl) ?_
          refine lv_imul hx hb dX4_halve_53 ?_
          refine lv_iload_n hx hb dX4_halve_54 rfl (lv_at hl 3 rfl) ?_
          refine lv_iadd hx hb dX4_halve_55 ?_
          refine va_lald (f := g) hx hb hK.1 hP 1 2 rfl rfl (ix_in (d := d) (k := k) (by omega)) dX4_halve_56 ?_
          rw [show ((6 * (nI d)) + (nI k)).toNatClampNeg = 6 * d + k from ix_cl (by omega)]
          refine lv_iconst (v := 1) hx hb dX4_halve_57 (by decide) ?_
          refine lv_lshr (v := (g (6 * d + k)) >>> ((1 : Int32).toInt64 &&& 63)) hx hb dX4_halve_58 rfl ?_
          refine lv_lload_n hx hb dX4_halve_59 rfl (lv_at hl 0 rfl) ?_
          refine lv_bipush (v := 31) hx hb dX4_halve_60 (by decide) ?_
          refine lv_lshl (v := 0 <<< ((31 : Int32).toInt64 &&& 63)) hx hb dX4_halve_62 rfl ?_
          refine lv_lor hx hb dX4_halve_63 ?_
          refine va_last (f := g) hx hb hK.1 hP hD hS 1 2 rfl rfl (ix_in (d := d) (k := k) (by omega)) dX4_halve_64 (fun H locs hP hD hS => ?_)
          rw [show ((6 * (nI d)) + (nI k)).toNatClampNeg = 6 * d + k from ix_cl (by omega)] at hP hD
          have hP : va_P D vwCl [(o, .inr (4, [.int cd, .ref wa, .ref sa, .ref ma, .ref tl, .ref gx, .ref gy, .ref tx, .ref tz, .int ln, .ref kx, .ref ky, .int cn, .int ah])), (wa, .inl (cJ, 96, .inr (.inl (vp_updL g (6 * d + k) (((g (6 * d + k)) >>> ((1 : Int32).toInt64 &&& 63)) ||| (0 <<< ((31 : Int32).toInt64 &&& 63)))))))] H := hP
          have hD : va_D A [(o, .inr (4, [.int cd, .ref wa, .ref sa, .ref ma, .ref tl, .ref gx, .ref gy, .ref tx, .ref tz, .int ln, .ref kx, .ref ky, .int cn, .int ah])), (wa, .inl (cJ, 96, .inr (.inl (vp_updL g (6 * d + k) (((g (6 * d + k)) >>> ((1 : Int32).toInt64 &&& 63)) ||| (0 <<< ((31 : Int32).toInt64 &&& 63)))))))] := hD
          obtain ⟨i2_1, ei2_1⟩ : ∃ y : Int32, y = (nI k) + 1 := ⟨_, rfl⟩
          refine lv_iinc (v := i2_1) (lv' := [(2, .int i2_1), (3, .long 0), (0, .ref o), (1, .int (nI d))]) hx hb dX4_halve_65 hl (k := 3) rfl (by rw [ei2_1]; rfl) (by decide) rfl (fun ls hl => ?_)
          refine lv_goto (tgt := 2) hx hb dX4_halve_68 (by decide) ?_
          have q2 : i2_1 = nI (k + 1) := by rw [ei2_1]; exact nI_1 k
          subst q2
          refine ih2 (k + 1) (vp_updL g (6 * d + k) (g (6 * d + k) >>> ((1 : Int32).toInt64 &&& 63) ||| 0 <<< ((31 : Int32).toInt64 &&& 63))) ?_ ?_ ?_ ?_ _ _ hP hD hS _ (lv_sub hl [2, 3, 0] rfl)
          · omega
          · have xk : g (6 * d + k) = fw (6 * d + k) := g4 _ (by omega)
            have lx := g3 (6 * d + k) (by omega)
            have hw := hv_limb0 lx
            rw [if_pos hk] at g2
            rw [if_neg hk5]
            exact hv_fin g2 (by rw [hw, xk])
          · have xk : g (6 * d + k) = fw (6 * d + k) := g4 _ (by omega)
            have lx := g3 (6 * d + k) (by omega)
            exact lim_up g3 (hv_lt0 lx)
          · intro j hj
            rw [pk_uLn (by omega)]; exact g4 j (by omega)
        · have hk5 : k + 1 < 6 := Nat.not_le.mp (fun q => c_13 (by rw [nI_1]; exact (nI_leI (a := 6) (b := k + 1) (by omega) (by omega)).mpr q))
          refine lv_aload_n hx hb dX4_halve_16 rfl (lv_at hl 0 rfl) ?_
          refine va_get (D := D) (ci := 4) (v := .ref wa) (C := RX4) (T := TX4) (N := 14) hx hb hTB tb_X4 hown hK.1 hP 0 rfl rfl 1 (by decide) (hTB _ tb_3_13) (fun _ h9 => h9) rfl dX4_halve_17 ?_
          refine lv_bipush (v := 6) hx hb dX4_halve_20 (by decide) ?_
          refine lv_iload_n hx hb dX4_halve_22 rfl (lv_at hl 1 rfl) ?_
          refine lv_imul hx hb dX4_halve_23 ?_
          refine lv_iload_n hx hb dX4_halve_24 rfl (lv_at hl 2 rfl) ?_
          refine lv_iadd hx hb dX4_halve_25 ?_
          refine lv_iconst (v := 1) hx hb dX4_halve_26 (by decide) ?_
          refine lv_iadd hx hb dX4_halve_27 ?_
          refine va_lald (f := g) hx hb hK.1 hP 1 2 rfl rfl (by rw [nI_add_one_ix]; exact ix_in (d := d) (k := k + 1) (by omega)) dX4_halve_28 ?_
          rw [show (((6 * (nI d)) + (nI k)) + 1).toNatClampNeg = 6 * d + k + 1 from by rw [nI_add_one_ix]; exact ix_cl (d := d) (k := k + 1) (by omega)]
          refine lv_lconst (v := 1) hx hb dX4_halve_29 (by decide) ?_
          refine lv_land hx hb dX4_halve_30 ?_
          refine lv_goto (tgt := 35) hx hb dX4_halve_31 (by decide) ?_
          refine lv_lstore_n (lv' := [(3, .long ((g (6 * d + k + 1)) &&& 1)), (0, .ref o), (1, .int (nI d)), (2, .int (nI k))]) hx hb dX4_halve_35 rfl hl (by decide) rfl (fun ls hl => ?_)
          refine lv_aload_n hx hb dX4_halve_36 rfl (lv_at hl 1 rfl) ?_
          refine va_get (D := D) (ci := 4) (v := .ref wa) (C := RX4) (T := TX4) (N := 14) hx hb hTB tb_X4 hown hK.1 hP 0 rfl rfl 1 (by decide) (hTB _ tb_3_13) (fun _ h9 => h9) rfl dX4_halve_37 ?_
          refine lv_bipush (v := 6) hx hb dX4_halve_40 (by decide) ?_
          refine lv_iload_n hx hb dX4_halve_42 rfl (lv_at hl 2 rfl) ?_
          refine lv_imul hx hb dX4_halve_43 ?_
          refine lv_iload_n hx hb dX4_halve_44 rfl (lv_at hl 3 rfl) ?_
          refine lv_iadd hx hb dX4_halve_45 ?_
          refine lv_aload_n hx hb dX4_halve_46 rfl (lv_at hl 1 rfl) ?_
          refine va_get (D := D) (ci := 4) (v := .ref wa) (C := RX4) (T := TX4) (N := 14) hx hb hTB tb_X4 hown hK.1 hP 0 rfl rfl 1 (by decide) (hTB _ tb_3_13) (fun _ h9 => h9) rfl dX4_halve_47 ?_
          refine lv_bipush (v := 6) hx hb dX4_halve_50 (by decide) ?_
          refine lv_iload_n hx hb dX4_halve_52 rfl (lv_at hl 2 rfl) ?_
          refine lv_imul hx hb dX4_halve_53 ?_
          refine lv_iload_n hx hb dX4_halve_54 rfl (lv_at hl 3 rfl) ?_
          refine lv_iadd hx hb dX4_halve_55 ?_
          refine va_lald (f := g) hx hb hK.1 hP 1 2 rfl rfl (ix_in (d := d) (k := k) (by omega)) dX4_halve_56 ?_
          rw [show ((6 * (nI d)) + (nI k)).toNatClampNeg = 6 * d + k from ix_cl (by omega)]
          refine lv_iconst (v := 1) hx hb dX4_halve_57 (by decide) ?_
          refine lv_lshr (v := (g (6 * d + k)) >>> ((1 : Int32).toInt64 &&& 63)) hx hb dX4_halve_58 rfl ?_
          refine lv_lload_n hx hb dX4_halve_59 rfl (lv_at hl 0 rfl) ?_
          refine lv_bipush (v := 31) hx hb dX4_halve_60 (by decide) ?_
          refine lv_lshl (v := ((g (6 * d + k + 1)) &&& 1) <<< ((31 : Int32).toInt64 &&& 63)) hx hb dX4_halve_62 rfl ?_
          refine lv_lor hx hb dX4_halve_63 ?_
          refine va_last (f := g) hx hb hK.1 hP hD hS 1 2 rfl rfl (ix_in (d := d) (k := k) (by omega)) dX4_halve_64 (fun H locs hP hD hS => ?_)
          rw [show ((6 * (nI d)) + (nI k)).toNatClampNeg = 6 * d + k from ix_cl (by omega)] at hP hD
          have hP : va_P D vwCl [(o, .inr (4, [.int cd, .ref wa, .ref sa, .ref ma, .ref tl, .ref gx, .ref gy, .ref tx, .ref tz, .int ln, .ref kx, .ref ky, .int cn, .int ah])), (wa, .inl (cJ, 96, .inr (.inl (vp_updL g (6 * d + k) (((g (6 * d + k)) >>> ((1 : Int32).toInt64 &&& 63)) ||| (((g (6 * d + k + 1)) &&& 1) <<< ((31 : Int32).toInt64 &&& 63)))))))] H := hP
          have hD : va_D A [(o, .inr (4, [.int cd, .ref wa, .ref sa, .ref ma, .ref tl, .ref gx, .ref gy, .ref tx, .ref tz, .int ln, .ref kx, .ref ky, .int cn, .int ah])), (wa, .inl (cJ, 96, .inr (.inl (vp_updL g (6 * d + k) (((g (6 * d + k)) >>> ((1 : Int32).toInt64 &&& 63)) ||| (((g (6 * d + k + 1)) &&& 1) <<< ((31 : Int32).toInt64 &&& 63)))))))] := hD
          obtain ⟨i2_2, ei2_2⟩ : ∃ y : Int32, y = (nI k) + 1 := ⟨_, rfl⟩
          refine lv_iinc (v := i2_2) (lv' := [(2, .int i2_2), (3, .long ((g (6 * d + k + 1)) &&& 1)), (0, .ref o), (1, .int (nI d))]) hx hb dX4_halve_65 hl (k := 3) rfl (by rw [ei2_2]; rfl) (by decide) rfl (fun ls hl => ?_)
          refine lv_goto (tgt := 2) hx hb dX4_halve_68 (by decide) ?_
          have q2 : i2_2 = nI (k + 1) := by rw [ei2_2]; exact nI_1 k
          subst q2
          refine ih2 (k + 1) (vp_updL g (6 * d + k) (g (6 * d + k) >>> ((1 : Int32).toInt64 &&& 63) ||| (g (6 * d + k + 1) &&& 1) <<< ((31 : Int32).toInt64 &&& 63))) ?_ ?_ ?_ ?_ _ _ hP hD hS _ (lv_sub hl [2, 3, 0] rfl)
          · omega
          · have xk : g (6 * d + k) = fw (6 * d + k) := g4 _ (by omega)
            have lx := g3 (6 * d + k) (by omega)
            have xn : g (6 * d + k + 1) = fw (6 * d + (k + 1)) := g4 _ (by omega)
            have ly : uN (g (6 * d + k + 1) &&& 1) < 2 := by rw [uN_a1]; omega
            have hw := hv_limb lx ly
            rw [if_pos hk] at g2
            rw [if_pos hk5]
            exact hv_fin g2 (by rw [hw, uN_a1, xn, xk])
          · have xk : g (6 * d + k) = fw (6 * d + k) := g4 _ (by omega)
            have lx := g3 (6 * d + k) (by omega)
            have xn : g (6 * d + k + 1) = fw (6 * d + (k + 1)) := g4 _ (by omega)
            have ly : uN (g (6 * d + k + 1) &&& 1) < 2 := by rw [uN_a1]; omega
            exact lim_up g3 (hv_lt lx ly)
          · intro j hj
            rw [pk_uLn (by omega)]; exact g4 j (by omega)
  refine L2 7 0 fw ?_ ?_ ?_ ?_ _ _ hP hD hS _ (lv_sub hl [1, 2, 0] rfl)
  · omega
  · rw [if_pos (by omega), Nat.pow_zero, Nat.mul_one]; rfl
  · exact hlim
  · intro j _; rfl

set_option maxHeartbeats 4000000 in
set_option maxRecDepth 100000 in
theorem c_X4_sum (l : Launch) (D : va_G) (cZ cI cJ : ClassId) (o wa sa ma tl gx gy tx tz kx ky : Nat) (cd ln cn ah : Int32) (fw : Nat → Int64) (fs : Nat → Int32) (d a b : Nat) (x y : Int) (hlim : lim fw) (hd : d < 16) (ha : a < 16) (hb9 : b < 16) (hda : d ≠ a) (hdb : d ≠ b) (hza : hz fw fs a x) (hzb : hz fw fs b y) (hsz : x.natAbs + y.natAbs < 6277101735386680763835789423207666416102355444464034512896) : Cv l D cZ cI cJ yX4_sum cX4_sum 6 { frames := 1, cells := 0, slots := 0, locals := 29 } [.ref o, .int (nI d), .int (nI a), .int (nI b)] [(o, .inr (4, [.int cd, .ref wa, .ref sa, .ref ma, .ref tl, .ref gx, .ref gy, .ref tx, .ref tz, .int ln, .ref kx, .ref ky, .int cn, .int ah])), (wa, .inl (cJ, 96, .inr (.inl fw))), (sa, .inl (cI, 16, .inl fs))] (S := (Nat → Int64) × (Nat → Int32)) (fun u => upn fw u.1 d (x + y).natAbs ∧ u.2 = upd fs d (sg (x + y))) (fun u => [(o, .inr (4, [.int cd, .ref wa, .ref sa, .ref ma, .ref tl, .ref gx, .ref gy, .ref tx, .ref tz, .int ln, .ref kx, .ref ky, .int cn, .int ah])), (wa, .inl (cJ, 96, .inr (.inl u.1))), (sa, .inl (cI, 16, .inl u.2))]) := by
  refine Cv.of (by decide) ?_
  intro p e s m args below meth c A Q hB hret hP hD hA
  obtain ⟨hx, hb, hr, hlocks, hml, hown, hnm, hTB, hK⟩ := hB
  have hown : s.vm.findClass RX4 = some m.cls := hown
  have hS : va_S A s.heap s.heap [] := va_S.rf
  have hl := lv_entry ([.ref o, .int (nI d), .int (nI a), .int (nI b)]) (n := 6) (Nat.le_of_ble_eq_true rfl)
  rw [lg_entry_eq]
  generalize (lg_sl ([.ref o, .int (nI d), .int (nI a), .int (nI b)]) ++ List.replicate (6 - (lg_sl ([.ref o, .int (nI d), .int (nI a), .int (nI b)])).length) Slot.unset).toArray = ls at hl ⊢
  have hl : lv_has ls 6 [(0, .ref o), (1, .int (nI d)), (2, .int (nI a)), (3, .int (nI b))] := hl
  refine lv_aload_n hx hb dX4_sum_0 rfl (lv_at hl 0 rfl) ?_
  refine va_get (D := D) (ci := 4) (v := .ref sa) (C := RX4) (T := TX4) (N := 14) hx hb hTB tb_X4 hown hK.1 hP 0 rfl rfl 2 (by decide) (hTB _ tb_3_15) (fun _ h9 => h9) rfl dX4_sum_1 ?_
  refine lv_iload_n hx hb dX4_sum_4 rfl (lv_at hl 2 rfl) ?_
  refine va_iald (f := fs) hx hb hK.1 hP 2 1 rfl rfl (vp_in_nI (show a < 16 by omega) (by decide)) dX4_sum_5 ?_
  rw [show (nI a).toNatClampNeg = a from nI_clamp (by omega)]
  refine lv_istore (lv' := [(4, .int (fs a)), (0, .ref o), (1, .int (nI d)), (2, .int (nI a)), (3, .int (nI b))]) hx hb dX4_sum_6 hl (by decide) rfl (fun ls hl => ?_)
  refine lv_aload_n hx hb dX4_sum_8 rfl (lv_at hl 1 rfl) ?_
  refine va_get (D := D) (ci := 4) (v := .ref sa) (C := RX4) (T := TX4) (N := 14) hx hb hTB tb_X4 hown hK.1 hP 0 rfl rfl 2 (by decide) (hTB _ tb_3_15) (fun _ h9 => h9) rfl dX4_sum_9 ?_
  refine lv_iload_n hx hb dX4_sum_12 rfl (lv_at hl 4 rfl) ?_
  refine va_iald (f := fs) hx hb hK.1 hP 2 1 rfl rfl (vp_in_nI (show b < 16 by omega) (by decide)) dX4_sum_13 ?_
  rw [show (nI b).toNatClampNeg = b from nI_clamp (by omega)]
  refine lv_istore (lv' := [(5, .int (fs b)), (4, .int (fs a)), (0, .ref o), (1, .int (nI d)), (2, .int (nI a)), (3, .int (nI b))]) hx hb dX4_sum_14 hl (by decide) rfl (fun ls hl => ?_)
  refine lv_iload hx hb dX4_sum_16 (lv_at hl 1 rfl) ?_
  refine lv_if_eq (tgt := 33) hx hb dX4_sum_18 (by decide) (fun c_18 => ?_) (fun c_18 => ?_)
  · refine lv_aload_n hx hb dX4_sum_33 rfl (lv_at hl 2 rfl) ?_
    refine lv_iload_n hx hb dX4_sum_34 rfl (lv_at hl 3 rfl) ?_
    refine lv_iload_n hx hb dX4_sum_35 rfl (lv_at hl 4 rfl) ?_
    refine lv_iload_n hx hb dX4_sum_36 rfl (lv_at hl 5 rfl) ?_
    refine lv_iconst (v := 1) hx hb dX4_sum_37 (by decide) ?_
    refine fin_v (wr := [(sa, .inl (cI, 16, .inl fs))]) (va_runV (As := [.int (nI d), .int (nI a), .int (nI b), .int 1]) (rest := []) ⟨hx, hb, hml, hown, hTB⟩ (c_X4_change_p l D cZ cI cJ o wa sa ma tl gx gy tx tz kx ky cd ln cn ah fw (d) (a) (b) hlim hd ha hb9 (by rw [hza.1, hzb.1]; exact hsz) _) (cw_V hTB tb_7_10 tb_1_5 tb_7_7 tb_7_8 tb_7_9 nd_X4_change rfl rfl ⟨Nat.le_of_ble_eq_true rfl, Nat.le_of_ble_eq_true rfl⟩) (pre_V (q0 := 0) hK hP hD [0, 1] rfl rfl rfl rfl) rfl rfl hl.1 rfl (lv_room (Nat.le_of_ble_eq_true rfl)) dX4_sum_38 ⟨Nat.le_of_ble_eq_true rfl, Nat.le_of_ble_eq_true rfl⟩) hP hD hS hA [0, 1] [2] rfl rfl rfl (by decide) (fun u38 H locs hc38 hP hD hS => ?_)
    have hP : va_P D vwCl [(sa, .inl (cI, 16, .inl fs)), (o, .inr (4, [.int cd, .ref wa, .ref sa, .ref ma, .ref tl, .ref gx, .ref gy, .ref tx, .ref tz, .int ln, .ref kx, .ref ky, .int cn, .int ah])), (wa, .inl (cJ, 96, .inr (.inl u38)))] H := hP
    have hD : va_D A [(sa, .inl (cI, 16, .inl fs)), (o, .inr (4, [.int cd, .ref wa, .ref sa, .ref ma, .ref tl, .ref gx, .ref gy, .ref tx, .ref tz, .int ln, .ref kx, .ref ky, .int cn, .int ah])), (wa, .inl (cJ, 96, .inr (.inl u38)))] := hD
    refine lv_aload_n hx hb dX4_sum_41 rfl (lv_at hl 2 rfl) ?_
    refine va_get (D := D) (ci := 4) (v := .ref sa) (C := RX4) (T := TX4) (N := 14) hx hb hTB tb_X4 hown hK.1 hP 1 rfl rfl 2 (by decide) (hTB _ tb_3_15) (fun _ h9 => h9) rfl dX4_sum_42 ?_
    refine lv_iload_n hx hb dX4_sum_45 rfl (lv_at hl 3 rfl) ?_
    refine lv_iload hx hb dX4_sum_46 (lv_at hl 1 rfl) ?_
    refine lv_if_ne (tgt := 56) hx hb dX4_sum_48 (by decide) (fun c_48 => ?_) (fun c_48 => ?_)
    · refine lv_iload hx hb dX4_sum_56 (lv_at hl 1 rfl) ?_
      refine va_iast (f := fs) hx hb hK.1 hP hD hS 0 1 rfl rfl (vp_in_nI (show d < 16 by omega) (by decide)) dX4_sum_58 (fun H locs hP hD hS => ?_)
      rw [show (nI d).toNatClampNeg = d from nI_clamp (by omega)] at hP hD
      have hP : va_P D vwCl [(sa, .inl (cI, 16, .inl (upd fs d (fs a)))), (o, .inr (4, [.int cd, .ref wa, .ref sa, .ref ma, .ref tl, .ref gx, .ref gy, .ref tx, .ref tz, .int ln, .ref kx, .ref ky, .int cn, .int ah])), (wa, .inl (cJ, 96, .inr (.inl u38)))] H := hP
      have hD : va_D A [(sa, .inl (cI, 16, .inl (upd fs d (fs a)))), (o, .inr (4, [.int cd, .ref wa, .ref sa, .ref ma, .ref tl, .ref gx, .ref gy, .ref tx, .ref tz, .int ln, .ref kx, .ref ky, .int cn, .int ah])), (wa, .inl (cJ, 96, .inr (.inl u38)))] := hD
      exact hret hP hD hS (u38, upd fs d (fs a)) (by have x0 : x = 0 := (by rw [hza.2] at c_18; exact sg_eqt c_18); exact absurd (by rw [hza.2, x0]; rfl) c_48) [1, 2, 0] rfl (by decide) dX4_sum_59 (Nat.le_of_ble_eq_true rfl) (Nat.le_of_ble_eq_true rfl)
    · refine lv_iload hx hb dX4_sum_51 (lv_at hl 0 rfl) ?_
      refine lv_goto (tgt := 58) hx hb dX4_sum_53 (by decide) ?_
      refine va_iast (f := fs) hx hb hK.1 hP hD hS 0 1 rfl rfl (vp_in_nI (show d < 16 by omega) (by decide)) dX4_sum_58 (fun H locs hP hD hS => ?_)
      rw [show (nI d).toNatClampNeg = d from nI_clamp (by omega)] at hP hD
      have hP : va_P D vwCl [(sa, .inl (cI, 16, .inl (upd fs d (fs b)))), (o, .inr (4, [.int cd, .ref wa, .ref sa, .ref ma, .ref tl, .ref gx, .ref gy, .ref tx, .ref tz, .int ln, .ref kx, .ref ky, .int cn, .int ah])), (wa, .inl (cJ, 96, .inr (.inl u38)))] H := hP
      have hD : va_D A [(sa, .inl (cI, 16, .inl (upd fs d (fs b)))), (o, .inr (4, [.int cd, .ref wa, .ref sa, .ref ma, .ref tl, .ref gx, .ref gy, .ref tx, .ref tz, .int ln, .ref kx, .ref ky, .int cn, .int ah])), (wa, .inl (cJ, 96, .inr (.inl u38)))] := hD
      exact hret hP hD hS (u38, upd fs d (fs b)) (by have x0 : x = 0 := (by rw [hza.2] at c_18; exact sg_eqt c_18); rw [hza.1, hzb.1] at hc38; exact ⟨by rw [show (x + y).natAbs = x.natAbs + y.natAbs by omega]; exact hc38, congrArg (upd fs d) (by rw [x0, Int.zero_add, hzb.2])⟩) [1, 2, 0] rfl (by decide) dX4_sum_59 (Nat.le_of_ble_eq_true rfl) (Nat.le_of_ble_eq_true rfl)
  · refine lv_iload hx hb dX4_sum_21 (lv_at hl 0 rfl) ?_
    refine lv_if_eq (tgt := 33) hx hb dX4_sum_23 (by decide) (fun c_23 => ?_) (fun c_23 => ?_)
    · refine lv_aload_n hx hb dX4_sum_33 rfl (lv_at hl 2 rfl) ?_
      refine lv_iload_n hx hb dX4_sum_34 rfl (lv_at hl 3 rfl) ?_
      refine lv_iload_n hx hb dX4_sum_35 rfl (lv_at hl 4 rfl) ?_
      refine lv_iload_n hx hb dX4_sum_36 rfl (lv_at hl 5 rfl) ?_
      refine lv_iconst (v := 1) hx hb dX4_sum_37 (by decide) ?_
      refine fin_v (wr := [(sa, .inl (cI, 16, .inl fs))]) (va_runV (As := [.int (nI d), .int (nI a), .int (nI b), .int 1]) (rest := []) ⟨hx, hb, hml, hown, hTB⟩ (c_X4_change_p l D cZ cI cJ o wa sa ma tl gx gy tx tz kx ky cd ln cn ah fw (d) (a) (b) hlim hd ha hb9 (by rw [hza.1, hzb.1]; exact hsz) _) (cw_V hTB tb_7_10 tb_1_5 tb_7_7 tb_7_8 tb_7_9 nd_X4_change rfl rfl ⟨Nat.le_of_ble_eq_true rfl, Nat.le_of_ble_eq_true rfl⟩) (pre_V (q0 := 0) hK hP hD [0, 1] rfl rfl rfl rfl) rfl rfl hl.1 rfl (lv_room (Nat.le_of_ble_eq_true rfl)) dX4_sum_38 ⟨Nat.le_of_ble_eq_true rfl, Nat.le_of_ble_eq_true rfl⟩) hP hD hS hA [0, 1] [2] rfl rfl rfl (by decide) (fun u38 H locs hc38 hP hD hS => ?_)
      have hP : va_P D vwCl [(sa, .inl (cI, 16, .inl fs)), (o, .inr (4, [.int cd, .ref wa, .ref sa, .ref ma, .ref tl, .ref gx, .ref gy, .ref tx, .ref tz, .int ln, .ref kx, .ref ky, .int cn, .int ah])), (wa, .inl (cJ, 96, .inr (.inl u38)))] H := hP
      have hD : va_D A [(sa, .inl (cI, 16, .inl fs)), (o, .inr (4, [.int cd, .ref wa, .ref sa, .ref ma, .ref tl, .ref gx, .ref gy, .ref tx, .ref tz, .int ln, .ref kx, .ref ky, .int cn, .int ah])), (wa, .inl (cJ, 96, .inr (.inl u38)))] := hD
      refine lv_aload_n hx hb dX4_sum_41 rfl (lv_at hl 2 rfl) ?_
      refine va_get (D := D) (ci := 4) (v := .ref sa) (C := RX4) (T := TX4) (N := 14) hx hb hTB tb_X4 hown hK.1 hP 1 rfl rfl 2 (by decide) (hTB _ tb_3_15) (fun _ h9 => h9) rfl dX4_sum_42 ?_
      refine lv_iload_n hx hb dX4_sum_45 rfl (lv_at hl 3 rfl) ?_
      refine lv_iload hx hb dX4_sum_46 (lv_at hl 1 rfl) ?_
      refine lv_if_ne (tgt := 56) hx hb dX4_sum_48 (by decide) (fun c_48 => ?_) (fun c_48 => ?_)
      · refine lv_iload hx hb dX4_sum_56 (lv_at hl 1 rfl) ?_
        refine va_iast (f := fs) hx hb hK.1 hP hD hS 0 1 rfl rfl (vp_in_nI (show d < 16 by omega) (by decide)) dX4_sum_58 (fun H locs hP hD hS => ?_)
        rw [show (nI d).toNatClampNeg = d from nI_clamp (by omega)] at hP hD
        have hP : va_P D vwCl [(sa, .inl (cI, 16, .inl (upd fs d (fs a)))), (o, .inr (4, [.int cd, .ref wa, .ref sa, .ref ma, .ref tl, .ref gx, .ref gy, .ref tx, .ref tz, .int ln, .ref kx, .ref ky, .int cn, .int ah])), (wa, .inl (cJ, 96, .inr (.inl u38)))] H := hP
        have hD : va_D A [(sa, .inl (cI, 16, .inl (upd fs d (fs a)))), (o, .inr (4, [.int cd, .ref wa, .ref sa, .ref ma, .ref tl, .ref gx, .ref gy, .ref tx, .ref tz, .int ln, .ref kx, .ref ky, .int cn, .int ah])), (wa, .inl (cJ, 96, .inr (.inl u38)))] := hD
        exact hret hP hD hS (u38, upd fs d (fs a)) (by have y0 : y = 0 := (by rw [hzb.2] at c_23; exact sg_eqt c_23); rw [hza.1, hzb.1] at hc38; exact ⟨by rw [show (x + y).natAbs = x.natAbs + y.natAbs by omega]; exact hc38, congrArg (upd fs d) (by rw [y0, Int.add_zero, hza.2])⟩) [1, 2, 0] rfl (by decide) dX4_sum_59 (Nat.le_of_ble_eq_true rfl) (Nat.le_of_ble_eq_true rfl)
      · refine lv_iload hx hb dX4_sum_51 (lv_at hl 0 rfl) ?_
        refine lv_goto (tgt := 58) hx hb dX4_sum_53 (by decide) ?_
        refine va_iast (f := fs) hx hb hK.1 hP hD hS 0 1 rfl rfl (vp_in_nI (show d < 16 by omega) (by decide)) dX4_sum_58 (fun H locs hP hD hS => ?_)
        rw [show (nI d).toNatClampNeg = d from nI_clamp (by omega)] at hP hD
        have hP : va_P D vwCl [(sa, .inl (cI, 16, .inl (upd fs d (fs b)))), (o, .inr (4, [.int cd, .ref wa, .ref sa, .ref ma, .ref tl, .ref gx, .ref gy, .ref tx, .ref tz, .int ln, .ref kx, .ref ky, .int cn, .int ah])), (wa, .inl (cJ, 96, .inr (.inl u38)))] H := hP
        have hD : va_D A [(sa, .inl (cI, 16, .inl (upd fs d (fs b)))), (o, .inr (4, [.int cd, .ref wa, .ref sa, .ref ma, .ref tl, .ref gx, .ref gy, .ref tx, .ref tz, .int ln, .ref kx, .ref ky, .int cn, .int ah])), (wa, .inl (cJ, 96, .inr (.inl u38)))] := hD
        exact hret hP hD hS (u38, upd fs d (fs b)) (by have y0 : y = 0 := (by rw [hzb.2] at c_23; exact sg_eqt c_23); exact absurd c_48 c_18) [1, 2, 0] rfl (by decide) dX4_sum_59 (Nat.le_of_ble_eq_true rfl) (Nat.le_of_ble_eq_true rfl)
    · refine lv_iload hx hb dX4_sum_26 (lv_at hl 1 rfl) ?_
      refine lv_iload hx hb dX4_sum_28 (lv_at hl 0 rfl) ?_
      refine lv_icmp_ne (tgt := 60) hx hb dX4_sum_30 (by decide) (fun c_30 => ?_) (fun c_30 => ?_)
      · refine lv_aload_n hx hb dX4_sum_60 rfl (lv_at hl 2 rfl) ?_
        refine lv_iload_n hx hb dX4_sum_61 rfl (lv_at hl 4 rfl) ?_
        refine lv_iload_n hx hb dX4_sum_62 rfl (lv_at hl 5 rfl) ?_
        refine vp_callSi (va_runV (As := [.int (nI a), .int (nI b)]) (rest := []) ⟨hx, hb, hml, hown, hTB⟩ (c_X4_compare l D cZ cI cJ o wa sa ma tl gx gy tx tz kx ky cd ln cn ah fw a b hlim ha hb9) (cw_V hTB tb_7_14 tb_1_5 tb_7_11 tb_7_12 tb_7_13 nd_X4_compare rfl rfl ⟨Nat.le_of_ble_eq_true rfl, Nat.le_of_ble_eq_true rfl⟩) (prr_V (q0 := 0) hK hP [0, 1] rfl rfl rfl) rfl rfl hl.1 rfl (lv_room (Nat.le_of_ble_eq_true rfl)) dX4_sum_63 ⟨Nat.le_of_ble_eq_true rfl, Nat.le_of_ble_eq_true rfl⟩).run (fun r63 hc63 => ?_)
        subst hc63
        refine lv_if_lt (tgt := 88) hx hb dX4_sum_66 (by decide) (fun c_66 => ?_) (fun c_66 => ?_)
        · have c_66 := cm_ltt c_66
          refine lv_aload_n hx hb dX4_sum_88 rfl (lv_at hl 2 rfl) ?_
          refine lv_iload_n hx hb dX4_sum_89 rfl (lv_at hl 3 rfl) ?_
          refine lv_iload_n hx hb dX4_sum_90 rfl (lv_at hl 5 rfl) ?_
          refine lv_iload_n hx hb dX4_sum_91 rfl (lv_at hl 4 rfl) ?_
          refine lv_iconst (v := 0) hx hb dX4_sum_92 (by decide) ?_
          refine fin_v (wr := [(sa, .inl (cI, 16, .inl fs))]) (va_runV (As := [.int (nI d), .int (nI b), .int (nI a), .int 0]) (rest := []) ⟨hx, hb, hml, hown, hTB⟩ (c_X4_change_m l D cZ cI cJ o wa sa ma tl gx gy tx tz kx ky cd ln cn ah fw (d) (b) (a) hlim hd hb9 ha (by omega) _) (cw_V hTB tb_7_10 tb_1_5 tb_7_7 tb_7_8 tb_7_9 nd_X4_change rfl rfl ⟨Nat.le_of_ble_eq_true rfl, Nat.le_of_ble_eq_true rfl⟩) (pre_V (q0 := 0) hK hP hD [0, 1] rfl rfl rfl rfl) rfl rfl hl.1 rfl (lv_room (Nat.le_of_ble_eq_true rfl)) dX4_sum_93 ⟨Nat.le_of_ble_eq_true rfl, Nat.le_of_ble_eq_true rfl⟩) hP hD hS hA [0, 1] [2] rfl rfl rfl (by decide) (fun u93 H locs hc93 hP hD hS => ?_)
          have hP : va_P D vwCl [(sa, .inl (cI, 16, .inl fs)), (o, .inr (4, [.int cd, .ref wa, .ref sa, .ref ma, .ref tl, .ref gx, .ref gy, .ref tx, .ref tz, .int ln, .ref kx, .ref ky, .int cn, .int ah])), (wa, .inl (cJ, 96, .inr (.inl u93)))] H := hP
          have hD : va_D A [(sa, .inl (cI, 16, .inl fs)), (o, .inr (4, [.int cd, .ref wa, .ref sa, .ref ma, .ref tl, .ref gx, .ref gy, .ref tx, .ref tz, .int ln, .ref kx, .ref ky, .int cn, .int ah])), (wa, .inl (cJ, 96, .inr (.inl u93)))] := hD
          refine lv_aload_n hx hb dX4_sum_96 rfl (lv_at hl 2 rfl) ?_
          refine va_get (D := D) (ci := 4) (v := .ref sa) (C := RX4) (T := TX4) (N := 14) hx hb hTB tb_X4 hown hK.1 hP 1 rfl rfl 2 (by decide) (hTB _ tb_3_15) (fun _ h9 => h9) rfl dX4_sum_97 ?_
          refine lv_iload_n hx hb dX4_sum_100 rfl (lv_at hl 3 rfl) ?_
          refine lv_iload hx hb dX4_sum_101 (lv_at hl 0 rfl) ?_
          refine va_iast (f := fs) hx hb hK.1 hP hD hS 0 1 rfl rfl (vp_in_nI (show d < 16 by omega) (by decide)) dX4_sum_103 (fun H locs hP hD hS => ?_)
          rw [show (nI d).toNatClampNeg = d from nI_clamp (by omega)] at hP hD
          have hP : va_P D vwCl [(sa, .inl (cI, 16, .inl (upd fs d (fs b)))), (o, .inr (4, [.int cd, .ref wa, .ref sa, .ref ma, .ref tl, .ref gx, .ref gy, .ref tx, .ref tz, .int ln, .ref kx, .ref ky, .int cn, .int ah])), (wa, .inl (cJ, 96, .inr (.inl u93)))] H := hP
          have hD : va_D A [(sa, .inl (cI, 16, .inl (upd fs d (fs b)))), (o, .inr (4, [.int cd, .ref wa, .ref sa, .ref ma, .ref tl, .ref gx, .ref gy, .ref tx, .ref tz, .int ln, .ref kx, .ref ky, .int cn, .int ah])), (wa, .inl (cJ, 96, .inr (.inl u93)))] := hD
          refine lv_aload_n hx hb dX4_sum_104 rfl (lv_at hl 2 rfl) ?_
          refine lv_iload_n hx hb dX4_sum_105 rfl (lv_at hl 3 rfl) ?_
          refine vp_callSi (va_runV (As := [.int (nI d)]) (rest := []) ⟨hx, hb, hml, hown, hTB⟩ (c_X4_isNothing l D cZ cI cJ o wa sa ma tl gx gy tx tz kx ky cd ln cn ah u93 d hd) (cw_V hTB tb_7_18 tb_1_5 tb_7_15 tb_7_16 tb_7_17 nd_X4_isNothing rfl rfl ⟨Nat.le_of_ble_eq_true rfl, Nat.le_of_ble_eq_true rfl⟩) (prr_V (q0 := 1) hK hP [1, 2] rfl rfl rfl) rfl rfl hl.1 rfl (lv_room (Nat.le_of_ble_eq_true rfl)) dX4_sum_106 ⟨Nat.le_of_ble_eq_true rfl, Nat.le_of_ble_eq_true rfl⟩).run (fun r106 hc106 => ?_)
          subst hc106
          refine lv_if_eq (tgt := 119) hx hb dX4_sum_109 (by decide) (fun c_109 => ?_) (fun c_109 => ?_)
          · have c_109 := bz_0 c_109
            exact hret hP hD hS (u93, upd fs d (fs b)) (by have xn : x ≠ 0 := (fun q => c_18 (by rw [hza.2, q]; rfl)); have yn : y ≠ 0 := (fun q => c_23 (by rw [hzb.2, q]; rfl)); have ss := sg_diff (show ¬ sg x = sg y by rw [← hza.2, ← hzb.2]; exact c_30) xn yn; rw [hza.1, hzb.1] at c_66; rw [hza.1, hzb.1] at hc93; have eu := hc93.2.1; rw [eu] at c_109; exact ⟨by rw [show (x + y).natAbs = y.natAbs - x.natAbs by omega]; exact hc93, congrArg (upd fs d) (by rw [hzb.2]; rcases ss with ⟨a1, a2⟩ | ⟨a1, a2⟩; rw [sg_pos a2, sg_pos (by omega)]; rw [sg_neg a2, sg_neg (by omega)])⟩) [1, 2, 0] rfl (by decide) dX4_sum_119 (Nat.le_of_ble_eq_true rfl) (Nat.le_of_ble_eq_true rfl)
          · have c_109 := bz_1 c_109
            refine lv_aload_n hx hb dX4_sum_112 rfl (lv_at hl 2 rfl) ?_
            refine va_get (D := D) (ci := 4) (v := .ref sa) (C := RX4) (T := TX4) (N := 14) hx hb hTB tb_X4 hown hK.1 hP 1 rfl rfl 2 (by decide) (hTB _ tb_3_15) (fun _ h9 => h9) rfl dX4_sum_113 ?_
            refine lv_iload_n hx hb dX4_sum_116 rfl (lv_at hl 3 rfl) ?_
            refine lv_iconst (v := 0) hx hb dX4_sum_117 (by decide) ?_
            refine va_iast (f := (upd fs d (fs b))) hx hb hK.1 hP hD hS 0 1 rfl rfl (vp_in_nI (show d < 16 by omega) (by decide)) dX4_sum_118 (fun H locs hP hD hS => ?_)
            rw [show (nI d).toNatClampNeg = d from nI_clamp (by omega)] at hP hD
            have hP : va_P D vwCl [(sa, .inl (cI, 16, .inl (upd (upd fs d (fs b)) d 0))), (o, .inr (4, [.int cd, .ref wa, .ref sa, .ref ma, .ref tl, .ref gx, .ref gy, .ref tx, .ref tz, .int ln, .ref kx, .ref ky, .int cn, .int ah])), (wa, .inl (cJ, 96, .inr (.inl u93)))] H := hP
            have hD : va_D A [(sa, .inl (cI, 16, .inl (upd (upd fs d (fs b)) d 0))), (o, .inr (4, [.int cd, .ref wa, .ref sa, .ref ma, .ref tl, .ref gx, .ref gy, .ref tx, .ref tz, .int ln, .ref kx, .ref ky, .int cn, .int ah])), (wa, .inl (cJ, 96, .inr (.inl u93)))] := hD
            exact hret hP hD hS (u93, upd (upd fs d (fs b)) d 0) (by have xn : x ≠ 0 := (fun q => c_18 (by rw [hza.2, q]; rfl)); have yn : y ≠ 0 := (fun q => c_23 (by rw [hzb.2, q]; rfl)); have ss := sg_diff (show ¬ sg x = sg y by rw [← hza.2, ← hzb.2]; exact c_30) xn yn; rw [hza.1, hzb.1] at c_66; rw [hza.1, hzb.1] at hc93; have eu := hc93.2.1; rw [eu] at c_109; exact ⟨by rw [show (x + y).natAbs = y.natAbs - x.natAbs by omega]; exact hc93, by dsimp only; rw [upd_upd, show x + y = 0 by omega]; rfl⟩) [1, 2, 0] rfl (by decide) dX4_sum_119 (Nat.le_of_ble_eq_true rfl) (Nat.le_of_ble_eq_true rfl)
        · have c_66 := cm_ltf c_66
          refine lv_aload_n hx hb dX4_sum_69 rfl (lv_at hl 2 rfl) ?_
          refine lv_iload_n hx hb dX4_sum_70 rfl (lv_at hl 3 rfl) ?_
          refine lv_iload_n hx hb dX4_sum_71 rfl (lv_at hl 4 rfl) ?_
          refine lv_iload_n hx hb dX4_sum_72 rfl (lv_at hl 5 rfl) ?_
          refine lv_iconst (v := 0) hx hb dX4_sum_73 (by decide) ?_
          refine fin_v (wr := [(sa, .inl (cI, 16, .inl fs))]) (va_runV (As := [.int (nI d), .int (nI a), .int (nI b), .int 0]) (rest := []) ⟨hx, hb, hml, hown, hTB⟩ (c_X4_change_m l D cZ cI cJ o wa sa ma tl gx gy tx tz kx ky cd ln cn ah fw (d) (a) (b) hlim hd ha hb9 (by omega) _) (cw_V hTB tb_7_10 tb_1_5 tb_7_7 tb_7_8 tb_7_9 nd_X4_change rfl rfl ⟨Nat.le_of_ble_eq_true rfl, Nat.le_of_ble_eq_true rfl⟩) (pre_V (q0 := 0) hK hP hD [0, 1] rfl rfl rfl rfl) rfl rfl hl.1 rfl (lv_room (Nat.le_of_ble_eq_true rfl)) dX4_sum_74 ⟨Nat.le_of_ble_eq_true rfl, Nat.le_of_ble_eq_true rfl⟩) hP hD hS hA [0, 1] [2] rfl rfl rfl (by decide) (fun u74 H locs hc74 hP hD hS => ?_)
          have hP : va_P D vwCl [(sa, .inl (cI, 16, .inl fs)), (o, .inr (4, [.int cd, .ref wa, .ref sa, .ref ma, .ref tl, .ref gx, .ref gy, .ref tx, .ref tz, .int ln, .ref kx, .ref ky, .int cn, .int ah])), (wa, .inl (cJ, 96, .inr (.inl u74)))] H := hP
          have hD : va_D A [(sa, .inl (cI, 16, .inl fs)), (o, .inr (4, [.int cd, .ref wa, .ref sa, .ref ma, .ref tl, .ref gx, .ref gy, .ref tx, .ref tz, .int ln, .ref kx, .ref ky, .int cn, .int ah])), (wa, .inl (cJ, 96, .inr (.inl u74)))] := hD
          refine lv_aload_n hx hb dX4_sum_77 rfl (lv_at hl 2 rfl) ?_
          refine va_get (D := D) (ci := 4) (v := .ref sa) (C := RX4) (T := TX4) (N := 14) hx hb hTB tb_X4 hown hK.1 hP 1 rfl rfl 2 (by decide) (hTB _ tb_3_15) (fun _ h9 => h9) rfl dX4_sum_78 ?_
          refine lv_iload_n hx hb dX4_sum_81 rfl (lv_at hl 3 rfl) ?_
          refine lv_iload hx hb dX4_sum_82 (lv_at hl 1 rfl) ?_
          refine va_iast (f := fs) hx hb hK.1 hP hD hS 0 1 rfl rfl (vp_in_nI (show d < 16 by omega) (by decide)) dX4_sum_84 (fun H locs hP hD hS => ?_)
          rw [show (nI d).toNatClampNeg = d from nI_clamp (by omega)] at hP hD
          have hP : va_P D vwCl [(sa, .inl (cI, 16, .inl (upd fs d (fs a)))), (o, .inr (4, [.int cd, .ref wa, .ref sa, .ref ma, .ref tl, .ref gx, .ref gy, .ref tx, .ref tz, .int ln, .ref kx, .ref ky, .int cn, .int ah])), (wa, .inl (cJ, 96, .inr (.inl u74)))] H := hP
          have hD : va_D A [(sa, .inl (cI, 16, .inl (upd fs d (fs a)))), (o, .inr (4, [.int cd, .ref wa, .ref sa, .ref ma, .ref tl, .ref gx, .ref gy, .ref tx, .ref tz, .int ln, .ref kx, .ref ky, .int cn, .int ah])), (wa, .inl (cJ, 96, .inr (.inl u74)))] := hD
          refine lv_goto (tgt := 104) hx hb dX4_sum_85 (by decide) ?_
          refine lv_aload_n hx hb dX4_sum_104 rfl (lv_at hl 2 rfl) ?_
          refine lv_iload_n hx hb dX4_sum_105 rfl (lv_at hl 3 rfl) ?_
          refine vp_callSi (va_runV (As := [.int (nI d)]) (rest := []) ⟨hx, hb, hml, hown, hTB⟩ (c_X4_isNothing l D cZ cI cJ o wa sa ma tl gx gy tx tz kx ky cd ln cn ah u74 d hd) (cw_V hTB tb_7_18 tb_1_5 tb_7_15 tb_7_16 tb_7_17 nd_X4_isNothing rfl rfl ⟨Nat.le_of_ble_eq_true rfl, Nat.le_of_ble_eq_true rfl⟩) (prr_V (q0 := 1) hK hP [1, 2] rfl rfl rfl) rfl rfl hl.1 rfl (lv_room (Nat.le_of_ble_eq_true rfl)) dX4_sum_106 ⟨Nat.le_of_ble_eq_true rfl, Nat.le_of_ble_eq_true rfl⟩).run (fun r106 hc106 => ?_)
          subst hc106
          refine lv_if_eq (tgt := 119) hx hb dX4_sum_109 (by decide) (fun c_109 => ?_) (fun c_109 => ?_)
          · have c_109 := bz_0 c_109
            exact hret hP hD hS (u74, upd fs d (fs a)) (by have xn : x ≠ 0 := (fun q => c_18 (by rw [hza.2, q]; rfl)); have yn : y ≠ 0 := (fun q => c_23 (by rw [hzb.2, q]; rfl)); have ss := sg_diff (show ¬ sg x = sg y by rw [← hza.2, ← hzb.2]; exact c_30) xn yn; rw [hza.1, hzb.1] at c_66; rw [hza.1, hzb.1] at hc74; have eu := hc74.2.1; rw [eu] at c_109; exact ⟨by rw [show (x + y).natAbs = x.natAbs - y.natAbs by omega]; exact hc74, congrArg (upd fs d) (by rw [hza.2]; rcases ss with ⟨a1, a2⟩ | ⟨a1, a2⟩; rw [sg_neg a1, sg_neg (by omega)]; rw [sg_pos a1, sg_pos (by omega)])⟩) [1, 2, 0] rfl (by decide) dX4_sum_119 (Nat.le_of_ble_eq_true rfl) (Nat.le_of_ble_eq_true rfl)
          · have c_109 := bz_1 c_109
            refine lv_aload_n hx hb dX4_sum_112 rfl (lv_at hl 2 rfl) ?_
            refine va_get (D := D) (ci := 4) (v := .ref sa) (C := RX4) (T := TX4) (N := 14) hx hb hTB tb_X4 hown hK.1 hP 1 rfl rfl 2 (by decide) (hTB _ tb_3_15) (fun _ h9 => h9) rfl dX4_sum_113 ?_
            refine lv_iload_n hx hb dX4_sum_116 rfl (lv_at hl 3 rfl) ?_
            refine lv_iconst (v := 0) hx hb dX4_sum_117 (by decide) ?_
            refine va_iast (f := (upd fs d (fs a))) hx hb hK.1 hP hD hS 0 1 rfl rfl (vp_in_nI (show d < 16 by omega) (by decide)) dX4_sum_118 (fun H locs hP hD hS => ?_)
            rw [show (nI d).toNatClampNeg = d from nI_clamp (by omega)] at hP hD
            have hP : va_P D vwCl [(sa, .inl (cI, 16, .inl (upd (upd fs d (fs a)) d 0))), (o, .inr (4, [.int cd, .ref wa, .ref sa, .ref ma, .ref tl, .ref gx, .ref gy, .ref tx, .ref tz, .int ln, .ref kx, .ref ky, .int cn, .int ah])), (wa, .inl (cJ, 96, .inr (.inl u74)))] H := hP
            have hD : va_D A [(sa, .inl (cI, 16, .inl (upd (upd fs d (fs a)) d 0))), (o, .inr (4, [.int cd, .ref wa, .ref sa, .ref ma, .ref tl, .ref gx, .ref gy, .ref tx, .ref tz, .int ln, .ref kx, .ref ky, .int cn, .int ah])), (wa, .inl (cJ, 96, .inr (.inl u74)))] := hD
            exact hret hP hD hS (u74, upd (upd fs d (fs a)) d 0) (by have xn : x ≠ 0 := (fun q => c_18 (by rw [hza.2, q]; rfl)); have yn : y ≠ 0 := (fun q => c_23 (by rw [hzb.2, q]; rfl)); have ss := sg_diff (show ¬ sg x = sg y by rw [← hza.2, ← hzb.2]; exact c_30) xn yn; rw [hza.1, hzb.1] at c_66; rw [hza.1, hzb.1] at hc74; have eu := hc74.2.1; rw [eu] at c_109; exact ⟨by rw [show (x + y).natAbs = x.natAbs - y.natAbs by omega]; exact hc74, by dsimp only; rw [upd_upd, show x + y = 0 by omega]; rfl⟩) [1, 2, 0] rfl (by decide) dX4_sum_119 (Nat.le_of_ble_eq_true rfl) (Nat.le_of_ble_eq_true rfl)
      · refine lv_aload_n hx hb dX4_sum_33 rfl (lv_at hl 2 rfl) ?_
        refine lv_iload_n hx hb dX4_sum_34 rfl (lv_at hl 3 rfl) ?_
        refine lv_iload_n hx hb dX4_sum_35 rfl (lv_at hl 4 rfl) ?_
        refine lv_iload_n hx hb dX4_sum_36 rfl (lv_at hl 5 rfl) ?_
        refine lv_iconst (v := 1) hx hb dX4_sum_37 (by decide) ?_
        refine fin_v (wr := [(sa, .inl (cI, 16, .inl fs))]) (va_runV (As := [.int (nI d), .int (nI a), .int (nI b), .int 1]) (rest := []) ⟨hx, hb, hml, hown, hTB⟩ (c_X4_change_p l D cZ cI cJ o wa sa ma tl gx gy tx tz kx ky cd ln cn ah fw (d) (a) (b) hlim hd ha hb9 (by rw [hza.1, hzb.1]; exact hsz) _) (cw_V hTB tb_7_10 tb_1_5 tb_7_7 tb_7_8 tb_7_9 nd_X4_change rfl rfl ⟨Nat.le_of_ble_eq_true rfl, Nat.le_of_ble_eq_true rfl⟩) (pre_V (q0 := 0) hK hP hD [0, 1] rfl rfl rfl rfl) rfl rfl hl.1 rfl (lv_room (Nat.le_of_ble_eq_true rfl)) dX4_sum_38 ⟨Nat.le_of_ble_eq_true rfl, Nat.le_of_ble_eq_true rfl⟩) hP hD hS hA [0, 1] [2] rfl rfl rfl (by decide) (fun u38 H locs hc38 hP hD hS => ?_)
        have hP : va_P D vwCl [(sa, .inl (cI, 16, .inl fs)), (o, .inr (4, [.int cd, .ref wa, .ref sa, .ref ma, .ref tl, .ref gx, .ref gy, .ref tx, .ref tz, .int ln, .ref kx, .ref ky, .int cn, .int ah])), (wa, .inl (cJ, 96, .inr (.inl u38)))] H := hP
        have hD : va_D A [(sa, .inl (cI, 16, .inl fs)), (o, .inr (4, [.int cd, .ref wa, .ref sa, .ref ma, .ref tl, .ref gx, .ref gy, .ref tx, .ref tz, .int ln, .ref kx, .ref ky, .int cn, .int ah])), (wa, .inl (cJ, 96, .inr (.inl u38)))] := hD
        refine lv_aload_n hx hb dX4_sum_41 rfl (lv_at hl 2 rfl) ?_
        refine va_get (D := D) (ci := 4) (v := .ref sa) (C := RX4) (T := TX4) (N := 14) hx hb hTB tb_X4 hown hK.1 hP 1 rfl rfl 2 (by decide) (hTB _ tb_3_15) (fun _ h9 => h9) rfl dX4_sum_42 ?_
        refine lv_iload_n hx hb dX4_sum_45 rfl (lv_at hl 3 rfl) ?_
        refine lv_iload hx hb dX4_sum_46 (lv_at hl 1 rfl) ?_
        refine lv_if_ne (tgt := 56) hx hb dX4_sum_48 (by decide) (fun c_48 => ?_) (fun c_48 => ?_)
        · refine lv_iload hx hb dX4_sum_56 (lv_at hl 1 rfl) ?_
          refine va_iast (f := fs) hx hb hK.1 hP hD hS 0 1 rfl rfl (vp_in_nI (show d < 16 by omega) (by decide)) dX4_sum_58 (fun H locs hP hD hS => ?_)
          rw [show (nI d).toNatClampNeg = d from nI_clamp (by omega)] at hP hD
          have hP : va_P D vwCl [(sa, .inl (cI, 16, .inl (upd fs d (fs a)))), (o, .inr (4, [.int cd, .ref wa, .ref sa, .ref ma, .ref tl, .ref gx, .ref gy, .ref tx, .ref tz, .int ln, .ref kx, .ref ky, .int cn, .int ah])), (wa, .inl (cJ, 96, .inr (.inl u38)))] H := hP
          have hD : va_D A [(sa, .inl (cI, 16, .inl (upd fs d (fs a)))), (o, .inr (4, [.int cd, .ref wa, .ref sa, .ref ma, .ref tl, .ref gx, .ref gy, .ref tx, .ref tz, .int ln, .ref kx, .ref ky, .int cn, .int ah])), (wa, .inl (cJ, 96, .inr (.inl u38)))] := hD
          exact hret hP hD hS (u38, upd fs d (fs a)) (by have ss := sg_same (show sg x = sg y by rw [← hza.2, ← hzb.2]; exact c_30); have xn : x ≠ 0 := (fun q => c_18 (by rw [hza.2, q]; rfl)); rw [hza.1, hzb.1] at hc38; exact ⟨by rw [show (x + y).natAbs = x.natAbs + y.natAbs by omega]; exact hc38, congrArg (upd fs d) (by rw [hza.2]; rcases ss with ⟨a1, a2⟩ | ⟨a1, a2⟩ | ⟨a1, a2⟩; rw [sg_neg a1, sg_neg (by omega)]; exact absurd a1 xn; rw [sg_pos a1, sg_pos (by omega)])⟩) [1, 2, 0] rfl (by decide) dX4_sum_59 (Nat.le_of_ble_eq_true rfl) (Nat.le_of_ble_eq_true rfl)
        · refine lv_iload hx hb dX4_sum_51 (lv_at hl 0 rfl) ?_
          refine lv_goto (tgt := 58) hx hb dX4_sum_53 (by decide) ?_
          refine va_iast (f := fs) hx hb hK.1 hP hD hS 0 1 rfl rfl (vp_in_nI (show d < 16 by omega) (by decide)) dX4_sum_58 (fun H locs hP hD hS => ?_)
          rw [show (nI d).toNatClampNeg = d from nI_clamp (by omega)] at hP hD
          have hP : va_P D vwCl [(sa, .inl (cI, 16, .inl (upd fs d (fs b)))), (o, .inr (4, [.int cd, .ref wa, .ref sa, .ref ma, .ref tl, .ref gx, .ref gy, .ref tx, .ref tz, .int ln, .ref kx, .ref ky, .int cn, .int ah])), (wa, .inl (cJ, 96, .inr (.inl u38)))] H := hP
          have hD : va_D A [(sa, .inl (cI, 16, .inl (upd fs d (fs b)))), (o, .inr (4, [.int cd, .ref wa, .ref sa, .ref ma, .ref tl, .ref gx, .ref gy, .ref tx, .ref tz, .int ln, .ref kx, .ref ky, .int cn, .int ah])), (wa, .inl (cJ, 96, .inr (.inl u38)))] := hD
          exact hret hP hD hS (u38, upd fs d (fs b)) (by have ss := sg_same (show sg x = sg y by rw [← hza.2, ← hzb.2]; exact c_30); have xn : x ≠ 0 := (fun q => c_18 (by rw [hza.2, q]; rfl)); exact absurd c_48 c_18) [1, 2, 0] rfl (by decide) dX4_sum_59 (Nat.le_of_ble_eq_true rfl) (Nat.le_of_ble_eq_true rfl)

set_option maxHeartbeats 4000000 in
set_option maxRecDepth 100000 in
theorem c_X4_times (l : Launch) (D : va_G) (cZ cI cJ : ClassId) (o wa sa ma tl gx gy tx tz kx ky : Nat) (cd ln cn ah : Int32) (fw : Nat → Int64) (fs : Nat → Int32) (fm : Nat → Int64) (d a b : Nat) (x y : Int) (hlim : lim fw) (hd : d < 16) (ha : a < 16) (hb9 : b < 16) (hza : hz fw fs a x) (hzb : hz fw fs b y) (hsz : (x * y).natAbs < 6277101735386680763835789423207666416102355444464034512896) : Cv l D cZ cI cJ yX4_times cX4_times 10 { frames := 0, cells := 0, slots := 0, locals := 0 } [.ref o, .int (nI d), .int (nI a), .int (nI b)] [(o, .inr (4, [.int cd, .ref wa, .ref sa, .ref ma, .ref tl, .ref gx, .ref gy, .ref tx, .ref tz, .int ln, .ref kx, .ref ky, .int cn, .int ah])), (wa, .inl (cJ, 96, .inr (.inl fw))), (sa, .inl (cI, 16, .inl fs)), (ma, .inl (cJ, 12, .inr (.inl fm)))] (S := (Nat → Int64) × (Nat → Int32) × (Nat → Int64)) (fun u => upn fw u.1 d (x * y).natAbs ∧ u.2.1 = upd fs d (sg (x * y))) (fun u => [(o, .inr (4, [.int cd, .ref wa, .ref sa, .ref ma, .ref tl, .ref gx, .ref gy, .ref tx, .ref tz, .int ln, .ref kx, .ref ky, .int cn, .int ah])), (wa, .inl (cJ, 96, .inr (.inl u.1))), (sa, .inl (cI, 16, .inl u.2.1)), (ma, .inl (cJ, 12, .inr (.inl u.2.2)))]) := by
  refine Cv.of (by decide) ?_
  intro p e s m args below meth c A Q hB hret hP hD hA
  obtain ⟨hx, hb, hr, hlocks, hml, hown, hnm, hTB, hK⟩ := hB
  have hown : s.vm.findClass RX4 = some m.cls := hown
  have hS : va_S A s.heap s.heap [] := va_S.rf
  have hpr : num fw a * num fw b < 6277101735386680763835789423207666416102355444464034512896 := by rw [hza.1, hzb.1, ← Int.natAbs_mul]; exact hsz
  have hl := lv_entry ([.ref o, .int (nI d), .int (nI a), .int (nI b)]) (n := 10) (Nat.le_of_ble_eq_true rfl)
  rw [lg_entry_eq]
  generalize (lg_sl ([.ref o, .int (nI d), .int (nI a), .int (nI b)]) ++ List.replicate (10 - (lg_sl ([.ref o, .int (nI d), .int (nI a), .int (nI b)])).length) Slot.unset).toArray = ls at hl ⊢
  have hl : lv_has ls 10 [(0, .ref o), (1, .int (nI d)), (2, .int (nI a)), (3, .int (nI b))] := hl
  refine lv_iconst (v := 0) hx hb dX4_times_0 (by decide) ?_
  refine lv_istore (lv' := [(4, .int 0), (0, .ref o), (1, .int (nI d)), (2, .int (nI a)), (3, .int (nI b))]) hx hb dX4_times_1 hl (by decide) rfl (fun ls hl => ?_)
  have L3 : ∀ (n3 : Nat) (k : Nat) (h : Nat → Int64), (12 < k + n3 ∧ k ≤ 12) → (∀ j, j < k → h j = 0) → ∀ (H : Heap) (locs : List Loc), va_P D vwCl [(o, .inr (4, [.int cd, .ref wa, .ref sa, .ref ma, .ref tl, .ref gx, .ref gy, .ref tx, .ref tz, .int ln, .ref kx, .ref ky, .int cn, .int ah])), (wa, .inl (cJ, 96, .inr (.inl fw))), (sa, .inl (cI, 16, .inl fs)), (ma, .inl (cJ, 12, .inr (.inl h)))] H → va_D A [(o, .inr (4, [.int cd, .ref wa, .ref sa, .ref ma, .ref tl, .ref gx, .ref gy, .ref tx, .ref tz, .int ln, .ref kx, .ref ky, .int cn, .int ah])), (wa, .inl (cJ, 96, .inr (.inl fw))), (sa, .inl (cI, 16, .inl fs)), (ma, .inl (cJ, 12, .inr (.inl h)))] → va_S A s.heap H locs → ∀ (ls : Array Slot), lv_has ls 10 [(0, .ref o), (1, .int (nI d)), (2, .int (nI a)), (3, .int (nI b)), (4, .int (nI k))] → W p l e { frames := 0, cells := 0, slots := 0, locals := 0 } s m args below meth c H locs 0 0 Q (F0 m 3 ls []) := by
    intro n3
    induction n3 with
    | zero =>
      intro k h g1 g2
      exfalso; omega
    | succ n3 ih3 =>
      intro k h g1 g2 H locs hP hD hS ls hl
      refine lv_iload hx hb dX4_times_3 (lv_at hl 4 rfl) ?_
      refine lv_bipush (v := 12) hx hb dX4_times_5 (by decide) ?_
      refine lv_icmp_ge (tgt := 24) hx hb dX4_times_7 (by decide) (fun c_7 => ?_) (fun c_7 => ?_)
      · have hke : k = 12 := by have := (nI_leI (a := 12) (b := k) (by omega) (by omega)).mp c_7; omega
        refine lv_iconst (v := 0) hx hb dX4_times_24 (by decide) ?_
        refine lv_istore (lv' := [(4, .int 0), (0, .ref o), (1, .int (nI d)), (2, .int (nI a)), (3, .int (nI b))]) hx hb dX4_times_25 hl (by decide) rfl (fun ls hl => ?_)
        have L27 : ∀ (n27 : Nat) (i : Nat) (h2 : Nat → Int64), (6 < i + n27 ∧ i ≤ 6) → (nm h2 0 12 = nm fw (6 * a) i * num fw b) → (∀ t, t < 12 → uN (h2 t) < 4294967296) → ∀ (H : Heap) (locs : List Loc), va_P D vwCl [(o, .inr (4, [.int cd, .ref wa, .ref sa, .ref ma, .ref tl, .ref gx, .ref gy, .ref tx, .ref tz, .int ln, .ref kx, .ref ky, .int cn, .int ah])), (wa, .inl (cJ, 96, .inr (.inl fw))), (sa, .inl (cI, 16, .inl fs)), (ma, .inl (cJ, 12, .inr (.inl h2)))] H → va_D A [(o, .inr (4, [.int cd, .ref wa, .ref sa, .ref ma, .ref tl, .ref gx, .ref gy, .ref tx, .ref tz, .int ln, .ref kx, .ref ky, .int cn, .int ah])), (wa, .inl (cJ, 96, .inr (.inl fw))), (sa, .inl (cI, 16, .inl fs)), (ma, .inl (cJ, 12, .inr (.inl h2)))] → va_S A s.heap H locs → ∀ (ls : Array Slot), lv_has ls 10 [(0, .ref o), (1, .int (nI d)), (2, .int (nI a)), (3, .int (nI b)), (4, .int (nI i))] → W p l e { frames := 0, cells := 0, slots := 0, locals := 0 } s m args below meth c H locs 0 0 Q (F0 m 27 ls []) := by
          intro n27
          induction n27 with
          | zero =>
            intro i h2 y1 y2 y3
            exfalso; omega
          | succ n27 ih27 =>
            intro i h2 y1 y2 y3 H locs hP hD hS ls hl
            refine lv_iload hx hb dX4_times_27 (lv_at hl 4 rfl) ?_
            refine lv_bipush (v := 6) hx hb dX4_times_29 (by decide) ?_
            refine lv_icmp_ge (tgt := 123) hx hb dX4_times_31 (by decide) (fun c_31 => ?_) (fun c_31 => ?_)
            · have hie : i = 6 := by have := (nI_leI (a := 6) (b := i) (by omega) (by omega)).mp c_31; omega
              refine lv_aload_n hx hb dX4_times_123 rfl (lv_at hl 0 rfl) ?_
              refine va_get (D := D) (ci := 4) (v := .ref sa) (C := RX4) (T := TX4) (N := 14) hx hb hTB tb_X4 hown hK.1 hP 0 rfl rfl 2 (by decide) (hTB _ tb_3_15) (fun _ h9 => h9) rfl dX4_times_124 ?_
              refine lv_iload_n hx hb dX4_times_127 rfl (lv_at hl 2 rfl) ?_
              refine va_iald (f := fs) hx hb hK.1 hP 2 1 rfl rfl (vp_in_nI (show a < 16 by omega) (by decide)) dX4_times_128 ?_
              rw [show (nI a).toNatClampNeg = a from nI_clamp (by omega)]
              refine lv_aload_n hx hb dX4_times_129 rfl (lv_at hl 0 rfl) ?_
              refine va_get (D := D) (ci := 4) (v := .ref sa) (C := RX4) (T := TX4) (N := 14) hx hb hTB tb_X4 hown hK.1 hP 0 rfl rfl 2 (by decide) (hTB _ tb_3_15) (fun _ h9 => h9) rfl dX4_times_130 ?_
              refine lv_iload_n hx hb dX4_times_133 rfl (lv_at hl 3 rfl) ?_
              refine va_iald (f := fs) hx hb hK.1 hP 2 1 rfl rfl (vp_in_nI (show b < 16 by omega) (by decide)) dX4_times_134 ?_
              rw [show (nI b).toNatClampNeg = b from nI_clamp (by omega)]
              refine lv_imul hx hb dX4_times_135 ?_
              refine lv_istore (lv' := [(4, .int ((fs a) * (fs b))), (0, .ref o), (1, .int (nI d)), (2, .int (nI a)), (3, .int (nI b))]) hx hb dX4_times_136 hl (by decide) rfl (fun ls hl => ?_)
              refine lv_iconst (v := 0) hx hb dX4_times_138 (by decide) ?_
              refine lv_istore (lv' := [(5, .int 0), (4, .int ((fs a) * (fs b))), (0, .ref o), (1, .int (nI d)), (2, .int (nI a)), (3, .int (nI b))]) hx hb dX4_times_139 hl (by decide) rfl (fun ls hl => ?_)
              have L141 : ∀ (n141 : Nat) (k : Nat) (g : Nat → Int64), (6 < k + n141 ∧ k ≤ 6) → (∀ j, j < k → g (6 * d + j) = h2 j) → (lim g) → (∀ j, ¬ (6 * d ≤ j ∧ j < 6 * d + 6) → g j = fw j) → ∀ (H : Heap) (locs : List Loc), va_P D vwCl [(o, .inr (4, [.int cd, .ref wa, .ref sa, .ref ma, .ref tl, .ref gx, .ref gy, .ref tx, .ref tz, .int ln, .ref kx, .ref ky, .int cn, .int ah])), (wa, .inl (cJ, 96, .inr (.inl g))), (sa, .inl (cI, 16, .inl fs)), (ma, .inl (cJ, 12, .inr (.inl h2)))] H → va_D A [(o, .inr (4, [.int cd, .ref wa, .ref sa, .ref ma, .ref tl, .ref gx, .ref gy, .ref tx, .ref tz, .int ln, .ref kx, .ref ky, .int cn, .int ah])), (wa, .inl (cJ, 96, .inr (.inl g))), (sa, .inl (cI, 16, .inl fs)), (ma, .inl (cJ, 12, .inr (.inl h2)))] → va_S A s.heap H locs → ∀ (ls : Array Slot), lv_has ls 10 [(0, .ref o), (1, .int (nI d)), (2, .int (nI a)), (3, .int (nI b)), (4, .int (fs a * fs b)), (5, .int (nI k))] → W p l e { frames := 0, cells := 0, slots := 0, locals := 0 } s m args below meth c H locs 0 0 Q (F0 m 141 ls []) := by
                intro n141
                induction n141 with
                | zero =>
                  intro k g w1 w2 w3 w4
                  exfalso; omega
                | succ n141 ih141 =>
                  intro k g w1 w2 w3 w4 H locs hP hD hS ls hl
                  refine lv_iload hx hb dX4_times_141 (lv_at hl 5 rfl) ?_
                  refine lv_bipush (v := 6) hx hb dX4_times_143 (by decide) ?_
                  refine lv_icmp_ge (tgt := 173) hx hb dX4_times_145 (by decide) (fun c_145 => ?_) (fun c_145 => ?_)
                  · have hke : k = 6 := by have := (nI_leI (a := 6) (b := k) (by omega) (by omega)).mp c_145; omega
                    refine lv_aload_n hx hb dX4_times_173 rfl (lv_at hl 0 rfl) ?_
                    refine va_get (D := D) (ci := 4) (v := .ref sa) (C := RX4) (T := TX4) (N := 14) hx hb hTB tb_X4 hown hK.1 hP 0 rfl rfl 2 (by decide) (hTB _ tb_3_15) (fun _ h9 => h9) rfl dX4_times_174 ?_
                    refine lv_iload_n hx hb dX4_times_177 rfl (lv_at hl 1 rfl) ?_
                    refine lv_iload hx hb dX4_times_178 (lv_at hl 4 rfl) ?_
                    refine va_iast (f := fs) hx hb hK.1 hP hD hS 2 1 rfl rfl (vp_in_nI (show d < 16 by omega) (by decide)) dX4_times_180 (fun H locs hP hD hS => ?_)
                    rw [show (nI d).toNatClampNeg = d from nI_clamp (by omega)] at hP hD
                    have hP : va_P D vwCl [(o, .inr (4, [.int cd, .ref wa, .ref sa, .ref ma, .ref tl, .ref gx, .ref gy, .ref tx, .ref tz, .int ln, .ref kx, .ref ky, .int cn, .int ah])), (wa, .inl (cJ, 96, .inr (.inl g))), (sa, .inl (cI, 16, .inl (upd fs d (fs a * fs b)))), (ma, .inl (cJ, 12, .inr (.inl h2)))] H := hP
                    have hD : va_D A [(o, .inr (4, [.int cd, .ref wa, .ref sa, .ref ma, .ref tl, .ref gx, .ref gy, .ref tx, .ref tz, .int ln, .ref kx, .ref ky, .int cn, .int ah])), (wa, .inl (cJ, 96, .inr (.inl g))), (sa, .inl (cI, 16, .inl (upd fs d (fs a * fs b)))), (ma, .inl (cJ, 12, .inr (.inl h2)))] := hD
                    exact hret hP hD hS (g, upd fs d (fs a * fs b), h2) (by have e : nm h2 0 12 = nm h2 0 6 + 4294967296 ^ 6 * nm h2 (0 + 6) 6 := nm_split h2 0 6 6; have e6 : (4294967296 : Nat) ^ 6 = 6277101735386680763835789423207666416102355444464034512896 := rfl; rw [e6] at e; have en : num g d = nm h2 0 6 := nm_congr (fun j hj => by rw [w2 j (by omega), Nat.zero_add]); subst hie; have e7 : num fw a * num fw b = (x * y).natAbs := (by rw [hza.1, hzb.1, ← Int.natAbs_mul]); exact ⟨⟨w3, by show num g d = _; rw [en, ← e7]; unfold num at *; omega, w4⟩, by show upd fs d (fs a * fs b) = _; rw [hza.2, hzb.2, sg_mul]⟩) [0, 1, 2, 3] rfl (by decide) dX4_times_181 (Nat.le_of_ble_eq_true rfl) (Nat.le_of_ble_eq_true rfl)
                  · have hk : k < 6 := Nat.not_le.mp (fun q => c_145 ((nI_leI (a := 6) (b := k) (by omega) (by omega)).mpr q))
                    refine lv_aload_n hx hb dX4_times_148 rfl (lv_at hl 0 rfl) ?_
                    refine va_get (D := D) (ci := 4) (v := .ref wa) (C := RX4) (T := TX4) (N := 14) hx hb hTB tb_X4 hown hK.1 hP 0 rfl rfl 1 (by decide) (hTB _ tb_3_13) (fun _ h9 => h9) rfl dX4_times_149 ?_
                    refine lv_bipush (v := 6) hx hb dX4_times_152 (by decide) ?_
                    refine lv_iload_n hx hb dX4_times_154 rfl (lv_at hl 1 rfl) ?_
                    refine lv_imul hx hb dX4_times_155 ?_
                    refine lv_iload hx hb dX4_times_156 (lv_at hl 5 rfl) ?_
                    refine lv_iadd hx hb dX4_times_158 ?_
                    refine lv_aload_n hx hb dX4_times_159 rfl (lv_at hl 0 rfl) ?_
                    refine va_get (D := D) (ci := 4) (v := .ref ma) (C := RX4) (T := TX4) (N := 14) hx hb hTB tb_X4 hown hK.1 hP 0 rfl rfl 3 (by decide) (hTB _ tb_3_16) (fun _ h9 => h9) rfl dX4_times_160 ?_
                    refine lv_iload hx hb dX4_times_163 (lv_at hl 5 rfl) ?_
                    refine va_lald (f := h2) hx hb hK.1 hP 3 2 rfl rfl (vp_in_nI (show k < 12 by omega) (by decide)) dX4_times_165 ?_
                    rw [show (nI k).toNatClampNeg = k from nI_clamp (by omega)]
                    refine va_last (f := g) hx hb hK.1 hP hD hS 1 2 rfl rfl (ix_in (d := d) (k := k) (by omega)) dX4_times_166 (fun H locs hP hD hS => ?_)
                    rw [show ((6 * (nI d)) + (nI k)).toNatClampNeg = 6 * d + k from ix_cl (by omega)] at hP hD
                    have hP : va_P D vwCl [(o, .inr (4, [.int cd, .ref wa, .ref sa, .ref ma, .ref tl, .ref gx, .ref gy, .ref tx, .ref tz, .int ln, .ref kx, .ref ky, .int cn, .int ah])), (wa, .inl (cJ, 96, .inr (.inl (vp_updL g (6 * d + k) (h2 k))))), (sa, .inl (cI, 16, .inl fs)), (ma, .inl (cJ, 12, .inr (.inl h2)))] H := hP
                    have hD : va_D A [(o, .inr (4, [.int cd, .ref wa, .ref sa, .ref ma, .ref tl, .ref gx, .ref gy, .ref tx, .ref tz, .int ln, .ref kx, .ref ky, .int cn, .int ah])), (wa, .inl (cJ, 96, .inr (.inl (vp_updL g (6 * d + k) (h2 k))))), (sa, .inl (cI, 16, .inl fs)), (ma, .inl (cJ, 12, .inr (.inl h2)))] := hD
                    obtain ⟨i5_1, ei5_1⟩ : ∃ y : Int32, y = (nI k) + 1 := ⟨_, rfl⟩
                    refine lv_iinc (v := i5_1) (lv' := [(5, .int i5_1), (0, .ref o), (1, .int (nI d)), (2, .int (nI a)), (3, .int (nI b)), (4, .int (fs a * fs b))]) hx hb dX4_times_167 hl (k := 5) rfl (by rw [ei5_1]; rfl) (by decide) rfl (fun ls hl => ?_)
                    refine lv_goto (tgt := 141) hx hb dX4_times_170 (by decide) ?_
                    have q5 : i5_1 = nI (k + 1) := by rw [ei5_1]; exact nI_1 k
                    subst q5
                    refine ih141 (k + 1) (vp_updL g (6 * d + k) (h2 k)) ?_ ?_ ?_ ?_ _ _ hP hD hS _ (lv_sub hl [1, 2, 3, 4, 5, 0] rfl)
                    · omega
                    · intro j hj
                      by_cases e9 : j = k
                      · subst e9; exact pk_uLs
                      · rw [pk_uLn (by omega)]; exact w2 j (by omega)
                    · exact lim_up w3 (y3 _ (by omega))
                    · intro j hj
                      rw [pk_uLn (by omega)]; exact w4 j hj
              refine L141 7 0 fw ?_ ?_ ?_ ?_ _ _ hP hD hS _ (lv_sub hl [2, 3, 4, 5, 1, 0] rfl)
              · omega
              · intro j hj; omega
              · exact hlim
              · intro j _; rfl
            · have hi : i < 6 := Nat.not_le.mp (fun q => c_31 ((nI_leI (a := 6) (b := i) (by omega) (by omega)).mpr q))
              refine lv_lconst (v := 0) hx hb dX4_times_34 (by decide) ?_
              refine lv_lstore (lv' := [(5, .long 0), (0, .ref o), (1, .int (nI d)), (2, .int (nI a)), (3, .int (nI b)), (4, .int (nI i))]) hx hb dX4_times_35 hl (by decide) rfl (fun ls hl => ?_)
              refine lv_iconst (v := 0) hx hb dX4_times_37 (by decide) ?_
              refine lv_istore (lv' := [(7, .int 0), (5, .long 0), (0, .ref o), (1, .int (nI d)), (2, .int (nI a)), (3, .int (nI b)), (4, .int (nI i))]) hx hb dX4_times_38 hl (by decide) rfl (fun ls hl => ?_)
              have L40 : ∀ (n40 : Nat) (j : Nat) (h3 : Nat → Int64) (cr : Int64), (6 < j + n40 ∧ j ≤ 6) → (nm h3 0 12 + uN cr * 4294967296 ^ (i + j) = nm h2 0 12 + uN (fw (6 * a + i)) * nm fw (6 * b) j * 4294967296 ^ i) → (∀ t, t < 12 → uN (h3 t) < 4294967296) → (uN cr < 4294967296) → ∀ (H : Heap) (locs : List Loc), va_P D vwCl [(o, .inr (4, [.int cd, .ref wa, .ref sa, .ref ma, .ref tl, .ref gx, .ref gy, .ref tx, .ref tz, .int ln, .ref kx, .ref ky, .int cn, .int ah])), (wa, .inl (cJ, 96, .inr (.inl fw))), (sa, .inl (cI, 16, .inl fs)), (ma, .inl (cJ, 12, .inr (.inl h3)))] H → va_D A [(o, .inr (4, [.int cd, .ref wa, .ref sa, .ref ma, .ref tl, .ref gx, .ref gy, .ref tx, .ref tz, .int ln, .ref kx, .ref ky, .int cn, .int ah])), (wa, .inl (cJ, 96, .inr (.inl fw))), (sa, .inl (cI, 16, .inl fs)), (ma, .inl (cJ, 12, .inr (.inl h3)))] → va_S A s.heap H locs → ∀ (ls : Array Slot), lv_has ls 10 [(0, .ref o), (1, .int (nI d)), (2, .int (nI a)), (3, .int (nI b)), (4, .int (nI i)), (5, .long cr), (7, .int (nI j))] → W p l e { frames := 0, cells := 0, slots := 0, locals := 0 } s m args below meth c H locs 0 0 Q (F0 m 40 ls []) := by
                intro n40
                induction n40 with
                | zero =>
                  intro j h3 cr z1 z2 z3 z4
                  exfalso; omega
                | succ n40 ih40 =>
                  intro j h3 cr z1 z2 z3 z4 H locs hP hD hS ls hl
                  refine lv_iload hx hb dX4_times_40 (lv_at hl 6 rfl) ?_
                  refine lv_bipush (v := 6) hx hb dX4_times_42 (by decide) ?_
                  refine lv_icmp_ge (tgt := 117) hx hb dX4_times_44 (by decide) (fun c_44 => ?_) (fun c_44 => ?_)
                  · obtain ⟨i4_2, ei4_2⟩ : ∃ y : Int32, y = (nI i) + 1 := ⟨_, rfl⟩
                    refine lv_iinc (v := i4_2) (lv' := [(4, .int i4_2), (0, .ref o), (1, .int (nI d)), (2, .int (nI a)), (3, .int (nI b)), (5, .long cr), (7, .int (nI j))]) hx hb dX4_times_117 hl (k := 4) rfl (by rw [ei4_2]; rfl) (by decide) rfl (fun ls hl => ?_)
                    refine lv_goto (tgt := 27) hx hb dX4_times_120 (by decide) ?_
                    have q4 : i4_2 = nI (i + 1) := by rw [ei4_2]; exact nI_1 i
                    subst q4
                    refine ih27 (i + 1) h3 ?_ ?_ ?_ _ _ hP hD hS _ (lv_sub hl [1, 2, 3, 4, 0] rfl)
                    · omega
                    · have ej : j = 6 := by have := (nI_leI (a := 6) (b := j) (by omega) (by omega)).mp c_44; omega
                      subst ej
                      have e : nm fw (6 * a) (i + 1) * num fw b = nm h2 0 12 + uN (fw (6 * a + i)) * num fw b * 4294967296 ^ i := by
                        rw [nm_s, Nat.add_mul, y2, Nat.mul_assoc, Nat.mul_comm (4294967296 ^ i), ← Nat.mul_assoc]
                      have l1 : nm fw (6 * a) (i + 1) * num fw b ≤ num fw a * num fw b := Nat.mul_le_mul_right _ (nm_mono (by omega))
                      have l2 : 4294967296 ^ 6 ≤ 4294967296 ^ (i + 6) := Nat.pow_le_pow_right (by decide) (by omega)
                      have l3 : uN cr = 0 := by
                        rcases Nat.eq_zero_or_pos (uN cr) with z | z
                        · exact z
                        · have := Nat.mul_le_mul z (Nat.le_refl (4294967296 ^ (i + 6)))
                          rw [Nat.one_mul] at this
                          have l4 : (4294967296 : Nat) ^ 6 = 6277101735386680763835789423207666416102355444464034512896 := rfl
                          unfold num at *
                          omega
                      rw [l3, Nat.zero_mul] at z2
                      unfold num at *
                      omega
                    · exact z3
                  · have hj : j < 6 := Nat.not_le.mp (fun q => c_44 ((nI_leI (a := 6) (b := j) (by omega) (by omega)).mpr q))
                    refine lv_aload_n hx hb dX4_times_47 rfl (lv_at hl 0 rfl) ?_
                    refine va_get (D := D) (ci := 4) (v := .ref wa) (C := RX4) (T := TX4) (N := 14) hx hb hTB tb_X4 hown hK.1 hP 0 rfl rfl 1 (by decide) (hTB _ tb_3_13) (fun _ h9 => h9) rfl dX4_times_48 ?_
                    refine lv_bipush (v := 6) hx hb dX4_times_51 (by decide) ?_
                    refine lv_iload_n hx hb dX4_times_53 rfl (lv_at hl 2 rfl) ?_
                    refine lv_imul hx hb dX4_times_54 ?_
                    refine lv_iload hx hb dX4_times_55 (lv_at hl 4 rfl) ?_
                    refine lv_iadd hx hb dX4_times_57 ?_
                    refine va_lald (f := fw) hx hb hK.1 hP 1 2 rfl rfl (ix_in (d := a) (k := i) (by omega)) dX4_times_58 ?_
                    rw [show ((6 * (nI a)) + (nI i)).toNatClampNeg = 6 * a + i from ix_cl (by omega)]
                    refine lv_aload_n hx hb dX4_times_59 rfl (lv_at hl 0 rfl) ?_
                    refine va_get (D := D) (ci := 4) (v := .ref wa) (C := RX4) (T := TX4) (N := 14) hx hb hTB tb_X4 hown hK.1 hP 0 rfl rfl 1 (by decide) (hTB _ tb_3_13) (fun _ h9 => h9) rfl dX4_times_60 ?_
                    refine lv_bipush (v := 6) hx hb dX4_times_63 (by decide) ?_
                    refine lv_iload_n hx hb dX4_times_65 rfl (lv_at hl 3 rfl) ?_
                    refine lv_imul hx hb dX4_times_66 ?_
                    refine lv_iload hx hb dX4_times_67 (lv_at hl 6 rfl) ?_
                    refine lv_iadd hx hb dX4_times_69 ?_
                    refine va_lald (f := fw) hx hb hK.1 hP 1 2 rfl rfl (ix_in (d := b) (k := j) (by omega)) dX4_times_70 ?_
                    rw [show ((6 * (nI b)) + (nI j)).toNatClampNeg = 6 * b + j from ix_cl (by omega)]
                    refine lv_lmul hx hb dX4_times_71 ?_
                    refine lv_aload_n hx hb dX4_times_72 rfl (lv_at hl 0 rfl) ?_
                    refine va_get (D := D) (ci := 4) (v := .ref ma) (C := RX4) (T := TX4) (N := 14) hx hb hTB tb_X4 hown hK.1 hP 0 rfl rfl 3 (by decide) (hTB _ tb_3_16) (fun _ h9 => h9) rfl dX4_times_73 ?_
                    refine lv_iload hx hb dX4_times_76 (lv_at hl 4 rfl) ?_
                    refine lv_iload hx hb dX4_times_78 (lv_at hl 6 rfl) ?_
                    refine lv_iadd hx hb dX4_times_80 ?_
                    refine va_lald (f := h3) hx hb hK.1 hP 3 2 rfl rfl (by rw [nI_add]; exact vp_in_nI (show i + j < 12 by omega) (by decide)) dX4_times_81 ?_
                    rw [show ((nI i) + (nI j)).toNatClampNeg = i + j from by rw [nI_add]; exact nI_clamp (by omega)]
                    refine lv_ladd hx hb dX4_times_82 ?_
                    refine lv_lload hx hb dX4_times_83 (lv_at hl 5 rfl) ?_
                    refine lv_ladd hx hb dX4_times_85 ?_
                    refine lv_topl (fun v9 ev9 => ?_)
                    refine lv_lstore (lv' := [(8, .long v9), (0, .ref o), (1, .int (nI d)), (2, .int (nI a)), (3, .int (nI b)), (4, .int (nI i)), (5, .long cr), (7, .int (nI j))]) hx hb dX4_times_86 hl (by decide) rfl (fun ls hl => ?_)
                    refine lv_aload_n hx hb dX4_times_88 rfl (lv_at hl 1 rfl) ?_
                    refine va_get (D := D) (ci := 4) (v := .ref ma) (C := RX4) (T := TX4) (N := 14) hx hb hTB tb_X4 hown hK.1 hP 0 rfl rfl 3 (by decide) (hTB _ tb_3_16) (fun _ h9 => h9) rfl dX4_times_89 ?_
                    refine lv_iload hx hb dX4_times_92 (lv_at hl 5 rfl) ?_
                    refine lv_iload hx hb dX4_times_94 (lv_at hl 7 rfl) ?_
                    refine lv_iadd hx hb dX4_times_96 ?_
                    refine lv_lload hx hb dX4_times_97 (lv_at hl 0 rfl) ?_
                    refine lv_ldc2 (v := 4294967295) hx hb hown (hTB _ tb_6_22) dX4_times_99 ?_
                    refine lv_land hx hb dX4_times_102 ?_
                    refine va_last (f := h3) hx hb hK.1 hP hD hS 3 2 rfl rfl (by rw [nI_add]; exact vp_in_nI (show i + j < 12 by omega) (by decide)) dX4_times_103 (fun H locs hP hD hS => ?_)
                    rw [show ((nI i) + (nI j)).toNatClampNeg = i + j from by rw [nI_add]; exact nI_clamp (by omega)] at hP hD
                    have hP : va_P D vwCl [(o, .inr (4, [.int cd, .ref wa, .ref sa, .ref ma, .ref tl, .ref gx, .ref gy, .ref tx, .ref tz, .int ln, .ref kx, .ref ky, .int cn, .int ah])), (wa, .inl (cJ, 96, .inr (.inl fw))), (sa, .inl (cI, 16, .inl fs)), (ma, .inl (cJ, 12, .inr (.inl (vp_updL h3 (i + j) (v9 &&& 4294967295)))))] H := hP
                    have hD : va_D A [(o, .inr (4, [.int cd, .ref wa, .ref sa, .ref ma, .ref tl, .ref gx, .ref gy, .ref tx, .ref tz, .int ln, .ref kx, .ref ky, .int cn, .int ah])), (wa, .inl (cJ, 96, .inr (.inl fw))), (sa, .inl (cI, 16, .inl fs)), (ma, .inl (cJ, 12, .inr (.inl (vp_updL h3 (i + j) (v9 &&& 4294967295)))))] := hD
                    refine lv_lload hx hb dX4_times_104 (lv_at hl 0 rfl) ?_
                    refine lv_bipush (v := 32) hx hb dX4_times_106 (by decide) ?_
                    refine lv_lushr (v := (v9.toUInt64 >>> ((32 : Int32).toInt64.toUInt64 &&& Int64.toUInt64 63)).toInt64) hx hb dX4_times_108 rfl ?_
                    refine lv_lstore (lv' := [(5, .long ((v9.toUInt64 >>> ((32 : Int32).toInt64.toUInt64 &&& Int64.toUInt64 63)).toInt64)), (8, .long v9), (0, .ref o), (1, .int (nI d)), (2, .int (nI a)), (3, .int (nI b)), (4, .int (nI i)), (7, .int (nI j))]) hx hb dX4_times_109 hl (by decide) rfl (fun ls hl => ?_)
                    obtain ⟨i7_3, ei7_3⟩ : ∃ y : Int32, y = (nI j) + 1 := ⟨_, rfl⟩
                    refine lv_iinc (v := i7_3) (lv' := [(7, .int i7_3), (5, .long ((v9.toUInt64 >>> ((32 : Int32).toInt64.toUInt64 &&& Int64.toUInt64 63)).toInt64)), (8, .long v9), (0, .ref o), (1, .int (nI d)), (2, .int (nI a)), (3, .int (nI b)), (4, .int (nI i))]) hx hb dX4_times_111 hl (k := 7) rfl (by rw [ei7_3]; rfl) (by decide) rfl (fun ls hl => ?_)
                    refine lv_goto (tgt := 40) hx hb dX4_times_114 (by decide) ?_
                    have q7 : i7_3 = nI (j + 1) := by rw [ei7_3]; exact nI_1 j
                    subst q7
                    refine ih40 (j + 1) (vp_updL h3 (i + j) (v9 &&& 4294967295)) (v9.toUInt64 >>> ((32 : Int32).toInt64.toUInt64 &&& Int64.toUInt64 63)).toInt64 ?_ ?_ ?_ ?_ _ _ hP hD hS _ (lv_sub hl [3, 4, 5, 6, 7, 1, 0] rfl)
                    · omega
                    · have la : uN (fw (6 * a + i)) < 4294967296 := hlim _ (by omega)
                      have lb2 : uN (fw (6 * b + j)) < 4294967296 := hlim _ (by omega)
                      have lm := z3 (i + j) (by omega)
                      have ev : uN v9 = uN (fw (6 * a + i)) * uN (fw (6 * b + j)) + uN (h3 (i + j)) + uN cr := by rw [ev9]; exact tm_v la lb2 lm z4
                      have e1 := uN_lo v9
                      have e2 := uN_s32 v9
                      have e3 := uN_lt v9
                      have hu := nm_upd (f := h3) (b := 0) (n := 12) (t := i + j) (w := v9 &&& 4294967295) (by omega)
                      rw [Nat.zero_add] at hu
                      have hs := tm_step hu (c2 := uN (v9.toUInt64 >>> ((32 : Int32).toInt64.toUInt64 &&& Int64.toUInt64 63)).toInt64) (v := uN v9) (by omega) ev z2
                      rw [← Nat.add_assoc i j 1, Nat.pow_succ, Nat.mul_comm (4294967296 ^ (i + j)), nm_s fw (6 * b) j, Nat.mul_add, Nat.add_mul, ← Nat.add_assoc]
                      rw [hs, Nat.pow_add, Nat.mul_assoc (uN (fw (6 * a + i))) (uN _ * _), Nat.mul_assoc (uN (fw (6 * b + j))), Nat.mul_comm (4294967296 ^ j), Nat.mul_assoc (uN (fw (6 * a + i))) (uN _)]
                    · have la : uN (fw (6 * a + i)) < 4294967296 := hlim _ (by omega)
                      have lb2 : uN (fw (6 * b + j)) < 4294967296 := hlim _ (by omega)
                      have lm := z3 (i + j) (by omega)
                      have ev : uN v9 = uN (fw (6 * a + i)) * uN (fw (6 * b + j)) + uN (h3 (i + j)) + uN cr := by rw [ev9]; exact tm_v la lb2 lm z4
                      have e1 := uN_lo v9
                      have e2 := uN_s32 v9
                      have e3 := uN_lt v9
                      intro t ht
                      by_cases q : t = i + j
                      · subst q; rw [pk_uLs, e1]; omega
                      · rw [pk_uLn q]; exact z3 t ht
                    · have la : uN (fw (6 * a + i)) < 4294967296 := hlim _ (by omega)
                      have lb2 : uN (fw (6 * b + j)) < 4294967296 := hlim _ (by omega)
                      have lm := z3 (i + j) (by omega)
                      have ev : uN v9 = uN (fw (6 * a + i)) * uN (fw (6 * b + j)) + uN (h3 (i + j)) + uN cr := by rw [ev9]; exact tm_v la lb2 lm z4
                      have e1 := uN_lo v9
                      have e2 := uN_s32 v9
                      have e3 := uN_lt v9
                      omega
              refine L40 7 0 h2 0 ?_ ?_ ?_ ?_ _ _ hP hD hS _ (lv_sub hl [2, 3, 4, 5, 6, 1, 0] rfl)
              · omega
              · rw [un0, show nm fw (6 * b) 0 = 0 from rfl]; omega
              · exact y3
              · decide
        refine L27 7 0 h ?_ ?_ ?_ _ _ hP hD hS _ (lv_sub hl [1, 2, 3, 4, 0] rfl)
        · omega
        · rw [show nm fw (6 * a) 0 = 0 from rfl, Nat.zero_mul]; exact nm_0.mpr (fun j hj => by rw [Nat.zero_add]; exact g2 j (by omega))
        · intro t ht; rw [g2 t (by omega)]; decide
      · have hk : k < 12 := Nat.not_le.mp (fun q => c_7 ((nI_leI (a := 12) (b := k) (by omega) (by omega)).mpr q))
        refine lv_aload_n hx hb dX4_times_10 rfl (lv_at hl 0 rfl) ?_
        refine va_get (D := D) (ci := 4) (v := .ref ma) (C := RX4) (T := TX4) (N := 14) hx hb hTB tb_X4 hown hK.1 hP 0 rfl rfl 3 (by decide) (hTB _ tb_3_16) (fun _ h9 => h9) rfl dX4_times_11 ?_
        refine lv_iload hx hb dX4_times_14 (lv_at hl 4 rfl) ?_
        refine lv_lconst (v := 0) hx hb dX4_times_16 (by decide) ?_
        refine va_last (f := h) hx hb hK.1 hP hD hS 3 2 rfl rfl (vp_in_nI hk (by decide)) dX4_times_17 (fun H locs hP hD hS => ?_)
        rw [show (nI k).toNatClampNeg = k from nI_clamp (by omega)] at hP hD
        have hP : va_P D vwCl [(o, .inr (4, [.int cd, .ref wa, .ref sa, .ref ma, .ref tl, .ref gx, .ref gy, .ref tx, .ref tz, .int ln, .ref kx, .ref ky, .int cn, .int ah])), (wa, .inl (cJ, 96, .inr (.inl fw))), (sa, .inl (cI, 16, .inl fs)), (ma, .inl (cJ, 12, .inr (.inl (vp_updL h k 0))))] H := hP
        have hD : va_D A [(o, .inr (4, [.int cd, .ref wa, .ref sa, .ref ma, .ref tl, .ref gx, .ref gy, .ref tx, .ref tz, .int ln, .ref kx, .ref ky, .int cn, .int ah])), (wa, .inl (cJ, 96, .inr (.inl fw))), (sa, .inl (cI, 16, .inl fs)), (ma, .inl (cJ, 12, .inr (.inl (vp_updL h k 0))))] := hD
        obtain ⟨i4_4, ei4_4⟩ : ∃ y : Int32, y = (nI k) + 1 := ⟨_, rfl⟩
        refine lv_iinc (v := i4_4) (lv' := [(4, .int i4_4), (0, .ref o), (1, .int (nI d)), (2, .int (nI a)), (3, .int (nI b))]) hx hb dX4_times_18 hl (k := 4) rfl (by rw [ei4_4]; rfl) (by decide) rfl (fun ls hl => ?_)
        refine lv_goto (tgt := 3) hx hb dX4_times_21 (by decide) ?_
        have q4 : i4_4 = nI (k + 1) := by rw [ei4_4]; exact nI_1 k
        subst q4
        refine ih3 (k + 1) (vp_updL h k 0) ?_ ?_ _ _ hP hD hS _ (lv_sub hl [1, 2, 3, 4, 0] rfl)
        · omega
        · intro j hj
          by_cases e9 : j = k
          · subst e9; exact pk_uLs
          · rw [pk_uLn e9]; exact g2 j (by omega)
  refine L3 13 0 fm ?_ ?_ _ _ hP hD hS _ (lv_sub hl [1, 2, 3, 4, 0] rfl)
  · omega
  · intro j hj; omega
