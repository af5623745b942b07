theorem nd_L_exact : yL_exact.cls ≠ "java/lang/invoke/MethodHandle" ∧ yL_exact.cls ≠ "java/lang/invoke/VarHandle" ∧ (parseMethodDescriptor yL_exact.desc).map (fun d => d.parameters.length) = some 5 := by decide +kernel
theorem nd_L_area2 : yL_area2.cls ≠ "java/lang/invoke/MethodHandle" ∧ yL_area2.cls ≠ "java/lang/invoke/VarHandle" ∧ (parseMethodDescriptor yL_area2.desc).map (fun d => d.parameters.length) = some 3 := by decide +kernel
theorem nd_L_over : yL_over.cls ≠ "java/lang/invoke/MethodHandle" ∧ yL_over.cls ≠ "java/lang/invoke/VarHandle" ∧ (parseMethodDescriptor yL_over.desc).map (fun d => d.parameters.length) = some 5 := by decide +kernel
theorem nd_L_product : yL_product.cls ≠ "java/lang/invoke/MethodHandle" ∧ yL_product.cls ≠ "java/lang/invoke/VarHandle" ∧ (parseMethodDescriptor yL_product.desc).map (fun d => d.parameters.length) = some 5 := by decide +kernel
theorem nd_L_ratio : yL_ratio.cls ≠ "java/lang/invoke/MethodHandle" ∧ yL_ratio.cls ≠ "java/lang/invoke/VarHandle" ∧ (parseMethodDescriptor yL_ratio.desc).map (fun d => d.parameters.length) = some 6 := by decide +kernel
theorem nd_L_share : yL_share.cls ≠ "java/lang/invoke/MethodHandle" ∧ yL_share.cls ≠ "java/lang/invoke/VarHandle" ∧ (parseMethodDescriptor yL_share.desc).map (fun d => d.parameters.length) = some 5 := by decide +kernel
theorem nd_L_digit : yL_digit.cls ≠ "java/lang/invoke/MethodHandle" ∧ yL_digit.cls ≠ "java/lang/invoke/VarHandle" ∧ (parseMethodDescriptor yL_digit.desc).map (fun d => d.parameters.length) = some 5 := by decide +kernel

set_option maxHeartbeats 4000000 in
set_option maxRecDepth 100000 in
theorem c_L_exact (l : Launch) (D : va_G) (cZ cI cJ : ClassId) (hl9 : l.stackTraces = false) (o tl sx sy wx wy kx ky fx fy dv sp p1 p2 : Nat) (cn ph : Int32) (xu xl yu yl : Nat) (uh ul vh vl ah al bh bl : Int64) (axis part limb : Int32) (ou : Nat) (fo : Nat → Int64) : Hi l D cZ cI cJ yL_exact cL_exact 6 (some .int) [(0, 11, 14, 13)] { frames := 8, cells := 1, slots := 6, locals := 127 } [.ref o, .int axis, .int part, .int limb, .ref ou] [(o, .inr (3, [.ref tl, .ref sx, .ref sy, .ref wx, .ref wy, .ref kx, .ref ky, .int cn, .int ph, .ref fx, .ref fy, .ref dv, .ref sp, .ref p1, .ref p2])), (fx, .inr (1, [.ref xu, .ref xl])), (fy, .inr (1, [.ref yu, .ref yl])), (xu, .inr (2, [.long uh, .long ul])), (xl, .inr (2, [.long vh, .long vl])), (yu, .inr (2, [.long ah, .long al])), (yl, .inr (2, [.long bh, .long bl])), (ou, .inl (cJ, 1, .inr (.inl fo)))] (S := Nat → Int64) (fun z u => (z = 0 ∧ ((xok ph axis part → ¬ lbad (exZ axis part (wv uh ul) (wv vh vl) (wv ah al) (wv bh bl)) limb ∧ (u 0) = lval (exZ axis part (wv uh ul) (wv vh vl) (wv ah al) (wv bh bl)) limb) ∧ (¬ xok ph axis part → (u 0) = -4611686018427387904))) ∨ (z = 1 ∧ (xok ph axis part ∧ lbad (exZ axis part (wv uh ul) (wv vh vl) (wv ah al) (wv bh bl)) limb))) (fun u => [(o, .inr (3, [.ref tl, .ref sx, .ref sy, .ref wx, .ref wy, .ref kx, .ref ky, .int cn, .int ph, .ref fx, .ref fy, .ref dv, .ref sp, .ref p1, .ref p2])), (fx, .inr (1, [.ref xu, .ref xl])), (fy, .inr (1, [.ref yu, .ref yl])), (xu, .inr (2, [.long uh, .long ul])), (xl, .inr (2, [.long vh, .long vl])), (yu, .inr (2, [.long ah, .long al])), (yl, .inr (2, [.long bh, .long bl])), (ou, .inl (cJ, 1, .inr (.inl u)))]) := by
  refine Hi.of (by decide) ?_
  intro p e s m args below meth c A Q hB htab hret hP hD hA
  obtain ⟨⟨hx, hb, hr, hlocks, hml, hown, hnm, hTB, hK⟩, hTX, hX⟩ := hB
  have hown : s.vm.findClass RL = some m.cls := hown
  have hS : va_S A s.heap s.heap [] := va_S.rf
  have hl := lv_entry ([.ref o, .int axis, .int part, .int limb, .ref ou]) (n := 6) (Nat.le_of_ble_eq_true rfl)
  rw [lg_entry_eq]
  generalize (lg_sl ([.ref o, .int axis, .int part, .int limb, .ref ou]) ++ List.replicate (6 - (lg_sl ([.ref o, .int axis, .int part, .int limb, .ref ou])).length) Slot.unset).toArray = ls at hl ⊢
  have hl : lv_has ls 6 [(0, .ref o), (1, .int axis), (2, .int part), (3, .int limb), (4, .ref ou)] := hl
  refine lv_aload hx hb dL_exact_0 (lv_at hl 4 rfl) ?_
  refine lv_iconst (v := 0) hx hb dL_exact_2 (by decide) ?_
  refine lv_aload_n hx hb dL_exact_3 rfl (lv_at hl 0 rfl) ?_
  refine lv_iload_n hx hb dL_exact_4 rfl (lv_at hl 1 rfl) ?_
  refine lv_iload_n hx hb dL_exact_5 rfl (lv_at hl 2 rfl) ?_
  refine lv_iload_n hx hb dL_exact_6 rfl (lv_at hl 3 rfl) ?_
  refine fin_xl (wr := [(ou, .inl (cJ, 1, .inr (.inl fo)))]) (vx_runV (As := [.int axis, .int part, .int limb]) (rest := [.int 0, .ref ou]) ⟨hx, hb, hml, hown, hTB⟩ (c_X3_exact l D cZ cI cJ hl9 o tl sx sy wx wy kx ky fx fy dv sp p1 p2 cn ph xu xl yu yl uh ul vh vl ah al bh bl axis part limb _) (cwx_V hTX tb_16_8 tb_1_2 tb_16_5 tb_16_6 tb_16_7 nd_X3_exact rfl rfl ⟨Nat.le_of_ble_eq_true rfl, Nat.le_of_ble_eq_true rfl⟩) (prx_V (q0 := 0) hK hX hP hD hS hA [0, 1, 2, 3, 4, 5, 6] rfl rfl rfl rfl) rfl rfl hl.1 rfl (lv_room (Nat.le_of_ble_eq_true rfl)) dL_exact_7 ⟨Nat.le_of_ble_eq_true rfl, Nat.le_of_ble_eq_true rfl⟩) hP hD hS hA [0, 1, 2, 3, 4, 5, 6] [7] rfl rfl rfl (by decide) (fun ux qx cx H locs hcx hP hD hS hqx hvx hclx => ?_) (fun r7 u7 H locs hc7 hP hD hS => ?_)
  · have hP : va_P D vwCl [(ou, .inl (cJ, 1, .inr (.inl fo))), (o, .inr (3, [.ref tl, .ref sx, .ref sy, .ref wx, .ref wy, .ref kx, .ref ky, .int cn, .int ph, .ref fx, .ref fy, .ref dv, .ref sp, .ref p1, .ref p2])), (fx, .inr (1, [.ref xu, .ref xl])), (fy, .inr (1, [.ref yu, .ref yl])), (xu, .inr (2, [.long uh, .long ul])), (xl, .inr (2, [.long vh, .long vl])), (yu, .inr (2, [.long ah, .long al])), (yl, .inr (2, [.long bh, .long bl]))] H := hP
    have hD : va_D A [(ou, .inl (cJ, 1, .inr (.inl fo))), (o, .inr (3, [.ref tl, .ref sx, .ref sy, .ref wx, .ref wy, .ref kx, .ref ky, .int cn, .int ph, .ref fx, .ref fy, .ref dv, .ref sp, .ref p1, .ref p2])), (fx, .inr (1, [.ref xu, .ref xl])), (fy, .inr (1, [.ref yu, .ref yl])), (xu, .inr (2, [.long uh, .long ul])), (xl, .inr (2, [.long vh, .long vl])), (yu, .inr (2, [.long ah, .long al])), (yl, .inr (2, [.long bh, .long bl]))] := hD
    refine vx_catch (own := RL) (name := IOB) hown [] ⟨0, 11, 14, 13⟩ [] htab (fun z hz => absurd hz List.not_mem_nil) rfl (by decide) (hTB _ tb_16_4) (va_Nw.use rfl (hX.2.2.1 _ xw_I)) hqx hvx hclx ?_
    refine W.widen (k := 1) (n := 6) (by decide) (by decide) ?_
    refine lv_astore (lv' := [(5, .ref qx), (0, .ref o), (1, .int axis), (2, .int part), (3, .int limb), (4, .ref ou)]) hx hb dL_exact_14 hl (by decide) rfl (fun ls hl => ?_)
    refine lv_iconst (v := 1) hx hb dL_exact_16 (by decide) ?_
    exact hret hP hD hS rfl fo (Or.inr ⟨rfl, hcx⟩) [1, 2, 3, 4, 5, 6, 7, 0] rfl (by decide) dL_exact_17 (Nat.le_of_ble_eq_true rfl) (Nat.le_of_ble_eq_true rfl)
  have hP : va_P D vwCl [(ou, .inl (cJ, 1, .inr (.inl fo))), (o, .inr (3, [.ref tl, .ref sx, .ref sy, .ref wx, .ref wy, .ref kx, .ref ky, .int cn, .int ph, .ref fx, .ref fy, .ref dv, .ref sp, .ref p1, .ref p2])), (fx, .inr (1, [.ref xu, .ref xl])), (fy, .inr (1, [.ref yu, .ref yl])), (xu, .inr (2, [.long uh, .long ul])), (xl, .inr (2, [.long vh, .long vl])), (yu, .inr (2, [.long ah, .long al])), (yl, .inr (2, [.long bh, .long bl]))] H := hP
  have hD : va_D A [(ou, .inl (cJ, 1, .inr (.inl fo))), (o, .inr (3, [.ref tl, .ref sx, .ref sy, .ref wx, .ref wy, .ref kx, .ref ky, .int cn, .int ph, .ref fx, .ref fy, .ref dv, .ref sp, .ref p1, .ref p2])), (fx, .inr (1, [.ref xu, .ref xl])), (fy, .inr (1, [.ref yu, .ref yl])), (xu, .inr (2, [.long uh, .long ul])), (xl, .inr (2, [.long vh, .long vl])), (yu, .inr (2, [.long ah, .long al])), (yl, .inr (2, [.long bh, .long bl]))] := hD
  refine W.widen (k := 1) (n := 6) (by decide) (by decide) ?_
  refine va_last (f := fo) hx hb hK.1 hP hD hS 0 2 rfl rfl (vp_in_nI (n := 0) (by decide) (by decide)) dL_exact_10 (fun H locs hP hD hS => ?_)
  rw [show (0 : Int32).toNatClampNeg = 0 from rfl] at hP hD
  have hP : va_P D vwCl [(ou, .inl (cJ, 1, .inr (.inl (vp_updL fo 0 r7)))), (o, .inr (3, [.ref tl, .ref sx, .ref sy, .ref wx, .ref wy, .ref kx, .ref ky, .int cn, .int ph, .ref fx, .ref fy, .ref dv, .ref sp, .ref p1, .ref p2])), (fx, .inr (1, [.ref xu, .ref xl])), (fy, .inr (1, [.ref yu, .ref yl])), (xu, .inr (2, [.long uh, .long ul])), (xl, .inr (2, [.long vh, .long vl])), (yu, .inr (2, [.long ah, .long al])), (yl, .inr (2, [.long bh, .long bl]))] H := hP
  have hD : va_D A [(ou, .inl (cJ, 1, .inr (.inl (vp_updL fo 0 r7)))), (o, .inr (3, [.ref tl, .ref sx, .ref sy, .ref wx, .ref wy, .ref kx, .ref ky, .int cn, .int ph, .ref fx, .ref fy, .ref dv, .ref sp, .ref p1, .ref p2])), (fx, .inr (1, [.ref xu, .ref xl])), (fy, .inr (1, [.ref yu, .ref yl])), (xu, .inr (2, [.long uh, .long ul])), (xl, .inr (2, [.long vh, .long vl])), (yu, .inr (2, [.long ah, .long al])), (yl, .inr (2, [.long bh, .long bl]))] := hD
  refine lv_goto (tgt := 18) hx hb dL_exact_11 (by decide) ?_
  refine lv_iconst (v := 0) hx hb dL_exact_18 (by decide) ?_
  exact hret hP hD hS rfl (vp_updL fo 0 r7) (Or.inl ⟨rfl, by rw [pk_uLs]; exact hc7⟩) [1, 2, 3, 4, 5, 6, 7, 0] rfl (by decide) dL_exact_19 (Nat.le_of_ble_eq_true rfl) (Nat.le_of_ble_eq_true rfl)

set_option maxHeartbeats 4000000 in
set_option maxRecDepth 100000 in
theorem c_L_area2 (l : Launch) (D : va_G) (cZ cI cJ : ClassId) (hl9 : l.stackTraces = false) (o tl sx sy wx wy kx ky fx fy dv sp p1 p2 : Nat) (ph : Int32) (n : Nat) (fkx fky : Nat → Int64) (sh sl : Int64) (limb : Int32) (ou : Nat) (fo : Nat → Int64) (hn64 : n ≤ 64) (hkb : ∀ k, k < n → ogr (fkx k) (fky k)) : Hi l D cZ cI cJ yL_area2 cL_area2 4 (some .int) [(0, 8, 11, 13)] { frames := 8, cells := 1, slots := 6, locals := 126 } [.ref o, .int limb, .ref ou] [(o, .inr (3, [.ref tl, .ref sx, .ref sy, .ref wx, .ref wy, .ref kx, .ref ky, .int (nI n), .int ph, .ref fx, .ref fy, .ref dv, .ref sp, .ref p1, .ref p2])), (kx, .inl (cJ, 64, .inr (.inl fkx))), (ky, .inl (cJ, 64, .inr (.inl fky))), (sp, .inr (2, [.long sh, .long sl])), (ou, .inl (cJ, 1, .inr (.inl fo)))] (S := (Nat → Int64) × Int64 × Int64) (fun z u => (z = 0 ∧ (¬ lbad (arS fkx fky n n) limb ∧ (u.1 0) = lval (arS fkx fky n n) limb)) ∨ (z = 1 ∧ (lbad (arS fkx fky n n) limb))) (fun u => [(o, .inr (3, [.ref tl, .ref sx, .ref sy, .ref wx, .ref wy, .ref kx, .ref ky, .int (nI n), .int ph, .ref fx, .ref fy, .ref dv, .ref sp, .ref p1, .ref p2])), (kx, .inl (cJ, 64, .inr (.inl fkx))), (ky, .inl (cJ, 64, .inr (.inl fky))), (sp, .inr (2, [.long u.2.1, .long u.2.2])), (ou, .inl (cJ, 1, .inr (.inl u.1)))]) := by
  refine Hi.of (by decide) ?_
  intro p e s m args below meth c A Q hB htab hret hP hD hA
  obtain ⟨⟨hx, hb, hr, hlocks, hml, hown, hnm, hTB, hK⟩, hTX, hX⟩ := hB
  have hown : s.vm.findClass RL = some m.cls := hown
  have hS : va_S A s.heap s.heap [] := va_S.rf
  have hl := lv_entry ([.ref o, .int limb, .ref ou]) (n := 4) (Nat.le_of_ble_eq_true rfl)
  rw [lg_entry_eq]
  generalize (lg_sl ([.ref o, .int limb, .ref ou]) ++ List.replicate (4 - (lg_sl ([.ref o, .int limb, .ref ou])).length) Slot.unset).toArray = ls at hl ⊢
  have hl : lv_has ls 4 [(0, .ref o), (1, .int limb), (2, .ref ou)] := hl
  refine lv_aload_n hx hb dL_area2_0 rfl (lv_at hl 2 rfl) ?_
  refine lv_iconst (v := 0) hx hb dL_area2_1 (by decide) ?_
  refine lv_aload_n hx hb dL_area2_2 rfl (lv_at hl 0 rfl) ?_
  refine lv_iload_n hx hb dL_area2_3 rfl (lv_at hl 1 rfl) ?_
  refine fin_xl (wr := [(ou, .inl (cJ, 1, .inr (.inl fo)))]) (vx_runV (As := [.int limb]) (rest := [.int 0, .ref ou]) ⟨hx, hb, hml, hown, hTB⟩ (c_X3_area2 l D cZ cI cJ hl9 o tl sx sy wx wy kx ky fx fy dv sp p1 p2 ph n fkx fky sh sl limb hn64 hkb _) (cwx_V hTX tb_18_13 tb_1_2 tb_18_10 tb_18_11 tb_18_12 nd_X3_area2 rfl rfl ⟨Nat.le_of_ble_eq_true rfl, Nat.le_of_ble_eq_true rfl⟩) (prx_V (q0 := 0) hK hX hP hD hS hA [0, 1, 2, 3] rfl rfl rfl rfl) rfl rfl hl.1 rfl (lv_room (Nat.le_of_ble_eq_true rfl)) dL_area2_4 ⟨Nat.le_of_ble_eq_true rfl, Nat.le_of_ble_eq_true rfl⟩) hP hD hS hA [0, 1, 2, 3] [4] rfl rfl rfl (by decide) (fun ux qx cx H locs hcx hP hD hS hqx hvx hclx => ?_) (fun r4 u4 H locs hc4 hP hD hS => ?_)
  · obtain ⟨x4h, x4l⟩ := ux
    have hP : va_P D vwCl [(ou, .inl (cJ, 1, .inr (.inl fo))), (o, .inr (3, [.ref tl, .ref sx, .ref sy, .ref wx, .ref wy, .ref kx, .ref ky, .int (nI n), .int ph, .ref fx, .ref fy, .ref dv, .ref sp, .ref p1, .ref p2])), (kx, .inl (cJ, 64, .inr (.inl fkx))), (ky, .inl (cJ, 64, .inr (.inl fky))), (sp, .inr (2, [.long x4h, .long x4l]))] H := hP
    have hD : va_D A [(ou, .inl (cJ, 1, .inr (.inl fo))), (o, .inr (3, [.ref tl, .ref sx, .ref sy, .ref wx, .ref wy, .ref kx, .ref ky, .int (nI n), .int ph, .ref fx, .ref fy, .ref dv, .ref sp, .ref p1, .ref p2])), (kx, .inl (cJ, 64, .inr (.inl fkx))), (ky, .inl (cJ, 64, .inr (.inl fky))), (sp, .inr (2, [.long x4h, .long x4l]))] := hD
    refine vx_catch (own := RL) (name := IOB) hown [] ⟨0, 8, 11, 13⟩ [] htab (fun z hz => absurd hz List.not_mem_nil) rfl (by decide) (hTB _ tb_16_4) (va_Nw.use rfl (hX.2.2.1 _ xw_I)) hqx hvx hclx ?_
    refine W.widen (k := 1) (n := 6) (by decide) (by decide) ?_
    refine lv_astore_n (lv' := [(3, .ref qx), (0, .ref o), (1, .int limb), (2, .ref ou)]) hx hb dL_area2_11 rfl hl (by decide) rfl (fun ls hl => ?_)
    refine lv_iconst (v := 1) hx hb dL_area2_12 (by decide) ?_
    exact hret hP hD hS rfl (fo, x4h, x4l) (Or.inr ⟨rfl, hcx⟩) [1, 2, 3, 4, 0] rfl (by decide) dL_area2_13 (Nat.le_of_ble_eq_true rfl) (Nat.le_of_ble_eq_true rfl)
  obtain ⟨w4h, w4l⟩ := u4
  try dsimp only at hc4
  have hP : va_P D vwCl [(ou, .inl (cJ, 1, .inr (.inl fo))), (o, .inr (3, [.ref tl, .ref sx, .ref sy, .ref wx, .ref wy, .ref kx, .ref ky, .int (nI n), .int ph, .ref fx, .ref fy, .ref dv, .ref sp, .ref p1, .ref p2])), (kx, .inl (cJ, 64, .inr (.inl fkx))), (ky, .inl (cJ, 64, .inr (.inl fky))), (sp, .inr (2, [.long w4h, .long w4l]))] H := hP
  have hD : va_D A [(ou, .inl (cJ, 1, .inr (.inl fo))), (o, .inr (3, [.ref tl, .ref sx, .ref sy, .ref wx, .ref wy, .ref kx, .ref ky, .int (nI n), .int ph, .ref fx, .ref fy, .ref dv, .ref sp, .ref p1, .ref p2])), (kx, .inl (cJ, 64, .inr (.inl fkx))), (ky, .inl (cJ, 64, .inr (.inl fky))), (sp, .inr (2, [.long w4h, .long w4l]))] := hD
  refine W.widen (k := 1) (n := 6) (by decide) (by decide) ?_
  refine va_last (f := fo) hx hb hK.1 hP hD hS 0 2 rfl rfl (vp_in_nI (n := 0) (by decide) (by decide)) dL_area2_7 (fun H locs hP hD hS => ?_)
  rw [show (0 : Int32).toNatClampNeg = 0 from rfl] at hP hD
  have hP : va_P D vwCl [(ou, .inl (cJ, 1, .inr (.inl (vp_updL fo 0 r4)))), (o, .inr (3, [.ref tl, .ref sx, .ref sy, .ref wx, .ref wy, .ref kx, .ref ky, .int (nI n), .int ph, .ref fx, .ref fy, .ref dv, .ref sp, .ref p1, .ref p2])), (kx, .inl (cJ, 64, .inr (.inl fkx))), (ky, .inl (cJ, 64, .inr (.inl fky))), (sp, .inr (2, [.long w4h, .long w4l]))] H := hP
  have hD : va_D A [(ou, .inl (cJ, 1, .inr (.inl (vp_updL fo 0 r4)))), (o, .inr (3, [.ref tl, .ref sx, .ref sy, .ref wx, .ref wy, .ref kx, .ref ky, .int (nI n), .int ph, .ref fx, .ref fy, .ref dv, .ref sp, .ref p1, .ref p2])), (kx, .inl (cJ, 64, .inr (.inl fkx))), (ky, .inl (cJ, 64, .inr (.inl fky))), (sp, .inr (2, [.long w4h, .long w4l]))] := hD
  refine lv_goto (tgt := 14) hx hb dL_area2_8 (by decide) ?_
  refine lv_iconst (v := 0) hx hb dL_area2_14 (by decide) ?_
  exact hret hP hD hS rfl (vp_updL fo 0 r4, w4h, w4l) (Or.inl ⟨rfl, by dsimp only; rw [pk_uLs]; exact hc4⟩) [1, 2, 3, 4, 0] rfl (by decide) dL_area2_15 (Nat.le_of_ble_eq_true rfl) (Nat.le_of_ble_eq_true rfl)

set_option maxHeartbeats 4000000 in
set_option maxRecDepth 100000 in
theorem c_L_product (l : Launch) (D : va_G) (cZ cI cJ : ClassId) (hl9 : l.stackTraces = false) (o tl sx sy wx wy kx ky fx fy dv sp p1 p2 : Nat) (cn ph : Int32) (sh sl a b : Int64) (limb : Int32) (ou : Nat) (fo : Nat → Int64) : Hi l D cZ cI cJ yL_product cL_product 8 (some .int) [(0, 12, 15, 13)] { frames := 8, cells := 1, slots := 6, locals := 128 } [.ref o, .long a, .long b, .int limb, .ref ou] [(o, .inr (3, [.ref tl, .ref sx, .ref sy, .ref wx, .ref wy, .ref kx, .ref ky, .int cn, .int ph, .ref fx, .ref fy, .ref dv, .ref sp, .ref p1, .ref p2])), (sp, .inr (2, [.long sh, .long sl])), (ou, .inl (cJ, 1, .inr (.inl fo)))] (S := (Nat → Int64) × Int64 × Int64) (fun z u => (z = 0 ∧ (¬ lbad (a.toInt * b.toInt) limb ∧ (u.1 0) = lval (a.toInt * b.toInt) limb)) ∨ (z = 1 ∧ (lbad (a.toInt * b.toInt) limb))) (fun u => [(o, .inr (3, [.ref tl, .ref sx, .ref sy, .ref wx, .ref wy, .ref kx, .ref ky, .int cn, .int ph, .ref fx, .ref fy, .ref dv, .ref sp, .ref p1, .ref p2])), (sp, .inr (2, [.long u.2.1, .long u.2.2])), (ou, .inl (cJ, 1, .inr (.inl u.1)))]) := by
  refine Hi.of (by decide) ?_
  intro p e s m args below meth c A Q hB htab hret hP hD hA
  obtain ⟨⟨hx, hb, hr, hlocks, hml, hown, hnm, hTB, hK⟩, hTX, hX⟩ := hB
  have hown : s.vm.findClass RL = some m.cls := hown
  have hS : va_S A s.heap s.heap [] := va_S.rf
  have hl := lv_entry ([.ref o, .long a, .long b, .int limb, .ref ou]) (n := 8) (Nat.le_of_ble_eq_true rfl)
  rw [lg_entry_eq]
  generalize (lg_sl ([.ref o, .long a, .long b, .int limb, .ref ou]) ++ List.replicate (8 - (lg_sl ([.ref o, .long a, .long b, .int limb, .ref ou])).length) Slot.unset).toArray = ls at hl ⊢
  have hl : lv_has ls 8 [(0, .ref o), (1, .long a), (3, .long b), (5, .int limb), (6, .ref ou)] := hl
  refine lv_aload hx hb dL_product_0 (lv_at hl 4 rfl) ?_
  refine lv_iconst (v := 0) hx hb dL_product_2 (by decide) ?_
  refine lv_aload_n hx hb dL_product_3 rfl (lv_at hl 0 rfl) ?_
  refine lv_lload_n hx hb dL_product_4 rfl (lv_at hl 1 rfl) ?_
  refine lv_lload_n hx hb dL_product_5 rfl (lv_at hl 2 rfl) ?_
  refine lv_iload hx hb dL_product_6 (lv_at hl 3 rfl) ?_
  refine fin_xl (wr := [(ou, .inl (cJ, 1, .inr (.inl fo)))]) (vx_runV (As := [.long a, .long b, .int limb]) (rest := [.int 0, .ref ou]) ⟨hx, hb, hml, hown, hTB⟩ (c_X3_product l D cZ cI cJ hl9 o tl sx sy wx wy kx ky fx fy dv sp p1 p2 cn ph sh sl a b limb _) (cwx_V hTX tb_20_23 tb_1_2 tb_20_20 tb_20_21 tb_20_22 nd_X3_product rfl rfl ⟨Nat.le_of_ble_eq_true rfl, Nat.le_of_ble_eq_true rfl⟩) (prx_V (q0 := 0) hK hX hP hD hS hA [0, 1] rfl rfl rfl rfl) rfl rfl hl.1 rfl (lv_room (Nat.le_of_ble_eq_true rfl)) dL_product_8 ⟨Nat.le_of_ble_eq_true rfl, Nat.le_of_ble_eq_true rfl⟩) hP hD hS hA [0, 1] [2] rfl rfl rfl (by decide) (fun ux qx cx H locs hcx hP hD hS hqx hvx hclx => ?_) (fun r8 u8 H locs hc8 hP hD hS => ?_)
  · obtain ⟨x8h, x8l⟩ := ux
    have hP : va_P D vwCl [(ou, .inl (cJ, 1, .inr (.inl fo))), (o, .inr (3, [.ref tl, .ref sx, .ref sy, .ref wx, .ref wy, .ref kx, .ref ky, .int cn, .int ph, .ref fx, .ref fy, .ref dv, .ref sp, .ref p1, .ref p2])), (sp, .inr (2, [.long x8h, .long x8l]))] H := hP
    have hD : va_D A [(ou, .inl (cJ, 1, .inr (.inl fo))), (o, .inr (3, [.ref tl, .ref sx, .ref sy, .ref wx, .ref wy, .ref kx, .ref ky, .int cn, .int ph, .ref fx, .ref fy, .ref dv, .ref sp, .ref p1, .ref p2])), (sp, .inr (2, [.long x8h, .long x8l]))] := hD
    refine vx_catch (own := RL) (name := IOB) hown [] ⟨0, 12, 15, 13⟩ [] htab (fun z hz => absurd hz List.not_mem_nil) rfl (by decide) (hTB _ tb_16_4) (va_Nw.use rfl (hX.2.2.1 _ xw_I)) hqx hvx hclx ?_
    refine W.widen (k := 1) (n := 6) (by decide) (by decide) ?_
    refine lv_astore (lv' := [(7, .ref qx), (0, .ref o), (1, .long a), (3, .long b), (5, .int limb), (6, .ref ou)]) hx hb dL_product_15 hl (by decide) rfl (fun ls hl => ?_)
    refine lv_iconst (v := 1) hx hb dL_product_17 (by decide) ?_
    exact hret hP hD hS rfl (fo, x8h, x8l) (Or.inr ⟨rfl, hcx⟩) [1, 2, 0] rfl (by decide) dL_product_18 (Nat.le_of_ble_eq_true rfl) (Nat.le_of_ble_eq_true rfl)
  obtain ⟨w8h, w8l⟩ := u8
  try dsimp only at hc8
  have hP : va_P D vwCl [(ou, .inl (cJ, 1, .inr (.inl fo))), (o, .inr (3, [.ref tl, .ref sx, .ref sy, .ref wx, .ref wy, .ref kx, .ref ky, .int cn, .int ph, .ref fx, .ref fy, .ref dv, .ref sp, .ref p1, .ref p2])), (sp, .inr (2, [.long w8h, .long w8l]))] H := hP
  have hD : va_D A [(ou, .inl (cJ, 1, .inr (.inl fo))), (o, .inr (3, [.ref tl, .ref sx, .ref sy, .ref wx, .ref wy, .ref kx, .ref ky, .int cn, .int ph, .ref fx, .ref fy, .ref dv, .ref sp, .ref p1, .ref p2])), (sp, .inr (2, [.long w8h, .long w8l]))] := hD
  refine W.widen (k := 1) (n := 6) (by decide) (by decide) ?_
  refine va_last (f := fo) hx hb hK.1 hP hD hS 0 2 rfl rfl (vp_in_nI (n := 0) (by decide) (by decide)) dL_product_11 (fun H locs hP hD hS => ?_)
  rw [show (0 : Int32).toNatClampNeg = 0 from rfl] at hP hD
  have hP : va_P D vwCl [(ou, .inl (cJ, 1, .inr (.inl (vp_updL fo 0 r8)))), (o, .inr (3, [.ref tl, .ref sx, .ref sy, .ref wx, .ref wy, .ref kx, .ref ky, .int cn, .int ph, .ref fx, .ref fy, .ref dv, .ref sp, .ref p1, .ref p2])), (sp, .inr (2, [.long w8h, .long w8l]))] H := hP
  have hD : va_D A [(ou, .inl (cJ, 1, .inr (.inl (vp_updL fo 0 r8)))), (o, .inr (3, [.ref tl, .ref sx, .ref sy, .ref wx, .ref wy, .ref kx, .ref ky, .int cn, .int ph, .ref fx, .ref fy, .ref dv, .ref sp, .ref p1, .ref p2])), (sp, .inr (2, [.long w8h, .long w8l]))] := hD
  refine lv_goto (tgt := 19) hx hb dL_product_12 (by decide) ?_
  refine lv_iconst (v := 0) hx hb dL_product_19 (by decide) ?_
  exact hret hP hD hS rfl (vp_updL fo 0 r8, w8h, w8l) (Or.inl ⟨rfl, by dsimp only; rw [pk_uLs]; exact hc8⟩) [1, 2, 0] rfl (by decide) dL_product_20 (Nat.le_of_ble_eq_true rfl) (Nat.le_of_ble_eq_true rfl)

set_option maxHeartbeats 4000000 in
set_option maxRecDepth 100000 in
theorem c_L_over (l : Launch) (D : va_G) (cZ cI cJ : ClassId) (hl9 : l.stackTraces = false) (o tl sx sy wx wy kx ky fx fy dv sp p1 p2 : Nat) (cn ph : Int32) (fh fl gh gl : Int64) (q r d lm co : Nat) (qh ql rh rl dh dl mh ml : Int64) (a b : Int64) (rule : Int32) (ou : Nat) (fo : Nat → Int64) : Hi l D cZ cI cJ yL_over cL_over 8 (some .int) [(0, 12, 15, 23)] { frames := 8, cells := 1, slots := 6, locals := 166 } [.ref o, .long a, .long b, .int rule, .ref ou] [(o, .inr (3, [.ref tl, .ref sx, .ref sy, .ref wx, .ref wy, .ref kx, .ref ky, .int cn, .int ph, .ref fx, .ref fy, .ref dv, .ref sp, .ref p1, .ref p2])), (p1, .inr (2, [.long fh, .long fl])), (p2, .inr (2, [.long gh, .long gl])), (dv, .inr (0, [.ref q, .ref r, .ref d, .ref lm, .ref co])), (q, .inr (2, [.long qh, .long ql])), (r, .inr (2, [.long rh, .long rl])), (d, .inr (2, [.long dh, .long dl])), (lm, .inr (2, [.long mh, .long ml])), (ou, .inl (cJ, 1, .inr (.inl fo)))] (S := (Nat → Int64) × (Int64 × Int64) × (Int64 × Int64) × (Int64 × Int64) × (Int64 × Int64) × (Int64 × Int64) × (Int64 × Int64)) (fun z u => (z = 0 ∧ ((¬ rok rule → (u.1 0) = -4611686018427387904) ∧ (rok rule → b.toInt ≠ 0 ∧ (u.1 0) = rdv rule (a.toInt * (1 : Int64).toInt) b.toInt))) ∨ (z = 1 ∧ (rok rule ∧ b.toInt = 0))) (fun u => [(o, .inr (3, [.ref tl, .ref sx, .ref sy, .ref wx, .ref wy, .ref kx, .ref ky, .int cn, .int ph, .ref fx, .ref fy, .ref dv, .ref sp, .ref p1, .ref p2])), (p1, .inr (2, [.long u.2.1.1, .long u.2.1.2])), (p2, .inr (2, [.long u.2.2.1.1, .long u.2.2.1.2])), (dv, .inr (0, [.ref q, .ref r, .ref d, .ref lm, .ref co])), (q, .inr (2, [.long u.2.2.2.1.1, .long u.2.2.2.1.2])), (r, .inr (2, [.long u.2.2.2.2.1.1, .long u.2.2.2.2.1.2])), (d, .inr (2, [.long u.2.2.2.2.2.1.1, .long u.2.2.2.2.2.1.2])), (lm, .inr (2, [.long u.2.2.2.2.2.2.1, .long u.2.2.2.2.2.2.2])), (ou, .inl (cJ, 1, .inr (.inl u.1)))]) := by
  refine Hi.of (by decide) ?_
  intro p e s m args below meth c A Q hB htab hret hP hD hA
  obtain ⟨⟨hx, hb, hr, hlocks, hml, hown, hnm, hTB, hK⟩, hTX, hX⟩ := hB
  have hown : s.vm.findClass RL = some m.cls := hown
  have hS : va_S A s.heap s.heap [] := va_S.rf
  have hl := lv_entry ([.ref o, .long a, .long b, .int rule, .ref ou]) (n := 8) (Nat.le_of_ble_eq_true rfl)
  rw [lg_entry_eq]
  generalize (lg_sl ([.ref o, .long a, .long b, .int rule, .ref ou]) ++ List.replicate (8 - (lg_sl ([.ref o, .long a, .long b, .int rule, .ref ou])).length) Slot.unset).toArray = ls at hl ⊢
  have hl : lv_has ls 8 [(0, .ref o), (1, .long a), (3, .long b), (5, .int rule), (6, .ref ou)] := hl
  refine lv_aload hx hb dL_over_0 (lv_at hl 4 rfl) ?_
  refine lv_iconst (v := 0) hx hb dL_over_2 (by decide) ?_
  refine lv_aload_n hx hb dL_over_3 rfl (lv_at hl 0 rfl) ?_
  refine lv_lload_n hx hb dL_over_4 rfl (lv_at hl 1 rfl) ?_
  refine lv_lload_n hx hb dL_over_5 rfl (lv_at hl 2 rfl) ?_
  refine lv_iload hx hb dL_over_6 (lv_at hl 3 rfl) ?_
  refine fin_xl (wr := [(ou, .inl (cJ, 1, .inr (.inl fo)))]) (vx_runV (As := [.long a, .long b, .int rule]) (rest := [.int 0, .ref ou]) ⟨hx, hb, hml, hown, hTB⟩ (c_X3_over l D cZ cI cJ hl9 o tl sx sy wx wy kx ky fx fy dv sp p1 p2 cn ph fh fl gh gl q r d lm co qh ql rh rl dh dl mh ml a b rule _) (cwx_V hTX tb_19_21 tb_1_2 tb_19_18 tb_19_19 tb_19_20 nd_X3_over rfl rfl ⟨Nat.le_of_ble_eq_true rfl, Nat.le_of_ble_eq_true rfl⟩) (prx_V (q0 := 0) hK hX hP hD hS hA [0, 1, 2, 3, 4, 5, 6, 7] rfl rfl rfl rfl) rfl rfl hl.1 rfl (lv_room (Nat.le_of_ble_eq_true rfl)) dL_over_8 ⟨Nat.le_of_ble_eq_true rfl, Nat.le_of_ble_eq_true rfl⟩) hP hD hS hA [0, 1, 2, 3, 4, 5, 6, 7] [8] rfl rfl rfl (by decide) (fun ux qx cx H locs hcx hP hD hS hqx hvx hclx => ?_) (fun r8 u8 H locs hc8 hP hD hS => ?_)
  · have hP : va_P D vwCl [(ou, .inl (cJ, 1, .inr (.inl fo))), (o, .inr (3, [.ref tl, .ref sx, .ref sy, .ref wx, .ref wy, .ref kx, .ref ky, .int cn, .int ph, .ref fx, .ref fy, .ref dv, .ref sp, .ref p1, .ref p2])), (p1, .inr (2, [.long fh, .long fl])), (p2, .inr (2, [.long gh, .long gl])), (dv, .inr (0, [.ref q, .ref r, .ref d, .ref lm, .ref co])), (q, .inr (2, [.long qh, .long ql])), (r, .inr (2, [.long rh, .long rl])), (d, .inr (2, [.long dh, .long dl])), (lm, .inr (2, [.long mh, .long ml]))] H := hP
    have hD : va_D A [(ou, .inl (cJ, 1, .inr (.inl fo))), (o, .inr (3, [.ref tl, .ref sx, .ref sy, .ref wx, .ref wy, .ref kx, .ref ky, .int cn, .int ph, .ref fx, .ref fy, .ref dv, .ref sp, .ref p1, .ref p2])), (p1, .inr (2, [.long fh, .long fl])), (p2, .inr (2, [.long gh, .long gl])), (dv, .inr (0, [.ref q, .ref r, .ref d, .ref lm, .ref co])), (q, .inr (2, [.long qh, .long ql])), (r, .inr (2, [.long rh, .long rl])), (d, .inr (2, [.long dh, .long dl])), (lm, .inr (2, [.long mh, .long ml]))] := hD
    refine vx_catch (own := RL) (name := ARX) hown [] ⟨0, 12, 15, 23⟩ [] htab (fun z hz => absurd hz List.not_mem_nil) rfl (by decide) (hTB _ tb_19_17) (va_Nw.use rfl (hX.2.2.1 _ xw_A)) hqx hvx hclx ?_
    refine W.widen (k := 1) (n := 6) (by decide) (by decide) ?_
    refine lv_astore (lv' := [(7, .ref qx), (0, .ref o), (1, .long a), (3, .long b), (5, .int rule), (6, .ref ou)]) hx hb dL_over_15 hl (by decide) rfl (fun ls hl => ?_)
    refine lv_iconst (v := 1) hx hb dL_over_17 (by decide) ?_
    exact hret hP hD hS rfl (fo, (fh, fl), (gh, gl), (qh, ql), (rh, rl), (dh, dl), (mh, ml)) (Or.inr ⟨rfl, hcx⟩) [1, 2, 3, 4, 5, 6, 7, 8, 0] rfl (by decide) dL_over_18 (Nat.le_of_ble_eq_true rfl) (Nat.le_of_ble_eq_true rfl)
  obtain ⟨⟨v8a, v8b⟩, ⟨v8c, v8d⟩, ⟨v8e, v8f⟩, ⟨v8g, v8h⟩, ⟨v8i, v8j⟩, v8k, v8l⟩ := u8
  try dsimp only at hc8
  have hP : va_P D vwCl [(ou, .inl (cJ, 1, .inr (.inl fo))), (o, .inr (3, [.ref tl, .ref sx, .ref sy, .ref wx, .ref wy, .ref kx, .ref ky, .int cn, .int ph, .ref fx, .ref fy, .ref dv, .ref sp, .ref p1, .ref p2])), (p1, .inr (2, [.long v8a, .long v8b])), (p2, .inr (2, [.long v8c, .long v8d])), (dv, .inr (0, [.ref q, .ref r, .ref d, .ref lm, .ref co])), (q, .inr (2, [.long v8e, .long v8f])), (r, .inr (2, [.long v8g, .long v8h])), (d, .inr (2, [.long v8i, .long v8j])), (lm, .inr (2, [.long v8k, .long v8l]))] H := hP
  have hD : va_D A [(ou, .inl (cJ, 1, .inr (.inl fo))), (o, .inr (3, [.ref tl, .ref sx, .ref sy, .ref wx, .ref wy, .ref kx, .ref ky, .int cn, .int ph, .ref fx, .ref fy, .ref dv, .ref sp, .ref p1, .ref p2])), (p1, .inr (2, [.long v8a, .long v8b])), (p2, .inr (2, [.long v8c, .long v8d])), (dv, .inr (0, [.ref q, .ref r, .ref d, .ref lm, .ref co])), (q, .inr (2, [.long v8e, .long v8f])), (r, .inr (2, [.long v8g, .long v8h])), (d, .inr (2, [.long v8i, .long v8j])), (lm, .inr (2, [.long v8k, .long v8l]))] := hD
  refine W.widen (k := 1) (n := 6) (by decide) (by decide) ?_
  refine va_last (f := fo) hx hb hK.1 hP hD hS 0 2 rfl rfl (vp_in_nI (n := 0) (by decide) (by decide)) dL_over_11 (fun H locs hP hD hS => ?_)
  rw [show (0 : Int32).toNatClampNeg = 0 from rfl] at hP hD
  have hP : va_P D vwCl [(ou, .inl (cJ, 1, .inr (.inl (vp_updL fo 0 r8)))), (o, .inr (3, [.ref tl, .ref sx, .ref sy, .ref wx, .ref wy, .ref kx, .ref ky, .int cn, .int ph, .ref fx, .ref fy, .ref dv, .ref sp, .ref p1, .ref p2])), (p1, .inr (2, [.long v8a, .long v8b])), (p2, .inr (2, [.long v8c, .long v8d])), (dv, .inr (0, [.ref q, .ref r, .ref d, .ref lm, .ref co])), (q, .inr (2, [.long v8e, .long v8f])), (r, .inr (2, [.long v8g, .long v8h])), (d, .inr (2, [.long v8i, .long v8j])), (lm, .inr (2, [.long v8k, .long v8l]))] H := hP
  have hD : va_D A [(ou, .inl (cJ, 1, .inr (.inl (vp_updL fo 0 r8)))), (o, .inr (3, [.ref tl, .ref sx, .ref sy, .ref wx, .ref wy, .ref kx, .ref ky, .int cn, .int ph, .ref fx, .ref fy, .ref dv, .ref sp, .ref p1, .ref p2])), (p1, .inr (2, [.long v8a, .long v8b])), (p2, .inr (2, [.long v8c, .long v8d])), (dv, .inr (0, [.ref q, .ref r, .ref d, .ref lm, .ref co])), (q, .inr (2, [.long v8e, .long v8f])), (r, .inr (2, [.long v8g, .long v8h])), (d, .inr (2, [.long v8i, .long v8j])), (lm, .inr (2, [.long v8k, .long v8l]))] := hD
  refine lv_goto (tgt := 19) hx hb dL_over_12 (by decide) ?_
  refine lv_iconst (v := 0) hx hb dL_over_19 (by decide) ?_
  exact hret hP hD hS rfl (vp_updL fo 0 r8, (v8a, v8b), (v8c, v8d), (v8e, v8f), (v8g, v8h), (v8i, v8j), (v8k, v8l)) (Or.inl ⟨rfl, by dsimp only; rw [pk_uLs]; exact hc8⟩) [1, 2, 3, 4, 5, 6, 7, 8, 0] rfl (by decide) dL_over_20 (Nat.le_of_ble_eq_true rfl) (Nat.le_of_ble_eq_true rfl)

set_option maxHeartbeats 4000000 in
set_option maxRecDepth 100000 in
theorem c_L_ratio (l : Launch) (D : va_G) (cZ cI cJ : ClassId) (hl9 : l.stackTraces = false) (o tl sx sy wx wy kx ky fx fy dv sp p1 p2 : Nat) (cn ph : Int32) (fh fl gh gl : Int64) (q r d lm co : Nat) (qh ql rh rl dh dl mh ml : Int64) (a b c9 : Int64) (rule : Int32) (ou : Nat) (fo : Nat → Int64) : Hi l D cZ cI cJ yL_ratio cL_ratio 10 (some .int) [(0, 14, 17, 23)] { frames := 8, cells := 1, slots := 6, locals := 168 } [.ref o, .long a, .long b, .long c9, .int rule, .ref ou] [(o, .inr (3, [.ref tl, .ref sx, .ref sy, .ref wx, .ref wy, .ref kx, .ref ky, .int cn, .int ph, .ref fx, .ref fy, .ref dv, .ref sp, .ref p1, .ref p2])), (p1, .inr (2, [.long fh, .long fl])), (p2, .inr (2, [.long gh, .long gl])), (dv, .inr (0, [.ref q, .ref r, .ref d, .ref lm, .ref co])), (q, .inr (2, [.long qh, .long ql])), (r, .inr (2, [.long rh, .long rl])), (d, .inr (2, [.long dh, .long dl])), (lm, .inr (2, [.long mh, .long ml])), (ou, .inl (cJ, 1, .inr (.inl fo)))] (S := (Nat → Int64) × (Int64 × Int64) × (Int64 × Int64) × (Int64 × Int64) × (Int64 × Int64) × (Int64 × Int64) × (Int64 × Int64)) (fun z u => (z = 0 ∧ ((¬ rok rule → (u.1 0) = -4611686018427387904) ∧ (rok rule → c9.toInt ≠ 0 ∧ (u.1 0) = rdv rule (a.toInt * b.toInt) c9.toInt))) ∨ (z = 1 ∧ (rok rule ∧ c9.toInt = 0))) (fun u => [(o, .inr (3, [.ref tl, .ref sx, .ref sy, .ref wx, .ref wy, .ref kx, .ref ky, .int cn, .int ph, .ref fx, .ref fy, .ref dv, .ref sp, .ref p1, .ref p2])), (p1, .inr (2, [.long u.2.1.1, .long u.2.1.2])), (p2, .inr (2, [.long u.2.2.1.1, .long u.2.2.1.2])), (dv, .inr (0, [.ref q, .ref r, .ref d, .ref lm, .ref co])), (q, .inr (2, [.long u.2.2.2.1.1, .long u.2.2.2.1.2])), (r, .inr (2, [.long u.2.2.2.2.1.1, .long u.2.2.2.2.1.2])), (d, .inr (2, [.long u.2.2.2.2.2.1.1, .long u.2.2.2.2.2.1.2])), (lm, .inr (2, [.long u.2.2.2.2.2.2.1, .long u.2.2.2.2.2.2.2])), (ou, .inl (cJ, 1, .inr (.inl u.1)))]) := by
  refine Hi.of (by decide) ?_
  intro p e s m args below meth c A Q hB htab hret hP hD hA
  obtain ⟨⟨hx, hb, hr, hlocks, hml, hown, hnm, hTB, hK⟩, hTX, hX⟩ := hB
  have hown : s.vm.findClass RL = some m.cls := hown
  have hS : va_S A s.heap s.heap [] := va_S.rf
  have hl := lv_entry ([.ref o, .long a, .long b, .long c9, .int rule, .ref ou]) (n := 10) (Nat.le_of_ble_eq_true rfl)
  rw [lg_entry_eq]
  generalize (lg_sl ([.ref o, .long a, .long b, .long c9, .int rule, .ref ou]) ++ List.replicate (10 - (lg_sl ([.ref o, .long a, .long b, .long c9, .int rule, .ref ou])).length) Slot.unset).toArray = ls at hl ⊢
  have hl : lv_has ls 10 [(0, .ref o), (1, .long a), (3, .long b), (5, .long c9), (7, .int rule), (8, .ref ou)] := hl
  refine lv_aload hx hb dL_ratio_0 (lv_at hl 5 rfl) ?_
  refine lv_iconst (v := 0) hx hb dL_ratio_2 (by decide) ?_
  refine lv_aload_n hx hb dL_ratio_3 rfl (lv_at hl 0 rfl) ?_
  refine lv_lload_n hx hb dL_ratio_4 rfl (lv_at hl 1 rfl) ?_
  refine lv_lload_n hx hb dL_ratio_5 rfl (lv_at hl 2 rfl) ?_
  refine lv_lload hx hb dL_ratio_6 (lv_at hl 3 rfl) ?_
  refine lv_iload hx hb dL_ratio_8 (lv_at hl 4 rfl) ?_
  refine fin_xl (wr := [(ou, .inl (cJ, 1, .inr (.inl fo)))]) (vx_runV (As := [.long a, .long b, .long c9, .int rule]) (rest := [.int 0, .ref ou]) ⟨hx, hb, hml, hown, hTB⟩ (c_X3_ratio l D cZ cI cJ hl9 o tl sx sy wx wy kx ky fx fy dv sp p1 p2 cn ph fh fl gh gl q r d lm co qh ql rh rl dh dl mh ml a b c9 rule _) (cwx_V hTX tb_21_10 tb_1_2 tb_21_7 tb_21_8 tb_21_9 nd_X3_ratio rfl rfl ⟨Nat.le_of_ble_eq_true rfl, Nat.le_of_ble_eq_true rfl⟩) (prx_V (q0 := 0) hK hX hP hD hS hA [0, 1, 2, 3, 4, 5, 6, 7] rfl rfl rfl rfl) rfl rfl hl.1 rfl (lv_room (Nat.le_of_ble_eq_true rfl)) dL_ratio_10 ⟨Nat.le_of_ble_eq_true rfl, Nat.le_of_ble_eq_true rfl⟩) hP hD hS hA [0, 1, 2, 3, 4, 5, 6, 7] [8] rfl rfl rfl (by decide) (fun ux qx cx H locs hcx hP hD hS hqx hvx hclx => ?_) (fun r10 u10 H locs hc10 hP hD hS => ?_)
  · have hP : va_P D vwCl [(ou, .inl (cJ, 1, .inr (.inl fo))), (o, .inr (3, [.ref tl, .ref sx, .ref sy, .ref wx, .ref wy, .ref kx, .ref ky, .int cn, .int ph, .ref fx, .ref fy, .ref dv, .ref sp, .ref p1, .ref p2])), (p1, .inr (2, [.long fh, .long fl])), (p2, .inr (2, [.long gh, .long gl])), (dv, .inr (0, [.ref q, .ref r, .ref d, .ref lm, .ref co])), (q, .inr (2, [.long qh, .long ql])), (r, .inr (2, [.long rh, .long rl])), (d, .inr (2, [.long dh, .long dl])), (lm, .inr (2, [.long mh, .long ml]))] H := hP
    have hD : va_D A [(ou, .inl (cJ, 1, .inr (.inl fo))), (o, .inr (3, [.ref tl, .ref sx, .ref sy, .ref wx, .ref wy, .ref kx, .ref ky, .int cn, .int ph, .ref fx, .ref fy, .ref dv, .ref sp, .ref p1, .ref p2])), (p1, .inr (2, [.long fh, .long fl])), (p2, .inr (2, [.long gh, .long gl])), (dv, .inr (0, [.ref q, .ref r, .ref d, .ref lm, .ref co])), (q, .inr (2, [.long qh, .long ql])), (r, .inr (2, [.long rh, .long rl])), (d, .inr (2, [.long dh, .long dl])), (lm, .inr (2, [.long mh, .long ml]))] := hD
    refine vx_catch (own := RL) (name := ARX) hown [] ⟨0, 14, 17, 23⟩ [] htab (fun z hz => absurd hz List.not_mem_nil) rfl (by decide) (hTB _ tb_19_17) (va_Nw.use rfl (hX.2.2.1 _ xw_A)) hqx hvx hclx ?_
    refine W.widen (k := 1) (n := 6) (by decide) (by decide) ?_
    refine lv_astore (lv' := [(9, .ref qx), (0, .ref o), (1, .long a), (3, .long b), (5, .long c9), (7, .int rule), (8, .ref ou)]) hx hb dL_ratio_17 hl (by decide) rfl (fun ls hl => ?_)
    refine lv_iconst (v := 1) hx hb dL_ratio_19 (by decide) ?_
    exact hret hP hD hS rfl (fo, (fh, fl), (gh, gl), (qh, ql), (rh, rl), (dh, dl), (mh, ml)) (Or.inr ⟨rfl, hcx⟩) [1, 2, 3, 4, 5, 6, 7, 8, 0] rfl (by decide) dL_ratio_20 (Nat.le_of_ble_eq_true rfl) (Nat.le_of_ble_eq_true rfl)
  obtain ⟨⟨v10a, v10b⟩, ⟨v10c, v10d⟩, ⟨v10e, v10f⟩, ⟨v10g, v10h⟩, ⟨v10i, v10j⟩, v10k, v10l⟩ := u10
  try dsimp only at hc10
  have hP : va_P D vwCl [(ou, .inl (cJ, 1, .inr (.inl fo))), (o, .inr (3, [.ref tl, .ref sx, .ref sy, .ref wx, .ref wy, .ref kx, .ref ky, .int cn, .int ph, .ref fx, .ref fy, .ref dv, .ref sp, .ref p1, .ref p2])), (p1, .inr (2, [.long v10a, .long v10b])), (p2, .inr (2, [.long v10c, .long v10d])), (dv, .inr (0, [.ref q, .ref r, .ref d, .ref lm, .ref co])), (q, .inr (2, [.long v10e, .long v10f])), (r, .inr (2, [.long v10g, .long v10h])), (d, .inr (2, [.long v10i, .long v10j])), (lm, .inr (2, [.long v10k, .long v10l]))] H := hP
  have hD : va_D A [(ou, .inl (cJ, 1, .inr (.inl fo))), (o, .inr (3, [.ref tl, .ref sx, .ref sy, .ref wx, .ref wy, .ref kx, .ref ky, .int cn, .int ph, .ref fx, .ref fy, .ref dv, .ref sp, .ref p1, .ref p2])), (p1, .inr (2, [.long v10a, .long v10b])), (p2, .inr (2, [.long v10c, .long v10d])), (dv, .inr (0, [.ref q, .ref r, .ref d, .ref lm, .ref co])), (q, .inr (2, [.long v10e, .long v10f])), (r, .inr (2, [.long v10g, .long v10h])), (d, .inr (2, [.long v10i, .long v10j])), (lm, .inr (2, [.long v10k, .long v10l]))] := hD
  refine W.widen (k := 1) (n := 6) (by decide) (by decide) ?_
  refine va_last (f := fo) hx hb hK.1 hP hD hS 0 2 rfl rfl (vp_in_nI (n := 0) (by decide) (by decide)) dL_ratio_13 (fun H locs hP hD hS => ?_)
  rw [show (0 : Int32).toNatClampNeg = 0 from rfl] at hP hD
  have hP : va_P D vwCl [(ou, .inl (cJ, 1, .inr (.inl (vp_updL fo 0 r10)))), (o, .inr (3, [.ref tl, .ref sx, .ref sy, .ref wx, .ref wy, .ref kx, .ref ky, .int cn, .int ph, .ref fx, .ref fy, .ref dv, .ref sp, .ref p1, .ref p2])), (p1, .inr (2, [.long v10a, .long v10b])), (p2, .inr (2, [.long v10c, .long v10d])), (dv, .inr (0, [.ref q, .ref r, .ref d, .ref lm, .ref co])), (q, .inr (2, [.long v10e, .long v10f])), (r, .inr (2, [.long v10g, .long v10h])), (d, .inr (2, [.long v10i, .long v10j])), (lm, .inr (2, [.long v10k, .long v10l]))] H := hP
  have hD : va_D A [(ou, .inl (cJ, 1, .inr (.inl (vp_updL fo 0 r10)))), (o, .inr (3, [.ref tl, .ref sx, .ref sy, .ref wx, .ref wy, .ref kx, .ref ky, .int cn, .int ph, .ref fx, .ref fy, .ref dv, .ref sp, .ref p1, .ref p2])), (p1, .inr (2, [.long v10a, .long v10b])), (p2, .inr (2, [.long v10c, .long v10d])), (dv, .inr (0, [.ref q, .ref r, .ref d, .ref lm, .ref co])), (q, .inr (2, [.long v10e, .long v10f])), (r, .inr (2, [.long v10g, .long v10h])), (d, .inr (2, [.long v10i, .long v10j])), (lm, .inr (2, [.long v10k, .long v10l]))] := hD
  refine lv_goto (tgt := 21) hx hb dL_ratio_14 (by decide) ?_
  refine lv_iconst (v := 0) hx hb dL_ratio_21 (by decide) ?_
  exact hret hP hD hS rfl (vp_updL fo 0 r10, (v10a, v10b), (v10c, v10d), (v10e, v10f), (v10g, v10h), (v10i, v10j), (v10k, v10l)) (Or.inl ⟨rfl, by dsimp only; rw [pk_uLs]; exact hc10⟩) [1, 2, 3, 4, 5, 6, 7, 8, 0] rfl (by decide) dL_ratio_22 (Nat.le_of_ble_eq_true rfl) (Nat.le_of_ble_eq_true rfl)

set_option maxHeartbeats 4000000 in
set_option maxRecDepth 100000 in
theorem c_L_share (l : Launch) (D : va_G) (cZ cI cJ : ClassId) (hl9 : l.stackTraces = false) (o tl sx sy wx wy kx ky fx fy dv sp p1 p2 : Nat) (cn ph : Int32) (all : Int64) (k n : Int32) (ou : Nat) (fo : Nat → Int64) : Hi l D cZ cI cJ yL_share cL_share 7 (some .int) [(0, 12, 15, 13)] { frames := 7, cells := 1, slots := 6, locals := 110 } [.ref o, .long all, .int k, .int n, .ref ou] [(o, .inr (3, [.ref tl, .ref sx, .ref sy, .ref wx, .ref wy, .ref kx, .ref ky, .int cn, .int ph, .ref fx, .ref fy, .ref dv, .ref sp, .ref p1, .ref p2])), (ou, .inl (cJ, 1, .inr (.inl fo)))] (S := Nat → Int64) (fun z u => (z = 0 ∧ ((¬ shok n → (u 0) = -4611686018427387904) ∧ (shok n → ¬ shbad k n ∧ (u 0).toInt = shv all.toInt k.toInt n.toInt))) ∨ (z = 1 ∧ (shok n ∧ shbad k n))) (fun u => [(o, .inr (3, [.ref tl, .ref sx, .ref sy, .ref wx, .ref wy, .ref kx, .ref ky, .int cn, .int ph, .ref fx, .ref fy, .ref dv, .ref sp, .ref p1, .ref p2])), (ou, .inl (cJ, 1, .inr (.inl u)))]) := by
  refine Hi.of (by decide) ?_
  intro p e s m args below meth c A Q hB htab hret hP hD hA
  obtain ⟨⟨hx, hb, hr, hlocks, hml, hown, hnm, hTB, hK⟩, hTX, hX⟩ := hB
  have hown : s.vm.findClass RL = some m.cls := hown
  have hS : va_S A s.heap s.heap [] := va_S.rf
  have hl := lv_entry ([.ref o, .long all, .int k, .int n, .ref ou]) (n := 7) (Nat.le_of_ble_eq_true rfl)
  rw [lg_entry_eq]
  generalize (lg_sl ([.ref o, .long all, .int k, .int n, .ref ou]) ++ List.replicate (7 - (lg_sl ([.ref o, .long all, .int k, .int n, .ref ou])).length) Slot.unset).toArray = ls at hl ⊢
  have hl : lv_has ls 7 [(0, .ref o), (1, .long all), (3, .int k), (4, .int n), (5, .ref ou)] := hl
  refine lv_aload hx hb dL_share_0 (lv_at hl 4 rfl) ?_
  refine lv_iconst (v := 0) hx hb dL_share_2 (by decide) ?_
  refine lv_aload_n hx hb dL_share_3 rfl (lv_at hl 0 rfl) ?_
  refine lv_lload_n hx hb dL_share_4 rfl (lv_at hl 1 rfl) ?_
  refine lv_iload_n hx hb dL_share_5 rfl (lv_at hl 2 rfl) ?_
  refine lv_iload hx hb dL_share_6 (lv_at hl 3 rfl) ?_
  refine fin_xl (wr := [(ou, .inl (cJ, 1, .inr (.inl fo)))]) (vx_runV (As := [.long all, .int k, .int n]) (rest := [.int 0, .ref ou]) ⟨hx, hb, hml, hown, hTB⟩ (c_X3_share l D cZ cI cJ hl9 o tl sx sy wx wy kx ky fx fy dv sp p1 p2 cn ph all k n _) (cwx_V hTX tb_21_21 tb_1_2 tb_21_18 tb_21_19 tb_21_20 nd_X3_share rfl rfl ⟨Nat.le_of_ble_eq_true rfl, Nat.le_of_ble_eq_true rfl⟩) (prx_V (q0 := 0) hK hX hP hD hS hA [0] rfl rfl rfl rfl) rfl rfl hl.1 rfl (lv_room (Nat.le_of_ble_eq_true rfl)) dL_share_8 ⟨Nat.le_of_ble_eq_true rfl, Nat.le_of_ble_eq_true rfl⟩) hP hD hS hA [0] [1] rfl rfl rfl (by decide) (fun ux qx cx H locs hcx hP hD hS hqx hvx hclx => ?_) (fun r8 u8 H locs hc8 hP hD hS => ?_)
  · have hP : va_P D vwCl [(ou, .inl (cJ, 1, .inr (.inl fo))), (o, .inr (3, [.ref tl, .ref sx, .ref sy, .ref wx, .ref wy, .ref kx, .ref ky, .int cn, .int ph, .ref fx, .ref fy, .ref dv, .ref sp, .ref p1, .ref p2]))] H := hP
    have hD : va_D A [(ou, .inl (cJ, 1, .inr (.inl fo))), (o, .inr (3, [.ref tl, .ref sx, .ref sy, .ref wx, .ref wy, .ref kx, .ref ky, .int cn, .int ph, .ref fx, .ref fy, .ref dv, .ref sp, .ref p1, .ref p2]))] := hD
    refine vx_catch (own := RL) (name := IOB) hown [] ⟨0, 12, 15, 13⟩ [] htab (fun z hz => absurd hz List.not_mem_nil) rfl (by decide) (hTB _ tb_16_4) (va_Nw.use rfl (hX.2.2.1 _ xw_I)) hqx hvx hclx ?_
    refine W.widen (k := 1) (n := 6) (by decide) (by decide) ?_
    refine lv_astore (lv' := [(6, .ref qx), (0, .ref o), (1, .long all), (3, .int k), (4, .int n), (5, .ref ou)]) hx hb dL_share_15 hl (by decide) rfl (fun ls hl => ?_)
    refine lv_iconst (v := 1) hx hb dL_share_17 (by decide) ?_
    exact hret hP hD hS rfl fo (Or.inr ⟨rfl, hcx⟩) [1, 0] rfl (by decide) dL_share_18 (Nat.le_of_ble_eq_true rfl) (Nat.le_of_ble_eq_true rfl)
  have hP : va_P D vwCl [(ou, .inl (cJ, 1, .inr (.inl fo))), (o, .inr (3, [.ref tl, .ref sx, .ref sy, .ref wx, .ref wy, .ref kx, .ref ky, .int cn, .int ph, .ref fx, .ref fy, .ref dv, .ref sp, .ref p1, .ref p2]))] H := hP
  have hD : va_D A [(ou, .inl (cJ, 1, .inr (.inl fo))), (o, .inr (3, [.ref tl, .ref sx, .ref sy, .ref wx, .ref wy, .ref kx, .ref ky, .int cn, .int ph, .ref fx, .ref fy, .ref dv, .ref sp, .ref p1, .ref p2]))] := hD
  refine W.widen (k := 1) (n := 6) (by decide) (by decide) ?_
  refine va_last (f := fo) hx hb hK.1 hP hD hS 0 2 rfl rfl (vp_in_nI (n := 0) (by decide) (by decide)) dL_share_11 (fun H locs hP hD hS => ?_)
  rw [show (0 : Int32).toNatClampNeg = 0 from rfl] at hP hD
  have hP : va_P D vwCl [(ou, .inl (cJ, 1, .inr (.inl (vp_updL fo 0 r8)))), (o, .inr (3, [.ref tl, .ref sx, .ref sy, .ref wx, .ref wy, .ref kx, .ref ky, .int cn, .int ph, .ref fx, .ref fy, .ref dv, .ref sp, .ref p1, .ref p2]))] H := hP
  have hD : va_D A [(ou, .inl (cJ, 1, .inr (.inl (vp_updL fo 0 r8)))), (o, .inr (3, [.ref tl, .ref sx, .ref sy, .ref wx, .ref wy, .ref kx, .ref ky, .int cn, .int ph, .ref fx, .ref fy, .ref dv, .ref sp, .ref p1, .ref p2]))] := hD
  refine lv_goto (tgt := 19) hx hb dL_share_12 (by decide) ?_
  refine lv_iconst (v := 0) hx hb dL_share_19 (by decide) ?_
  exact hret hP hD hS rfl (vp_updL fo 0 r8) (Or.inl ⟨rfl, by rw [pk_uLs]; exact hc8⟩) [1, 0] rfl (by decide) dL_share_20 (Nat.le_of_ble_eq_true rfl) (Nat.le_of_ble_eq_true rfl)

set_option maxHeartbeats 4000000 in
set_option maxRecDepth 100000 in
theorem c_L_digit (l : Launch) (D : va_G) (cZ cI cJ : ClassId) (hl9 : l.stackTraces = false) (o tl sx sy wx wy kx ky fx fy dv sp p1 p2 : Nat) (cn ph : Int32) (a : Int64) (base k : Int32) (ou : Nat) (fo : Nat → Int64) : Hi l D cZ cI cJ yL_digit cL_digit 7 (some .int) [(0, 13, 16, 13)] { frames := 7, cells := 1, slots := 6, locals := 109 } [.ref o, .long a, .int base, .int k, .ref ou] [(o, .inr (3, [.ref tl, .ref sx, .ref sy, .ref wx, .ref wy, .ref kx, .ref ky, .int cn, .int ph, .ref fx, .ref fy, .ref dv, .ref sp, .ref p1, .ref p2])), (ou, .inl (cJ, 1, .inr (.inl fo)))] (S := Nat → Int64) (fun z u => (z = 0 ∧ ((¬ dgok base → (u 0).toInt = -1) ∧ (dgok base → ¬ dgbad a base k ∧ (u 0).toInt = ((dgN a base k.toInt.toNat % base.toInt.toNat : Nat) : Int)))) ∨ (z = 1 ∧ (dgok base ∧ dgbad a base k))) (fun u => [(o, .inr (3, [.ref tl, .ref sx, .ref sy, .ref wx, .ref wy, .ref kx, .ref ky, .int cn, .int ph, .ref fx, .ref fy, .ref dv, .ref sp, .ref p1, .ref p2])), (ou, .inl (cJ, 1, .inr (.inl u)))]) := by
  refine Hi.of (by decide) ?_
  intro p e s m args below meth c A Q hB htab hret hP hD hA
  obtain ⟨⟨hx, hb, hr, hlocks, hml, hown, hnm, hTB, hK⟩, hTX, hX⟩ := hB
  have hown : s.vm.findClass RL = some m.cls := hown
  have hS : va_S A s.heap s.heap [] := va_S.rf
  have hl := lv_entry ([.ref o, .long a, .int base, .int k, .ref ou]) (n := 7) (Nat.le_of_ble_eq_true rfl)
  rw [lg_entry_eq]
  generalize (lg_sl ([.ref o, .long a, .int base, .int k, .ref ou]) ++ List.replicate (7 - (lg_sl ([.ref o, .long a, .int base, .int k, .ref ou])).length) Slot.unset).toArray = ls at hl ⊢
  have hl : lv_has ls 7 [(0, .ref o), (1, .long a), (3, .int base), (4, .int k), (5, .ref ou)] := hl
  refine lv_aload hx hb dL_digit_0 (lv_at hl 4 rfl) ?_
  refine lv_iconst (v := 0) hx hb dL_digit_2 (by decide) ?_
  refine lv_aload_n hx hb dL_digit_3 rfl (lv_at hl 0 rfl) ?_
  refine lv_lload_n hx hb dL_digit_4 rfl (lv_at hl 1 rfl) ?_
  refine lv_iload_n hx hb dL_digit_5 rfl (lv_at hl 2 rfl) ?_
  refine lv_iload hx hb dL_digit_6 (lv_at hl 3 rfl) ?_
  refine fin_xi (wr := [(ou, .inl (cJ, 1, .inr (.inl fo)))]) (vx_runV (As := [.long a, .int base, .int k]) (rest := [.int 0, .ref ou]) ⟨hx, hb, hml, hown, hTB⟩ (c_X3_digit l D cZ cI cJ hl9 o tl sx sy wx wy kx ky fx fy dv sp p1 p2 cn ph a base k _) (cwx_V hTX tb_22_17 tb_1_2 tb_22_14 tb_22_15 tb_22_16 nd_X3_digit rfl rfl ⟨Nat.le_of_ble_eq_true rfl, Nat.le_of_ble_eq_true rfl⟩) (prx_V (q0 := 0) hK hX hP hD hS hA [0] rfl rfl rfl rfl) rfl rfl hl.1 rfl (lv_room (Nat.le_of_ble_eq_true rfl)) dL_digit_8 ⟨Nat.le_of_ble_eq_true rfl, Nat.le_of_ble_eq_true rfl⟩) hP hD hS hA [0] [1] rfl rfl rfl (by decide) (fun ux qx cx H locs hcx hP hD hS hqx hvx hclx => ?_) (fun r8 u8 H locs hc8 hP hD hS => ?_)
  · have hP : va_P D vwCl [(ou, .inl (cJ, 1, .inr (.inl fo))), (o, .inr (3, [.ref tl, .ref sx, .ref sy, .ref wx, .ref wy, .ref kx, .ref ky, .int cn, .int ph, .ref fx, .ref fy, .ref dv, .ref sp, .ref p1, .ref p2]))] H := hP
    have hD : va_D A [(ou, .inl (cJ, 1, .inr (.inl fo))), (o, .inr (3, [.ref tl, .ref sx, .ref sy, .ref wx, .ref wy, .ref kx, .ref ky, .int cn, .int ph, .ref fx, .ref fy, .ref dv, .ref sp, .ref p1, .ref p2]))] := hD
    refine vx_catch (own := RL) (name := IOB) hown [] ⟨0, 13, 16, 13⟩ [] htab (fun z hz => absurd hz List.not_mem_nil) rfl (by decide) (hTB _ tb_16_4) (va_Nw.use rfl (hX.2.2.1 _ xw_I)) hqx hvx hclx ?_
    refine W.widen (k := 1) (n := 6) (by decide) (by decide) ?_
    refine lv_astore (lv' := [(6, .ref qx), (0, .ref o), (1, .long a), (3, .int base), (4, .int k), (5, .ref ou)]) hx hb dL_digit_16 hl (by decide) rfl (fun ls hl => ?_)
    refine lv_iconst (v := 1) hx hb dL_digit_18 (by decide) ?_
    exact hret hP hD hS rfl fo (Or.inr ⟨rfl, hcx⟩) [1, 0] rfl (by decide) dL_digit_19 (Nat.le_of_ble_eq_true rfl) (Nat.le_of_ble_eq_true rfl)
  have hP : va_P D vwCl [(ou, .inl (cJ, 1, .inr (.inl fo))), (o, .inr (3, [.ref tl, .ref sx, .ref sy, .ref wx, .ref wy, .ref kx, .ref ky, .int cn, .int ph, .ref fx, .ref fy, .ref dv, .ref sp, .ref p1, .ref p2]))] H := hP
  have hD : va_D A [(ou, .inl (cJ, 1, .inr (.inl fo))), (o, .inr (3, [.ref tl, .ref sx, .ref sy, .ref wx, .ref wy, .ref kx, .ref ky, .int cn, .int ph, .ref fx, .ref fy, .ref dv, .ref sp, .ref p1, .ref p2]))] := hD
  refine W.widen (k := 1) (n := 6) (by decide) (by decide) ?_
  refine lv_i2l (v := r8.toInt64) hx hb dL_digit_11 rfl ?_
  refine va_last (f := fo) hx hb hK.1 hP hD hS 0 2 rfl rfl (vp_in_nI (n := 0) (by decide) (by decide)) dL_digit_12 (fun H locs hP hD hS => ?_)
  rw [show (0 : Int32).toNatClampNeg = 0 from rfl] at hP hD
  have hP : va_P D vwCl [(ou, .inl (cJ, 1, .inr (.inl (vp_updL fo 0 r8.toInt64)))), (o, .inr (3, [.ref tl, .ref sx, .ref sy, .ref wx, .ref wy, .ref kx, .ref ky, .int cn, .int ph, .ref fx, .ref fy, .ref dv, .ref sp, .ref p1, .ref p2]))] H := hP
  have hD : va_D A [(ou, .inl (cJ, 1, .inr (.inl (vp_updL fo 0 r8.toInt64)))), (o, .inr (3, [.ref tl, .ref sx, .ref sy, .ref wx, .ref wy, .ref kx, .ref ky, .int cn, .int ph, .ref fx, .ref fy, .ref dv, .ref sp, .ref p1, .ref p2]))] := hD
  refine lv_goto (tgt := 20) hx hb dL_digit_13 (by decide) ?_
  refine lv_iconst (v := 0) hx hb dL_digit_20 (by decide) ?_
  exact hret hP hD hS rfl (vp_updL fo 0 r8.toInt64) (Or.inl ⟨rfl, by rw [pk_uLs, i2l]; exact ⟨fun q => by rw [hc8.1 q]; rfl, hc8.2⟩⟩) [1, 0] rfl (by decide) dL_digit_21 (Nat.le_of_ble_eq_true rfl) (Nat.le_of_ble_eq_true rfl)
