theorem nd_X0_init : yX0_init.cls ≠ "java/lang/invoke/MethodHandle" ∧ yX0_init.cls ≠ "java/lang/invoke/VarHandle" ∧ (parseMethodDescriptor yX0_init.desc).map (fun d => d.parameters.length) = some 0 := by decide +kernel
theorem nd_X0_rounded : yX0_rounded.cls ≠ "java/lang/invoke/MethodHandle" ∧ yX0_rounded.cls ≠ "java/lang/invoke/VarHandle" ∧ (parseMethodDescriptor yX0_rounded.desc).map (fun d => d.parameters.length) = some 3 := by decide +kernel
theorem nd_X0_divideAmounts : yX0_divideAmounts.cls ≠ "java/lang/invoke/MethodHandle" ∧ yX0_divideAmounts.cls ≠ "java/lang/invoke/VarHandle" ∧ (parseMethodDescriptor yX0_divideAmounts.desc).map (fun d => d.parameters.length) = some 2 := by decide +kernel
theorem nd_X0_isOneMore : yX0_isOneMore.cls ≠ "java/lang/invoke/MethodHandle" ∧ yX0_isOneMore.cls ≠ "java/lang/invoke/VarHandle" ∧ (parseMethodDescriptor yX0_isOneMore.desc).map (fun d => d.parameters.length) = some 2 := by decide +kernel
theorem nd_X0_isOneMoreNearer : yX0_isOneMoreNearer.cls ≠ "java/lang/invoke/MethodHandle" ∧ yX0_isOneMoreNearer.cls ≠ "java/lang/invoke/VarHandle" ∧ (parseMethodDescriptor yX0_isOneMoreNearer.desc).map (fun d => d.parameters.length) = some 1 := by decide +kernel
theorem nd_X0_findCommon : yX0_findCommon.cls ≠ "java/lang/invoke/MethodHandle" ∧ yX0_findCommon.cls ≠ "java/lang/invoke/VarHandle" ∧ (parseMethodDescriptor yX0_findCommon.desc).map (fun d => d.parameters.length) = some 2 := by decide +kernel
theorem nd_X0_takeLessFromGreater : yX0_takeLessFromGreater.cls ≠ "java/lang/invoke/MethodHandle" ∧ yX0_takeLessFromGreater.cls ≠ "java/lang/invoke/VarHandle" ∧ (parseMethodDescriptor yX0_takeLessFromGreater.desc).map (fun d => d.parameters.length) = some 0 := by decide +kernel
theorem nd_X0_takeCommonOut : yX0_takeCommonOut.cls ≠ "java/lang/invoke/MethodHandle" ∧ yX0_takeCommonOut.cls ≠ "java/lang/invoke/VarHandle" ∧ (parseMethodDescriptor yX0_takeCommonOut.desc).map (fun d => d.parameters.length) = some 1 := by decide +kernel
theorem nd_X1_init : yX1_init.cls ≠ "java/lang/invoke/MethodHandle" ∧ yX1_init.cls ≠ "java/lang/invoke/VarHandle" ∧ (parseMethodDescriptor yX1_init.desc).map (fun d => d.parameters.length) = some 0 := by decide +kernel
theorem nd_X1_putWhole : yX1_putWhole.cls ≠ "java/lang/invoke/MethodHandle" ∧ yX1_putWhole.cls ≠ "java/lang/invoke/VarHandle" ∧ (parseMethodDescriptor yX1_putWhole.desc).map (fun d => d.parameters.length) = some 1 := by decide +kernel
theorem nd_X1_putOnWay : yX1_putOnWay.cls ≠ "java/lang/invoke/MethodHandle" ∧ yX1_putOnWay.cls ≠ "java/lang/invoke/VarHandle" ∧ (parseMethodDescriptor yX1_putOnWay.desc).map (fun d => d.parameters.length) = some 4 := by decide +kernel
theorem nd_X1_reduce : yX1_reduce.cls ≠ "java/lang/invoke/MethodHandle" ∧ yX1_reduce.cls ≠ "java/lang/invoke/VarHandle" ∧ (parseMethodDescriptor yX1_reduce.desc).map (fun d => d.parameters.length) = some 1 := by decide +kernel

set_option maxHeartbeats 4000000 in
set_option maxRecDepth 100000 in
theorem c_X0_divideAmounts (l : Launch) (D : va_G) (cZ cI cJ : ClassId) (o q r d lm co up lw : Nat) (qh ql rh rl dh dl mh ml uh ul vh vl : Int64) (N M : Nat) (hN : (wv uh ul).natAbs = N) (hM : (wv vh vl).natAbs = M) (hM0 : 0 < M) (hN1 : N < 170141183460469231731687303715884105728) (hM1 : M < 170141183460469231731687303715884105728) : Cv l D cZ cI cJ yX0_divideAmounts cX0_divideAmounts 5 { frames := 2, cells := 0, slots := 0, locals := 44 } [.ref o, .ref up, .ref lw] [(o, .inr (0, [.ref q, .ref r, .ref d, .ref lm, .ref co])), (q, .inr (2, [.long qh, .long ql])), (r, .inr (2, [.long rh, .long rl])), (d, .inr (2, [.long dh, .long dl])), (lm, .inr (2, [.long mh, .long ml])), (up, .inr (2, [.long uh, .long ul])), (lw, .inr (2, [.long vh, .long vl]))] (S := (Int64 × Int64) × (Int64 × Int64) × (Int64 × Int64) × (Int64 × Int64)) (fun u => wv u.1.1 u.1.2 = ((N / M : Nat) : Int) ∧ wv u.2.1.1 u.2.1.2 = ((N % M : Nat) : Int) ∧ wv u.2.2.1.1 u.2.2.1.2 = (M : Int)) (fun u => [(o, .inr (0, [.ref q, .ref r, .ref d, .ref lm, .ref co])), (q, .inr (2, [.long u.1.1, .long u.1.2])), (r, .inr (2, [.long u.2.1.1, .long u.2.1.2])), (d, .inr (2, [.long u.2.2.1.1, .long u.2.2.1.2])), (lm, .inr (2, [.long u.2.2.2.1, .long u.2.2.2.2])), (up, .inr (2, [.long uh, .long ul])), (lw, .inr (2, [.long vh, .long vl]))]) := by
  refine Cv.of (by decide) ?_
  intro p e s m args below meth c A Q hB hret hP hD hA
  obtain ⟨hx, hb, hr, hlocks, hml, hown, hnm, hTB, hK⟩ := hB
  have hown : s.vm.findClass RX0 = some m.cls := hown
  have hS : va_S A s.heap s.heap [] := va_S.rf
  have hl := lv_entry ([.ref o, .ref up, .ref lw]) (n := 5) (Nat.le_of_ble_eq_true rfl)
  rw [lg_entry_eq]
  generalize (lg_sl ([.ref o, .ref up, .ref lw]) ++ List.replicate (5 - (lg_sl ([.ref o, .ref up, .ref lw])).length) Slot.unset).toArray = ls at hl ⊢
  have hl : lv_has ls 5 [(0, .ref o), (1, .ref up), (2, .ref lw)] := hl
  refine lv_aload_n hx hb dX0_divideAmounts_0 rfl (lv_at hl 0 rfl) ?_
  refine va_get (D := D) (ci := 0) (v := .ref q) (C := RX0) (T := TX0) (N := 5) hx hb hTB tb_X0 hown hK.1 hP 0 rfl rfl 0 (by decide) (hTB _ tb_3_4) (fun _ h9 => h9) rfl dX0_divideAmounts_1 ?_
  refine lv_lconst (v := 0) hx hb dX0_divideAmounts_4 (by decide) ?_
  refine fin_v (wr := [(o, .inr (0, [.ref q, .ref r, .ref d, .ref lm, .ref co])), (r, .inr (2, [.long rh, .long rl])), (d, .inr (2, [.long dh, .long dl])), (lm, .inr (2, [.long mh, .long ml])), (up, .inr (2, [.long uh, .long ul])), (lw, .inr (2, [.long vh, .long vl]))]) (va_runV (As := [.long 0]) (rest := []) ⟨hx, hb, hml, hown, hTB⟩ (c_X2_put l D cZ cI cJ q qh ql 0 _) (cw_V hTB tb_4_20 tb_2_9 tb_12_12 tb_4_18 tb_4_19 nd_X2_put rfl rfl ⟨Nat.le_of_ble_eq_true rfl, Nat.le_of_ble_eq_true rfl⟩) (pre_V (q0 := 1) hK hP hD [1] rfl rfl rfl rfl) rfl rfl hl.1 rfl (lv_room (Nat.le_of_ble_eq_true rfl)) dX0_divideAmounts_5 ⟨Nat.le_of_ble_eq_true rfl, Nat.le_of_ble_eq_true rfl⟩) hP hD hS hA [1] [0, 2, 3, 4, 5, 6] rfl rfl rfl (by decide) (fun u5 H locs hc5 hP hD hS => ?_)
  obtain ⟨w5h, w5l⟩ := u5
  try dsimp only at hc5
  have hP : va_P D vwCl [(o, .inr (0, [.ref q, .ref r, .ref d, .ref lm, .ref co])), (r, .inr (2, [.long rh, .long rl])), (d, .inr (2, [.long dh, .long dl])), (lm, .inr (2, [.long mh, .long ml])), (up, .inr (2, [.long uh, .long ul])), (lw, .inr (2, [.long vh, .long vl])), (q, .inr (2, [.long w5h, .long w5l]))] H := hP
  have hD : va_D A [(o, .inr (0, [.ref q, .ref r, .ref d, .ref lm, .ref co])), (r, .inr (2, [.long rh, .long rl])), (d, .inr (2, [.long dh, .long dl])), (lm, .inr (2, [.long mh, .long ml])), (up, .inr (2, [.long uh, .long ul])), (lw, .inr (2, [.long vh, .long vl])), (q, .inr (2, [.long w5h, .long w5l]))] := hD
  refine lv_aload_n hx hb dX0_divideAmounts_8 rfl (lv_at hl 0 rfl) ?_
  refine va_get (D := D) (ci := 0) (v := .ref r) (C := RX0) (T := TX0) (N := 5) hx hb hTB tb_X0 hown hK.1 hP 0 rfl rfl 1 (by decide) (hTB _ tb_3_5) (fun _ h9 => h9) rfl dX0_divideAmounts_9 ?_
  refine lv_aload_n hx hb dX0_divideAmounts_12 rfl (lv_at hl 1 rfl) ?_
  refine fin_v (wr := [(o, .inr (0, [.ref q, .ref r, .ref d, .ref lm, .ref co])), (d, .inr (2, [.long dh, .long dl])), (lm, .inr (2, [.long mh, .long ml])), (lw, .inr (2, [.long vh, .long vl])), (q, .inr (2, [.long w5h, .long w5l]))]) (va_runV (As := [.ref up]) (rest := []) ⟨hx, hb, hml, hown, hTB⟩ (c_X2_copyAmount l D cZ cI cJ r up rh rl uh ul _) (cw_V hTB tb_10_22 tb_2_9 tb_10_19 tb_10_20 tb_10_21 nd_X2_copyAmount rfl rfl ⟨Nat.le_of_ble_eq_true rfl, Nat.le_of_ble_eq_true rfl⟩) (pre_V (q0 := 1) hK hP hD [1, 4] rfl rfl rfl rfl) rfl rfl hl.1 rfl (lv_room (Nat.le_of_ble_eq_true rfl)) dX0_divideAmounts_13 ⟨Nat.le_of_ble_eq_true rfl, Nat.le_of_ble_eq_true rfl⟩) hP hD hS hA [1, 4] [0, 2, 3, 5, 6] rfl rfl rfl (by decide) (fun u13 H locs hc13 hP hD hS => ?_)
  obtain ⟨w13h, w13l⟩ := u13
  try dsimp only at hc13
  have hP : va_P D vwCl [(o, .inr (0, [.ref q, .ref r, .ref d, .ref lm, .ref co])), (d, .inr (2, [.long dh, .long dl])), (lm, .inr (2, [.long mh, .long ml])), (lw, .inr (2, [.long vh, .long vl])), (q, .inr (2, [.long w5h, .long w5l])), (r, .inr (2, [.long w13h, .long w13l])), (up, .inr (2, [.long uh, .long ul]))] H := hP
  have hD : va_D A [(o, .inr (0, [.ref q, .ref r, .ref d, .ref lm, .ref co])), (d, .inr (2, [.long dh, .long dl])), (lm, .inr (2, [.long mh, .long ml])), (lw, .inr (2, [.long vh, .long vl])), (q, .inr (2, [.long w5h, .long w5l])), (r, .inr (2, [.long w13h, .long w13l])), (up, .inr (2, [.long uh, .long ul]))] := hD
  have er : wv w13h w13l = (N : Int) := by rw [hc13 (by unfold In; omega), hN]
  refine lv_aload_n hx hb dX0_divideAmounts_16 rfl (lv_at hl 0 rfl) ?_
  refine va_get (D := D) (ci := 0) (v := .ref d) (C := RX0) (T := TX0) (N := 5) hx hb hTB tb_X0 hown hK.1 hP 0 rfl rfl 2 (by decide) (hTB _ tb_3_6) (fun _ h9 => h9) rfl dX0_divideAmounts_17 ?_
  refine lv_aload_n hx hb dX0_divideAmounts_20 rfl (lv_at hl 2 rfl) ?_
  refine fin_v (wr := [(o, .inr (0, [.ref q, .ref r, .ref d, .ref lm, .ref co])), (lm, .inr (2, [.long mh, .long ml])), (q, .inr (2, [.long w5h, .long w5l])), (r, .inr (2, [.long w13h, .long w13l])), (up, .inr (2, [.long uh, .long ul]))]) (va_runV (As := [.ref lw]) (rest := []) ⟨hx, hb, hml, hown, hTB⟩ (c_X2_copyAmount l D cZ cI cJ d lw dh dl vh vl _) (cw_V hTB tb_10_22 tb_2_9 tb_10_19 tb_10_20 tb_10_21 nd_X2_copyAmount rfl rfl ⟨Nat.le_of_ble_eq_true rfl, Nat.le_of_ble_eq_true rfl⟩) (pre_V (q0 := 1) hK hP hD [1, 3] rfl rfl rfl rfl) rfl rfl hl.1 rfl (lv_room (Nat.le_of_ble_eq_true rfl)) dX0_divideAmounts_21 ⟨Nat.le_of_ble_eq_true rfl, Nat.le_of_ble_eq_true rfl⟩) hP hD hS hA [1, 3] [0, 2, 4, 5, 6] rfl rfl rfl (by decide) (fun u21 H locs hc21 hP hD hS => ?_)
  obtain ⟨w21h, w21l⟩ := u21
  try dsimp only at hc21
  have hP : va_P D vwCl [(o, .inr (0, [.ref q, .ref r, .ref d, .ref lm, .ref co])), (lm, .inr (2, [.long mh, .long ml])), (q, .inr (2, [.long w5h, .long w5l])), (r, .inr (2, [.long w13h, .long w13l])), (up, .inr (2, [.long uh, .long ul])), (d, .inr (2, [.long w21h, .long w21l])), (lw, .inr (2, [.long vh, .long vl]))] H := hP
  have hD : va_D A [(o, .inr (0, [.ref q, .ref r, .ref d, .ref lm, .ref co])), (lm, .inr (2, [.long mh, .long ml])), (q, .inr (2, [.long w5h, .long w5l])), (r, .inr (2, [.long w13h, .long w13l])), (up, .inr (2, [.long uh, .long ul])), (d, .inr (2, [.long w21h, .long w21l])), (lw, .inr (2, [.long vh, .long vl]))] := hD
  have ed : wv w21h w21l = (M : Int) := by rw [hc21 (by unfold In; omega), hM]
  refine lv_aload_n hx hb dX0_divideAmounts_24 rfl (lv_at hl 0 rfl) ?_
  refine va_get (D := D) (ci := 0) (v := .ref lm) (C := RX0) (T := TX0) (N := 5) hx hb hTB tb_X0 hown hK.1 hP 0 rfl rfl 3 (by decide) (hTB _ tb_3_7) (fun _ h9 => h9) rfl dX0_divideAmounts_25 ?_
  refine lv_aload_n hx hb dX0_divideAmounts_28 rfl (lv_at hl 0 rfl) ?_
  refine va_get (D := D) (ci := 0) (v := .ref r) (C := RX0) (T := TX0) (N := 5) hx hb hTB tb_X0 hown hK.1 hP 0 rfl rfl 1 (by decide) (hTB _ tb_3_5) (fun _ h9 => h9) rfl dX0_divideAmounts_29 ?_
  refine fin_v (wr := [(o, .inr (0, [.ref q, .ref r, .ref d, .ref lm, .ref co])), (q, .inr (2, [.long w5h, .long w5l])), (up, .inr (2, [.long uh, .long ul])), (d, .inr (2, [.long w21h, .long w21l])), (lw, .inr (2, [.long vh, .long vl]))]) (va_runV (As := [.ref r]) (rest := []) ⟨hx, hb, hml, hown, hTB⟩ (c_X2_copy l D cZ cI cJ lm r mh ml w13h w13l _) (cw_V hTB tb_10_10 tb_2_9 tb_11_1 tb_10_8 tb_10_9 nd_X2_copy rfl rfl ⟨Nat.le_of_ble_eq_true rfl, Nat.le_of_ble_eq_true rfl⟩) (pre_V (q0 := 1) hK hP hD [1, 3] rfl rfl rfl rfl) rfl rfl hl.1 rfl (lv_room (Nat.le_of_ble_eq_true rfl)) dX0_divideAmounts_32 ⟨Nat.le_of_ble_eq_true rfl, Nat.le_of_ble_eq_true rfl⟩) hP hD hS hA [1, 3] [0, 2, 4, 5, 6] rfl rfl rfl (by decide) (fun u32 H locs hc32 hP hD hS => ?_)
  obtain ⟨w32h, w32l⟩ := u32
  try dsimp only at hc32
  have hP : va_P D vwCl [(o, .inr (0, [.ref q, .ref r, .ref d, .ref lm, .ref co])), (q, .inr (2, [.long w5h, .long w5l])), (up, .inr (2, [.long uh, .long ul])), (d, .inr (2, [.long w21h, .long w21l])), (lw, .inr (2, [.long vh, .long vl])), (lm, .inr (2, [.long w32h, .long w32l])), (r, .inr (2, [.long w13h, .long w13l]))] H := hP
  have hD : va_D A [(o, .inr (0, [.ref q, .ref r, .ref d, .ref lm, .ref co])), (q, .inr (2, [.long w5h, .long w5l])), (up, .inr (2, [.long uh, .long ul])), (d, .inr (2, [.long w21h, .long w21l])), (lw, .inr (2, [.long vh, .long vl])), (lm, .inr (2, [.long w32h, .long w32l])), (r, .inr (2, [.long w13h, .long w13l]))] := hD
  refine lv_aload_n hx hb dX0_divideAmounts_35 rfl (lv_at hl 0 rfl) ?_
  refine va_get (D := D) (ci := 0) (v := .ref lm) (C := RX0) (T := TX0) (N := 5) hx hb hTB tb_X0 hown hK.1 hP 0 rfl rfl 3 (by decide) (hTB _ tb_3_7) (fun _ h9 => h9) rfl dX0_divideAmounts_36 ?_
  refine fin_v (wr := [(o, .inr (0, [.ref q, .ref r, .ref d, .ref lm, .ref co])), (q, .inr (2, [.long w5h, .long w5l])), (up, .inr (2, [.long uh, .long ul])), (d, .inr (2, [.long w21h, .long w21l])), (lw, .inr (2, [.long vh, .long vl])), (r, .inr (2, [.long w13h, .long w13l]))]) (va_runV (As := []) (rest := []) ⟨hx, hb, hml, hown, hTB⟩ (c_X2_half l D cZ cI cJ lm w32h w32l _) (cw_V hTB tb_11_10 tb_2_9 tb_11_7 tb_11_8 tb_11_9 nd_X2_half rfl rfl ⟨Nat.le_of_ble_eq_true rfl, Nat.le_of_ble_eq_true rfl⟩) (pre_V (q0 := 5) hK hP hD [5] rfl rfl rfl rfl) rfl rfl hl.1 rfl (lv_room (Nat.le_of_ble_eq_true rfl)) dX0_divideAmounts_39 ⟨Nat.le_of_ble_eq_true rfl, Nat.le_of_ble_eq_true rfl⟩) hP hD hS hA [5] [0, 1, 2, 3, 4, 6] rfl rfl rfl (by decide) (fun u39 H locs hc39 hP hD hS => ?_)
  obtain ⟨w39h, w39l⟩ := u39
  try dsimp only at hc39
  have hP : va_P D vwCl [(o, .inr (0, [.ref q, .ref r, .ref d, .ref lm, .ref co])), (q, .inr (2, [.long w5h, .long w5l])), (up, .inr (2, [.long uh, .long ul])), (d, .inr (2, [.long w21h, .long w21l])), (lw, .inr (2, [.long vh, .long vl])), (r, .inr (2, [.long w13h, .long w13l])), (lm, .inr (2, [.long w39h, .long w39l]))] H := hP
  have hD : va_D A [(o, .inr (0, [.ref q, .ref r, .ref d, .ref lm, .ref co])), (q, .inr (2, [.long w5h, .long w5l])), (up, .inr (2, [.long uh, .long ul])), (d, .inr (2, [.long w21h, .long w21l])), (lw, .inr (2, [.long vh, .long vl])), (r, .inr (2, [.long w13h, .long w13l])), (lm, .inr (2, [.long w39h, .long w39l]))] := hD
  have em : wv w39h w39l = ((N / 2 : Nat) : Int) := by
    have e := congrArg (fun z : Int64 × Int64 => wv z.1 z.2) hc32
    dsimp only at e
    rw [hc39, e, er]; omega
  refine lv_iconst (v := 0) hx hb dX0_divideAmounts_42 (by decide) ?_
  refine lv_istore_n (lv' := [(3, .int 0), (0, .ref o), (1, .ref up), (2, .ref lw)]) hx hb dX0_divideAmounts_43 rfl hl (by decide) rfl (fun ls hl => ?_)
  have J77 : ∀ (k : Nat) (dh2 dl2 : Int64), (k ≤ 127) → (wv dh2 dl2 = ((M * 2 ^ k : Nat) : Int)) → (N < 2 * (M * 2 ^ k)) → ∀ (H : Heap) (locs : List Loc), va_P D vwCl [(o, .inr (0, [.ref q, .ref r, .ref d, .ref lm, .ref co])), (q, .inr (2, [.long w5h, .long w5l])), (r, .inr (2, [.long w13h, .long w13l])), (d, .inr (2, [.long dh2, .long dl2])), (lm, .inr (2, [.long w39h, .long w39l])), (up, .inr (2, [.long uh, .long ul])), (lw, .inr (2, [.long vh, .long vl]))] H → va_D A [(o, .inr (0, [.ref q, .ref r, .ref d, .ref lm, .ref co])), (q, .inr (2, [.long w5h, .long w5l])), (r, .inr (2, [.long w13h, .long w13l])), (d, .inr (2, [.long dh2, .long dl2])), (lm, .inr (2, [.long w39h, .long w39l])), (up, .inr (2, [.long uh, .long ul])), (lw, .inr (2, [.long vh, .long vl]))] → va_S A s.heap H locs → ∀ (ls : Array Slot), lv_has ls 5 [(0, .ref o), (1, .ref up), (2, .ref lw), (3, .int (nI k))] → W p l e { frames := 2, cells := 0, slots := 0, locals := 44 } s m args below meth c H locs 0 0 Q (F0 m 77 ls []) := by
    intro k dh2 dl2 g2 g3 g4 H locs hP hD hS ls hl
    refine lv_iload_n hx hb dX0_divideAmounts_77 rfl (lv_at hl 3 rfl) ?_
    refine lv_istore (lv' := [(4, .int (nI k)), (0, .ref o), (1, .ref up), (2, .ref lw), (3, .int (nI k))]) hx hb dX0_divideAmounts_78 hl (by decide) rfl (fun ls hl => ?_)
    have L80 : ∀ (n80 : Nat) (j : Nat) (x4 : Int32) (qh2 ql2 rh2 rl2 dh3 dl3 : Int64) (Qn Rn : Nat), (j ≤ 128 ∧ j < n80) → (x4 = nI j - 1) → (N = Qn * (M * 2 ^ j) + Rn) → (Rn < M * 2 ^ j) → (wv qh2 ql2 = (Qn : Int)) → (wv rh2 rl2 = (Rn : Int)) → (wv dh3 dl3 = ((M * 2 ^ (j - 1) : Nat) : Int)) → ∀ (H : Heap) (locs : List Loc), va_P D vwCl [(o, .inr (0, [.ref q, .ref r, .ref d, .ref lm, .ref co])), (q, .inr (2, [.long qh2, .long ql2])), (r, .inr (2, [.long rh2, .long rl2])), (d, .inr (2, [.long dh3, .long dl3])), (lm, .inr (2, [.long w39h, .long w39l])), (up, .inr (2, [.long uh, .long ul])), (lw, .inr (2, [.long vh, .long vl]))] H → va_D A [(o, .inr (0, [.ref q, .ref r, .ref d, .ref lm, .ref co])), (q, .inr (2, [.long qh2, .long ql2])), (r, .inr (2, [.long rh2, .long rl2])), (d, .inr (2, [.long dh3, .long dl3])), (lm, .inr (2, [.long w39h, .long w39l])), (up, .inr (2, [.long uh, .long ul])), (lw, .inr (2, [.long vh, .long vl]))] → va_S A s.heap H locs → ∀ (ls : Array Slot), lv_has ls 5 [(0, .ref o), (1, .ref up), (2, .ref lw), (4, .int x4)] → W p l e { frames := 2, cells := 0, slots := 0, locals := 44 } s m args below meth c H locs 0 0 Q (F0 m 80 ls []) := by
      intro n80
      induction n80 with
      | zero =>
        intro j x4 qh2 ql2 rh2 rl2 dh3 dl3 Qn Rn b0 b1 b2 b3 b4 b5 b6
        exfalso; omega
      | succ n80 ih80 =>
        intro j x4 qh2 ql2 rh2 rl2 dh3 dl3 Qn Rn b0 b1 b2 b3 b4 b5 b6 H locs hP hD hS ls hl
        refine lv_iload hx hb dX0_divideAmounts_80 (lv_at hl 3 rfl) ?_
        refine lv_if_lt (tgt := 142) hx hb dX0_divideAmounts_82 (by decide) (fun c_82 => ?_) (fun c_82 => ?_)
        · exact hret hP hD hS ((qh2, ql2), (rh2, rl2), (dh3, dl3), (w39h, w39l)) (by have hj := ni_pt (by omega) b1 c_82; subst hj; obtain ⟨e1, e2⟩ := dv_end hM0 b2 b3; refine ⟨by rw [b4, e1], by rw [b5, e2], ?_⟩; rw [b6]; omega) [0, 1, 2, 3, 4, 5, 6] rfl (by decide) dX0_divideAmounts_142 (Nat.le_of_ble_eq_true rfl) (Nat.le_of_ble_eq_true rfl)
        · obtain ⟨i, rfl, ei⟩ := ni_pf (by omega) b1 c_82
          rw [Nat.add_sub_cancel] at b6
          refine lv_aload_n hx hb dX0_divideAmounts_85 rfl (lv_at hl 0 rfl) ?_
          refine va_get (D := D) (ci := 0) (v := .ref q) (C := RX0) (T := TX0) (N := 5) hx hb hTB tb_X0 hown hK.1 hP 0 rfl rfl 0 (by decide) (hTB _ tb_3_4) (fun _ h9 => h9) rfl dX0_divideAmounts_86 ?_
          refine fin_v (wr := [(o, .inr (0, [.ref q, .ref r, .ref d, .ref lm, .ref co])), (r, .inr (2, [.long rh2, .long rl2])), (d, .inr (2, [.long dh3, .long dl3])), (lm, .inr (2, [.long w39h, .long w39l])), (up, .inr (2, [.long uh, .long ul])), (lw, .inr (2, [.long vh, .long vl]))]) (va_runV (As := []) (rest := []) ⟨hx, hb, hml, hown, hTB⟩ (c_X2_twice l D cZ cI cJ q qh2 ql2 _) (cw_V hTB tb_11_23 tb_2_9 tb_11_20 tb_11_21 tb_11_22 nd_X2_twice rfl rfl ⟨Nat.le_of_ble_eq_true rfl, Nat.le_of_ble_eq_true rfl⟩) (pre_V (q0 := 1) hK hP hD [1] rfl rfl rfl rfl) rfl rfl hl.1 rfl (lv_room (Nat.le_of_ble_eq_true rfl)) dX0_divideAmounts_89 ⟨Nat.le_of_ble_eq_true rfl, Nat.le_of_ble_eq_true rfl⟩) hP hD hS hA [1] [0, 2, 3, 4, 5, 6] rfl rfl rfl (by decide) (fun u89 H locs hc89 hP hD hS => ?_)
          obtain ⟨w89h, w89l⟩ := u89
          try dsimp only at hc89
          have hP : va_P D vwCl [(o, .inr (0, [.ref q, .ref r, .ref d, .ref lm, .ref co])), (r, .inr (2, [.long rh2, .long rl2])), (d, .inr (2, [.long dh3, .long dl3])), (lm, .inr (2, [.long w39h, .long w39l])), (up, .inr (2, [.long uh, .long ul])), (lw, .inr (2, [.long vh, .long vl])), (q, .inr (2, [.long w89h, .long w89l]))] H := hP
          have hD : va_D A [(o, .inr (0, [.ref q, .ref r, .ref d, .ref lm, .ref co])), (r, .inr (2, [.long rh2, .long rl2])), (d, .inr (2, [.long dh3, .long dl3])), (lm, .inr (2, [.long w39h, .long w39l])), (up, .inr (2, [.long uh, .long ul])), (lw, .inr (2, [.long vh, .long vl])), (q, .inr (2, [.long w89h, .long w89l]))] := hD
          refine lv_aload_n hx hb dX0_divideAmounts_92 rfl (lv_at hl 0 rfl) ?_
          refine va_get (D := D) (ci := 0) (v := .ref d) (C := RX0) (T := TX0) (N := 5) hx hb hTB tb_X0 hown hK.1 hP 0 rfl rfl 2 (by decide) (hTB _ tb_3_6) (fun _ h9 => h9) rfl dX0_divideAmounts_93 ?_
          refine lv_aload_n hx hb dX0_divideAmounts_96 rfl (lv_at hl 0 rfl) ?_
          refine va_get (D := D) (ci := 0) (v := .ref r) (C := RX0) (T := TX0) (N := 5) hx hb hTB tb_X0 hown hK.1 hP 0 rfl rfl 1 (by decide) (hTB _ tb_3_5) (fun _ h9 => h9) rfl dX0_divideAmounts_97 ?_
          refine vp_callSi (va_runV (As := [.ref r]) (rest := []) ⟨hx, hb, hml, hown, hTB⟩ (c_X2_compare l D cZ cI cJ d r dh3 dl3 rh2 rl2) (cw_V hTB tb_9_22 tb_2_9 tb_11_15 tb_9_20 tb_9_21 nd_X2_compare rfl rfl ⟨Nat.le_of_ble_eq_true rfl, Nat.le_of_ble_eq_true rfl⟩) (prr_V (q0 := 2) hK hP [2, 1] rfl rfl rfl) rfl rfl hl.1 rfl (lv_room (Nat.le_of_ble_eq_true rfl)) dX0_divideAmounts_100 ⟨Nat.le_of_ble_eq_true rfl, Nat.le_of_ble_eq_true rfl⟩).run (fun r100 hc100 => ?_)
          subst hc100
          refine lv_if_gt (tgt := 124) hx hb dX0_divideAmounts_103 (by decide) (fun c_103 => ?_) (fun c_103 => ?_)
          · have c_103 := cm_gtt c_103
            refine lv_iload hx hb dX0_divideAmounts_124 (lv_at hl 3 rfl) ?_
            refine lv_if_le (tgt := 136) hx hb dX0_divideAmounts_126 (by decide) (fun c_126 => ?_) (fun c_126 => ?_)
            · obtain ⟨i4_1, ei4_1⟩ : ∃ y : Int32, y = x4 + (-1) := ⟨_, rfl⟩
              refine lv_iinc (v := i4_1) (lv' := [(4, .int i4_1), (0, .ref o), (1, .ref up), (2, .ref lw)]) hx hb dX0_divideAmounts_136 hl (k := 3) rfl (by rw [ei4_1]; rfl) (by decide) rfl (fun ls hl => ?_)
              refine lv_goto (tgt := 80) hx hb dX0_divideAmounts_139 (by decide) ?_
              refine ih80 i i4_1 w89h w89l rh2 rl2 dh3 dl3 (2 * Qn) Rn ?_ ?_ ?_ ?_ ?_ ?_ ?_ _ _ (hP.sub [0, 6, 1, 2, 3, 4, 5] rfl) (hD.sub [0, 6, 1, 2, 3, 4, 5] (by decide) rfl) hS _ (lv_sub hl [1, 2, 3, 0] rfl)
              · omega
              · rw [ei4_1, ei, ni_m]
              · exact dv_s0 b2
              · rw [b5, b6] at c_103; omega
              · have e2 : wv w89h w89l = 2 * (Qn : Int) := by rw [hc89 (by rw [b4]; have := dv_q hM0 b2; unfold In; omega), b4]
                rw [e2]; omega
              · exact b5
              · have hi : i = 0 := by
                  cases i with
                  | zero => rfl
                  | succ z => rw [ei] at c_126; exact absurd c_126 (nI_nle (by omega) (by omega))
                subst hi; exact b6
            · refine lv_aload_n hx hb dX0_divideAmounts_129 rfl (lv_at hl 0 rfl) ?_
              refine va_get (D := D) (ci := 0) (v := .ref d) (C := RX0) (T := TX0) (N := 5) hx hb hTB tb_X0 hown hK.1 hP 0 rfl rfl 2 (by decide) (hTB _ tb_3_6) (fun _ h9 => h9) rfl dX0_divideAmounts_130 ?_
              refine fin_v (wr := [(o, .inr (0, [.ref q, .ref r, .ref d, .ref lm, .ref co])), (r, .inr (2, [.long rh2, .long rl2])), (lm, .inr (2, [.long w39h, .long w39l])), (up, .inr (2, [.long uh, .long ul])), (lw, .inr (2, [.long vh, .long vl])), (q, .inr (2, [.long w89h, .long w89l]))]) (va_runV (As := []) (rest := []) ⟨hx, hb, hml, hown, hTB⟩ (c_X2_half l D cZ cI cJ d dh3 dl3 _) (cw_V hTB tb_11_10 tb_2_9 tb_11_7 tb_11_8 tb_11_9 nd_X2_half rfl rfl ⟨Nat.le_of_ble_eq_true rfl, Nat.le_of_ble_eq_true rfl⟩) (pre_V (q0 := 2) hK hP hD [2] rfl rfl rfl rfl) rfl rfl hl.1 rfl (lv_room (Nat.le_of_ble_eq_true rfl)) dX0_divideAmounts_133 ⟨Nat.le_of_ble_eq_true rfl, Nat.le_of_ble_eq_true rfl⟩) hP hD hS hA [2] [0, 1, 3, 4, 5, 6] rfl rfl rfl (by decide) (fun u133 H locs hc133 hP hD hS => ?_)
              obtain ⟨w133h, w133l⟩ := u133
              try dsimp only at hc133
              have hP : va_P D vwCl [(o, .inr (0, [.ref q, .ref r, .ref d, .ref lm, .ref co])), (r, .inr (2, [.long rh2, .long rl2])), (lm, .inr (2, [.long w39h, .long w39l])), (up, .inr (2, [.long uh, .long ul])), (lw, .inr (2, [.long vh, .long vl])), (q, .inr (2, [.long w89h, .long w89l])), (d, .inr (2, [.long w133h, .long w133l]))] H := hP
              have hD : va_D A [(o, .inr (0, [.ref q, .ref r, .ref d, .ref lm, .ref co])), (r, .inr (2, [.long rh2, .long rl2])), (lm, .inr (2, [.long w39h, .long w39l])), (up, .inr (2, [.long uh, .long ul])), (lw, .inr (2, [.long vh, .long vl])), (q, .inr (2, [.long w89h, .long w89l])), (d, .inr (2, [.long w133h, .long w133l]))] := hD
              obtain ⟨i4_2, ei4_2⟩ : ∃ y : Int32, y = x4 + (-1) := ⟨_, rfl⟩
              refine lv_iinc (v := i4_2) (lv' := [(4, .int i4_2), (0, .ref o), (1, .ref up), (2, .ref lw)]) hx hb dX0_divideAmounts_136 hl (k := 3) rfl (by rw [ei4_2]; rfl) (by decide) rfl (fun ls hl => ?_)
              refine lv_goto (tgt := 80) hx hb dX0_divideAmounts_139 (by decide) ?_
              refine ih80 i i4_2 w89h w89l rh2 rl2 w133h w133l (2 * Qn) Rn ?_ ?_ ?_ ?_ ?_ ?_ ?_ _ _ (hP.sub [0, 5, 1, 6, 2, 3, 4] rfl) (hD.sub [0, 5, 1, 6, 2, 3, 4] (by decide) rfl) hS _ (lv_sub hl [1, 2, 3, 0] rfl)
              · omega
              · rw [ei4_2, ei, ni_m]
              · exact dv_s0 b2
              · rw [b5, b6] at c_103; omega
              · have e2 : wv w89h w89l = 2 * (Qn : Int) := by rw [hc89 (by rw [b4]; have := dv_q hM0 b2; unfold In; omega), b4]
                rw [e2]; omega
              · exact b5
              · rw [hc133, b6]
                have hi : ¬ i = 0 := fun q => c_126 (by rw [ei, q]; decide)
                obtain ⟨z, rfl⟩ : ∃ z, i = z + 1 := ⟨i - 1, by omega⟩
                rw [pw_s, Nat.add_sub_cancel]
                omega
          · have c_103 := cm_gtf c_103
            refine lv_aload_n hx hb dX0_divideAmounts_106 rfl (lv_at hl 0 rfl) ?_
            refine va_get (D := D) (ci := 0) (v := .ref r) (C := RX0) (T := TX0) (N := 5) hx hb hTB tb_X0 hown hK.1 hP 0 rfl rfl 1 (by decide) (hTB _ tb_3_5) (fun _ h9 => h9) rfl dX0_divideAmounts_107 ?_
            refine lv_aload_n hx hb dX0_divideAmounts_110 rfl (lv_at hl 0 rfl) ?_
            refine va_get (D := D) (ci := 0) (v := .ref d) (C := RX0) (T := TX0) (N := 5) hx hb hTB tb_X0 hown hK.1 hP 0 rfl rfl 2 (by decide) (hTB _ tb_3_6) (fun _ h9 => h9) rfl dX0_divideAmounts_111 ?_
            refine fin_v (wr := [(o, .inr (0, [.ref q, .ref r, .ref d, .ref lm, .ref co])), (lm, .inr (2, [.long w39h, .long w39l])), (up, .inr (2, [.long uh, .long ul])), (lw, .inr (2, [.long vh, .long vl])), (q, .inr (2, [.long w89h, .long w89l]))]) (va_runV (As := [.ref d]) (rest := []) ⟨hx, hb, hml, hown, hTB⟩ (c_X2_subtract l D cZ cI cJ r d rh2 rl2 dh3 dl3 _) (cw_V hTB tb_11_19 tb_2_9 tb_11_16 tb_11_17 tb_11_18 nd_X2_subtract rfl rfl ⟨Nat.le_of_ble_eq_true rfl, Nat.le_of_ble_eq_true rfl⟩) (pre_V (q0 := 1) hK hP hD [1, 2] rfl rfl rfl rfl) rfl rfl hl.1 rfl (lv_room (Nat.le_of_ble_eq_true rfl)) dX0_divideAmounts_114 ⟨Nat.le_of_ble_eq_true rfl, Nat.le_of_ble_eq_true rfl⟩) hP hD hS hA [1, 2] [0, 3, 4, 5, 6] rfl rfl rfl (by decide) (fun u114 H locs hc114 hP hD hS => ?_)
            obtain ⟨w114h, w114l⟩ := u114
            try dsimp only at hc114
            have hP : va_P D vwCl [(o, .inr (0, [.ref q, .ref r, .ref d, .ref lm, .ref co])), (lm, .inr (2, [.long w39h, .long w39l])), (up, .inr (2, [.long uh, .long ul])), (lw, .inr (2, [.long vh, .long vl])), (q, .inr (2, [.long w89h, .long w89l])), (r, .inr (2, [.long w114h, .long w114l])), (d, .inr (2, [.long dh3, .long dl3]))] H := hP
            have hD : va_D A [(o, .inr (0, [.ref q, .ref r, .ref d, .ref lm, .ref co])), (lm, .inr (2, [.long w39h, .long w39l])), (up, .inr (2, [.long uh, .long ul])), (lw, .inr (2, [.long vh, .long vl])), (q, .inr (2, [.long w89h, .long w89l])), (r, .inr (2, [.long w114h, .long w114l])), (d, .inr (2, [.long dh3, .long dl3]))] := hD
            refine lv_aload_n hx hb dX0_divideAmounts_117 rfl (lv_at hl 0 rfl) ?_
            refine va_get (D := D) (ci := 0) (v := .ref q) (C := RX0) (T := TX0) (N := 5) hx hb hTB tb_X0 hown hK.1 hP 0 rfl rfl 0 (by decide) (hTB _ tb_3_4) (fun _ h9 => h9) rfl dX0_divideAmounts_118 ?_
            refine fin_v (wr := [(o, .inr (0, [.ref q, .ref r, .ref d, .ref lm, .ref co])), (lm, .inr (2, [.long w39h, .long w39l])), (up, .inr (2, [.long uh, .long ul])), (lw, .inr (2, [.long vh, .long vl])), (r, .inr (2, [.long w114h, .long w114l])), (d, .inr (2, [.long dh3, .long dl3]))]) (va_runV (As := []) (rest := []) ⟨hx, hb, hml, hown, hTB⟩ (c_X2_setLowestBit l D cZ cI cJ q w89h w89l _) (cw_V hTB tb_12_16 tb_2_9 tb_12_13 tb_12_14 tb_12_15 nd_X2_setLowestBit rfl rfl ⟨Nat.le_of_ble_eq_true rfl, Nat.le_of_ble_eq_true rfl⟩) (pre_V (q0 := 4) hK hP hD [4] rfl rfl rfl rfl) rfl rfl hl.1 rfl (lv_room (Nat.le_of_ble_eq_true rfl)) dX0_divideAmounts_121 ⟨Nat.le_of_ble_eq_true rfl, Nat.le_of_ble_eq_true rfl⟩) hP hD hS hA [4] [0, 1, 2, 3, 5, 6] rfl rfl rfl (by decide) (fun u121 H locs hc121 hP hD hS => ?_)
            obtain ⟨w121h, w121l⟩ := u121
            try dsimp only at hc121
            have hP : va_P D vwCl [(o, .inr (0, [.ref q, .ref r, .ref d, .ref lm, .ref co])), (lm, .inr (2, [.long w39h, .long w39l])), (up, .inr (2, [.long uh, .long ul])), (lw, .inr (2, [.long vh, .long vl])), (r, .inr (2, [.long w114h, .long w114l])), (d, .inr (2, [.long dh3, .long dl3])), (q, .inr (2, [.long w121h, .long w121l]))] H := hP
            have hD : va_D A [(o, .inr (0, [.ref q, .ref r, .ref d, .ref lm, .ref co])), (lm, .inr (2, [.long w39h, .long w39l])), (up, .inr (2, [.long uh, .long ul])), (lw, .inr (2, [.long vh, .long vl])), (r, .inr (2, [.long w114h, .long w114l])), (d, .inr (2, [.long dh3, .long dl3])), (q, .inr (2, [.long w121h, .long w121l]))] := hD
            refine lv_iload hx hb dX0_divideAmounts_124 (lv_at hl 3 rfl) ?_
            refine lv_if_le (tgt := 136) hx hb dX0_divideAmounts_126 (by decide) (fun c_126 => ?_) (fun c_126 => ?_)
            · obtain ⟨i4_3, ei4_3⟩ : ∃ y : Int32, y = x4 + (-1) := ⟨_, rfl⟩
              refine lv_iinc (v := i4_3) (lv' := [(4, .int i4_3), (0, .ref o), (1, .ref up), (2, .ref lw)]) hx hb dX0_divideAmounts_136 hl (k := 3) rfl (by rw [ei4_3]; rfl) (by decide) rfl (fun ls hl => ?_)
              refine lv_goto (tgt := 80) hx hb dX0_divideAmounts_139 (by decide) ?_
              refine ih80 i i4_3 w121h w121l w114h w114l dh3 dl3 (2 * Qn + 1) (Rn - M * 2 ^ i) ?_ ?_ ?_ ?_ ?_ ?_ ?_ _ _ (hP.sub [0, 6, 4, 5, 1, 2, 3] rfl) (hD.sub [0, 6, 4, 5, 1, 2, 3] (by decide) rfl) hS _ (lv_sub hl [1, 2, 3, 0] rfl)
              · omega
              · rw [ei4_3, ei, ni_m]
              · rw [b5, b6] at c_103; exact dv_s1 b2 (by omega)
              · rw [b5, b6] at c_103; have := pw_s M i; omega
              · have e2 : wv w89h w89l = 2 * (Qn : Int) := by rw [hc89 (by rw [b4]; have := dv_q hM0 b2; unfold In; omega), b4]
                rw [hc121, e2]; omega
              · rw [b5, b6] at c_103; rw [hc114 (by rw [b5, b6]; unfold In; omega), b5, b6]; omega
              · have hi : i = 0 := by
                  cases i with
                  | zero => rfl
                  | succ z => rw [ei] at c_126; exact absurd c_126 (nI_nle (by omega) (by omega))
                subst hi; exact b6
            · refine lv_aload_n hx hb dX0_divideAmounts_129 rfl (lv_at hl 0 rfl) ?_
              refine va_get (D := D) (ci := 0) (v := .ref d) (C := RX0) (T := TX0) (N := 5) hx hb hTB tb_X0 hown hK.1 hP 0 rfl rfl 2 (by decide) (hTB _ tb_3_6) (fun _ h9 => h9) rfl dX0_divideAmounts_130 ?_
              refine fin_v (wr := [(o, .inr (0, [.ref q, .ref r, .ref d, .ref lm, .ref co])), (lm, .inr (2, [.long w39h, .long w39l])), (up, .inr (2, [.long uh, .long ul])), (lw, .inr (2, [.long vh, .long vl])), (r, .inr (2, [.long w114h, .long w114l])), (q, .inr (2, [.long w121h, .long w121l]))]) (va_runV (As := []) (rest := []) ⟨hx, hb, hml, hown, hTB⟩ (c_X2_half l D cZ cI cJ d dh3 dl3 _) (cw_V hTB tb_11_10 tb_2_9 tb_11_7 tb_11_8 tb_11_9 nd_X2_half rfl rfl ⟨Nat.le_of_ble_eq_true rfl, Nat.le_of_ble_eq_true rfl⟩) (pre_V (q0 := 5) hK hP hD [5] rfl rfl rfl rfl) rfl rfl hl.1 rfl (lv_room (Nat.le_of_ble_eq_true rfl)) dX0_divideAmounts_133 ⟨Nat.le_of_ble_eq_true rfl, Nat.le_of_ble_eq_true rfl⟩) hP hD hS hA [5] [0, 1, 2, 3, 4, 6] rfl rfl rfl (by decide) (fun u133 H locs hc133 hP hD hS => ?_)
              obtain ⟨w133h, w133l⟩ := u133
              try dsimp only at hc133
              have hP : va_P D vwCl [(o, .inr (0, [.ref q, .ref r, .ref d, .ref lm, .ref co])), (lm, .inr (2, [.long w39h, .long w39l])), (up, .inr (2, [.long uh, .long ul])), (lw, .inr (2, [.long vh, .long vl])), (r, .inr (2, [.long w114h, .long w114l])), (q, .inr (2, [.long w121h, .long w121l])), (d, .inr (2, [.long w133h, .long w133l]))] H := hP
              have hD : va_D A [(o, .inr (0, [.ref q, .ref r, .ref d, .ref lm, .ref co])), (lm, .inr (2, [.long w39h, .long w39l])), (up, .inr (2, [.long uh, .long ul])), (lw, .inr (2, [.long vh, .long vl])), (r, .inr (2, [.long w114h, .long w114l])), (q, .inr (2, [.long w121h, .long w121l])), (d, .inr (2, [.long w133h, .long w133l]))] := hD
              obtain ⟨i4_4, ei4_4⟩ : ∃ y : Int32, y = x4 + (-1) := ⟨_, rfl⟩
              refine lv_iinc (v := i4_4) (lv' := [(4, .int i4_4), (0, .ref o), (1, .ref up), (2, .ref lw)]) hx hb dX0_divideAmounts_136 hl (k := 3) rfl (by rw [ei4_4]; rfl) (by decide) rfl (fun ls hl => ?_)
              refine lv_goto (tgt := 80) hx hb dX0_divideAmounts_139 (by decide) ?_
              refine ih80 i i4_4 w121h w121l w114h w114l w133h w133l (2 * Qn + 1) (Rn - M * 2 ^ i) ?_ ?_ ?_ ?_ ?_ ?_ ?_ _ _ (hP.sub [0, 5, 4, 6, 1, 2, 3] rfl) (hD.sub [0, 5, 4, 6, 1, 2, 3] (by decide) rfl) hS _ (lv_sub hl [1, 2, 3, 0] rfl)
              · omega
              · rw [ei4_4, ei, ni_m]
              · rw [b5, b6] at c_103; exact dv_s1 b2 (by omega)
              · rw [b5, b6] at c_103; have := pw_s M i; omega
              · have e2 : wv w89h w89l = 2 * (Qn : Int) := by rw [hc89 (by rw [b4]; have := dv_q hM0 b2; unfold In; omega), b4]
                rw [hc121, e2]; omega
              · rw [b5, b6] at c_103; rw [hc114 (by rw [b5, b6]; unfold In; omega), b5, b6]; omega
              · rw [hc133, b6]
                have hi : ¬ i = 0 := fun q => c_126 (by rw [ei, q]; decide)
                obtain ⟨z, rfl⟩ : ∃ z, i = z + 1 := ⟨i - 1, by omega⟩
                rw [pw_s, Nat.add_sub_cancel]
                omega
    refine L80 130 (k + 1) (nI k) w5h w5l w13h w13l dh2 dl2 0 N ?_ ?_ ?_ ?_ ?_ ?_ ?_ _ _ hP hD hS _ (lv_sub hl [1, 2, 3, 0] rfl)
    · omega
    · rw [nI_pred]
    · omega
    · rw [pw_s]; exact g4
    · exact hc5
    · exact er
    · rw [Nat.add_sub_cancel]; exact g3
  have L44 : ∀ (n44 : Nat) (k : Nat) (dh2 dl2 : Int64), (127 < k + n44) → (k ≤ 127) → (wv dh2 dl2 = ((M * 2 ^ k : Nat) : Int)) → ∀ (H : Heap) (locs : List Loc), va_P D vwCl [(o, .inr (0, [.ref q, .ref r, .ref d, .ref lm, .ref co])), (q, .inr (2, [.long w5h, .long w5l])), (r, .inr (2, [.long w13h, .long w13l])), (d, .inr (2, [.long dh2, .long dl2])), (lm, .inr (2, [.long w39h, .long w39l])), (up, .inr (2, [.long uh, .long ul])), (lw, .inr (2, [.long vh, .long vl]))] H → va_D A [(o, .inr (0, [.ref q, .ref r, .ref d, .ref lm, .ref co])), (q, .inr (2, [.long w5h, .long w5l])), (r, .inr (2, [.long w13h, .long w13l])), (d, .inr (2, [.long dh2, .long dl2])), (lm, .inr (2, [.long w39h, .long w39l])), (up, .inr (2, [.long uh, .long ul])), (lw, .inr (2, [.long vh, .long vl]))] → va_S A s.heap H locs → ∀ (ls : Array Slot), lv_has ls 5 [(0, .ref o), (1, .ref up), (2, .ref lw), (3, .int (nI k))] → W p l e { frames := 2, cells := 0, slots := 0, locals := 44 } s m args below meth c H locs 0 0 Q (F0 m 44 ls []) := by
    intro n44
    induction n44 with
    | zero =>
      intro k dh2 dl2 g1 g2 g3
      exfalso; omega
    | succ n44 ih44 =>
      intro k dh2 dl2 g1 g2 g3 H locs hP hD hS ls hl
      refine lv_iload_n hx hb dX0_divideAmounts_44 rfl (lv_at hl 3 rfl) ?_
      refine lv_bipush (v := 127) hx hb dX0_divideAmounts_45 (by decide) ?_
      refine lv_icmp_ge (tgt := 77) hx hb dX0_divideAmounts_47 (by decide) (fun c_47 => ?_) (fun c_47 => ?_)
      · refine J77 k dh2 dl2 ?_ ?_ ?_ _ _ hP hD hS _ (lv_sub hl [0, 1, 2, 3] rfl)
        · exact g2
        · exact g3
        · have := pw_ge hM0 k
          have e : k = 127 := by have := (nI_leI (a := 127) (b := k) (by omega) (by omega)).mp c_47; omega
          subst e
          omega
      · refine lv_aload_n hx hb dX0_divideAmounts_50 rfl (lv_at hl 0 rfl) ?_
        refine va_get (D := D) (ci := 0) (v := .ref d) (C := RX0) (T := TX0) (N := 5) hx hb hTB tb_X0 hown hK.1 hP 0 rfl rfl 2 (by decide) (hTB _ tb_3_6) (fun _ h9 => h9) rfl dX0_divideAmounts_51 ?_
        refine lv_aload_n hx hb dX0_divideAmounts_54 rfl (lv_at hl 0 rfl) ?_
        refine va_get (D := D) (ci := 0) (v := .ref lm) (C := RX0) (T := TX0) (N := 5) hx hb hTB tb_X0 hown hK.1 hP 0 rfl rfl 3 (by decide) (hTB _ tb_3_7) (fun _ h9 => h9) rfl dX0_divideAmounts_55 ?_
        refine vp_callSi (va_runV (As := [.ref lm]) (rest := []) ⟨hx, hb, hml, hown, hTB⟩ (c_X2_compare l D cZ cI cJ d lm dh2 dl2 w39h w39l) (cw_V hTB tb_9_22 tb_2_9 tb_11_15 tb_9_20 tb_9_21 nd_X2_compare rfl rfl ⟨Nat.le_of_ble_eq_true rfl, Nat.le_of_ble_eq_true rfl⟩) (prr_V (q0 := 3) hK hP [3, 4] rfl rfl rfl) rfl rfl hl.1 rfl (lv_room (Nat.le_of_ble_eq_true rfl)) dX0_divideAmounts_58 ⟨Nat.le_of_ble_eq_true rfl, Nat.le_of_ble_eq_true rfl⟩).run (fun r58 hc58 => ?_)
        subst hc58
        refine lv_if_gt (tgt := 77) hx hb dX0_divideAmounts_61 (by decide) (fun c_61 => ?_) (fun c_61 => ?_)
        · have c_61 := cm_gtt c_61
          refine J77 k dh2 dl2 ?_ ?_ ?_ _ _ hP hD hS _ (lv_sub hl [0, 1, 2, 3] rfl)
          · exact g2
          · exact g3
          · rw [g3, em] at c_61; omega
        · have c_61 := cm_gtf c_61
          refine lv_aload_n hx hb dX0_divideAmounts_64 rfl (lv_at hl 0 rfl) ?_
          refine va_get (D := D) (ci := 0) (v := .ref d) (C := RX0) (T := TX0) (N := 5) hx hb hTB tb_X0 hown hK.1 hP 0 rfl rfl 2 (by decide) (hTB _ tb_3_6) (fun _ h9 => h9) rfl dX0_divideAmounts_65 ?_
          refine fin_v (wr := [(o, .inr (0, [.ref q, .ref r, .ref d, .ref lm, .ref co])), (q, .inr (2, [.long w5h, .long w5l])), (r, .inr (2, [.long w13h, .long w13l])), (lm, .inr (2, [.long w39h, .long w39l])), (up, .inr (2, [.long uh, .long ul])), (lw, .inr (2, [.long vh, .long vl]))]) (va_runV (As := []) (rest := []) ⟨hx, hb, hml, hown, hTB⟩ (c_X2_twice l D cZ cI cJ d dh2 dl2 _) (cw_V hTB tb_11_23 tb_2_9 tb_11_20 tb_11_21 tb_11_22 nd_X2_twice rfl rfl ⟨Nat.le_of_ble_eq_true rfl, Nat.le_of_ble_eq_true rfl⟩) (pre_V (q0 := 3) hK hP hD [3] rfl rfl rfl rfl) rfl rfl hl.1 rfl (lv_room (Nat.le_of_ble_eq_true rfl)) dX0_divideAmounts_68 ⟨Nat.le_of_ble_eq_true rfl, Nat.le_of_ble_eq_true rfl⟩) hP hD hS hA [3] [0, 1, 2, 4, 5, 6] rfl rfl rfl (by decide) (fun u68 H locs hc68 hP hD hS => ?_)
          obtain ⟨w68h, w68l⟩ := u68
          try dsimp only at hc68
          have hP : va_P D vwCl [(o, .inr (0, [.ref q, .ref r, .ref d, .ref lm, .ref co])), (q, .inr (2, [.long w5h, .long w5l])), (r, .inr (2, [.long w13h, .long w13l])), (lm, .inr (2, [.long w39h, .long w39l])), (up, .inr (2, [.long uh, .long ul])), (lw, .inr (2, [.long vh, .long vl])), (d, .inr (2, [.long w68h, .long w68l]))] H := hP
          have hD : va_D A [(o, .inr (0, [.ref q, .ref r, .ref d, .ref lm, .ref co])), (q, .inr (2, [.long w5h, .long w5l])), (r, .inr (2, [.long w13h, .long w13l])), (lm, .inr (2, [.long w39h, .long w39l])), (up, .inr (2, [.long uh, .long ul])), (lw, .inr (2, [.long vh, .long vl])), (d, .inr (2, [.long w68h, .long w68l]))] := hD
          obtain ⟨i3_5, ei3_5⟩ : ∃ y : Int32, y = (nI k) + 1 := ⟨_, rfl⟩
          refine lv_iinc (v := i3_5) (lv' := [(3, .int i3_5), (0, .ref o), (1, .ref up), (2, .ref lw)]) hx hb dX0_divideAmounts_71 hl (k := 3) rfl (by rw [ei3_5]; rfl) (by decide) rfl (fun ls hl => ?_)
          refine lv_goto (tgt := 44) hx hb dX0_divideAmounts_74 (by decide) ?_
          have q9 : i3_5 = nI (k + 1) := by rw [ei3_5]; exact nI_1 k
          subst q9
          refine ih44 (k + 1) w68h w68l ?_ ?_ ?_ _ _ (hP.sub [0, 1, 2, 6, 3, 4, 5] rfl) (hD.sub [0, 1, 2, 6, 3, 4, 5] (by decide) rfl) hS _ (lv_sub hl [1, 2, 3, 0] rfl)
          · omega
          · have := (nI_leI (a := 127) (b := k) (by omega) (by omega)).mpr; have : ¬ 127 ≤ k := fun q => c_47 (this q); omega
          · rw [hc68 (by rw [g3, em] at c_61; rw [g3]; unfold In; omega), g3, pw_s]; omega
  refine L44 128 0 w21h w21l ?_ ?_ ?_ _ _ (hP.sub [0, 1, 5, 3, 6, 2, 4] rfl) (hD.sub [0, 1, 5, 3, 6, 2, 4] (by decide) rfl) hS _ (lv_sub hl [1, 2, 3, 0] rfl)
  · omega
  · omega
  · rw [Nat.pow_zero, Nat.mul_one]; exact ed

set_option maxHeartbeats 4000000 in
set_option maxRecDepth 100000 in
theorem c_X0_isOneMoreNearer (l : Launch) (D : va_G) (cZ cI cJ : ClassId) (o q r d lm co : Nat) (qh ql rh rl dh dl : Int64) (rule : Int32) (Qn Rn Mn : Nat) (hQ : wv qh ql = (Qn : Int)) (hR : wv rh rl = (Rn : Int)) (hM : wv dh dl = (Mn : Int)) (hR1 : 2 * Rn < 170141183460469231731687303715884105728) : Ci l D cZ cI cJ yX0_isOneMoreNearer cX0_isOneMoreNearer 3 (some .boolean) { frames := 2, cells := 0, slots := 0, locals := 44 } [.ref o, .int rule] [(o, .inr (0, [.ref q, .ref r, .ref d, .ref lm, .ref co])), (q, .inr (2, [.long qh, .long ql])), (r, .inr (2, [.long rh, .long rl])), (d, .inr (2, [.long dh, .long dl]))] (S := Int64 × Int64) (fun z u => z = bz (mN rule Qn Rn Mn = true)) (fun u => [(o, .inr (0, [.ref q, .ref r, .ref d, .ref lm, .ref co])), (q, .inr (2, [.long qh, .long ql])), (r, .inr (2, [.long u.1, .long u.2])), (d, .inr (2, [.long dh, .long dl]))]) := by
  refine Ci.of (by decide) ?_
  intro p e s m args below meth c A Q hB hret hP hD hA
  obtain ⟨hx, hb, hr, hlocks, hml, hown, hnm, hTB, hK⟩ := hB
  have hown : s.vm.findClass RX0 = some m.cls := hown
  have hS : va_S A s.heap s.heap [] := va_S.rf
  have hl := lv_entry ([.ref o, .int rule]) (n := 3) (Nat.le_of_ble_eq_true rfl)
  rw [lg_entry_eq]
  generalize (lg_sl ([.ref o, .int rule]) ++ List.replicate (3 - (lg_sl ([.ref o, .int rule])).length) Slot.unset).toArray = ls at hl ⊢
  have hl : lv_has ls 3 [(0, .ref o), (1, .int rule)] := hl
  refine lv_aload_n hx hb dX0_isOneMoreNearer_0 rfl (lv_at hl 0 rfl) ?_
  refine va_get (D := D) (ci := 0) (v := .ref r) (C := RX0) (T := TX0) (N := 5) hx hb hTB tb_X0 hown hK.1 hP 0 rfl rfl 1 (by decide) (hTB _ tb_3_5) (fun _ h9 => h9) rfl dX0_isOneMoreNearer_1 ?_
  refine fin_v (wr := [(o, .inr (0, [.ref q, .ref r, .ref d, .ref lm, .ref co])), (q, .inr (2, [.long qh, .long ql])), (d, .inr (2, [.long dh, .long dl]))]) (va_runV (As := []) (rest := []) ⟨hx, hb, hml, hown, hTB⟩ (c_X2_twice l D cZ cI cJ r rh rl _) (cw_V hTB tb_11_23 tb_2_9 tb_11_20 tb_11_21 tb_11_22 nd_X2_twice rfl rfl ⟨Nat.le_of_ble_eq_true rfl, Nat.le_of_ble_eq_true rfl⟩) (pre_V (q0 := 2) hK hP hD [2] rfl rfl rfl rfl) rfl rfl hl.1 rfl (lv_room (Nat.le_of_ble_eq_true rfl)) dX0_isOneMoreNearer_4 ⟨Nat.le_of_ble_eq_true rfl, Nat.le_of_ble_eq_true rfl⟩) hP hD hS hA [2] [0, 1, 3] rfl rfl rfl (by decide) (fun u4 H locs hc4 hP hD hS => ?_)
  obtain ⟨w4h, w4l⟩ := u4
  try dsimp only at hc4
  have hP : va_P D vwCl [(o, .inr (0, [.ref q, .ref r, .ref d, .ref lm, .ref co])), (q, .inr (2, [.long qh, .long ql])), (d, .inr (2, [.long dh, .long dl])), (r, .inr (2, [.long w4h, .long w4l]))] H := hP
  have hD : va_D A [(o, .inr (0, [.ref q, .ref r, .ref d, .ref lm, .ref co])), (q, .inr (2, [.long qh, .long ql])), (d, .inr (2, [.long dh, .long dl])), (r, .inr (2, [.long w4h, .long w4l]))] := hD
  refine lv_aload_n hx hb dX0_isOneMoreNearer_7 rfl (lv_at hl 0 rfl) ?_
  refine va_get (D := D) (ci := 0) (v := .ref r) (C := RX0) (T := TX0) (N := 5) hx hb hTB tb_X0 hown hK.1 hP 0 rfl rfl 1 (by decide) (hTB _ tb_3_5) (fun _ h9 => h9) rfl dX0_isOneMoreNearer_8 ?_
  refine lv_aload_n hx hb dX0_isOneMoreNearer_11 rfl (lv_at hl 0 rfl) ?_
  refine va_get (D := D) (ci := 0) (v := .ref d) (C := RX0) (T := TX0) (N := 5) hx hb hTB tb_X0 hown hK.1 hP 0 rfl rfl 2 (by decide) (hTB _ tb_3_6) (fun _ h9 => h9) rfl dX0_isOneMoreNearer_12 ?_
  refine vp_callSi (va_runV (As := [.ref d]) (rest := []) ⟨hx, hb, hml, hown, hTB⟩ (c_X2_compare l D cZ cI cJ r d w4h w4l dh dl) (cw_V hTB tb_9_22 tb_2_9 tb_11_15 tb_9_20 tb_9_21 nd_X2_compare rfl rfl ⟨Nat.le_of_ble_eq_true rfl, Nat.le_of_ble_eq_true rfl⟩) (prr_V (q0 := 3) hK hP [3, 2] rfl rfl rfl) rfl rfl hl.1 rfl (lv_room (Nat.le_of_ble_eq_true rfl)) dX0_isOneMoreNearer_15 ⟨Nat.le_of_ble_eq_true rfl, Nat.le_of_ble_eq_true rfl⟩).run (fun r15 hc15 => ?_)
  subst hc15
  refine lv_istore_n (lv' := [(2, .int (cm (wv w4h w4l) (wv dh dl))), (0, .ref o), (1, .int rule)]) hx hb dX0_isOneMoreNearer_18 rfl hl (by decide) rfl (fun ls hl => ?_)
  refine lv_iload_n hx hb dX0_isOneMoreNearer_19 rfl (lv_at hl 0 rfl) ?_
  refine lv_if_eq (tgt := 33) hx hb dX0_isOneMoreNearer_20 (by decide) (fun c_20 => ?_) (fun c_20 => ?_)
  · have c_20 := cm_eqt c_20
    refine lv_iload_n hx hb dX0_isOneMoreNearer_33 rfl (lv_at hl 2 rfl) ?_
    refine lv_iconst (v := 4) hx hb dX0_isOneMoreNearer_34 (by decide) ?_
    refine lv_icmp_eq (tgt := 54) hx hb dX0_isOneMoreNearer_35 (by decide) (fun c_35 => ?_) (fun c_35 => ?_)
    · refine lv_iconst (v := 1) hx hb dX0_isOneMoreNearer_54 (by decide) ?_
      refine lv_goto (tgt := 59) hx hb dX0_isOneMoreNearer_55 (by decide) ?_
      exact hret hP hD hS rfl (w4h, w4l) (by have e := hc4 (by rw [hR]; unfold In; omega); rw [hR] at e; rw [e, hM] at c_20; exact bz_t (mN_iff.mpr (Or.inr ⟨by omega, Or.inl c_35⟩))) [0, 1, 3, 2] rfl (by decide) dX0_isOneMoreNearer_59 (Nat.le_of_ble_eq_true rfl) (Nat.le_of_ble_eq_true rfl)
    · refine lv_iload_n hx hb dX0_isOneMoreNearer_38 rfl (lv_at hl 2 rfl) ?_
      refine lv_bipush (v := 6) hx hb dX0_isOneMoreNearer_39 (by decide) ?_
      refine lv_icmp_ne (tgt := 58) hx hb dX0_isOneMoreNearer_41 (by decide) (fun c_41 => ?_) (fun c_41 => ?_)
      · refine lv_iconst (v := 0) hx hb dX0_isOneMoreNearer_58 (by decide) ?_
        exact hret hP hD hS rfl (w4h, w4l) (by have e := hc4 (by rw [hR]; unfold In; omega); rw [hR] at e; rw [e, hM] at c_20; exact bz_f (fun q => by rcases mN_iff.mp q with z | ⟨-, z | ⟨z, -⟩⟩; omega; exact c_35 z; exact c_41 z)) [0, 1, 3, 2] rfl (by decide) dX0_isOneMoreNearer_59 (Nat.le_of_ble_eq_true rfl) (Nat.le_of_ble_eq_true rfl)
      · refine lv_aload_n hx hb dX0_isOneMoreNearer_44 rfl (lv_at hl 1 rfl) ?_
        refine va_get (D := D) (ci := 0) (v := .ref q) (C := RX0) (T := TX0) (N := 5) hx hb hTB tb_X0 hown hK.1 hP 0 rfl rfl 0 (by decide) (hTB _ tb_3_4) (fun _ h9 => h9) rfl dX0_isOneMoreNearer_45 ?_
        refine vp_callSi (va_runV (As := []) (rest := []) ⟨hx, hb, hml, hown, hTB⟩ (c_X2_isOdd l D cZ cI cJ q qh ql) (cw_V hTB tb_11_6 tb_2_9 tb_11_3 tb_11_4 tb_11_5 nd_X2_isOdd rfl rfl ⟨Nat.le_of_ble_eq_true rfl, Nat.le_of_ble_eq_true rfl⟩) (prr_V (q0 := 1) hK hP [1] rfl rfl rfl) rfl rfl hl.1 rfl (lv_room (Nat.le_of_ble_eq_true rfl)) dX0_isOneMoreNearer_48 ⟨Nat.le_of_ble_eq_true rfl, Nat.le_of_ble_eq_true rfl⟩).run (fun r48 hc48 => ?_)
        subst hc48
        refine lv_if_eq (tgt := 58) hx hb dX0_isOneMoreNearer_51 (by decide) (fun c_51 => ?_) (fun c_51 => ?_)
        · have c_51 := bz_0 c_51
          refine lv_iconst (v := 0) hx hb dX0_isOneMoreNearer_58 (by decide) ?_
          exact hret hP hD hS rfl (w4h, w4l) (by have e := hc4 (by rw [hR]; unfold In; omega); rw [hR] at e; rw [e, hM] at c_20; rw [hQ] at c_51; exact bz_f (fun q => by rcases mN_iff.mp q with z | ⟨-, z | ⟨-, z⟩⟩; omega; exact c_35 z; exact c_51 (by omega))) [0, 1, 3, 2] rfl (by decide) dX0_isOneMoreNearer_59 (Nat.le_of_ble_eq_true rfl) (Nat.le_of_ble_eq_true rfl)
        · have c_51 := bz_1 c_51
          refine lv_iconst (v := 1) hx hb dX0_isOneMoreNearer_54 (by decide) ?_
          refine lv_goto (tgt := 59) hx hb dX0_isOneMoreNearer_55 (by decide) ?_
          exact hret hP hD hS rfl (w4h, w4l) (by have e := hc4 (by rw [hR]; unfold In; omega); rw [hR] at e; rw [e, hM] at c_20; rw [hQ] at c_51; exact bz_t (mN_iff.mpr (Or.inr ⟨by omega, Or.inr ⟨c_41, by omega⟩⟩))) [0, 1, 3, 2] rfl (by decide) dX0_isOneMoreNearer_59 (Nat.le_of_ble_eq_true rfl) (Nat.le_of_ble_eq_true rfl)
  · have c_20 := cm_eqf c_20
    refine lv_iload_n hx hb dX0_isOneMoreNearer_23 rfl (lv_at hl 0 rfl) ?_
    refine lv_if_le (tgt := 31) hx hb dX0_isOneMoreNearer_24 (by decide) (fun c_24 => ?_) (fun c_24 => ?_)
    · have c_24 := cm_let c_24
      refine lv_iconst (v := 0) hx hb dX0_isOneMoreNearer_31 (by decide) ?_
      exact hret hP hD hS rfl (w4h, w4l) (by have e := hc4 (by rw [hR]; unfold In; omega); rw [hR] at e; rw [e, hM] at c_24 c_20; exact bz_f (fun q => by rcases mN_iff.mp q with z | ⟨z, -⟩ <;> omega)) [0, 1, 3, 2] rfl (by decide) dX0_isOneMoreNearer_32 (Nat.le_of_ble_eq_true rfl) (Nat.le_of_ble_eq_true rfl)
    · have c_24 := cm_lef c_24
      refine lv_iconst (v := 1) hx hb dX0_isOneMoreNearer_27 (by decide) ?_
      refine lv_goto (tgt := 32) hx hb dX0_isOneMoreNearer_28 (by decide) ?_
      exact hret hP hD hS rfl (w4h, w4l) (by have e := hc4 (by rw [hR]; unfold In; omega); rw [hR] at e; rw [e, hM] at c_24; exact bz_t (mN_iff.mpr (Or.inl (by omega)))) [0, 1, 3, 2] rfl (by decide) dX0_isOneMoreNearer_32 (Nat.le_of_ble_eq_true rfl) (Nat.le_of_ble_eq_true rfl)

set_option maxHeartbeats 4000000 in
set_option maxRecDepth 100000 in
theorem c_X0_isOneMore (l : Launch) (D : va_G) (cZ cI cJ : ClassId) (o q r d lm co : Nat) (qh ql rh rl dh dl : Int64) (rule : Int32) (Qn Rn Mn : Nat) (ng : Bool) (hQ : wv qh ql = (Qn : Int)) (hR : wv rh rl = (Rn : Int)) (hM : wv dh dl = (Mn : Int)) (hR1 : 2 * Rn < 170141183460469231731687303715884105728) : Ci l D cZ cI cJ yX0_isOneMore cX0_isOneMore 3 (some .boolean) { frames := 3, cells := 0, slots := 0, locals := 66 } [.ref o, .int (bz (ng = true)), .int rule] [(o, .inr (0, [.ref q, .ref r, .ref d, .ref lm, .ref co])), (q, .inr (2, [.long qh, .long ql])), (r, .inr (2, [.long rh, .long rl])), (d, .inr (2, [.long dh, .long dl]))] (S := Int64 × Int64) (fun z u => z = bz (mO rule ng Qn Rn Mn = true)) (fun u => [(o, .inr (0, [.ref q, .ref r, .ref d, .ref lm, .ref co])), (q, .inr (2, [.long qh, .long ql])), (r, .inr (2, [.long u.1, .long u.2])), (d, .inr (2, [.long dh, .long dl]))]) := by
  refine Ci.of (by decide) ?_
  intro p e s m args below meth c A Q hB hret hP hD hA
  obtain ⟨hx, hb, hr, hlocks, hml, hown, hnm, hTB, hK⟩ := hB
  have hown : s.vm.findClass RX0 = some m.cls := hown
  have hS : va_S A s.heap s.heap [] := va_S.rf
  have hl := lv_entry ([.ref o, .int (bz (ng = true)), .int rule]) (n := 3) (Nat.le_of_ble_eq_true rfl)
  rw [lg_entry_eq]
  generalize (lg_sl ([.ref o, .int (bz (ng = true)), .int rule]) ++ List.replicate (3 - (lg_sl ([.ref o, .int (bz (ng = true)), .int rule])).length) Slot.unset).toArray = ls at hl ⊢
  have hl : lv_has ls 3 [(0, .ref o), (1, .int (bz (ng = true))), (2, .int rule)] := hl
  refine lv_aload_n hx hb dX0_isOneMore_0 rfl (lv_at hl 0 rfl) ?_
  refine va_get (D := D) (ci := 0) (v := .ref r) (C := RX0) (T := TX0) (N := 5) hx hb hTB tb_X0 hown hK.1 hP 0 rfl rfl 1 (by decide) (hTB _ tb_3_5) (fun _ h9 => h9) rfl dX0_isOneMore_1 ?_
  refine vp_callSi (va_runV (As := []) (rest := []) ⟨hx, hb, hml, hown, hTB⟩ (c_X2_sign l D cZ cI cJ r rh rl) (cw_V hTB tb_5_23 tb_2_9 tb_11_2 tb_5_21 tb_5_22 nd_X2_sign rfl rfl ⟨Nat.le_of_ble_eq_true rfl, Nat.le_of_ble_eq_true rfl⟩) (prr_V (q0 := 2) hK hP [2] rfl rfl rfl) rfl rfl hl.1 rfl (lv_room (Nat.le_of_ble_eq_true rfl)) dX0_isOneMore_4 ⟨Nat.le_of_ble_eq_true rfl, Nat.le_of_ble_eq_true rfl⟩).run (fun r4 hc4 => ?_)
  subst hc4
  refine lv_if_ne (tgt := 12) hx hb dX0_isOneMore_7 (by decide) (fun c_7 => ?_) (fun c_7 => ?_)
  · have c_7 := sg_net c_7
    refine lv_iload_n hx hb dX0_isOneMore_12 rfl (lv_at hl 2 rfl) ?_
    rcases sw_3 rule with k_13 | k_13 | k_13 | k_13 | k_13
    · refine lv_tableIn (off := 31) (tgt := 44) hx hb dX0_isOneMore_13 (by rw [k_13]; decide) (by rw [k_13]; decide) (by rw [k_13]; rfl) (by decide) ?_
      refine lv_iload_n hx hb dX0_isOneMore_44 rfl (lv_at hl 1 rfl) ?_
      exact hret hP hD hS bz_nar (rh, rl) (bz_c (by rw [mO_c (by rw [hR] at c_7; omega), if_pos (i32_of (k := 0) k_13)])) [0, 1, 2, 3] rfl (by decide) dX0_isOneMore_45 (Nat.le_of_ble_eq_true rfl) (Nat.le_of_ble_eq_true rfl)
    · refine lv_tableIn (off := 33) (tgt := 46) hx hb dX0_isOneMore_13 (by rw [k_13]; decide) (by rw [k_13]; decide) (by rw [k_13]; rfl) (by decide) ?_
      refine lv_iload_n hx hb dX0_isOneMore_46 rfl (lv_at hl 1 rfl) ?_
      refine lv_if_ne (tgt := 54) hx hb dX0_isOneMore_47 (by decide) (fun c_47 => ?_) (fun c_47 => ?_)
      · have c_47 := bz_1 c_47
        refine lv_iconst (v := 0) hx hb dX0_isOneMore_54 (by decide) ?_
        exact hret hP hD hS rfl (rh, rl) (bz_f (by rw [mO_c (by rw [hR] at c_7; omega), if_neg (i32_ne (k := 0) (by rw [k_13]; decide)), if_pos (i32_of (k := 1) k_13)]; rw [c_47]; decide)) [0, 1, 2, 3] rfl (by decide) dX0_isOneMore_55 (Nat.le_of_ble_eq_true rfl) (Nat.le_of_ble_eq_true rfl)
      · have c_47 := bz_0 c_47
        refine lv_iconst (v := 1) hx hb dX0_isOneMore_50 (by decide) ?_
        refine lv_goto (tgt := 55) hx hb dX0_isOneMore_51 (by decide) ?_
        exact hret hP hD hS rfl (rh, rl) (bz_t (by rw [mO_c (by rw [hR] at c_7; omega), if_neg (i32_ne (k := 0) (by rw [k_13]; decide)), if_pos (i32_of (k := 1) k_13)]; cases ng; rfl; exact absurd rfl c_47)) [0, 1, 2, 3] rfl (by decide) dX0_isOneMore_55 (Nat.le_of_ble_eq_true rfl) (Nat.le_of_ble_eq_true rfl)
    · refine lv_tableIn (off := 43) (tgt := 56) hx hb dX0_isOneMore_13 (by rw [k_13]; decide) (by rw [k_13]; decide) (by rw [k_13]; rfl) (by decide) ?_
      refine lv_iconst (v := 0) hx hb dX0_isOneMore_56 (by decide) ?_
      exact hret hP hD hS rfl (rh, rl) (bz_f (by rw [mO_c (by rw [hR] at c_7; omega), if_neg (i32_ne (k := 0) (by rw [k_13]; decide)), if_neg (i32_ne (k := 1) (by rw [k_13]; decide)), if_pos (i32_of (k := 2) k_13)]; decide)) [0, 1, 2, 3] rfl (by decide) dX0_isOneMore_57 (Nat.le_of_ble_eq_true rfl) (Nat.le_of_ble_eq_true rfl)
    · refine lv_tableIn (off := 45) (tgt := 58) hx hb dX0_isOneMore_13 (by rw [k_13]; decide) (by rw [k_13]; decide) (by rw [k_13]; rfl) (by decide) ?_
      refine lv_iconst (v := 1) hx hb dX0_isOneMore_58 (by decide) ?_
      exact hret hP hD hS rfl (rh, rl) (bz_t (by rw [mO_c (by rw [hR] at c_7; omega), if_neg (i32_ne (k := 0) (by rw [k_13]; decide)), if_neg (i32_ne (k := 1) (by rw [k_13]; decide)), if_neg (i32_ne (k := 2) (by rw [k_13]; decide)), if_pos (i32_of (k := 3) k_13)])) [0, 1, 2, 3] rfl (by decide) dX0_isOneMore_59 (Nat.le_of_ble_eq_true rfl) (Nat.le_of_ble_eq_true rfl)
    · refine lv_tableOut (tgt := 60) hx hb dX0_isOneMore_13 k_13 (by decide) ?_
      refine lv_aload_n hx hb dX0_isOneMore_60 rfl (lv_at hl 0 rfl) ?_
      refine lv_iload_n hx hb dX0_isOneMore_61 rfl (lv_at hl 2 rfl) ?_
      refine fin_i (wr := []) (va_runV (As := [.int rule]) (rest := []) ⟨hx, hb, hml, hown, hTB⟩ (c_X0_isOneMoreNearer l D cZ cI cJ o q r d lm co qh ql rh rl dh dl rule Qn Rn Mn hQ hR hM hR1 _) (cw_V hTB tb_15_14 tb_2_5 tb_15_11 tb_15_12 tb_15_13 nd_X0_isOneMoreNearer rfl rfl ⟨Nat.le_of_ble_eq_true rfl, Nat.le_of_ble_eq_true rfl⟩) (pre_V (q0 := 0) hK hP hD [0, 1, 2, 3] rfl rfl rfl rfl) rfl rfl hl.1 rfl (lv_room (Nat.le_of_ble_eq_true rfl)) dX0_isOneMore_62 ⟨Nat.le_of_ble_eq_true rfl, Nat.le_of_ble_eq_true rfl⟩) hP hD hS hA [0, 1, 2, 3] [] rfl rfl rfl (by decide) (fun r62 u62 H locs hc62 hP hD hS => ?_)
      obtain ⟨w62h, w62l⟩ := u62
      try dsimp only at hc62
      have hP : va_P D vwCl [(o, .inr (0, [.ref q, .ref r, .ref d, .ref lm, .ref co])), (q, .inr (2, [.long qh, .long ql])), (r, .inr (2, [.long w62h, .long w62l])), (d, .inr (2, [.long dh, .long dl]))] H := hP
      have hD : va_D A [(o, .inr (0, [.ref q, .ref r, .ref d, .ref lm, .ref co])), (q, .inr (2, [.long qh, .long ql])), (r, .inr (2, [.long w62h, .long w62l])), (d, .inr (2, [.long dh, .long dl]))] := hD
      subst hc62
      exact hret hP hD hS bz_nar (w62h, w62l) (bz_c (by rw [mO_c (by rw [hR] at c_7; omega), if_neg (fun q => by rw [q] at k_13; revert k_13; decide), if_neg (fun q => by rw [q] at k_13; revert k_13; decide), if_neg (fun q => by rw [q] at k_13; revert k_13; decide), if_neg (fun q => by rw [q] at k_13; revert k_13; decide)])) [0, 1, 2, 3] rfl (by decide) dX0_isOneMore_65 (Nat.le_of_ble_eq_true rfl) (Nat.le_of_ble_eq_true rfl)
  · have c_7 := sg_nef c_7
    refine lv_iconst (v := 0) hx hb dX0_isOneMore_10 (by decide) ?_
    exact hret hP hD hS rfl (rh, rl) (bz_f (mO_0 (by rw [hR] at c_7; omega))) [0, 1, 2, 3] rfl (by decide) dX0_isOneMore_11 (Nat.le_of_ble_eq_true rfl) (Nat.le_of_ble_eq_true rfl)

set_option maxHeartbeats 4000000 in
set_option maxRecDepth 100000 in
theorem c_X0_rounded (l : Launch) (D : va_G) (cZ cI cJ : ClassId) (o q r d lm co up lw : Nat) (qh ql rh rl dh dl mh ml uh ul vh vl : Int64) (rule : Int32) (hB0 : 0 < (wv vh vl).natAbs) (hA1 : (wv uh ul).natAbs < 170141183460469231731687303715884105728) (hB1 : (wv vh vl).natAbs < 85070591730234615865843651857942052864) : Cl l D cZ cI cJ yX0_rounded cX0_rounded 7 (some .long) { frames := 4, cells := 0, slots := 0, locals := 88 } [.ref o, .ref up, .ref lw, .int rule] [(o, .inr (0, [.ref q, .ref r, .ref d, .ref lm, .ref co])), (q, .inr (2, [.long qh, .long ql])), (r, .inr (2, [.long rh, .long rl])), (d, .inr (2, [.long dh, .long dl])), (lm, .inr (2, [.long mh, .long ml])), (up, .inr (2, [.long uh, .long ul])), (lw, .inr (2, [.long vh, .long vl]))] (S := (Int64 × Int64) × (Int64 × Int64) × (Int64 × Int64) × (Int64 × Int64)) (fun z u => z = rdv rule (wv uh ul) (wv vh vl)) (fun u => [(o, .inr (0, [.ref q, .ref r, .ref d, .ref lm, .ref co])), (q, .inr (2, [.long u.1.1, .long u.1.2])), (r, .inr (2, [.long u.2.1.1, .long u.2.1.2])), (d, .inr (2, [.long u.2.2.1.1, .long u.2.2.1.2])), (lm, .inr (2, [.long u.2.2.2.1, .long u.2.2.2.2])), (up, .inr (2, [.long uh, .long ul])), (lw, .inr (2, [.long vh, .long vl]))]) := by
  refine Cl.of (by decide) ?_
  intro p e s m args below meth c A Q hB hret hP hD hA
  obtain ⟨hx, hb, hr, hlocks, hml, hown, hnm, hTB, hK⟩ := hB
  have hown : s.vm.findClass RX0 = some m.cls := hown
  have hS : va_S A s.heap s.heap [] := va_S.rf
  have hl := lv_entry ([.ref o, .ref up, .ref lw, .int rule]) (n := 7) (Nat.le_of_ble_eq_true rfl)
  rw [lg_entry_eq]
  generalize (lg_sl ([.ref o, .ref up, .ref lw, .int rule]) ++ List.replicate (7 - (lg_sl ([.ref o, .ref up, .ref lw, .int rule])).length) Slot.unset).toArray = ls at hl ⊢
  have hl : lv_has ls 7 [(0, .ref o), (1, .ref up), (2, .ref lw), (3, .int rule)] := hl
  refine lv_aload_n hx hb dX0_rounded_0 rfl (lv_at hl 1 rfl) ?_
  refine vp_callSi (va_runV (As := []) (rest := []) ⟨hx, hb, hml, hown, hTB⟩ (c_X2_sign l D cZ cI cJ up uh ul) (cw_V hTB tb_5_23 tb_2_9 tb_11_2 tb_5_21 tb_5_22 nd_X2_sign rfl rfl ⟨Nat.le_of_ble_eq_true rfl, Nat.le_of_ble_eq_true rfl⟩) (prr_V (q0 := 5) hK hP [5] rfl rfl rfl) rfl rfl hl.1 rfl (lv_room (Nat.le_of_ble_eq_true rfl)) dX0_rounded_1 ⟨Nat.le_of_ble_eq_true rfl, Nat.le_of_ble_eq_true rfl⟩).run (fun r1 hc1 => ?_)
  subst hc1
  refine lv_aload_n hx hb dX0_rounded_4 rfl (lv_at hl 2 rfl) ?_
  refine vp_callSi (va_runV (As := []) (rest := [.int (sg (wv uh ul))]) ⟨hx, hb, hml, hown, hTB⟩ (c_X2_sign l D cZ cI cJ lw vh vl) (cw_V hTB tb_5_23 tb_2_9 tb_11_2 tb_5_21 tb_5_22 nd_X2_sign rfl rfl ⟨Nat.le_of_ble_eq_true rfl, Nat.le_of_ble_eq_true rfl⟩) (prr_V (q0 := 6) hK hP [6] rfl rfl rfl) rfl rfl hl.1 rfl (lv_room (Nat.le_of_ble_eq_true rfl)) dX0_rounded_5 ⟨Nat.le_of_ble_eq_true rfl, Nat.le_of_ble_eq_true rfl⟩).run (fun r5 hc5 => ?_)
  subst hc5
  refine lv_imul hx hb dX0_rounded_8 ?_
  have J17 : ∀ (x : Int32), (x = bz (ngv (wv uh ul) (wv vh vl) = true)) → ∀ (H : Heap) (locs : List Loc), va_P D vwCl [(o, .inr (0, [.ref q, .ref r, .ref d, .ref lm, .ref co])), (q, .inr (2, [.long qh, .long ql])), (r, .inr (2, [.long rh, .long rl])), (d, .inr (2, [.long dh, .long dl])), (lm, .inr (2, [.long mh, .long ml])), (up, .inr (2, [.long uh, .long ul])), (lw, .inr (2, [.long vh, .long vl]))] H → va_D A [(o, .inr (0, [.ref q, .ref r, .ref d, .ref lm, .ref co])), (q, .inr (2, [.long qh, .long ql])), (r, .inr (2, [.long rh, .long rl])), (d, .inr (2, [.long dh, .long dl])), (lm, .inr (2, [.long mh, .long ml])), (up, .inr (2, [.long uh, .long ul])), (lw, .inr (2, [.long vh, .long vl]))] → va_S A s.heap H locs → ∀ (ls : Array Slot), lv_has ls 7 [(0, .ref o), (1, .ref up), (2, .ref lw), (3, .int rule)] → W p l e { frames := 4, cells := 0, slots := 0, locals := 88 } s m args below meth c H locs 0 0 Q (F0 m 17 ls [.int x]) := by
    intro x g1 H locs hP hD hS ls hl
    subst g1
    refine lv_istore (lv' := [(4, .int (bz (ngv (wv uh ul) (wv vh vl) = true))), (0, .ref o), (1, .ref up), (2, .ref lw), (3, .int rule)]) hx hb dX0_rounded_17 hl (by decide) rfl (fun ls hl => ?_)
    refine lv_aload_n hx hb dX0_rounded_19 rfl (lv_at hl 1 rfl) ?_
    refine lv_aload_n hx hb dX0_rounded_20 rfl (lv_at hl 2 rfl) ?_
    refine lv_aload_n hx hb dX0_rounded_21 rfl (lv_at hl 3 rfl) ?_
    refine fin_v (wr := []) (va_runV (As := [.ref up, .ref lw]) (rest := []) ⟨hx, hb, hml, hown, hTB⟩ (c_X0_divideAmounts l D cZ cI cJ o q r d lm co up lw qh ql rh rl dh dl mh ml uh ul vh vl ((wv uh ul).natAbs) ((wv vh vl).natAbs) rfl rfl hB0 hA1 (by omega) _) (cw_V hTB tb_12_11 tb_2_5 tb_12_8 tb_12_9 tb_12_10 nd_X0_divideAmounts rfl rfl ⟨Nat.le_of_ble_eq_true rfl, Nat.le_of_ble_eq_true rfl⟩) (pre_V (q0 := 0) hK hP hD [0, 1, 2, 3, 4, 5, 6] rfl rfl rfl rfl) rfl rfl hl.1 rfl (lv_room (Nat.le_of_ble_eq_true rfl)) dX0_rounded_22 ⟨Nat.le_of_ble_eq_true rfl, Nat.le_of_ble_eq_true rfl⟩) hP hD hS hA [0, 1, 2, 3, 4, 5, 6] [] rfl rfl rfl (by decide) (fun u22 H locs hc22 hP hD hS => ?_)
    obtain ⟨⟨q2h, q2l⟩, ⟨r2h, r2l⟩, ⟨d2h, d2l⟩, m2h, m2l⟩ := u22
    dsimp only at hc22
    obtain ⟨eq, er, ed⟩ := hc22
    have hP : va_P D vwCl [(o, .inr (0, [.ref q, .ref r, .ref d, .ref lm, .ref co])), (q, .inr (2, [.long q2h, .long q2l])), (r, .inr (2, [.long r2h, .long r2l])), (d, .inr (2, [.long d2h, .long d2l])), (lm, .inr (2, [.long m2h, .long m2l])), (up, .inr (2, [.long uh, .long ul])), (lw, .inr (2, [.long vh, .long vl]))] H := hP
    have hD : va_D A [(o, .inr (0, [.ref q, .ref r, .ref d, .ref lm, .ref co])), (q, .inr (2, [.long q2h, .long q2l])), (r, .inr (2, [.long r2h, .long r2l])), (d, .inr (2, [.long d2h, .long d2l])), (lm, .inr (2, [.long m2h, .long m2l])), (up, .inr (2, [.long uh, .long ul])), (lw, .inr (2, [.long vh, .long vl]))] := hD
    refine lv_aload_n hx hb dX0_rounded_25 rfl (lv_at hl 1 rfl) ?_
    refine lv_iload hx hb dX0_rounded_26 (lv_at hl 0 rfl) ?_
    refine lv_iload_n hx hb dX0_rounded_28 rfl (lv_at hl 4 rfl) ?_
    refine fin_i (wr := [(lm, .inr (2, [.long m2h, .long m2l])), (up, .inr (2, [.long uh, .long ul])), (lw, .inr (2, [.long vh, .long vl]))]) (va_runV (As := [.int (bz (ngv (wv uh ul) (wv vh vl) = true)), .int rule]) (rest := []) ⟨hx, hb, hml, hown, hTB⟩ (c_X0_isOneMore l D cZ cI cJ o q r d lm co q2h q2l r2h r2l d2h d2l rule ((wv uh ul).natAbs / (wv vh vl).natAbs) ((wv uh ul).natAbs % (wv vh vl).natAbs) ((wv vh vl).natAbs) (ngv (wv uh ul) (wv vh vl)) eq er ed (by have := Nat.mod_lt (wv uh ul).natAbs hB0; omega) _) (cw_V hTB tb_15_10 tb_2_5 tb_15_7 tb_15_8 tb_15_9 nd_X0_isOneMore rfl rfl ⟨Nat.le_of_ble_eq_true rfl, Nat.le_of_ble_eq_true rfl⟩) (pre_V (q0 := 0) hK hP hD [0, 1, 2, 3] rfl rfl rfl rfl) rfl rfl hl.1 rfl (lv_room (Nat.le_of_ble_eq_true rfl)) dX0_rounded_29 ⟨Nat.le_of_ble_eq_true rfl, Nat.le_of_ble_eq_true rfl⟩) hP hD hS hA [0, 1, 2, 3] [4, 5, 6] rfl rfl rfl (by decide) (fun r29 u29 H locs hc29 hP hD hS => ?_)
    obtain ⟨w29h, w29l⟩ := u29
    try dsimp only at hc29
    have hP : va_P D vwCl [(lm, .inr (2, [.long m2h, .long m2l])), (up, .inr (2, [.long uh, .long ul])), (lw, .inr (2, [.long vh, .long vl])), (o, .inr (0, [.ref q, .ref r, .ref d, .ref lm, .ref co])), (q, .inr (2, [.long q2h, .long q2l])), (r, .inr (2, [.long w29h, .long w29l])), (d, .inr (2, [.long d2h, .long d2l]))] H := hP
    have hD : va_D A [(lm, .inr (2, [.long m2h, .long m2l])), (up, .inr (2, [.long uh, .long ul])), (lw, .inr (2, [.long vh, .long vl])), (o, .inr (0, [.ref q, .ref r, .ref d, .ref lm, .ref co])), (q, .inr (2, [.long q2h, .long q2l])), (r, .inr (2, [.long w29h, .long w29l])), (d, .inr (2, [.long d2h, .long d2l]))] := hD
    subst hc29
    refine lv_if_eq (tgt := 47) hx hb dX0_rounded_32 (by decide) (fun c_32 => ?_) (fun c_32 => ?_)
    · have c_32 := bz_0 c_32
      refine lv_aload_n hx hb dX0_rounded_47 rfl (lv_at hl 1 rfl) ?_
      refine va_get (D := D) (ci := 0) (v := .ref q) (C := RX0) (T := TX0) (N := 5) hx hb hTB tb_X0 hown hK.1 hP 3 rfl rfl 0 (by decide) (hTB _ tb_3_4) (fun _ h9 => h9) rfl dX0_rounded_48 ?_
      refine va_getN (D := D) (ci := 2) (v := .long q2l) (C := RX2) (T := TX2) (N := 2) hx hb hTB tb_X2 hown hK.1 hP 4 rfl rfl 1 (by decide) (va_Nw.use rfl (hK.2 _ nw_5)) (fun _ h9 => h9) rfl dX0_rounded_51 ?_
      refine lv_lstore (lv' := [(5, .long q2l), (4, .int (bz (ngv (wv uh ul) (wv vh vl) = true))), (0, .ref o), (1, .ref up), (2, .ref lw), (3, .int rule)]) hx hb dX0_rounded_54 hl (by decide) rfl (fun ls hl => ?_)
      refine lv_iload hx hb dX0_rounded_56 (lv_at hl 1 rfl) ?_
      refine lv_if_eq (tgt := 67) hx hb dX0_rounded_58 (by decide) (fun c_58 => ?_) (fun c_58 => ?_)
      · have c_58 := bz_0 c_58
        refine lv_lload hx hb dX0_rounded_67 (lv_at hl 0 rfl) ?_
        exact hret hP hD hS ((q2h, q2l), (w29h, w29l), (d2h, d2l), (m2h, m2l)) (by unfold rdv; rw [if_neg c_58, if_neg c_32, lo_of eq]) [3, 4, 5, 6, 0, 1, 2] rfl (by decide) dX0_rounded_69 (Nat.le_of_ble_eq_true rfl) (Nat.le_of_ble_eq_true rfl)
      · have c_58 := bz_1 c_58
        refine lv_lload hx hb dX0_rounded_61 (lv_at hl 0 rfl) ?_
        refine lv_lneg hx hb dX0_rounded_63 ?_
        refine lv_goto (tgt := 69) hx hb dX0_rounded_64 (by decide) ?_
        exact hret hP hD hS ((q2h, q2l), (w29h, w29l), (d2h, d2l), (m2h, m2l)) (by unfold rdv; rw [if_pos c_58, if_neg c_32, lo_of eq]) [3, 4, 5, 6, 0, 1, 2] rfl (by decide) dX0_rounded_69 (Nat.le_of_ble_eq_true rfl) (Nat.le_of_ble_eq_true rfl)
    · have c_32 := bz_1 c_32
      refine lv_aload_n hx hb dX0_rounded_35 rfl (lv_at hl 1 rfl) ?_
      refine va_get (D := D) (ci := 0) (v := .ref q) (C := RX0) (T := TX0) (N := 5) hx hb hTB tb_X0 hown hK.1 hP 3 rfl rfl 0 (by decide) (hTB _ tb_3_4) (fun _ h9 => h9) rfl dX0_rounded_36 ?_
      refine va_getN (D := D) (ci := 2) (v := .long q2l) (C := RX2) (T := TX2) (N := 2) hx hb hTB tb_X2 hown hK.1 hP 4 rfl rfl 1 (by decide) (va_Nw.use rfl (hK.2 _ nw_5)) (fun _ h9 => h9) rfl dX0_rounded_39 ?_
      refine lv_lconst (v := 1) hx hb dX0_rounded_42 (by decide) ?_
      refine lv_ladd hx hb dX0_rounded_43 ?_
      refine lv_goto (tgt := 54) hx hb dX0_rounded_44 (by decide) ?_
      refine lv_lstore (lv' := [(5, .long (q2l + 1)), (4, .int (bz (ngv (wv uh ul) (wv vh vl) = true))), (0, .ref o), (1, .ref up), (2, .ref lw), (3, .int rule)]) hx hb dX0_rounded_54 hl (by decide) rfl (fun ls hl => ?_)
      refine lv_iload hx hb dX0_rounded_56 (lv_at hl 1 rfl) ?_
      refine lv_if_eq (tgt := 67) hx hb dX0_rounded_58 (by decide) (fun c_58 => ?_) (fun c_58 => ?_)
      · have c_58 := bz_0 c_58
        refine lv_lload hx hb dX0_rounded_67 (lv_at hl 0 rfl) ?_
        exact hret hP hD hS ((q2h, q2l), (w29h, w29l), (d2h, d2l), (m2h, m2l)) (by unfold rdv; rw [if_neg c_58, if_pos c_32, lo_of eq]) [3, 4, 5, 6, 0, 1, 2] rfl (by decide) dX0_rounded_69 (Nat.le_of_ble_eq_true rfl) (Nat.le_of_ble_eq_true rfl)
      · have c_58 := bz_1 c_58
        refine lv_lload hx hb dX0_rounded_61 (lv_at hl 0 rfl) ?_
        refine lv_lneg hx hb dX0_rounded_63 ?_
        refine lv_goto (tgt := 69) hx hb dX0_rounded_64 (by decide) ?_
        exact hret hP hD hS ((q2h, q2l), (w29h, w29l), (d2h, d2l), (m2h, m2l)) (by unfold rdv; rw [if_pos c_58, if_pos c_32, lo_of eq]) [3, 4, 5, 6, 0, 1, 2] rfl (by decide) dX0_rounded_69 (Nat.le_of_ble_eq_true rfl) (Nat.le_of_ble_eq_true rfl)
  refine lv_if_ge (tgt := 16) hx hb dX0_rounded_9 (by decide) (fun c_9 => ?_) (fun c_9 => ?_)
  · refine lv_iconst (v := 0) hx hb dX0_rounded_16 (by decide) ?_
    refine J17 0 ?_ _ _ hP hD hS _ (lv_sub hl [0, 1, 2, 3] rfl)
    · exact bz_f (ng_f c_9)
  · refine lv_iconst (v := 1) hx hb dX0_rounded_12 (by decide) ?_
    refine lv_goto (tgt := 17) hx hb dX0_rounded_13 (by decide) ?_
    refine J17 1 ?_ _ _ hP hD hS _ (lv_sub hl [0, 1, 2, 3] rfl)
    · exact bz_t (ng_t c_9)

set_option maxHeartbeats 4000000 in
set_option maxRecDepth 100000 in
theorem c_X0_takeLessFromGreater (l : Launch) (D : va_G) (cZ cI cJ : ClassId) (o q r d lm co : Nat) (rh rl ch cl : Int64) (Rn Cn : Nat) (hR : wv rh rl = (Rn : Int)) (hC : wv ch cl = (Cn : Int)) : Cv l D cZ cI cJ yX0_takeLessFromGreater cX0_takeLessFromGreater 1 { frames := 2, cells := 0, slots := 0, locals := 44 } [.ref o] [(o, .inr (0, [.ref q, .ref r, .ref d, .ref lm, .ref co])), (r, .inr (2, [.long rh, .long rl])), (co, .inr (2, [.long ch, .long cl]))] (S := (Int64 × Int64) × (Int64 × Int64)) (fun u => wv u.1.1 u.1.2 = (((if Cn ≤ Rn then (Rn - Cn) / 2 else Rn) : Nat) : Int) ∧ wv u.2.1 u.2.2 = (((if Cn ≤ Rn then Cn else (Cn - Rn) / 2) : Nat) : Int)) (fun u => [(o, .inr (0, [.ref q, .ref r, .ref d, .ref lm, .ref co])), (r, .inr (2, [.long u.1.1, .long u.1.2])), (co, .inr (2, [.long u.2.1, .long u.2.2]))]) := by
  refine Cv.of (by decide) ?_
  intro p e s m args below meth c A Q hB hret hP hD hA
  obtain ⟨hx, hb, hr, hlocks, hml, hown, hnm, hTB, hK⟩ := hB
  have hown : s.vm.findClass RX0 = some m.cls := hown
  have hS : va_S A s.heap s.heap [] := va_S.rf
  have hl := lv_entry ([.ref o]) (n := 1) (Nat.le_of_ble_eq_true rfl)
  rw [lg_entry_eq]
  generalize (lg_sl ([.ref o]) ++ List.replicate (1 - (lg_sl ([.ref o])).length) Slot.unset).toArray = ls at hl ⊢
  have hl : lv_has ls 1 [(0, .ref o)] := hl
  refine lv_aload_n hx hb dX0_takeLessFromGreater_0 rfl (lv_at hl 0 rfl) ?_
  refine va_get (D := D) (ci := 0) (v := .ref co) (C := RX0) (T := TX0) (N := 5) hx hb hTB tb_X0 hown hK.1 hP 0 rfl rfl 4 (by decide) (hTB _ tb_3_8) (fun _ h9 => h9) rfl dX0_takeLessFromGreater_1 ?_
  refine lv_aload_n hx hb dX0_takeLessFromGreater_4 rfl (lv_at hl 0 rfl) ?_
  refine va_get (D := D) (ci := 0) (v := .ref r) (C := RX0) (T := TX0) (N := 5) hx hb hTB tb_X0 hown hK.1 hP 0 rfl rfl 1 (by decide) (hTB _ tb_3_5) (fun _ h9 => h9) rfl dX0_takeLessFromGreater_5 ?_
  refine vp_callSi (va_runV (As := [.ref r]) (rest := []) ⟨hx, hb, hml, hown, hTB⟩ (c_X2_compare l D cZ cI cJ co r ch cl rh rl) (cw_V hTB tb_9_22 tb_2_9 tb_11_15 tb_9_20 tb_9_21 nd_X2_compare rfl rfl ⟨Nat.le_of_ble_eq_true rfl, Nat.le_of_ble_eq_true rfl⟩) (prr_V (q0 := 2) hK hP [2, 1] rfl rfl rfl) rfl rfl hl.1 rfl (lv_room (Nat.le_of_ble_eq_true rfl)) dX0_takeLessFromGreater_8 ⟨Nat.le_of_ble_eq_true rfl, Nat.le_of_ble_eq_true rfl⟩).run (fun r8 hc8 => ?_)
  subst hc8
  refine lv_if_gt (tgt := 35) hx hb dX0_takeLessFromGreater_11 (by decide) (fun c_11 => ?_) (fun c_11 => ?_)
  · have c_11 := cm_gtt c_11
    refine lv_aload_n hx hb dX0_takeLessFromGreater_35 rfl (lv_at hl 0 rfl) ?_
    refine va_get (D := D) (ci := 0) (v := .ref co) (C := RX0) (T := TX0) (N := 5) hx hb hTB tb_X0 hown hK.1 hP 0 rfl rfl 4 (by decide) (hTB _ tb_3_8) (fun _ h9 => h9) rfl dX0_takeLessFromGreater_36 ?_
    refine lv_aload_n hx hb dX0_takeLessFromGreater_39 rfl (lv_at hl 0 rfl) ?_
    refine va_get (D := D) (ci := 0) (v := .ref r) (C := RX0) (T := TX0) (N := 5) hx hb hTB tb_X0 hown hK.1 hP 0 rfl rfl 1 (by decide) (hTB _ tb_3_5) (fun _ h9 => h9) rfl dX0_takeLessFromGreater_40 ?_
    refine fin_v (wr := [(o, .inr (0, [.ref q, .ref r, .ref d, .ref lm, .ref co]))]) (va_runV (As := [.ref r]) (rest := []) ⟨hx, hb, hml, hown, hTB⟩ (c_X2_subtract l D cZ cI cJ co r ch cl rh rl _) (cw_V hTB tb_11_19 tb_2_9 tb_11_16 tb_11_17 tb_11_18 nd_X2_subtract rfl rfl ⟨Nat.le_of_ble_eq_true rfl, Nat.le_of_ble_eq_true rfl⟩) (pre_V (q0 := 2) hK hP hD [2, 1] rfl rfl rfl rfl) rfl rfl hl.1 rfl (lv_room (Nat.le_of_ble_eq_true rfl)) dX0_takeLessFromGreater_43 ⟨Nat.le_of_ble_eq_true rfl, Nat.le_of_ble_eq_true rfl⟩) hP hD hS hA [2, 1] [0] rfl rfl rfl (by decide) (fun u43 H locs hc43 hP hD hS => ?_)
    obtain ⟨w43h, w43l⟩ := u43
    try dsimp only at hc43
    have hP : va_P D vwCl [(o, .inr (0, [.ref q, .ref r, .ref d, .ref lm, .ref co])), (co, .inr (2, [.long w43h, .long w43l])), (r, .inr (2, [.long rh, .long rl]))] H := hP
    have hD : va_D A [(o, .inr (0, [.ref q, .ref r, .ref d, .ref lm, .ref co])), (co, .inr (2, [.long w43h, .long w43l])), (r, .inr (2, [.long rh, .long rl]))] := hD
    refine lv_aload_n hx hb dX0_takeLessFromGreater_46 rfl (lv_at hl 0 rfl) ?_
    refine va_get (D := D) (ci := 0) (v := .ref co) (C := RX0) (T := TX0) (N := 5) hx hb hTB tb_X0 hown hK.1 hP 0 rfl rfl 4 (by decide) (hTB _ tb_3_8) (fun _ h9 => h9) rfl dX0_takeLessFromGreater_47 ?_
    refine fin_v (wr := [(o, .inr (0, [.ref q, .ref r, .ref d, .ref lm, .ref co])), (r, .inr (2, [.long rh, .long rl]))]) (va_runV (As := []) (rest := []) ⟨hx, hb, hml, hown, hTB⟩ (c_X2_half l D cZ cI cJ co w43h w43l _) (cw_V hTB tb_11_10 tb_2_9 tb_11_7 tb_11_8 tb_11_9 nd_X2_half rfl rfl ⟨Nat.le_of_ble_eq_true rfl, Nat.le_of_ble_eq_true rfl⟩) (pre_V (q0 := 1) hK hP hD [1] rfl rfl rfl rfl) rfl rfl hl.1 rfl (lv_room (Nat.le_of_ble_eq_true rfl)) dX0_takeLessFromGreater_50 ⟨Nat.le_of_ble_eq_true rfl, Nat.le_of_ble_eq_true rfl⟩) hP hD hS hA [1] [0, 2] rfl rfl rfl (by decide) (fun u50 H locs hc50 hP hD hS => ?_)
    obtain ⟨w50h, w50l⟩ := u50
    try dsimp only at hc50
    have hP : va_P D vwCl [(o, .inr (0, [.ref q, .ref r, .ref d, .ref lm, .ref co])), (r, .inr (2, [.long rh, .long rl])), (co, .inr (2, [.long w50h, .long w50l]))] H := hP
    have hD : va_D A [(o, .inr (0, [.ref q, .ref r, .ref d, .ref lm, .ref co])), (r, .inr (2, [.long rh, .long rl])), (co, .inr (2, [.long w50h, .long w50l]))] := hD
    exact hret hP hD hS ((rh, rl), (w50h, w50l)) (by have i1 := wv_in rh rl; have i2 := wv_in ch cl; unfold In at i1 i2; rw [hR, hC] at c_11; rw [hR] at hc43; rw [hC] at hc43; refine ⟨by rw [if_neg (by omega)]; exact hR, ?_⟩; dsimp only; rw [hc50, hc43 (by unfold In; omega), if_neg (by omega)]; omega) [0, 1, 2] rfl (by decide) dX0_takeLessFromGreater_53 (Nat.le_of_ble_eq_true rfl) (Nat.le_of_ble_eq_true rfl)
  · have c_11 := cm_gtf c_11
    refine lv_aload_n hx hb dX0_takeLessFromGreater_14 rfl (lv_at hl 0 rfl) ?_
    refine va_get (D := D) (ci := 0) (v := .ref r) (C := RX0) (T := TX0) (N := 5) hx hb hTB tb_X0 hown hK.1 hP 0 rfl rfl 1 (by decide) (hTB _ tb_3_5) (fun _ h9 => h9) rfl dX0_takeLessFromGreater_15 ?_
    refine lv_aload_n hx hb dX0_takeLessFromGreater_18 rfl (lv_at hl 0 rfl) ?_
    refine va_get (D := D) (ci := 0) (v := .ref co) (C := RX0) (T := TX0) (N := 5) hx hb hTB tb_X0 hown hK.1 hP 0 rfl rfl 4 (by decide) (hTB _ tb_3_8) (fun _ h9 => h9) rfl dX0_takeLessFromGreater_19 ?_
    refine fin_v (wr := [(o, .inr (0, [.ref q, .ref r, .ref d, .ref lm, .ref co]))]) (va_runV (As := [.ref co]) (rest := []) ⟨hx, hb, hml, hown, hTB⟩ (c_X2_subtract l D cZ cI cJ r co rh rl ch cl _) (cw_V hTB tb_11_19 tb_2_9 tb_11_16 tb_11_17 tb_11_18 nd_X2_subtract rfl rfl ⟨Nat.le_of_ble_eq_true rfl, Nat.le_of_ble_eq_true rfl⟩) (pre_V (q0 := 1) hK hP hD [1, 2] rfl rfl rfl rfl) rfl rfl hl.1 rfl (lv_room (Nat.le_of_ble_eq_true rfl)) dX0_takeLessFromGreater_22 ⟨Nat.le_of_ble_eq_true rfl, Nat.le_of_ble_eq_true rfl⟩) hP hD hS hA [1, 2] [0] rfl rfl rfl (by decide) (fun u22 H locs hc22 hP hD hS => ?_)
    obtain ⟨w22h, w22l⟩ := u22
    try dsimp only at hc22
    have hP : va_P D vwCl [(o, .inr (0, [.ref q, .ref r, .ref d, .ref lm, .ref co])), (r, .inr (2, [.long w22h, .long w22l])), (co, .inr (2, [.long ch, .long cl]))] H := hP
    have hD : va_D A [(o, .inr (0, [.ref q, .ref r, .ref d, .ref lm, .ref co])), (r, .inr (2, [.long w22h, .long w22l])), (co, .inr (2, [.long ch, .long cl]))] := hD
    refine lv_aload_n hx hb dX0_takeLessFromGreater_25 rfl (lv_at hl 0 rfl) ?_
    refine va_get (D := D) (ci := 0) (v := .ref r) (C := RX0) (T := TX0) (N := 5) hx hb hTB tb_X0 hown hK.1 hP 0 rfl rfl 1 (by decide) (hTB _ tb_3_5) (fun _ h9 => h9) rfl dX0_takeLessFromGreater_26 ?_
    refine fin_v (wr := [(o, .inr (0, [.ref q, .ref r, .ref d, .ref lm, .ref co])), (co, .inr (2, [.long ch, .long cl]))]) (va_runV (As := []) (rest := []) ⟨hx, hb, hml, hown, hTB⟩ (c_X2_half l D cZ cI cJ r w22h w22l _) (cw_V hTB tb_11_10 tb_2_9 tb_11_7 tb_11_8 tb_11_9 nd_X2_half rfl rfl ⟨Nat.le_of_ble_eq_true rfl, Nat.le_of_ble_eq_true rfl⟩) (pre_V (q0 := 1) hK hP hD [1] rfl rfl rfl rfl) rfl rfl hl.1 rfl (lv_room (Nat.le_of_ble_eq_true rfl)) dX0_takeLessFromGreater_29 ⟨Nat.le_of_ble_eq_true rfl, Nat.le_of_ble_eq_true rfl⟩) hP hD hS hA [1] [0, 2] rfl rfl rfl (by decide) (fun u29 H locs hc29 hP hD hS => ?_)
    obtain ⟨w29h, w29l⟩ := u29
    try dsimp only at hc29
    have hP : va_P D vwCl [(o, .inr (0, [.ref q, .ref r, .ref d, .ref lm, .ref co])), (co, .inr (2, [.long ch, .long cl])), (r, .inr (2, [.long w29h, .long w29l]))] H := hP
    have hD : va_D A [(o, .inr (0, [.ref q, .ref r, .ref d, .ref lm, .ref co])), (co, .inr (2, [.long ch, .long cl])), (r, .inr (2, [.long w29h, .long w29l]))] := hD
    refine lv_goto (tgt := 53) hx hb dX0_takeLessFromGreater_32 (by decide) ?_
    exact hret hP hD hS ((w29h, w29l), (ch, cl)) (by have i1 := wv_in rh rl; have i2 := wv_in ch cl; unfold In at i1 i2; rw [hR, hC] at c_11; rw [hR] at hc22; rw [hC] at hc22; refine ⟨?_, by rw [if_pos (by omega)]; exact hC⟩; dsimp only; rw [hc29, hc22 (by unfold In; omega), if_pos (by omega)]; omega) [0, 2, 1] rfl (by decide) dX0_takeLessFromGreater_53 (Nat.le_of_ble_eq_true rfl) (Nat.le_of_ble_eq_true rfl)

set_option maxHeartbeats 4000000 in
set_option maxRecDepth 100000 in
theorem c_X0_findCommon (l : Launch) (D : va_G) (cZ cI cJ : ClassId) (o q r d lm co up lw : Nat) (rh rl ch cl uh ul vh vl : Int64) (Ln : Nat) (hL : wv vh vl = (Ln : Int)) (hL0 : 0 < Ln) (hA1 : (wv uh ul).natAbs < 170141183460469231731687303715884105728) : Cv l D cZ cI cJ yX0_findCommon cX0_findCommon 5 { frames := 3, cells := 0, slots := 0, locals := 64 } [.ref o, .ref up, .ref lw] [(o, .inr (0, [.ref q, .ref r, .ref d, .ref lm, .ref co])), (r, .inr (2, [.long rh, .long rl])), (co, .inr (2, [.long ch, .long cl])), (up, .inr (2, [.long uh, .long ul])), (lw, .inr (2, [.long vh, .long vl]))] (S := (Int64 × Int64) × (Int64 × Int64)) (fun u => wv u.2.1 u.2.2 = ((Nat.gcd ((wv uh ul).natAbs) Ln : Nat) : Int)) (fun u => [(o, .inr (0, [.ref q, .ref r, .ref d, .ref lm, .ref co])), (r, .inr (2, [.long u.1.1, .long u.1.2])), (co, .inr (2, [.long u.2.1, .long u.2.2])), (up, .inr (2, [.long uh, .long ul])), (lw, .inr (2, [.long vh, .long vl]))]) := by
  refine Cv.of (by decide) ?_
  intro p e s m args below meth c A Q hB hret hP hD hA
  obtain ⟨hx, hb, hr, hlocks, hml, hown, hnm, hTB, hK⟩ := hB
  have hown : s.vm.findClass RX0 = some m.cls := hown
  have hS : va_S A s.heap s.heap [] := va_S.rf
  have hl := lv_entry ([.ref o, .ref up, .ref lw]) (n := 5) (Nat.le_of_ble_eq_true rfl)
  rw [lg_entry_eq]
  generalize (lg_sl ([.ref o, .ref up, .ref lw]) ++ List.replicate (5 - (lg_sl ([.ref o, .ref up, .ref lw])).length) Slot.unset).toArray = ls at hl ⊢
  have hl : lv_has ls 5 [(0, .ref o), (1, .ref up), (2, .ref lw)] := hl
  refine lv_aload_n hx hb dX0_findCommon_0 rfl (lv_at hl 0 rfl) ?_
  refine va_get (D := D) (ci := 0) (v := .ref r) (C := RX0) (T := TX0) (N := 5) hx hb hTB tb_X0 hown hK.1 hP 0 rfl rfl 1 (by decide) (hTB _ tb_3_5) (fun _ h9 => h9) rfl dX0_findCommon_1 ?_
  refine lv_aload_n hx hb dX0_findCommon_4 rfl (lv_at hl 1 rfl) ?_
  refine fin_v (wr := [(o, .inr (0, [.ref q, .ref r, .ref d, .ref lm, .ref co])), (co, .inr (2, [.long ch, .long cl])), (lw, .inr (2, [.long vh, .long vl]))]) (va_runV (As := [.ref up]) (rest := []) ⟨hx, hb, hml, hown, hTB⟩ (c_X2_copyAmount l D cZ cI cJ r up rh rl uh ul _) (cw_V hTB tb_10_22 tb_2_9 tb_10_19 tb_10_20 tb_10_21 nd_X2_copyAmount rfl rfl ⟨Nat.le_of_ble_eq_true rfl, Nat.le_of_ble_eq_true rfl⟩) (pre_V (q0 := 1) hK hP hD [1, 3] rfl rfl rfl rfl) rfl rfl hl.1 rfl (lv_room (Nat.le_of_ble_eq_true rfl)) dX0_findCommon_5 ⟨Nat.le_of_ble_eq_true rfl, Nat.le_of_ble_eq_true rfl⟩) hP hD hS hA [1, 3] [0, 2, 4] rfl rfl rfl (by decide) (fun u5 H locs hc5 hP hD hS => ?_)
  obtain ⟨w5h, w5l⟩ := u5
  try dsimp only at hc5
  have hP : va_P D vwCl [(o, .inr (0, [.ref q, .ref r, .ref d, .ref lm, .ref co])), (co, .inr (2, [.long ch, .long cl])), (lw, .inr (2, [.long vh, .long vl])), (r, .inr (2, [.long w5h, .long w5l])), (up, .inr (2, [.long uh, .long ul]))] H := hP
  have hD : va_D A [(o, .inr (0, [.ref q, .ref r, .ref d, .ref lm, .ref co])), (co, .inr (2, [.long ch, .long cl])), (lw, .inr (2, [.long vh, .long vl])), (r, .inr (2, [.long w5h, .long w5l])), (up, .inr (2, [.long uh, .long ul]))] := hD
  refine lv_aload_n hx hb dX0_findCommon_8 rfl (lv_at hl 0 rfl) ?_
  refine va_get (D := D) (ci := 0) (v := .ref co) (C := RX0) (T := TX0) (N := 5) hx hb hTB tb_X0 hown hK.1 hP 0 rfl rfl 4 (by decide) (hTB _ tb_3_8) (fun _ h9 => h9) rfl dX0_findCommon_9 ?_
  refine lv_aload_n hx hb dX0_findCommon_12 rfl (lv_at hl 2 rfl) ?_
  refine fin_v (wr := [(o, .inr (0, [.ref q, .ref r, .ref d, .ref lm, .ref co])), (r, .inr (2, [.long w5h, .long w5l])), (up, .inr (2, [.long uh, .long ul]))]) (va_runV (As := [.ref lw]) (rest := []) ⟨hx, hb, hml, hown, hTB⟩ (c_X2_copy l D cZ cI cJ co lw ch cl vh vl _) (cw_V hTB tb_10_10 tb_2_9 tb_11_1 tb_10_8 tb_10_9 nd_X2_copy rfl rfl ⟨Nat.le_of_ble_eq_true rfl, Nat.le_of_ble_eq_true rfl⟩) (pre_V (q0 := 1) hK hP hD [1, 2] rfl rfl rfl rfl) rfl rfl hl.1 rfl (lv_room (Nat.le_of_ble_eq_true rfl)) dX0_findCommon_13 ⟨Nat.le_of_ble_eq_true rfl, Nat.le_of_ble_eq_true rfl⟩) hP hD hS hA [1, 2] [0, 3, 4] rfl rfl rfl (by decide) (fun u13 H locs hc13 hP hD hS => ?_)
  obtain ⟨w13h, w13l⟩ := u13
  try dsimp only at hc13
  have hP : va_P D vwCl [(o, .inr (0, [.ref q, .ref r, .ref d, .ref lm, .ref co])), (r, .inr (2, [.long w5h, .long w5l])), (up, .inr (2, [.long uh, .long ul])), (co, .inr (2, [.long w13h, .long w13l])), (lw, .inr (2, [.long vh, .long vl]))] H := hP
  have hD : va_D A [(o, .inr (0, [.ref q, .ref r, .ref d, .ref lm, .ref co])), (r, .inr (2, [.long w5h, .long w5l])), (up, .inr (2, [.long uh, .long ul])), (co, .inr (2, [.long w13h, .long w13l])), (lw, .inr (2, [.long vh, .long vl]))] := hD
  refine lv_iconst (v := 0) hx hb dX0_findCommon_16 (by decide) ?_
  refine lv_istore_n (lv' := [(3, .int 0), (0, .ref o), (1, .ref up), (2, .ref lw)]) hx hb dX0_findCommon_17 rfl hl (by decide) rfl (fun ls hl => ?_)
  refine lv_iconst (v := 0) hx hb dX0_findCommon_18 (by decide) ?_
  refine lv_istore (lv' := [(4, .int 0), (3, .int 0), (0, .ref o), (1, .ref up), (2, .ref lw)]) hx hb dX0_findCommon_19 hl (by decide) rfl (fun ls hl => ?_)
  have L21 : ∀ (n21 : Nat) (k t a b R C : Nat) (rh2 rl2 ch2 cl2 : Int64), (254 < k + n21 ∧ k + (a + b) ≤ 254 ∧ t ≤ k) → (R < 2 ^ a) → (0 < C) → (C < 2 ^ b) → (Nat.gcd R C * 2 ^ t = Nat.gcd ((wv uh ul).natAbs) Ln) → (wv rh2 rl2 = (R : Int)) → (wv ch2 cl2 = (C : Int)) → ∀ (H : Heap) (locs : List Loc), va_P D vwCl [(o, .inr (0, [.ref q, .ref r, .ref d, .ref lm, .ref co])), (r, .inr (2, [.long rh2, .long rl2])), (co, .inr (2, [.long ch2, .long cl2])), (up, .inr (2, [.long uh, .long ul])), (lw, .inr (2, [.long vh, .long vl]))] H → va_D A [(o, .inr (0, [.ref q, .ref r, .ref d, .ref lm, .ref co])), (r, .inr (2, [.long rh2, .long rl2])), (co, .inr (2, [.long ch2, .long cl2])), (up, .inr (2, [.long uh, .long ul])), (lw, .inr (2, [.long vh, .long vl]))] → va_S A s.heap H locs → ∀ (ls : Array Slot), lv_has ls 5 [(0, .ref o), (1, .ref up), (2, .ref lw), (3, .int (nI t)), (4, .int (nI k))] → W p l e { frames := 3, cells := 0, slots := 0, locals := 64 } s m args below meth c H locs 0 0 Q (F0 m 21 ls []) := by
    intro n21
    induction n21 with
    | zero =>
      intro k t a b R C rh2 rl2 ch2 cl2 f1 f2 f3 f4 f5 f6 f7
      exfalso; omega
    | succ n21 ih21 =>
      intro k t a b R C rh2 rl2 ch2 cl2 f1 f2 f3 f4 f5 f6 f7 H locs hP hD hS ls hl
      refine lv_iload hx hb dX0_findCommon_21 (lv_at hl 4 rfl) ?_
      refine lv_sipush (v := 254) hx hb dX0_findCommon_23 (by decide) ?_
      refine lv_icmp_ge (tgt := 109) hx hb dX0_findCommon_26 (by decide) (fun c_26 => ?_) (fun c_26 => ?_)
      · exfalso
        have := (nI_leI (a := 254) (b := k) (by omega) (by omega)).mp c_26
        have ha : a = 0 := by omega
        have hb9 : b = 0 := by omega
        subst ha; subst hb9; rw [Nat.pow_zero] at f4; omega
      · refine lv_aload_n hx hb dX0_findCommon_29 rfl (lv_at hl 0 rfl) ?_
        refine va_get (D := D) (ci := 0) (v := .ref r) (C := RX0) (T := TX0) (N := 5) hx hb hTB tb_X0 hown hK.1 hP 0 rfl rfl 1 (by decide) (hTB _ tb_3_5) (fun _ h9 => h9) rfl dX0_findCommon_30 ?_
        refine vp_callSi (va_runV (As := []) (rest := []) ⟨hx, hb, hml, hown, hTB⟩ (c_X2_sign l D cZ cI cJ r rh2 rl2) (cw_V hTB tb_5_23 tb_2_9 tb_11_2 tb_5_21 tb_5_22 nd_X2_sign rfl rfl ⟨Nat.le_of_ble_eq_true rfl, Nat.le_of_ble_eq_true rfl⟩) (prr_V (q0 := 1) hK hP [1] rfl rfl rfl) rfl rfl hl.1 rfl (lv_room (Nat.le_of_ble_eq_true rfl)) dX0_findCommon_33 ⟨Nat.le_of_ble_eq_true rfl, Nat.le_of_ble_eq_true rfl⟩).run (fun r33 hc33 => ?_)
        subst hc33
        refine lv_if_eq (tgt := 109) hx hb dX0_findCommon_36 (by decide) (fun c_36 => ?_) (fun c_36 => ?_)
        · have c_36 := sg_eqt c_36
          have f8 : C * 2 ^ t = Nat.gcd ((wv uh ul).natAbs) Ln := by
            rw [f6] at c_36
            have : R = 0 := by omega
            subst this; rw [Nat.gcd_zero_left] at f5; exact f5
          refine lv_iconst (v := 0) hx hb dX0_findCommon_109 (by decide) ?_
          refine lv_istore (lv' := [(4, .int 0), (0, .ref o), (1, .ref up), (2, .ref lw), (3, .int (nI t))]) hx hb dX0_findCommon_110 hl (by decide) rfl (fun ls hl => ?_)
          have L112 : ∀ (n112 : Nat) (j : Nat) (ch3 cl3 : Int64), (t < j + n112 ∧ j ≤ t) → (wv ch3 cl3 = ((C * 2 ^ j : Nat) : Int)) → ∀ (H : Heap) (locs : List Loc), va_P D vwCl [(o, .inr (0, [.ref q, .ref r, .ref d, .ref lm, .ref co])), (r, .inr (2, [.long rh2, .long rl2])), (co, .inr (2, [.long ch3, .long cl3])), (up, .inr (2, [.long uh, .long ul])), (lw, .inr (2, [.long vh, .long vl]))] H → va_D A [(o, .inr (0, [.ref q, .ref r, .ref d, .ref lm, .ref co])), (r, .inr (2, [.long rh2, .long rl2])), (co, .inr (2, [.long ch3, .long cl3])), (up, .inr (2, [.long uh, .long ul])), (lw, .inr (2, [.long vh, .long vl]))] → va_S A s.heap H locs → ∀ (ls : Array Slot), lv_has ls 5 [(0, .ref o), (1, .ref up), (2, .ref lw), (3, .int (nI t)), (4, .int (nI j))] → W p l e { frames := 3, cells := 0, slots := 0, locals := 64 } s m args below meth c H locs 0 0 Q (F0 m 112 ls []) := by
            intro n112
            induction n112 with
            | zero =>
              intro j ch3 cl3 y1 y2
              exfalso; omega
            | succ n112 ih112 =>
              intro j ch3 cl3 y1 y2 H locs hP hD hS ls hl
              refine lv_iload hx hb dX0_findCommon_112 (lv_at hl 4 rfl) ?_
              refine lv_iload_n hx hb dX0_findCommon_114 rfl (lv_at hl 3 rfl) ?_
              refine lv_icmp_ge (tgt := 131) hx hb dX0_findCommon_115 (by decide) (fun c_115 => ?_) (fun c_115 => ?_)
              · exact hret hP hD hS ((rh2, rl2), (ch3, cl3)) (by have := (nI_leI (a := t) (b := j) (by omega) (by omega)).mp c_115; have e : j = t := (by omega); subst e; rw [← f8]; exact y2) [0, 1, 2, 3, 4] rfl (by decide) dX0_findCommon_131 (Nat.le_of_ble_eq_true rfl) (Nat.le_of_ble_eq_true rfl)
              · refine lv_aload_n hx hb dX0_findCommon_118 rfl (lv_at hl 0 rfl) ?_
                refine va_get (D := D) (ci := 0) (v := .ref co) (C := RX0) (T := TX0) (N := 5) hx hb hTB tb_X0 hown hK.1 hP 0 rfl rfl 4 (by decide) (hTB _ tb_3_8) (fun _ h9 => h9) rfl dX0_findCommon_119 ?_
                refine fin_v (wr := [(o, .inr (0, [.ref q, .ref r, .ref d, .ref lm, .ref co])), (r, .inr (2, [.long rh2, .long rl2])), (up, .inr (2, [.long uh, .long ul])), (lw, .inr (2, [.long vh, .long vl]))]) (va_runV (As := []) (rest := []) ⟨hx, hb, hml, hown, hTB⟩ (c_X2_twice l D cZ cI cJ co ch3 cl3 _) (cw_V hTB tb_11_23 tb_2_9 tb_11_20 tb_11_21 tb_11_22 nd_X2_twice rfl rfl ⟨Nat.le_of_ble_eq_true rfl, Nat.le_of_ble_eq_true rfl⟩) (pre_V (q0 := 2) hK hP hD [2] rfl rfl rfl rfl) rfl rfl hl.1 rfl (lv_room (Nat.le_of_ble_eq_true rfl)) dX0_findCommon_122 ⟨Nat.le_of_ble_eq_true rfl, Nat.le_of_ble_eq_true rfl⟩) hP hD hS hA [2] [0, 1, 3, 4] rfl rfl rfl (by decide) (fun u122 H locs hc122 hP hD hS => ?_)
                obtain ⟨w122h, w122l⟩ := u122
                try dsimp only at hc122
                have hP : va_P D vwCl [(o, .inr (0, [.ref q, .ref r, .ref d, .ref lm, .ref co])), (r, .inr (2, [.long rh2, .long rl2])), (up, .inr (2, [.long uh, .long ul])), (lw, .inr (2, [.long vh, .long vl])), (co, .inr (2, [.long w122h, .long w122l]))] H := hP
                have hD : va_D A [(o, .inr (0, [.ref q, .ref r, .ref d, .ref lm, .ref co])), (r, .inr (2, [.long rh2, .long rl2])), (up, .inr (2, [.long uh, .long ul])), (lw, .inr (2, [.long vh, .long vl])), (co, .inr (2, [.long w122h, .long w122l]))] := hD
                obtain ⟨i4_1, ei4_1⟩ : ∃ y : Int32, y = (nI j) + 1 := ⟨_, rfl⟩
                refine lv_iinc (v := i4_1) (lv' := [(4, .int i4_1), (0, .ref o), (1, .ref up), (2, .ref lw), (3, .int (nI t))]) hx hb dX0_findCommon_125 hl (k := 4) rfl (by rw [ei4_1]; rfl) (by decide) rfl (fun ls hl => ?_)
                refine lv_goto (tgt := 112) hx hb dX0_findCommon_128 (by decide) ?_
                have q9 : i4_1 = nI (j + 1) := by rw [ei4_1]; exact nI_1 j
                subst q9
                refine ih112 (j + 1) w122h w122l ?_ ?_ _ _ (hP.sub [0, 1, 4, 2, 3] rfl) (hD.sub [0, 1, 4, 2, 3] (by decide) rfl) hS _ (lv_sub hl [1, 2, 3, 4, 0] rfl)
                · have : ¬ t ≤ j := fun q => c_115 ((nI_leI (by omega) (by omega)).mpr q)
                  omega
                · rw [hc122 (by
                    have : ¬ t ≤ j := fun q => c_115 ((nI_leI (by omega) (by omega)).mpr q)
                    have h1 : C * 2 ^ (j + 1) ≤ C * 2 ^ t := Nat.mul_le_mul_left C (Nat.pow_le_pow_right (by decide) (by omega))
                    have h2 := pw_s C j
                    have h3 := Nat.gcd_le_right ((wv uh ul).natAbs) hL0
                    have h4 := wv_in vh vl
                    rw [f8] at h1
                    rw [y2]; unfold In at h4 ⊢; omega), y2, pw_s]; omega
          refine L112 (t + 1) 0 ch2 cl2 ?_ ?_ _ _ hP hD hS _ (lv_sub hl [1, 2, 3, 4, 0] rfl)
          · omega
          · rw [Nat.pow_zero, Nat.mul_one]; exact f7
        · have c_36 := sg_eqf c_36
          refine lv_aload_n hx hb dX0_findCommon_39 rfl (lv_at hl 0 rfl) ?_
          refine va_get (D := D) (ci := 0) (v := .ref r) (C := RX0) (T := TX0) (N := 5) hx hb hTB tb_X0 hown hK.1 hP 0 rfl rfl 1 (by decide) (hTB _ tb_3_5) (fun _ h9 => h9) rfl dX0_findCommon_40 ?_
          refine vp_callSi (va_runV (As := []) (rest := []) ⟨hx, hb, hml, hown, hTB⟩ (c_X2_isOdd l D cZ cI cJ r rh2 rl2) (cw_V hTB tb_11_6 tb_2_9 tb_11_3 tb_11_4 tb_11_5 nd_X2_isOdd rfl rfl ⟨Nat.le_of_ble_eq_true rfl, Nat.le_of_ble_eq_true rfl⟩) (prr_V (q0 := 1) hK hP [1] rfl rfl rfl) rfl rfl hl.1 rfl (lv_room (Nat.le_of_ble_eq_true rfl)) dX0_findCommon_43 ⟨Nat.le_of_ble_eq_true rfl, Nat.le_of_ble_eq_true rfl⟩).run (fun r43 hc43 => ?_)
          subst hc43
          refine lv_if_ne (tgt := 79) hx hb dX0_findCommon_46 (by decide) (fun c_46 => ?_) (fun c_46 => ?_)
          · have c_46 := bz_1 c_46
            refine lv_aload_n hx hb dX0_findCommon_79 rfl (lv_at hl 0 rfl) ?_
            refine va_get (D := D) (ci := 0) (v := .ref co) (C := RX0) (T := TX0) (N := 5) hx hb hTB tb_X0 hown hK.1 hP 0 rfl rfl 4 (by decide) (hTB _ tb_3_8) (fun _ h9 => h9) rfl dX0_findCommon_80 ?_
            refine vp_callSi (va_runV (As := []) (rest := []) ⟨hx, hb, hml, hown, hTB⟩ (c_X2_isOdd l D cZ cI cJ co ch2 cl2) (cw_V hTB tb_11_6 tb_2_9 tb_11_3 tb_11_4 tb_11_5 nd_X2_isOdd rfl rfl ⟨Nat.le_of_ble_eq_true rfl, Nat.le_of_ble_eq_true rfl⟩) (prr_V (q0 := 2) hK hP [2] rfl rfl rfl) rfl rfl hl.1 rfl (lv_room (Nat.le_of_ble_eq_true rfl)) dX0_findCommon_83 ⟨Nat.le_of_ble_eq_true rfl, Nat.le_of_ble_eq_true rfl⟩).run (fun r83 hc83 => ?_)
            subst hc83
            refine lv_if_ne (tgt := 99) hx hb dX0_findCommon_86 (by decide) (fun c_86 => ?_) (fun c_86 => ?_)
            · have c_86 := bz_1 c_86
              refine lv_aload_n hx hb dX0_findCommon_99 rfl (lv_at hl 0 rfl) ?_
              refine fin_v (wr := [(up, .inr (2, [.long uh, .long ul])), (lw, .inr (2, [.long vh, .long vl]))]) (va_runV (As := []) (rest := []) ⟨hx, hb, hml, hown, hTB⟩ (c_X0_takeLessFromGreater l D cZ cI cJ o q r d lm co rh2 rl2 ch2 cl2 R C f6 f7 _) (cw_V hTB tb_11_14 tb_2_5 tb_11_11 tb_11_12 tb_11_13 nd_X0_takeLessFromGreater rfl rfl ⟨Nat.le_of_ble_eq_true rfl, Nat.le_of_ble_eq_true rfl⟩) (pre_V (q0 := 0) hK hP hD [0, 1, 2] rfl rfl rfl rfl) rfl rfl hl.1 rfl (lv_room (Nat.le_of_ble_eq_true rfl)) dX0_findCommon_100 ⟨Nat.le_of_ble_eq_true rfl, Nat.le_of_ble_eq_true rfl⟩) hP hD hS hA [0, 1, 2] [3, 4] rfl rfl rfl (by decide) (fun u100 H locs hc100 hP hD hS => ?_)
              obtain ⟨⟨r3h, r3l⟩, c3h, c3l⟩ := u100
              dsimp only at hc100
              have hP : va_P D vwCl [(up, .inr (2, [.long uh, .long ul])), (lw, .inr (2, [.long vh, .long vl])), (o, .inr (0, [.ref q, .ref r, .ref d, .ref lm, .ref co])), (r, .inr (2, [.long r3h, .long r3l])), (co, .inr (2, [.long c3h, .long c3l]))] H := hP
              have hD : va_D A [(up, .inr (2, [.long uh, .long ul])), (lw, .inr (2, [.long vh, .long vl])), (o, .inr (0, [.ref q, .ref r, .ref d, .ref lm, .ref co])), (r, .inr (2, [.long r3h, .long r3l])), (co, .inr (2, [.long c3h, .long c3l]))] := hD
              obtain ⟨i4_2, ei4_2⟩ : ∃ y : Int32, y = (nI k) + 1 := ⟨_, rfl⟩
              refine lv_iinc (v := i4_2) (lv' := [(4, .int i4_2), (0, .ref o), (1, .ref up), (2, .ref lw), (3, .int (nI t))]) hx hb dX0_findCommon_103 hl (k := 4) rfl (by rw [ei4_2]; rfl) (by decide) rfl (fun ls hl => ?_)
              refine lv_goto (tgt := 21) hx hb dX0_findCommon_106 (by decide) ?_
              have q9 : i4_2 = nI (k + 1) := by rw [ei4_2]; exact nI_1 k
              subst q9
              refine ih21 (k + 1) t (if C ≤ R then a - 1 else a) (if C ≤ R then b else b - 1) (if C ≤ R then (R - C) / 2 else R) (if C ≤ R then C else (C - R) / 2) r3h r3l c3h c3l ?_ ?_ ?_ ?_ ?_ ?_ ?_ _ _ (hP.sub [2, 3, 4, 0, 1] rfl) (hD.sub [2, 3, 4, 0, 1] (by decide) rfl) hS _ (lv_sub hl [1, 2, 3, 4, 0] rfl)
              · have hk : k < 254 := by have := (nI_leI (a := 254) (b := k) (by omega) (by omega)).mpr; exact Nat.not_le.mp (fun q => c_26 (this q))
                rw [f6] at c_36 c_46
                rw [f7] at c_86
                by_cases h : C ≤ R
                · rw [if_pos h, if_pos h]; have := pw_half0 f2 (by omega); omega
                · rw [if_neg h, if_neg h]; have := pw_half0 f4 f3; omega
              · have hk : k < 254 := by have := (nI_leI (a := 254) (b := k) (by omega) (by omega)).mpr; exact Nat.not_le.mp (fun q => c_26 (this q))
                rw [f6] at c_36 c_46
                rw [f7] at c_86
                by_cases h : C ≤ R
                · rw [if_pos h, if_pos h]; have := (pw_half0 f2 (by omega)).1; omega
                · rw [if_neg h, if_neg h]; exact f2
              · have hk : k < 254 := by have := (nI_leI (a := 254) (b := k) (by omega) (by omega)).mpr; exact Nat.not_le.mp (fun q => c_26 (this q))
                rw [f6] at c_36 c_46
                rw [f7] at c_86
                by_cases h : C ≤ R
                · rw [if_pos h]; exact f3
                · rw [if_neg h]; omega
              · have hk : k < 254 := by have := (nI_leI (a := 254) (b := k) (by omega) (by omega)).mpr; exact Nat.not_le.mp (fun q => c_26 (this q))
                rw [f6] at c_36 c_46
                rw [f7] at c_86
                by_cases h : C ≤ R
                · rw [if_pos h, if_pos h]; exact f4
                · rw [if_neg h, if_neg h]; have := (pw_half0 f4 f3).1; omega
              · have hk : k < 254 := by have := (nI_leI (a := 254) (b := k) (by omega) (by omega)).mpr; exact Nat.not_le.mp (fun q => c_26 (this q))
                rw [f6] at c_36 c_46
                rw [f7] at c_86
                by_cases h : C ≤ R
                · rw [if_pos h, if_pos h, g_oo1 (by omega) (by omega) h]; exact f5
                · rw [if_neg h, if_neg h, g_oo2 (by omega) (by omega) (by omega)]; exact f5
              · exact hc100.1
              · exact hc100.2
            · have c_86 := bz_0 c_86
              refine lv_aload_n hx hb dX0_findCommon_89 rfl (lv_at hl 0 rfl) ?_
              refine va_get (D := D) (ci := 0) (v := .ref co) (C := RX0) (T := TX0) (N := 5) hx hb hTB tb_X0 hown hK.1 hP 0 rfl rfl 4 (by decide) (hTB _ tb_3_8) (fun _ h9 => h9) rfl dX0_findCommon_90 ?_
              refine fin_v (wr := [(o, .inr (0, [.ref q, .ref r, .ref d, .ref lm, .ref co])), (r, .inr (2, [.long rh2, .long rl2])), (up, .inr (2, [.long uh, .long ul])), (lw, .inr (2, [.long vh, .long vl]))]) (va_runV (As := []) (rest := []) ⟨hx, hb, hml, hown, hTB⟩ (c_X2_half l D cZ cI cJ co ch2 cl2 _) (cw_V hTB tb_11_10 tb_2_9 tb_11_7 tb_11_8 tb_11_9 nd_X2_half rfl rfl ⟨Nat.le_of_ble_eq_true rfl, Nat.le_of_ble_eq_true rfl⟩) (pre_V (q0 := 2) hK hP hD [2] rfl rfl rfl rfl) rfl rfl hl.1 rfl (lv_room (Nat.le_of_ble_eq_true rfl)) dX0_findCommon_93 ⟨Nat.le_of_ble_eq_true rfl, Nat.le_of_ble_eq_true rfl⟩) hP hD hS hA [2] [0, 1, 3, 4] rfl rfl rfl (by decide) (fun u93 H locs hc93 hP hD hS => ?_)
              obtain ⟨w93h, w93l⟩ := u93
              try dsimp only at hc93
              have hP : va_P D vwCl [(o, .inr (0, [.ref q, .ref r, .ref d, .ref lm, .ref co])), (r, .inr (2, [.long rh2, .long rl2])), (up, .inr (2, [.long uh, .long ul])), (lw, .inr (2, [.long vh, .long vl])), (co, .inr (2, [.long w93h, .long w93l]))] H := hP
              have hD : va_D A [(o, .inr (0, [.ref q, .ref r, .ref d, .ref lm, .ref co])), (r, .inr (2, [.long rh2, .long rl2])), (up, .inr (2, [.long uh, .long ul])), (lw, .inr (2, [.long vh, .long vl])), (co, .inr (2, [.long w93h, .long w93l]))] := hD
              refine lv_goto (tgt := 103) hx hb dX0_findCommon_96 (by decide) ?_
              obtain ⟨i4_3, ei4_3⟩ : ∃ y : Int32, y = (nI k) + 1 := ⟨_, rfl⟩
              refine lv_iinc (v := i4_3) (lv' := [(4, .int i4_3), (0, .ref o), (1, .ref up), (2, .ref lw), (3, .int (nI t))]) hx hb dX0_findCommon_103 hl (k := 4) rfl (by rw [ei4_3]; rfl) (by decide) rfl (fun ls hl => ?_)
              refine lv_goto (tgt := 21) hx hb dX0_findCommon_106 (by decide) ?_
              have q9 : i4_3 = nI (k + 1) := by rw [ei4_3]; exact nI_1 k
              subst q9
              refine ih21 (k + 1) t a (b - 1) R (C / 2) rh2 rl2 w93h w93l ?_ ?_ ?_ ?_ ?_ ?_ ?_ _ _ (hP.sub [0, 1, 4, 2, 3] rfl) (hD.sub [0, 1, 4, 2, 3] (by decide) rfl) hS _ (lv_sub hl [1, 2, 3, 4, 0] rfl)
              · have hk : k < 254 := by have := (nI_leI (a := 254) (b := k) (by omega) (by omega)).mpr; exact Nat.not_le.mp (fun q => c_26 (this q))
                rw [f6] at c_36 c_46
                rw [f7] at c_86; have := pw_half0 f4 (by omega); omega
              · exact f2
              · rw [f6] at c_36 c_46
                rw [f7] at c_86; omega
              · exact (pw_half0 f4 f3).1
              · rw [f6] at c_36 c_46
                rw [f7] at c_86; rw [g_oe (by omega) (by omega)]; exact f5
              · exact f6
              · rw [hc93, f7]; omega
          · have c_46 := bz_0 c_46
            refine lv_aload_n hx hb dX0_findCommon_49 rfl (lv_at hl 0 rfl) ?_
            refine va_get (D := D) (ci := 0) (v := .ref r) (C := RX0) (T := TX0) (N := 5) hx hb hTB tb_X0 hown hK.1 hP 0 rfl rfl 1 (by decide) (hTB _ tb_3_5) (fun _ h9 => h9) rfl dX0_findCommon_50 ?_
            refine fin_v (wr := [(o, .inr (0, [.ref q, .ref r, .ref d, .ref lm, .ref co])), (co, .inr (2, [.long ch2, .long cl2])), (up, .inr (2, [.long uh, .long ul])), (lw, .inr (2, [.long vh, .long vl]))]) (va_runV (As := []) (rest := []) ⟨hx, hb, hml, hown, hTB⟩ (c_X2_half l D cZ cI cJ r rh2 rl2 _) (cw_V hTB tb_11_10 tb_2_9 tb_11_7 tb_11_8 tb_11_9 nd_X2_half rfl rfl ⟨Nat.le_of_ble_eq_true rfl, Nat.le_of_ble_eq_true rfl⟩) (pre_V (q0 := 1) hK hP hD [1] rfl rfl rfl rfl) rfl rfl hl.1 rfl (lv_room (Nat.le_of_ble_eq_true rfl)) dX0_findCommon_53 ⟨Nat.le_of_ble_eq_true rfl, Nat.le_of_ble_eq_true rfl⟩) hP hD hS hA [1] [0, 2, 3, 4] rfl rfl rfl (by decide) (fun u53 H locs hc53 hP hD hS => ?_)
            obtain ⟨w53h, w53l⟩ := u53
            try dsimp only at hc53
            have hP : va_P D vwCl [(o, .inr (0, [.ref q, .ref r, .ref d, .ref lm, .ref co])), (co, .inr (2, [.long ch2, .long cl2])), (up, .inr (2, [.long uh, .long ul])), (lw, .inr (2, [.long vh, .long vl])), (r, .inr (2, [.long w53h, .long w53l]))] H := hP
            have hD : va_D A [(o, .inr (0, [.ref q, .ref r, .ref d, .ref lm, .ref co])), (co, .inr (2, [.long ch2, .long cl2])), (up, .inr (2, [.long uh, .long ul])), (lw, .inr (2, [.long vh, .long vl])), (r, .inr (2, [.long w53h, .long w53l]))] := hD
            refine lv_aload_n hx hb dX0_findCommon_56 rfl (lv_at hl 0 rfl) ?_
            refine va_get (D := D) (ci := 0) (v := .ref co) (C := RX0) (T := TX0) (N := 5) hx hb hTB tb_X0 hown hK.1 hP 0 rfl rfl 4 (by decide) (hTB _ tb_3_8) (fun _ h9 => h9) rfl dX0_findCommon_57 ?_
            refine vp_callSi (va_runV (As := []) (rest := []) ⟨hx, hb, hml, hown, hTB⟩ (c_X2_isOdd l D cZ cI cJ co ch2 cl2) (cw_V hTB tb_11_6 tb_2_9 tb_11_3 tb_11_4 tb_11_5 nd_X2_isOdd rfl rfl ⟨Nat.le_of_ble_eq_true rfl, Nat.le_of_ble_eq_true rfl⟩) (prr_V (q0 := 1) hK hP [1] rfl rfl rfl) rfl rfl hl.1 rfl (lv_room (Nat.le_of_ble_eq_true rfl)) dX0_findCommon_60 ⟨Nat.le_of_ble_eq_true rfl, Nat.le_of_ble_eq_true rfl⟩).run (fun r60 hc60 => ?_)
            subst hc60
            refine lv_if_ne (tgt := 103) hx hb dX0_findCommon_63 (by decide) (fun c_63 => ?_) (fun c_63 => ?_)
            · have c_63 := bz_1 c_63
              obtain ⟨i4_4, ei4_4⟩ : ∃ y : Int32, y = (nI k) + 1 := ⟨_, rfl⟩
              refine lv_iinc (v := i4_4) (lv' := [(4, .int i4_4), (0, .ref o), (1, .ref up), (2, .ref lw), (3, .int (nI t))]) hx hb dX0_findCommon_103 hl (k := 4) rfl (by rw [ei4_4]; rfl) (by decide) rfl (fun ls hl => ?_)
              refine lv_goto (tgt := 21) hx hb dX0_findCommon_106 (by decide) ?_
              have q9 : i4_4 = nI (k + 1) := by rw [ei4_4]; exact nI_1 k
              subst q9
              refine ih21 (k + 1) t (a - 1) b (R / 2) C w53h w53l ch2 cl2 ?_ ?_ ?_ ?_ ?_ ?_ ?_ _ _ (hP.sub [0, 4, 1, 2, 3] rfl) (hD.sub [0, 4, 1, 2, 3] (by decide) rfl) hS _ (lv_sub hl [1, 2, 3, 4, 0] rfl)
              · have hk : k < 254 := by have := (nI_leI (a := 254) (b := k) (by omega) (by omega)).mpr; exact Nat.not_le.mp (fun q => c_26 (this q))
                rw [f6] at c_36 c_46
                have := pw_half0 f2 (by omega); omega
              · rw [f6] at c_36 c_46
                exact (pw_half0 f2 (by omega)).1
              · exact f3
              · exact f4
              · rw [f6] at c_36 c_46
                rw [f7] at c_63; rw [g_eo (by omega) (by omega)]; exact f5
              · rw [hc53, f6]; omega
              · exact f7
            · have c_63 := bz_0 c_63
              refine lv_aload_n hx hb dX0_findCommon_66 rfl (lv_at hl 0 rfl) ?_
              refine va_get (D := D) (ci := 0) (v := .ref co) (C := RX0) (T := TX0) (N := 5) hx hb hTB tb_X0 hown hK.1 hP 0 rfl rfl 4 (by decide) (hTB _ tb_3_8) (fun _ h9 => h9) rfl dX0_findCommon_67 ?_
              refine fin_v (wr := [(o, .inr (0, [.ref q, .ref r, .ref d, .ref lm, .ref co])), (up, .inr (2, [.long uh, .long ul])), (lw, .inr (2, [.long vh, .long vl])), (r, .inr (2, [.long w53h, .long w53l]))]) (va_runV (As := []) (rest := []) ⟨hx, hb, hml, hown, hTB⟩ (c_X2_half l D cZ cI cJ co ch2 cl2 _) (cw_V hTB tb_11_10 tb_2_9 tb_11_7 tb_11_8 tb_11_9 nd_X2_half rfl rfl ⟨Nat.le_of_ble_eq_true rfl, Nat.le_of_ble_eq_true rfl⟩) (pre_V (q0 := 1) hK hP hD [1] rfl rfl rfl rfl) rfl rfl hl.1 rfl (lv_room (Nat.le_of_ble_eq_true rfl)) dX0_findCommon_70 ⟨Nat.le_of_ble_eq_true rfl, Nat.le_of_ble_eq_true rfl⟩) hP hD hS hA [1] [0, 2, 3, 4] rfl rfl rfl (by decide) (fun u70 H locs hc70 hP hD hS => ?_)
              obtain ⟨w70h, w70l⟩ := u70
              try dsimp only at hc70
              have hP : va_P D vwCl [(o, .inr (0, [.ref q, .ref r, .ref d, .ref lm, .ref co])), (up, .inr (2, [.long uh, .long ul])), (lw, .inr (2, [.long vh, .long vl])), (r, .inr (2, [.long w53h, .long w53l])), (co, .inr (2, [.long w70h, .long w70l]))] H := hP
              have hD : va_D A [(o, .inr (0, [.ref q, .ref r, .ref d, .ref lm, .ref co])), (up, .inr (2, [.long uh, .long ul])), (lw, .inr (2, [.long vh, .long vl])), (r, .inr (2, [.long w53h, .long w53l])), (co, .inr (2, [.long w70h, .long w70l]))] := hD
              obtain ⟨i3_5, ei3_5⟩ : ∃ y : Int32, y = (nI t) + 1 := ⟨_, rfl⟩
              refine lv_iinc (v := i3_5) (lv' := [(3, .int i3_5), (0, .ref o), (1, .ref up), (2, .ref lw), (4, .int (nI k))]) hx hb dX0_findCommon_73 hl (k := 3) rfl (by rw [ei3_5]; rfl) (by decide) rfl (fun ls hl => ?_)
              refine lv_goto (tgt := 103) hx hb dX0_findCommon_76 (by decide) ?_
              obtain ⟨i4_6, ei4_6⟩ : ∃ y : Int32, y = (nI k) + 1 := ⟨_, rfl⟩
              refine lv_iinc (v := i4_6) (lv' := [(4, .int i4_6), (3, .int i3_5), (0, .ref o), (1, .ref up), (2, .ref lw)]) hx hb dX0_findCommon_103 hl (k := 4) rfl (by rw [ei4_6]; rfl) (by decide) rfl (fun ls hl => ?_)
              refine lv_goto (tgt := 21) hx hb dX0_findCommon_106 (by decide) ?_
              have q9 : i4_6 = nI (k + 1) := by rw [ei4_6]; exact nI_1 k
              subst q9
              have q8 : i3_5 = nI (t + 1) := by rw [ei3_5]; exact nI_1 t
              subst q8
              refine ih21 (k + 1) (t + 1) (a - 1) (b - 1) (R / 2) (C / 2) w53h w53l w70h w70l ?_ ?_ ?_ ?_ ?_ ?_ ?_ _ _ (hP.sub [0, 3, 4, 1, 2] rfl) (hD.sub [0, 3, 4, 1, 2] (by decide) rfl) hS _ (lv_sub hl [2, 3, 4, 1, 0] rfl)
              · have hk : k < 254 := by have := (nI_leI (a := 254) (b := k) (by omega) (by omega)).mpr; exact Nat.not_le.mp (fun q => c_26 (this q))
                rw [f6] at c_36 c_46
                rw [f7] at c_63; have := pw_half0 f2 (by omega); have := pw_half0 f4 (by omega); omega
              · rw [f6] at c_36 c_46
                exact (pw_half0 f2 (by omega)).1
              · rw [f6] at c_36 c_46
                rw [f7] at c_63; omega
              · rw [f6] at c_36 c_46
                exact (pw_half0 f4 (by omega)).1
              · rw [f6] at c_36 c_46
                rw [f7] at c_63; rw [← f5, g_ee (R := R) (C := C) (by omega) (by omega), Nat.pow_succ]; rw [Nat.mul_comm (2 ^ t) 2, ← Nat.mul_assoc, Nat.mul_comm _ 2]
              · rw [hc53, f6]; omega
              · rw [hc70, f7]; omega
  refine L21 255 0 0 127 127 ((wv uh ul).natAbs) Ln w5h w5l w13h w13l ?_ ?_ ?_ ?_ ?_ ?_ ?_ _ _ (hP.sub [0, 1, 3, 2, 4] rfl) (hD.sub [0, 1, 3, 2, 4] (by decide) rfl) hS _ (lv_sub hl [2, 3, 4, 1, 0] rfl)
  · omega
  · rw [show 2 ^ 127 = 170141183460469231731687303715884105728 from rfl]; exact hA1
  · exact hL0
  · rw [show 2 ^ 127 = 170141183460469231731687303715884105728 from rfl]; have := wv_in vh vl; unfold In at this; omega
  · rw [Nat.pow_zero, Nat.mul_one]
  · exact hc5 (by unfold In; omega)
  · have e := congrArg (fun z : Int64 × Int64 => wv z.1 z.2) hc13
    dsimp only at e
    rw [e]; exact hL

set_option maxHeartbeats 4000000 in
set_option maxRecDepth 100000 in
theorem c_X0_takeCommonOut (l : Launch) (D : va_G) (cZ cI cJ : ClassId) (o q r d lm co nu : Nat) (qh ql rh rl dh dl mh ml ch cl nh nl : Int64) (Gn : Nat) (hG : wv ch cl = (Gn : Int)) (hG0 : 0 < Gn) (hGd : Gn ∣ (wv nh nl).natAbs) (hA1 : (wv nh nl).natAbs < 170141183460469231731687303715884105728) : Cv l D cZ cI cJ yX0_takeCommonOut cX0_takeCommonOut 3 { frames := 3, cells := 0, slots := 0, locals := 68 } [.ref o, .ref nu] [(o, .inr (0, [.ref q, .ref r, .ref d, .ref lm, .ref co])), (q, .inr (2, [.long qh, .long ql])), (r, .inr (2, [.long rh, .long rl])), (d, .inr (2, [.long dh, .long dl])), (lm, .inr (2, [.long mh, .long ml])), (co, .inr (2, [.long ch, .long cl])), (nu, .inr (2, [.long nh, .long nl]))] (S := (Int64 × Int64) × (Int64 × Int64) × (Int64 × Int64) × (Int64 × Int64) × (Int64 × Int64)) (fun u => wv u.2.2.2.2.1 u.2.2.2.2.2 = wv nh nl / (Gn : Int)) (fun u => [(o, .inr (0, [.ref q, .ref r, .ref d, .ref lm, .ref co])), (q, .inr (2, [.long u.1.1, .long u.1.2])), (r, .inr (2, [.long u.2.1.1, .long u.2.1.2])), (d, .inr (2, [.long u.2.2.1.1, .long u.2.2.1.2])), (lm, .inr (2, [.long u.2.2.2.1.1, .long u.2.2.2.1.2])), (co, .inr (2, [.long ch, .long cl])), (nu, .inr (2, [.long u.2.2.2.2.1, .long u.2.2.2.2.2]))]) := by
  refine Cv.of (by decide) ?_
  intro p e s m args below meth c A Q hB hret hP hD hA
  obtain ⟨hx, hb, hr, hlocks, hml, hown, hnm, hTB, hK⟩ := hB
  have hown : s.vm.findClass RX0 = some m.cls := hown
  have hS : va_S A s.heap s.heap [] := va_S.rf
  have hl := lv_entry ([.ref o, .ref nu]) (n := 3) (Nat.le_of_ble_eq_true rfl)
  rw [lg_entry_eq]
  generalize (lg_sl ([.ref o, .ref nu]) ++ List.replicate (3 - (lg_sl ([.ref o, .ref nu])).length) Slot.unset).toArray = ls at hl ⊢
  have hl : lv_has ls 3 [(0, .ref o), (1, .ref nu)] := hl
  refine lv_aload_n hx hb dX0_takeCommonOut_0 rfl (lv_at hl 0 rfl) ?_
  refine va_get (D := D) (ci := 0) (v := .ref co) (C := RX0) (T := TX0) (N := 5) hx hb hTB tb_X0 hown hK.1 hP 0 rfl rfl 4 (by decide) (hTB _ tb_3_8) (fun _ h9 => h9) rfl dX0_takeCommonOut_1 ?_
  refine vp_callSi (va_runV (As := []) (rest := []) ⟨hx, hb, hml, hown, hTB⟩ (c_X2_isOne l D cZ cI cJ co ch cl) (cw_V hTB tb_12_7 tb_2_9 tb_12_4 tb_12_5 tb_12_6 nd_X2_isOne rfl rfl ⟨Nat.le_of_ble_eq_true rfl, Nat.le_of_ble_eq_true rfl⟩) (prr_V (q0 := 5) hK hP [5] rfl rfl rfl) rfl rfl hl.1 rfl (lv_room (Nat.le_of_ble_eq_true rfl)) dX0_takeCommonOut_4 ⟨Nat.le_of_ble_eq_true rfl, Nat.le_of_ble_eq_true rfl⟩).run (fun r4 hc4 => ?_)
  subst hc4
  refine lv_if_eq (tgt := 11) hx hb dX0_takeCommonOut_7 (by decide) (fun c_7 => ?_) (fun c_7 => ?_)
  · have c_7 := bz_0 c_7
    refine lv_aload_n hx hb dX0_takeCommonOut_11 rfl (lv_at hl 1 rfl) ?_
    refine vp_callSi (va_runV (As := []) (rest := []) ⟨hx, hb, hml, hown, hTB⟩ (c_X2_sign l D cZ cI cJ nu nh nl) (cw_V hTB tb_5_23 tb_2_9 tb_11_2 tb_5_21 tb_5_22 nd_X2_sign rfl rfl ⟨Nat.le_of_ble_eq_true rfl, Nat.le_of_ble_eq_true rfl⟩) (prr_V (q0 := 6) hK hP [6] rfl rfl rfl) rfl rfl hl.1 rfl (lv_room (Nat.le_of_ble_eq_true rfl)) dX0_takeCommonOut_12 ⟨Nat.le_of_ble_eq_true rfl, Nat.le_of_ble_eq_true rfl⟩).run (fun r12 hc12 => ?_)
    subst hc12
    have J23 : ∀ (x : Int32), (x = bz (wv nh nl < 0)) → ∀ (H : Heap) (locs : List Loc), va_P D vwCl [(o, .inr (0, [.ref q, .ref r, .ref d, .ref lm, .ref co])), (q, .inr (2, [.long qh, .long ql])), (r, .inr (2, [.long rh, .long rl])), (d, .inr (2, [.long dh, .long dl])), (lm, .inr (2, [.long mh, .long ml])), (co, .inr (2, [.long ch, .long cl])), (nu, .inr (2, [.long nh, .long nl]))] H → va_D A [(o, .inr (0, [.ref q, .ref r, .ref d, .ref lm, .ref co])), (q, .inr (2, [.long qh, .long ql])), (r, .inr (2, [.long rh, .long rl])), (d, .inr (2, [.long dh, .long dl])), (lm, .inr (2, [.long mh, .long ml])), (co, .inr (2, [.long ch, .long cl])), (nu, .inr (2, [.long nh, .long nl]))] → va_S A s.heap H locs → ∀ (ls : Array Slot), lv_has ls 3 [(0, .ref o), (1, .ref nu)] → W p l e { frames := 3, cells := 0, slots := 0, locals := 68 } s m args below meth c H locs 0 0 Q (F0 m 23 ls [.int x]) := by
      intro x g1 H locs hP hD hS ls hl
      subst g1
      refine lv_istore_n (lv' := [(2, .int (bz (wv nh nl < 0))), (0, .ref o), (1, .ref nu)]) hx hb dX0_takeCommonOut_23 rfl hl (by decide) rfl (fun ls hl => ?_)
      refine lv_aload_n hx hb dX0_takeCommonOut_24 rfl (lv_at hl 1 rfl) ?_
      refine lv_aload_n hx hb dX0_takeCommonOut_25 rfl (lv_at hl 2 rfl) ?_
      refine lv_aload_n hx hb dX0_takeCommonOut_26 rfl (lv_at hl 1 rfl) ?_
      refine va_get (D := D) (ci := 0) (v := .ref co) (C := RX0) (T := TX0) (N := 5) hx hb hTB tb_X0 hown hK.1 hP 0 rfl rfl 4 (by decide) (hTB _ tb_3_8) (fun _ h9 => h9) rfl dX0_takeCommonOut_27 ?_
      refine fin_v (wr := []) (va_runV (As := [.ref nu, .ref co]) (rest := []) ⟨hx, hb, hml, hown, hTB⟩ (c_X0_divideAmounts l D cZ cI cJ o q r d lm co nu co qh ql rh rl dh dl mh ml nh nl ch cl ((wv nh nl).natAbs) Gn rfl (by omega) hG0 hA1 (by have := wv_in ch cl; unfold In at this; omega) _) (cw_V hTB tb_12_11 tb_2_5 tb_12_8 tb_12_9 tb_12_10 nd_X0_divideAmounts rfl rfl ⟨Nat.le_of_ble_eq_true rfl, Nat.le_of_ble_eq_true rfl⟩) (pre_V (q0 := 0) hK hP hD [0, 1, 2, 3, 4, 6, 5] rfl rfl rfl rfl) rfl rfl hl.1 rfl (lv_room (Nat.le_of_ble_eq_true rfl)) dX0_takeCommonOut_30 ⟨Nat.le_of_ble_eq_true rfl, Nat.le_of_ble_eq_true rfl⟩) hP hD hS hA [0, 1, 2, 3, 4, 6, 5] [] rfl rfl rfl (by decide) (fun u30 H locs hc30 hP hD hS => ?_)
      obtain ⟨⟨q2h, q2l⟩, ⟨r2h, r2l⟩, ⟨d2h, d2l⟩, m2h, m2l⟩ := u30
      dsimp only at hc30
      obtain ⟨eq, er, ed⟩ := hc30
      have hP : va_P D vwCl [(o, .inr (0, [.ref q, .ref r, .ref d, .ref lm, .ref co])), (q, .inr (2, [.long q2h, .long q2l])), (r, .inr (2, [.long r2h, .long r2l])), (d, .inr (2, [.long d2h, .long d2l])), (lm, .inr (2, [.long m2h, .long m2l])), (nu, .inr (2, [.long nh, .long nl])), (co, .inr (2, [.long ch, .long cl]))] H := hP
      have hD : va_D A [(o, .inr (0, [.ref q, .ref r, .ref d, .ref lm, .ref co])), (q, .inr (2, [.long q2h, .long q2l])), (r, .inr (2, [.long r2h, .long r2l])), (d, .inr (2, [.long d2h, .long d2l])), (lm, .inr (2, [.long m2h, .long m2l])), (nu, .inr (2, [.long nh, .long nl])), (co, .inr (2, [.long ch, .long cl]))] := hD
      refine lv_aload_n hx hb dX0_takeCommonOut_33 rfl (lv_at hl 2 rfl) ?_
      refine lv_aload_n hx hb dX0_takeCommonOut_34 rfl (lv_at hl 1 rfl) ?_
      refine va_get (D := D) (ci := 0) (v := .ref q) (C := RX0) (T := TX0) (N := 5) hx hb hTB tb_X0 hown hK.1 hP 0 rfl rfl 0 (by decide) (hTB _ tb_3_4) (fun _ h9 => h9) rfl dX0_takeCommonOut_35 ?_
      refine fin_v (wr := [(o, .inr (0, [.ref q, .ref r, .ref d, .ref lm, .ref co])), (r, .inr (2, [.long r2h, .long r2l])), (d, .inr (2, [.long d2h, .long d2l])), (lm, .inr (2, [.long m2h, .long m2l])), (co, .inr (2, [.long ch, .long cl]))]) (va_runV (As := [.ref q]) (rest := []) ⟨hx, hb, hml, hown, hTB⟩ (c_X2_copy l D cZ cI cJ nu q nh nl q2h q2l _) (cw_V hTB tb_10_10 tb_2_9 tb_11_1 tb_10_8 tb_10_9 nd_X2_copy rfl rfl ⟨Nat.le_of_ble_eq_true rfl, Nat.le_of_ble_eq_true rfl⟩) (pre_V (q0 := 5) hK hP hD [5, 1] rfl rfl rfl rfl) rfl rfl hl.1 rfl (lv_room (Nat.le_of_ble_eq_true rfl)) dX0_takeCommonOut_38 ⟨Nat.le_of_ble_eq_true rfl, Nat.le_of_ble_eq_true rfl⟩) hP hD hS hA [5, 1] [0, 2, 3, 4, 6] rfl rfl rfl (by decide) (fun u38 H locs hc38 hP hD hS => ?_)
      obtain ⟨w38h, w38l⟩ := u38
      try dsimp only at hc38
      have hP : va_P D vwCl [(o, .inr (0, [.ref q, .ref r, .ref d, .ref lm, .ref co])), (r, .inr (2, [.long r2h, .long r2l])), (d, .inr (2, [.long d2h, .long d2l])), (lm, .inr (2, [.long m2h, .long m2l])), (co, .inr (2, [.long ch, .long cl])), (nu, .inr (2, [.long w38h, .long w38l])), (q, .inr (2, [.long q2h, .long q2l]))] H := hP
      have hD : va_D A [(o, .inr (0, [.ref q, .ref r, .ref d, .ref lm, .ref co])), (r, .inr (2, [.long r2h, .long r2l])), (d, .inr (2, [.long d2h, .long d2l])), (lm, .inr (2, [.long m2h, .long m2l])), (co, .inr (2, [.long ch, .long cl])), (nu, .inr (2, [.long w38h, .long w38l])), (q, .inr (2, [.long q2h, .long q2l]))] := hD
      have e38 : wv w38h w38l = (((wv nh nl).natAbs / Gn : Nat) : Int) := by
        have e := congrArg (fun z : Int64 × Int64 => wv z.1 z.2) hc38
        dsimp only at e
        rw [e]; exact eq
      refine lv_iload_n hx hb dX0_takeCommonOut_41 rfl (lv_at hl 0 rfl) ?_
      refine lv_if_eq (tgt := 49) hx hb dX0_takeCommonOut_42 (by decide) (fun c_42 => ?_) (fun c_42 => ?_)
      · have c_42 := bz_0 c_42
        exact hret hP hD hS ((q2h, q2l), (r2h, r2l), (d2h, d2l), (m2h, m2l), (w38h, w38l)) (by have := Nat.div_le_self (wv nh nl).natAbs Gn; dsimp only; rw [e38, exd0 hG0 (by omega)]) [0, 6, 1, 2, 3, 4, 5] rfl (by decide) dX0_takeCommonOut_49 (Nat.le_of_ble_eq_true rfl) (Nat.le_of_ble_eq_true rfl)
      · have c_42 := bz_1 c_42
        refine lv_aload_n hx hb dX0_takeCommonOut_45 rfl (lv_at hl 2 rfl) ?_
        refine fin_v (wr := [(o, .inr (0, [.ref q, .ref r, .ref d, .ref lm, .ref co])), (r, .inr (2, [.long r2h, .long r2l])), (d, .inr (2, [.long d2h, .long d2l])), (lm, .inr (2, [.long m2h, .long m2l])), (co, .inr (2, [.long ch, .long cl])), (q, .inr (2, [.long q2h, .long q2l]))]) (va_runV (As := []) (rest := []) ⟨hx, hb, hml, hown, hTB⟩ (c_X2_negate l D cZ cI cJ nu w38h w38l _) (cw_V hTB tb_9_14 tb_2_9 tb_12_17 tb_9_12 tb_9_13 nd_X2_negate rfl rfl ⟨Nat.le_of_ble_eq_true rfl, Nat.le_of_ble_eq_true rfl⟩) (pre_V (q0 := 5) hK hP hD [5] rfl rfl rfl rfl) rfl rfl hl.1 rfl (lv_room (Nat.le_of_ble_eq_true rfl)) dX0_takeCommonOut_46 ⟨Nat.le_of_ble_eq_true rfl, Nat.le_of_ble_eq_true rfl⟩) hP hD hS hA [5] [0, 1, 2, 3, 4, 6] rfl rfl rfl (by decide) (fun u46 H locs hc46 hP hD hS => ?_)
        obtain ⟨w46h, w46l⟩ := u46
        try dsimp only at hc46
        have hP : va_P D vwCl [(o, .inr (0, [.ref q, .ref r, .ref d, .ref lm, .ref co])), (r, .inr (2, [.long r2h, .long r2l])), (d, .inr (2, [.long d2h, .long d2l])), (lm, .inr (2, [.long m2h, .long m2l])), (co, .inr (2, [.long ch, .long cl])), (q, .inr (2, [.long q2h, .long q2l])), (nu, .inr (2, [.long w46h, .long w46l]))] H := hP
        have hD : va_D A [(o, .inr (0, [.ref q, .ref r, .ref d, .ref lm, .ref co])), (r, .inr (2, [.long r2h, .long r2l])), (d, .inr (2, [.long d2h, .long d2l])), (lm, .inr (2, [.long m2h, .long m2l])), (co, .inr (2, [.long ch, .long cl])), (q, .inr (2, [.long q2h, .long q2l])), (nu, .inr (2, [.long w46h, .long w46l]))] := hD
        exact hret hP hD hS ((q2h, q2l), (r2h, r2l), (d2h, d2l), (m2h, m2l), (w46h, w46l)) (by have := Nat.div_le_self (wv nh nl).natAbs Gn; dsimp only; have hx9 := exd1 hGd hG0 c_42; generalize hk9 : (wv nh nl).natAbs / Gn = k9 at *; rw [hc46 (by rw [e38]; unfold In; omega), e38, hx9]) [0, 5, 1, 2, 3, 4, 6] rfl (by decide) dX0_takeCommonOut_49 (Nat.le_of_ble_eq_true rfl) (Nat.le_of_ble_eq_true rfl)
    refine lv_if_ge (tgt := 22) hx hb dX0_takeCommonOut_15 (by decide) (fun c_15 => ?_) (fun c_15 => ?_)
    · have c_15 := sg_get c_15
      refine lv_iconst (v := 0) hx hb dX0_takeCommonOut_22 (by decide) ?_
      refine J23 0 ?_ _ _ hP hD hS _ (lv_sub hl [0, 1] rfl)
      · exact bz_f (by omega)
    · have c_15 := sg_gef c_15
      refine lv_iconst (v := 1) hx hb dX0_takeCommonOut_18 (by decide) ?_
      refine lv_goto (tgt := 23) hx hb dX0_takeCommonOut_19 (by decide) ?_
      refine J23 1 ?_ _ _ hP hD hS _ (lv_sub hl [0, 1] rfl)
      · exact bz_t c_15
  · have c_7 := bz_1 c_7
    exact hret hP hD hS ((qh, ql), (rh, rl), (dh, dl), (mh, ml), (nh, nl)) (by rw [hG] at c_7; dsimp only; rw [show Gn = 1 from (by omega)]; omega) [0, 1, 2, 3, 4, 5, 6] rfl (by decide) dX0_takeCommonOut_10 (Nat.le_of_ble_eq_true rfl) (Nat.le_of_ble_eq_true rfl)

set_option maxHeartbeats 4000000 in
set_option maxRecDepth 100000 in
theorem c_X0_init (l : Launch) (D : va_G) (cZ cI cJ : ClassId) (o : Nat) : Cv l D cZ cI cJ yX0_init cX0_init 1 { frames := 2, cells := 5, slots := 10, locals := 32 } [.ref o] [(o, .inr (0, [.null, .null, .null, .null, .null]))] (S := Nat × Nat × Nat × Nat × Nat) (fun u => True) (fun u => [(o, .inr (0, [.ref u.1, .ref u.2.1, .ref u.2.2.1, .ref u.2.2.2.1, .ref u.2.2.2.2])), (u.1, .inr (2, [.long 0, .long 0])), (u.2.1, .inr (2, [.long 0, .long 0])), (u.2.2.1, .inr (2, [.long 0, .long 0])), (u.2.2.2.1, .inr (2, [.long 0, .long 0])), (u.2.2.2.2, .inr (2, [.long 0, .long 0]))]) := by
  refine Cv.of (by decide) ?_
  intro p e s m args below meth c A Q hB hret hP hD hA
  obtain ⟨hx, hb, hr, hlocks, hml, hown, hnm, hTB, hK⟩ := hB
  have hown : s.vm.findClass RX0 = some m.cls := hown
  have hS : va_S A s.heap s.heap [] := va_S.rf
  have hl := lv_entry ([.ref o]) (n := 1) (Nat.le_of_ble_eq_true rfl)
  rw [lg_entry_eq]
  generalize (lg_sl ([.ref o]) ++ List.replicate (1 - (lg_sl ([.ref o])).length) Slot.unset).toArray = ls at hl ⊢
  have hl : lv_has ls 1 [(0, .ref o)] := hl
  refine lv_aload_n hx hb dX0_init_0 rfl (lv_at hl 0 rfl) ?_
  refine W.objInit hx hb hown (hTB _ tb_3_2) (hTB _ tb_1_12) (hTB _ tb_1_13) rfl (by rw [hml]; exact hl.1) rfl dX0_init_1 (Nat.le_of_ble_eq_true rfl) (Nat.le_of_ble_eq_true rfl) ?_
  refine W.eq (g2 := F0 m 4 ls []) rfl ?_
  refine lv_aload_n hx hb dX0_init_4 rfl (lv_at hl 0 rfl) ?_
  refine va_new (D := D) (ci := 2) (fs := [.long 0, .long 0]) (C := RX2) (T := TX2) (N := 2) hx hb hTB tb_X2 tyX2 tyX2_ok hown (hTB _ tb_3_3) (hTB _ tb_2_8) (hTB _ tb_2_9) hK.1 hP hD hS hA rfl (fun j hj => by rcases (show j = 0 ∨ j = 1 by omega) with rfl | rfl <;> rfl) (Nat.le_of_ble_eq_true rfl) (Nat.le_of_ble_eq_true rfl) dX0_init_5 (fun n5 H hP hD hS => ?_)
  have hP : va_P D vwCl [(o, .inr (0, [.null, .null, .null, .null, .null])), (n5, .inr (2, [.long 0, .long 0]))] H := hP
  have hD : va_D A [(o, .inr (0, [.null, .null, .null, .null, .null])), (n5, .inr (2, [.long 0, .long 0]))] := hD
  refine W.widen (k := 1) (n := 2) (by decide) (by decide) ?_
  refine lv_dup hx hb dX0_init_8 rfl ?_
  refine fin_v (wr := [(o, .inr (0, [.null, .null, .null, .null, .null]))]) (va_runIN (As := []) (rest := [.ref n5, .ref o]) ⟨hx, hb, hml, hown, hTB⟩ (c_X2_init l D cZ cI cJ n5 0 0 _) (cw_IN hTB hK tb_2_22 tb_2_9 nw_3 tb_2_21 rfl nd_X2_init rfl rfl ⟨Nat.le_of_ble_eq_true rfl, Nat.le_of_ble_eq_true rfl⟩) (pre_S hK hP hD [1] rfl rfl) rfl rfl hl.1 rfl (lv_room (Nat.le_of_ble_eq_true rfl)) dX0_init_9 ⟨Nat.le_of_ble_eq_true rfl, Nat.le_of_ble_eq_true rfl⟩) hP hD hS hA [1] [0] rfl rfl rfl (by decide) (fun u9 H locs hc9 hP hD hS => ?_)
  subst hc9
  have hP : va_P D vwCl [(o, .inr (0, [.null, .null, .null, .null, .null])), (n5, .inr (2, [.long 0, .long 0]))] H := hP
  have hD : va_D A [(o, .inr (0, [.null, .null, .null, .null, .null])), (n5, .inr (2, [.long 0, .long 0]))] := hD
  refine va_putF (D := D) (ci := 0) (v := .ref n5) (ty := .object "GridSums$Wide") (C := RX0) (T := TX0) (N := 5) hx hb hTB tb_X0 tyX0 tyX0_ok nmX0 hown hK.1 hP hD hS 0 rfl rfl 0 (by decide) (hTB _ tb_3_4) (fun _ h9 => h9) rfl hnm rfl (by decide +kernel) rfl rfl (Nat.le_of_ble_eq_true rfl) dX0_init_12 (fun H locs hP hD hS => ?_)
  have hP : va_P D vwCl [(o, .inr (0, [.ref n5, .null, .null, .null, .null])), (n5, .inr (2, [.long 0, .long 0]))] H := hP
  have hD : va_D A [(o, .inr (0, [.ref n5, .null, .null, .null, .null])), (n5, .inr (2, [.long 0, .long 0]))] := hD
  refine lv_aload_n hx hb dX0_init_15 rfl (lv_at hl 0 rfl) ?_
  refine va_new (D := D) (ci := 2) (fs := [.long 0, .long 0]) (C := RX2) (T := TX2) (N := 2) hx hb hTB tb_X2 tyX2 tyX2_ok hown (hTB _ tb_3_3) (hTB _ tb_2_8) (hTB _ tb_2_9) hK.1 hP hD hS hA rfl (fun j hj => by rcases (show j = 0 ∨ j = 1 by omega) with rfl | rfl <;> rfl) (Nat.le_of_ble_eq_true rfl) (Nat.le_of_ble_eq_true rfl) dX0_init_16 (fun n16 H hP hD hS => ?_)
  have hP : va_P D vwCl [(o, .inr (0, [.ref n5, .null, .null, .null, .null])), (n5, .inr (2, [.long 0, .long 0])), (n16, .inr (2, [.long 0, .long 0]))] H := hP
  have hD : va_D A [(o, .inr (0, [.ref n5, .null, .null, .null, .null])), (n5, .inr (2, [.long 0, .long 0])), (n16, .inr (2, [.long 0, .long 0]))] := hD
  refine W.widen (k := 2) (n := 4) (by decide) (by decide) ?_
  refine lv_dup hx hb dX0_init_19 rfl ?_
  refine fin_v (wr := [(o, .inr (0, [.ref n5, .null, .null, .null, .null])), (n5, .inr (2, [.long 0, .long 0]))]) (va_runIN (As := []) (rest := [.ref n16, .ref o]) ⟨hx, hb, hml, hown, hTB⟩ (c_X2_init l D cZ cI cJ n16 0 0 _) (cw_IN hTB hK tb_2_22 tb_2_9 nw_3 tb_2_21 rfl nd_X2_init rfl rfl ⟨Nat.le_of_ble_eq_true rfl, Nat.le_of_ble_eq_true rfl⟩) (pre_S hK hP hD [2] rfl rfl) rfl rfl hl.1 rfl (lv_room (Nat.le_of_ble_eq_true rfl)) dX0_init_20 ⟨Nat.le_of_ble_eq_true rfl, Nat.le_of_ble_eq_true rfl⟩) hP hD hS hA [2] [0, 1] rfl rfl rfl (by decide) (fun u20 H locs hc20 hP hD hS => ?_)
  subst hc20
  have hP : va_P D vwCl [(o, .inr (0, [.ref n5, .null, .null, .null, .null])), (n5, .inr (2, [.long 0, .long 0])), (n16, .inr (2, [.long 0, .long 0]))] H := hP
  have hD : va_D A [(o, .inr (0, [.ref n5, .null, .null, .null, .null])), (n5, .inr (2, [.long 0, .long 0])), (n16, .inr (2, [.long 0, .long 0]))] := hD
  refine va_putF (D := D) (ci := 0) (v := .ref n16) (ty := .object "GridSums$Wide") (C := RX0) (T := TX0) (N := 5) hx hb hTB tb_X0 tyX0 tyX0_ok nmX0 hown hK.1 hP hD hS 0 rfl rfl 1 (by decide) (hTB _ tb_3_5) (fun _ h9 => h9) rfl hnm rfl (by decide +kernel) rfl rfl (Nat.le_of_ble_eq_true rfl) dX0_init_23 (fun H locs hP hD hS => ?_)
  have hP : va_P D vwCl [(o, .inr (0, [.ref n5, .ref n16, .null, .null, .null])), (n5, .inr (2, [.long 0, .long 0])), (n16, .inr (2, [.long 0, .long 0]))] H := hP
  have hD : va_D A [(o, .inr (0, [.ref n5, .ref n16, .null, .null, .null])), (n5, .inr (2, [.long 0, .long 0])), (n16, .inr (2, [.long 0, .long 0]))] := hD
  refine lv_aload_n hx hb dX0_init_26 rfl (lv_at hl 0 rfl) ?_
  refine va_new (D := D) (ci := 2) (fs := [.long 0, .long 0]) (C := RX2) (T := TX2) (N := 2) hx hb hTB tb_X2 tyX2 tyX2_ok hown (hTB _ tb_3_3) (hTB _ tb_2_8) (hTB _ tb_2_9) hK.1 hP hD hS hA rfl (fun j hj => by rcases (show j = 0 ∨ j = 1 by omega) with rfl | rfl <;> rfl) (Nat.le_of_ble_eq_true rfl) (Nat.le_of_ble_eq_true rfl) dX0_init_27 (fun n27 H hP hD hS => ?_)
  have hP : va_P D vwCl [(o, .inr (0, [.ref n5, .ref n16, .null, .null, .null])), (n5, .inr (2, [.long 0, .long 0])), (n16, .inr (2, [.long 0, .long 0])), (n27, .inr (2, [.long 0, .long 0]))] H := hP
  have hD : va_D A [(o, .inr (0, [.ref n5, .ref n16, .null, .null, .null])), (n5, .inr (2, [.long 0, .long 0])), (n16, .inr (2, [.long 0, .long 0])), (n27, .inr (2, [.long 0, .long 0]))] := hD
  refine W.widen (k := 3) (n := 6) (by decide) (by decide) ?_
  refine lv_dup hx hb dX0_init_30 rfl ?_
  refine fin_v (wr := [(o, .inr (0, [.ref n5, .ref n16, .null, .null, .null])), (n5, .inr (2, [.long 0, .long 0])), (n16, .inr (2, [.long 0, .long 0]))]) (va_runIN (As := []) (rest := [.ref n27, .ref o]) ⟨hx, hb, hml, hown, hTB⟩ (c_X2_init l D cZ cI cJ n27 0 0 _) (cw_IN hTB hK tb_2_22 tb_2_9 nw_3 tb_2_21 rfl nd_X2_init rfl rfl ⟨Nat.le_of_ble_eq_true rfl, Nat.le_of_ble_eq_true rfl⟩) (pre_S hK hP hD [3] rfl rfl) rfl rfl hl.1 rfl (lv_room (Nat.le_of_ble_eq_true rfl)) dX0_init_31 ⟨Nat.le_of_ble_eq_true rfl, Nat.le_of_ble_eq_true rfl⟩) hP hD hS hA [3] [0, 1, 2] rfl rfl rfl (by decide) (fun u31 H locs hc31 hP hD hS => ?_)
  subst hc31
  have hP : va_P D vwCl [(o, .inr (0, [.ref n5, .ref n16, .null, .null, .null])), (n5, .inr (2, [.long 0, .long 0])), (n16, .inr (2, [.long 0, .long 0])), (n27, .inr (2, [.long 0, .long 0]))] H := hP
  have hD : va_D A [(o, .inr (0, [.ref n5, .ref n16, .null, .null, .null])), (n5, .inr (2, [.long 0, .long 0])), (n16, .inr (2, [.long 0, .long 0])), (n27, .inr (2, [.long 0, .long 0]))] := hD
  refine va_putF (D := D) (ci := 0) (v := .ref n27) (ty := .object "GridSums$Wide") (C := RX0) (T := TX0) (N := 5) hx hb hTB tb_X0 tyX0 tyX0_ok nmX0 hown hK.1 hP hD hS 0 rfl rfl 2 (by decide) (hTB _ tb_3_6) (fun _ h9 => h9) rfl hnm rfl (by decide +kernel) rfl rfl (Nat.le_of_ble_eq_true rfl) dX0_init_34 (fun H locs hP hD hS => ?_)
  have hP : va_P D vwCl [(o, .inr (0, [.ref n5, .ref n16, .ref n27, .null, .null])), (n5, .inr (2, [.long 0, .long 0])), (n16, .inr (2, [.long 0, .long 0])), (n27, .inr (2, [.long 0, .long 0]))] H := hP
  have hD : va_D A [(o, .inr (0, [.ref n5, .ref n16, .ref n27, .null, .null])), (n5, .inr (2, [.long 0, .long 0])), (n16, .inr (2, [.long 0, .long 0])), (n27, .inr (2, [.long 0, .long 0]))] := hD
  refine lv_aload_n hx hb dX0_init_37 rfl (lv_at hl 0 rfl) ?_
  refine va_new (D := D) (ci := 2) (fs := [.long 0, .long 0]) (C := RX2) (T := TX2) (N := 2) hx hb hTB tb_X2 tyX2 tyX2_ok hown (hTB _ tb_3_3) (hTB _ tb_2_8) (hTB _ tb_2_9) hK.1 hP hD hS hA rfl (fun j hj => by rcases (show j = 0 ∨ j = 1 by omega) with rfl | rfl <;> rfl) (Nat.le_of_ble_eq_true rfl) (Nat.le_of_ble_eq_true rfl) dX0_init_38 (fun n38 H hP hD hS => ?_)
  have hP : va_P D vwCl [(o, .inr (0, [.ref n5, .ref n16, .ref n27, .null, .null])), (n5, .inr (2, [.long 0, .long 0])), (n16, .inr (2, [.long 0, .long 0])), (n27, .inr (2, [.long 0, .long 0])), (n38, .inr (2, [.long 0, .long 0]))] H := hP
  have hD : va_D A [(o, .inr (0, [.ref n5, .ref n16, .ref n27, .null, .null])), (n5, .inr (2, [.long 0, .long 0])), (n16, .inr (2, [.long 0, .long 0])), (n27, .inr (2, [.long 0, .long 0])), (n38, .inr (2, [.long 0, .long 0]))] := hD
  refine W.widen (k := 4) (n := 8) (by decide) (by decide) ?_
  refine lv_dup hx hb dX0_init_41 rfl ?_
  refine fin_v (wr := [(o, .inr (0, [.ref n5, .ref n16, .ref n27, .null, .null])), (n5, .inr (2, [.long 0, .long 0])), (n16, .inr (2, [.long 0, .long 0])), (n27, .inr (2, [.long 0, .long 0]))]) (va_runIN (As := []) (rest := [.ref n38, .ref o]) ⟨hx, hb, hml, hown, hTB⟩ (c_X2_init l D cZ cI cJ n38 0 0 _) (cw_IN hTB hK tb_2_22 tb_2_9 nw_3 tb_2_21 rfl nd_X2_init rfl rfl ⟨Nat.le_of_ble_eq_true rfl, Nat.le_of_ble_eq_true rfl⟩) (pre_S hK hP hD [4] rfl rfl) rfl rfl hl.1 rfl (lv_room (Nat.le_of_ble_eq_true rfl)) dX0_init_42 ⟨Nat.le_of_ble_eq_true rfl, Nat.le_of_ble_eq_true rfl⟩) hP hD hS hA [4] [0, 1, 2, 3] rfl rfl rfl (by decide) (fun u42 H locs hc42 hP hD hS => ?_)
  subst hc42
  have hP : va_P D vwCl [(o, .inr (0, [.ref n5, .ref n16, .ref n27, .null, .null])), (n5, .inr (2, [.long 0, .long 0])), (n16, .inr (2, [.long 0, .long 0])), (n27, .inr (2, [.long 0, .long 0])), (n38, .inr (2, [.long 0, .long 0]))] H := hP
  have hD : va_D A [(o, .inr (0, [.ref n5, .ref n16, .ref n27, .null, .null])), (n5, .inr (2, [.long 0, .long 0])), (n16, .inr (2, [.long 0, .long 0])), (n27, .inr (2, [.long 0, .long 0])), (n38, .inr (2, [.long 0, .long 0]))] := hD
  refine va_putF (D := D) (ci := 0) (v := .ref n38) (ty := .object "GridSums$Wide") (C := RX0) (T := TX0) (N := 5) hx hb hTB tb_X0 tyX0 tyX0_ok nmX0 hown hK.1 hP hD hS 0 rfl rfl 3 (by decide) (hTB _ tb_3_7) (fun _ h9 => h9) rfl hnm rfl (by decide +kernel) rfl rfl (Nat.le_of_ble_eq_true rfl) dX0_init_45 (fun H locs hP hD hS => ?_)
  have hP : va_P D vwCl [(o, .inr (0, [.ref n5, .ref n16, .ref n27, .ref n38, .null])), (n5, .inr (2, [.long 0, .long 0])), (n16, .inr (2, [.long 0, .long 0])), (n27, .inr (2, [.long 0, .long 0])), (n38, .inr (2, [.long 0, .long 0]))] H := hP
  have hD : va_D A [(o, .inr (0, [.ref n5, .ref n16, .ref n27, .ref n38, .null])), (n5, .inr (2, [.long 0, .long 0])), (n16, .inr (2, [.long 0, .long 0])), (n27, .inr (2, [.long 0, .long 0])), (n38, .inr (2, [.long 0, .long 0]))] := hD
  refine lv_aload_n hx hb dX0_init_48 rfl (lv_at hl 0 rfl) ?_
  refine va_new (D := D) (ci := 2) (fs := [.long 0, .long 0]) (C := RX2) (T := TX2) (N := 2) hx hb hTB tb_X2 tyX2 tyX2_ok hown (hTB _ tb_3_3) (hTB _ tb_2_8) (hTB _ tb_2_9) hK.1 hP hD hS hA rfl (fun j hj => by rcases (show j = 0 ∨ j = 1 by omega) with rfl | rfl <;> rfl) (Nat.le_of_ble_eq_true rfl) (Nat.le_of_ble_eq_true rfl) dX0_init_49 (fun n49 H hP hD hS => ?_)
  have hP : va_P D vwCl [(o, .inr (0, [.ref n5, .ref n16, .ref n27, .ref n38, .null])), (n5, .inr (2, [.long 0, .long 0])), (n16, .inr (2, [.long 0, .long 0])), (n27, .inr (2, [.long 0, .long 0])), (n38, .inr (2, [.long 0, .long 0])), (n49, .inr (2, [.long 0, .long 0]))] H := hP
  have hD : va_D A [(o, .inr (0, [.ref n5, .ref n16, .ref n27, .ref n38, .null])), (n5, .inr (2, [.long 0, .long 0])), (n16, .inr (2, [.long 0, .long 0])), (n27, .inr (2, [.long 0, .long 0])), (n38, .inr (2, [.long 0, .long 0])), (n49, .inr (2, [.long 0, .long 0]))] := hD
  refine W.widen (k := 5) (n := 10) (by decide) (by decide) ?_
  refine lv_dup hx hb dX0_init_52 rfl ?_
  refine fin_v (wr := [(o, .inr (0, [.ref n5, .ref n16, .ref n27, .ref n38, .null])), (n5, .inr (2, [.long 0, .long 0])), (n16, .inr (2, [.long 0, .long 0])), (n27, .inr (2, [.long 0, .long 0])), (n38, .inr (2, [.long 0, .long 0]))]) (va_runIN (As := []) (rest := [.ref n49, .ref o]) ⟨hx, hb, hml, hown, hTB⟩ (c_X2_init l D cZ cI cJ n49 0 0 _) (cw_IN hTB hK tb_2_22 tb_2_9 nw_3 tb_2_21 rfl nd_X2_init rfl rfl ⟨Nat.le_of_ble_eq_true rfl, Nat.le_of_ble_eq_true rfl⟩) (pre_S hK hP hD [5] rfl rfl) rfl rfl hl.1 rfl (lv_room (Nat.le_of_ble_eq_true rfl)) dX0_init_53 ⟨Nat.le_of_ble_eq_true rfl, Nat.le_of_ble_eq_true rfl⟩) hP hD hS hA [5] [0, 1, 2, 3, 4] rfl rfl rfl (by decide) (fun u53 H locs hc53 hP hD hS => ?_)
  subst hc53
  have hP : va_P D vwCl [(o, .inr (0, [.ref n5, .ref n16, .ref n27, .ref n38, .null])), (n5, .inr (2, [.long 0, .long 0])), (n16, .inr (2, [.long 0, .long 0])), (n27, .inr (2, [.long 0, .long 0])), (n38, .inr (2, [.long 0, .long 0])), (n49, .inr (2, [.long 0, .long 0]))] H := hP
  have hD : va_D A [(o, .inr (0, [.ref n5, .ref n16, .ref n27, .ref n38, .null])), (n5, .inr (2, [.long 0, .long 0])), (n16, .inr (2, [.long 0, .long 0])), (n27, .inr (2, [.long 0, .long 0])), (n38, .inr (2, [.long 0, .long 0])), (n49, .inr (2, [.long 0, .long 0]))] := hD
  refine va_putF (D := D) (ci := 0) (v := .ref n49) (ty := .object "GridSums$Wide") (C := RX0) (T := TX0) (N := 5) hx hb hTB tb_X0 tyX0 tyX0_ok nmX0 hown hK.1 hP hD hS 0 rfl rfl 4 (by decide) (hTB _ tb_3_8) (fun _ h9 => h9) rfl hnm rfl (by decide +kernel) rfl rfl (Nat.le_of_ble_eq_true rfl) dX0_init_56 (fun H locs hP hD hS => ?_)
  have hP : va_P D vwCl [(o, .inr (0, [.ref n5, .ref n16, .ref n27, .ref n38, .ref n49])), (n5, .inr (2, [.long 0, .long 0])), (n16, .inr (2, [.long 0, .long 0])), (n27, .inr (2, [.long 0, .long 0])), (n38, .inr (2, [.long 0, .long 0])), (n49, .inr (2, [.long 0, .long 0]))] H := hP
  have hD : va_D A [(o, .inr (0, [.ref n5, .ref n16, .ref n27, .ref n38, .ref n49])), (n5, .inr (2, [.long 0, .long 0])), (n16, .inr (2, [.long 0, .long 0])), (n27, .inr (2, [.long 0, .long 0])), (n38, .inr (2, [.long 0, .long 0])), (n49, .inr (2, [.long 0, .long 0]))] := hD
  exact hret hP hD hS (n5, n16, n27, n38, n49) trivial [0, 1, 2, 3, 4, 5] rfl (by decide) dX0_init_59 (Nat.le_of_ble_eq_true rfl) (Nat.le_of_ble_eq_true rfl)

set_option maxHeartbeats 4000000 in
set_option maxRecDepth 100000 in
theorem c_X1_init (l : Launch) (D : va_G) (cZ cI cJ : ClassId) (o : Nat) : Cv l D cZ cI cJ yX1_init cX1_init 1 { frames := 2, cells := 2, slots := 4, locals := 32 } [.ref o] [(o, .inr (1, [.null, .null]))] (S := Nat × Nat) (fun u => True) (fun u => [(o, .inr (1, [.ref u.1, .ref u.2])), (u.1, .inr (2, [.long 0, .long 0])), (u.2, .inr (2, [.long 0, .long 0]))]) := by
  refine Cv.of (by decide) ?_
  intro p e s m args below meth c A Q hB hret hP hD hA
  obtain ⟨hx, hb, hr, hlocks, hml, hown, hnm, hTB, hK⟩ := hB
  have hown : s.vm.findClass RX1 = some m.cls := hown
  have hS : va_S A s.heap s.heap [] := va_S.rf
  have hl := lv_entry ([.ref o]) (n := 1) (Nat.le_of_ble_eq_true rfl)
  rw [lg_entry_eq]
  generalize (lg_sl ([.ref o]) ++ List.replicate (1 - (lg_sl ([.ref o])).length) Slot.unset).toArray = ls at hl ⊢
  have hl : lv_has ls 1 [(0, .ref o)] := hl
  refine lv_aload_n hx hb dX1_init_0 rfl (lv_at hl 0 rfl) ?_
  refine W.objInit hx hb hown (hTB _ tb_2_17) (hTB _ tb_1_12) (hTB _ tb_1_13) rfl (by rw [hml]; exact hl.1) rfl dX1_init_1 (Nat.le_of_ble_eq_true rfl) (Nat.le_of_ble_eq_true rfl) ?_
  refine W.eq (g2 := F0 m 4 ls []) rfl ?_
  refine lv_aload_n hx hb dX1_init_4 rfl (lv_at hl 0 rfl) ?_
  refine va_new (D := D) (ci := 2) (fs := [.long 0, .long 0]) (C := RX2) (T := TX2) (N := 2) hx hb hTB tb_X2 tyX2 tyX2_ok hown (hTB _ tb_2_18) (hTB _ tb_2_8) (hTB _ tb_2_9) hK.1 hP hD hS hA rfl (fun j hj => by rcases (show j = 0 ∨ j = 1 by omega) with rfl | rfl <;> rfl) (Nat.le_of_ble_eq_true rfl) (Nat.le_of_ble_eq_true rfl) dX1_init_5 (fun n5 H hP hD hS => ?_)
  have hP : va_P D vwCl [(o, .inr (1, [.null, .null])), (n5, .inr (2, [.long 0, .long 0]))] H := hP
  have hD : va_D A [(o, .inr (1, [.null, .null])), (n5, .inr (2, [.long 0, .long 0]))] := hD
  refine W.widen (k := 1) (n := 2) (by decide) (by decide) ?_
  refine lv_dup hx hb dX1_init_8 rfl ?_
  refine fin_v (wr := [(o, .inr (1, [.null, .null]))]) (va_runIN (As := []) (rest := [.ref n5, .ref o]) ⟨hx, hb, hml, hown, hTB⟩ (c_X2_init l D cZ cI cJ n5 0 0 _) (cw_IN hTB hK tb_2_22 tb_2_9 nw_1 tb_2_21 rfl nd_X2_init rfl rfl ⟨Nat.le_of_ble_eq_true rfl, Nat.le_of_ble_eq_true rfl⟩) (pre_S hK hP hD [1] rfl rfl) rfl rfl hl.1 rfl (lv_room (Nat.le_of_ble_eq_true rfl)) dX1_init_9 ⟨Nat.le_of_ble_eq_true rfl, Nat.le_of_ble_eq_true rfl⟩) hP hD hS hA [1] [0] rfl rfl rfl (by decide) (fun u9 H locs hc9 hP hD hS => ?_)
  subst hc9
  have hP : va_P D vwCl [(o, .inr (1, [.null, .null])), (n5, .inr (2, [.long 0, .long 0]))] H := hP
  have hD : va_D A [(o, .inr (1, [.null, .null])), (n5, .inr (2, [.long 0, .long 0]))] := hD
  refine va_putF (D := D) (ci := 1) (v := .ref n5) (ty := .object "GridSums$Wide") (C := RX1) (T := TX1) (N := 2) hx hb hTB tb_X1 tyX1 tyX1_ok nmX1 hown hK.1 hP hD hS 0 rfl rfl 0 (by decide) (hTB _ tb_2_19) (fun _ h9 => h9) rfl hnm rfl (by decide +kernel) rfl rfl (Nat.le_of_ble_eq_true rfl) dX1_init_12 (fun H locs hP hD hS => ?_)
  have hP : va_P D vwCl [(o, .inr (1, [.ref n5, .null])), (n5, .inr (2, [.long 0, .long 0]))] H := hP
  have hD : va_D A [(o, .inr (1, [.ref n5, .null])), (n5, .inr (2, [.long 0, .long 0]))] := hD
  refine lv_aload_n hx hb dX1_init_15 rfl (lv_at hl 0 rfl) ?_
  refine va_new (D := D) (ci := 2) (fs := [.long 0, .long 0]) (C := RX2) (T := TX2) (N := 2) hx hb hTB tb_X2 tyX2 tyX2_ok hown (hTB _ tb_2_18) (hTB _ tb_2_8) (hTB _ tb_2_9) hK.1 hP hD hS hA rfl (fun j hj => by rcases (show j = 0 ∨ j = 1 by omega) with rfl | rfl <;> rfl) (Nat.le_of_ble_eq_true rfl) (Nat.le_of_ble_eq_true rfl) dX1_init_16 (fun n16 H hP hD hS => ?_)
  have hP : va_P D vwCl [(o, .inr (1, [.ref n5, .null])), (n5, .inr (2, [.long 0, .long 0])), (n16, .inr (2, [.long 0, .long 0]))] H := hP
  have hD : va_D A [(o, .inr (1, [.ref n5, .null])), (n5, .inr (2, [.long 0, .long 0])), (n16, .inr (2, [.long 0, .long 0]))] := hD
  refine W.widen (k := 2) (n := 4) (by decide) (by decide) ?_
  refine lv_dup hx hb dX1_init_19 rfl ?_
  refine fin_v (wr := [(o, .inr (1, [.ref n5, .null])), (n5, .inr (2, [.long 0, .long 0]))]) (va_runIN (As := []) (rest := [.ref n16, .ref o]) ⟨hx, hb, hml, hown, hTB⟩ (c_X2_init l D cZ cI cJ n16 0 0 _) (cw_IN hTB hK tb_2_22 tb_2_9 nw_1 tb_2_21 rfl nd_X2_init rfl rfl ⟨Nat.le_of_ble_eq_true rfl, Nat.le_of_ble_eq_true rfl⟩) (pre_S hK hP hD [2] rfl rfl) rfl rfl hl.1 rfl (lv_room (Nat.le_of_ble_eq_true rfl)) dX1_init_20 ⟨Nat.le_of_ble_eq_true rfl, Nat.le_of_ble_eq_true rfl⟩) hP hD hS hA [2] [0, 1] rfl rfl rfl (by decide) (fun u20 H locs hc20 hP hD hS => ?_)
  subst hc20
  have hP : va_P D vwCl [(o, .inr (1, [.ref n5, .null])), (n5, .inr (2, [.long 0, .long 0])), (n16, .inr (2, [.long 0, .long 0]))] H := hP
  have hD : va_D A [(o, .inr (1, [.ref n5, .null])), (n5, .inr (2, [.long 0, .long 0])), (n16, .inr (2, [.long 0, .long 0]))] := hD
  refine va_putF (D := D) (ci := 1) (v := .ref n16) (ty := .object "GridSums$Wide") (C := RX1) (T := TX1) (N := 2) hx hb hTB tb_X1 tyX1 tyX1_ok nmX1 hown hK.1 hP hD hS 0 rfl rfl 1 (by decide) (hTB _ tb_2_20) (fun _ h9 => h9) rfl hnm rfl (by decide +kernel) rfl rfl (Nat.le_of_ble_eq_true rfl) dX1_init_23 (fun H locs hP hD hS => ?_)
  have hP : va_P D vwCl [(o, .inr (1, [.ref n5, .ref n16])), (n5, .inr (2, [.long 0, .long 0])), (n16, .inr (2, [.long 0, .long 0]))] H := hP
  have hD : va_D A [(o, .inr (1, [.ref n5, .ref n16])), (n5, .inr (2, [.long 0, .long 0])), (n16, .inr (2, [.long 0, .long 0]))] := hD
  exact hret hP hD hS (n5, n16) trivial [0, 1, 2] rfl (by decide) dX1_init_26 (Nat.le_of_ble_eq_true rfl) (Nat.le_of_ble_eq_true rfl)

set_option maxHeartbeats 4000000 in
set_option maxRecDepth 100000 in
theorem c_X1_putWhole (l : Launch) (D : va_G) (cZ cI cJ : ClassId) (o up lw : Nat) (uh ul vh vl v : Int64) : Cv l D cZ cI cJ yX1_putWhole cX1_putWhole 3 { frames := 1, cells := 0, slots := 0, locals := 22 } [.ref o, .long v] [(o, .inr (1, [.ref up, .ref lw])), (up, .inr (2, [.long uh, .long ul])), (lw, .inr (2, [.long vh, .long vl]))] (S := (Int64 × Int64) × (Int64 × Int64)) (fun u => wv u.1.1 u.1.2 = v.toInt ∧ wv u.2.1 u.2.2 = 1) (fun u => [(o, .inr (1, [.ref up, .ref lw])), (up, .inr (2, [.long u.1.1, .long u.1.2])), (lw, .inr (2, [.long u.2.1, .long u.2.2]))]) := by
  refine Cv.of (by decide) ?_
  intro p e s m args below meth c A Q hB hret hP hD hA
  obtain ⟨hx, hb, hr, hlocks, hml, hown, hnm, hTB, hK⟩ := hB
  have hown : s.vm.findClass RX1 = some m.cls := hown
  have hS : va_S A s.heap s.heap [] := va_S.rf
  have hl := lv_entry ([.ref o, .long v]) (n := 3) (Nat.le_of_ble_eq_true rfl)
  rw [lg_entry_eq]
  generalize (lg_sl ([.ref o, .long v]) ++ List.replicate (3 - (lg_sl ([.ref o, .long v])).length) Slot.unset).toArray = ls at hl ⊢
  have hl : lv_has ls 3 [(0, .ref o), (1, .long v)] := hl
  refine lv_aload_n hx hb dX1_putWhole_0 rfl (lv_at hl 0 rfl) ?_
  refine va_get (D := D) (ci := 1) (v := .ref up) (C := RX1) (T := TX1) (N := 2) hx hb hTB tb_X1 hown hK.1 hP 0 rfl rfl 0 (by decide) (hTB _ tb_2_19) (fun _ h9 => h9) rfl dX1_putWhole_1 ?_
  refine lv_lload_n hx hb dX1_putWhole_4 rfl (lv_at hl 1 rfl) ?_
  refine fin_v (wr := [(o, .inr (1, [.ref up, .ref lw])), (lw, .inr (2, [.long vh, .long vl]))]) (va_runV (As := [.long v]) (rest := []) ⟨hx, hb, hml, hown, hTB⟩ (c_X2_put l D cZ cI cJ up uh ul v _) (cw_V hTB tb_4_20 tb_2_9 tb_9_6 tb_4_18 tb_4_19 nd_X2_put rfl rfl ⟨Nat.le_of_ble_eq_true rfl, Nat.le_of_ble_eq_true rfl⟩) (pre_V (q0 := 1) hK hP hD [1] rfl rfl rfl rfl) rfl rfl hl.1 rfl (lv_room (Nat.le_of_ble_eq_true rfl)) dX1_putWhole_5 ⟨Nat.le_of_ble_eq_true rfl, Nat.le_of_ble_eq_true rfl⟩) hP hD hS hA [1] [0, 2] rfl rfl rfl (by decide) (fun u5 H locs hc5 hP hD hS => ?_)
  obtain ⟨w5h, w5l⟩ := u5
  try dsimp only at hc5
  have hP : va_P D vwCl [(o, .inr (1, [.ref up, .ref lw])), (lw, .inr (2, [.long vh, .long vl])), (up, .inr (2, [.long w5h, .long w5l]))] H := hP
  have hD : va_D A [(o, .inr (1, [.ref up, .ref lw])), (lw, .inr (2, [.long vh, .long vl])), (up, .inr (2, [.long w5h, .long w5l]))] := hD
  refine lv_aload_n hx hb dX1_putWhole_8 rfl (lv_at hl 0 rfl) ?_
  refine va_get (D := D) (ci := 1) (v := .ref lw) (C := RX1) (T := TX1) (N := 2) hx hb hTB tb_X1 hown hK.1 hP 0 rfl rfl 1 (by decide) (hTB _ tb_2_20) (fun _ h9 => h9) rfl dX1_putWhole_9 ?_
  refine lv_lconst (v := 1) hx hb dX1_putWhole_12 (by decide) ?_
  refine fin_v (wr := [(o, .inr (1, [.ref up, .ref lw])), (up, .inr (2, [.long w5h, .long w5l]))]) (va_runV (As := [.long 1]) (rest := []) ⟨hx, hb, hml, hown, hTB⟩ (c_X2_put l D cZ cI cJ lw vh vl 1 _) (cw_V hTB tb_4_20 tb_2_9 tb_9_6 tb_4_18 tb_4_19 nd_X2_put rfl rfl ⟨Nat.le_of_ble_eq_true rfl, Nat.le_of_ble_eq_true rfl⟩) (pre_V (q0 := 1) hK hP hD [1] rfl rfl rfl rfl) rfl rfl hl.1 rfl (lv_room (Nat.le_of_ble_eq_true rfl)) dX1_putWhole_13 ⟨Nat.le_of_ble_eq_true rfl, Nat.le_of_ble_eq_true rfl⟩) hP hD hS hA [1] [0, 2] rfl rfl rfl (by decide) (fun u13 H locs hc13 hP hD hS => ?_)
  obtain ⟨w13h, w13l⟩ := u13
  try dsimp only at hc13
  have hP : va_P D vwCl [(o, .inr (1, [.ref up, .ref lw])), (up, .inr (2, [.long w5h, .long w5l])), (lw, .inr (2, [.long w13h, .long w13l]))] H := hP
  have hD : va_D A [(o, .inr (1, [.ref up, .ref lw])), (up, .inr (2, [.long w5h, .long w5l])), (lw, .inr (2, [.long w13h, .long w13l]))] := hD
  exact hret hP hD hS ((w5h, w5l), (w13h, w13l)) (⟨hc5, hc13⟩) [0, 1, 2] rfl (by decide) dX1_putWhole_16 (Nat.le_of_ble_eq_true rfl) (Nat.le_of_ble_eq_true rfl)

set_option maxHeartbeats 4000000 in
set_option maxRecDepth 100000 in
theorem c_X1_putOnWay (l : Launch) (D : va_G) (cZ cI cJ : ClassId) (o up lw pa wh : Nat) (uh ul vh vl ph pl wh2 wl2 st wy : Int64) (hI1 : In (wv wh2 wl2 * st.toInt)) (hI2 : In (wv ph pl * wy.toInt)) (hI3 : In (wv wh2 wl2 * st.toInt + wv ph pl * wy.toInt)) : Cv l D cZ cI cJ yX1_putOnWay cX1_putOnWay 7 { frames := 3, cells := 0, slots := 0, locals := 74 } [.ref o, .long st, .long wy, .ref pa, .ref wh] [(o, .inr (1, [.ref up, .ref lw])), (up, .inr (2, [.long uh, .long ul])), (lw, .inr (2, [.long vh, .long vl])), (pa, .inr (2, [.long ph, .long pl])), (wh, .inr (2, [.long wh2, .long wl2]))] (S := (Int64 × Int64) × (Int64 × Int64)) (fun u => wv u.1.1 u.1.2 = wv wh2 wl2 * st.toInt + wv ph pl * wy.toInt ∧ u.2 = (wh2, wl2)) (fun u => [(o, .inr (1, [.ref up, .ref lw])), (up, .inr (2, [.long u.1.1, .long u.1.2])), (lw, .inr (2, [.long u.2.1, .long u.2.2])), (pa, .inr (2, [.long ph, .long pl])), (wh, .inr (2, [.long wh2, .long wl2]))]) := by
  refine Cv.of (by decide) ?_
  intro p e s m args below meth c A Q hB hret hP hD hA
  obtain ⟨hx, hb, hr, hlocks, hml, hown, hnm, hTB, hK⟩ := hB
  have hown : s.vm.findClass RX1 = some m.cls := hown
  have hS : va_S A s.heap s.heap [] := va_S.rf
  have hl := lv_entry ([.ref o, .long st, .long wy, .ref pa, .ref wh]) (n := 7) (Nat.le_of_ble_eq_true rfl)
  rw [lg_entry_eq]
  generalize (lg_sl ([.ref o, .long st, .long wy, .ref pa, .ref wh]) ++ List.replicate (7 - (lg_sl ([.ref o, .long st, .long wy, .ref pa, .ref wh])).length) Slot.unset).toArray = ls at hl ⊢
  have hl : lv_has ls 7 [(0, .ref o), (1, .long st), (3, .long wy), (5, .ref pa), (6, .ref wh)] := hl
  refine lv_aload_n hx hb dX1_putOnWay_0 rfl (lv_at hl 0 rfl) ?_
  refine va_get (D := D) (ci := 1) (v := .ref up) (C := RX1) (T := TX1) (N := 2) hx hb hTB tb_X1 hown hK.1 hP 0 rfl rfl 0 (by decide) (hTB _ tb_2_19) (fun _ h9 => h9) rfl dX1_putOnWay_1 ?_
  refine lv_lconst (v := 0) hx hb dX1_putOnWay_4 (by decide) ?_
  refine fin_v (wr := [(o, .inr (1, [.ref up, .ref lw])), (lw, .inr (2, [.long vh, .long vl])), (pa, .inr (2, [.long ph, .long pl])), (wh, .inr (2, [.long wh2, .long wl2]))]) (va_runV (As := [.long 0]) (rest := []) ⟨hx, hb, hml, hown, hTB⟩ (c_X2_put l D cZ cI cJ up uh ul 0 _) (cw_V hTB tb_4_20 tb_2_9 tb_9_6 tb_4_18 tb_4_19 nd_X2_put rfl rfl ⟨Nat.le_of_ble_eq_true rfl, Nat.le_of_ble_eq_true rfl⟩) (pre_V (q0 := 1) hK hP hD [1] rfl rfl rfl rfl) rfl rfl hl.1 rfl (lv_room (Nat.le_of_ble_eq_true rfl)) dX1_putOnWay_5 ⟨Nat.le_of_ble_eq_true rfl, Nat.le_of_ble_eq_true rfl⟩) hP hD hS hA [1] [0, 2, 3, 4] rfl rfl rfl (by decide) (fun u5 H locs hc5 hP hD hS => ?_)
  obtain ⟨w5h, w5l⟩ := u5
  try dsimp only at hc5
  have hP : va_P D vwCl [(o, .inr (1, [.ref up, .ref lw])), (lw, .inr (2, [.long vh, .long vl])), (pa, .inr (2, [.long ph, .long pl])), (wh, .inr (2, [.long wh2, .long wl2])), (up, .inr (2, [.long w5h, .long w5l]))] H := hP
  have hD : va_D A [(o, .inr (1, [.ref up, .ref lw])), (lw, .inr (2, [.long vh, .long vl])), (pa, .inr (2, [.long ph, .long pl])), (wh, .inr (2, [.long wh2, .long wl2])), (up, .inr (2, [.long w5h, .long w5l]))] := hD
  refine lv_aload_n hx hb dX1_putOnWay_8 rfl (lv_at hl 0 rfl) ?_
  refine va_get (D := D) (ci := 1) (v := .ref up) (C := RX1) (T := TX1) (N := 2) hx hb hTB tb_X1 hown hK.1 hP 0 rfl rfl 0 (by decide) (hTB _ tb_2_19) (fun _ h9 => h9) rfl dX1_putOnWay_9 ?_
  refine lv_aload hx hb dX1_putOnWay_12 (lv_at hl 4 rfl) ?_
  refine lv_lload_n hx hb dX1_putOnWay_14 rfl (lv_at hl 1 rfl) ?_
  refine fin_v (wr := [(o, .inr (1, [.ref up, .ref lw])), (lw, .inr (2, [.long vh, .long vl])), (pa, .inr (2, [.long ph, .long pl]))]) (va_runV (As := [.ref wh, .long st]) (rest := []) ⟨hx, hb, hml, hown, hTB⟩ (c_X2_addScaled l D cZ cI cJ up wh w5h w5l wh2 wl2 st _) (cw_V hTB tb_10_6 tb_2_9 tb_10_3 tb_10_4 tb_10_5 nd_X2_addScaled rfl rfl ⟨Nat.le_of_ble_eq_true rfl, Nat.le_of_ble_eq_true rfl⟩) (pre_V (q0 := 4) hK hP hD [4, 3] rfl rfl rfl rfl) rfl rfl hl.1 rfl (lv_room (Nat.le_of_ble_eq_true rfl)) dX1_putOnWay_15 ⟨Nat.le_of_ble_eq_true rfl, Nat.le_of_ble_eq_true rfl⟩) hP hD hS hA [4, 3] [0, 1, 2] rfl rfl rfl (by decide) (fun u15 H locs hc15 hP hD hS => ?_)
  obtain ⟨w15h, w15l⟩ := u15
  try dsimp only at hc15
  have hP : va_P D vwCl [(o, .inr (1, [.ref up, .ref lw])), (lw, .inr (2, [.long vh, .long vl])), (pa, .inr (2, [.long ph, .long pl])), (up, .inr (2, [.long w15h, .long w15l])), (wh, .inr (2, [.long wh2, .long wl2]))] H := hP
  have hD : va_D A [(o, .inr (1, [.ref up, .ref lw])), (lw, .inr (2, [.long vh, .long vl])), (pa, .inr (2, [.long ph, .long pl])), (up, .inr (2, [.long w15h, .long w15l])), (wh, .inr (2, [.long wh2, .long wl2]))] := hD
  refine lv_aload_n hx hb dX1_putOnWay_18 rfl (lv_at hl 0 rfl) ?_
  refine va_get (D := D) (ci := 1) (v := .ref up) (C := RX1) (T := TX1) (N := 2) hx hb hTB tb_X1 hown hK.1 hP 0 rfl rfl 0 (by decide) (hTB _ tb_2_19) (fun _ h9 => h9) rfl dX1_putOnWay_19 ?_
  refine lv_aload hx hb dX1_putOnWay_22 (lv_at hl 3 rfl) ?_
  refine lv_lload_n hx hb dX1_putOnWay_24 rfl (lv_at hl 2 rfl) ?_
  refine fin_v (wr := [(o, .inr (1, [.ref up, .ref lw])), (lw, .inr (2, [.long vh, .long vl])), (wh, .inr (2, [.long wh2, .long wl2]))]) (va_runV (As := [.ref pa, .long wy]) (rest := []) ⟨hx, hb, hml, hown, hTB⟩ (c_X2_addScaled l D cZ cI cJ up pa w15h w15l ph pl wy _) (cw_V hTB tb_10_6 tb_2_9 tb_10_3 tb_10_4 tb_10_5 nd_X2_addScaled rfl rfl ⟨Nat.le_of_ble_eq_true rfl, Nat.le_of_ble_eq_true rfl⟩) (pre_V (q0 := 3) hK hP hD [3, 2] rfl rfl rfl rfl) rfl rfl hl.1 rfl (lv_room (Nat.le_of_ble_eq_true rfl)) dX1_putOnWay_25 ⟨Nat.le_of_ble_eq_true rfl, Nat.le_of_ble_eq_true rfl⟩) hP hD hS hA [3, 2] [0, 1, 4] rfl rfl rfl (by decide) (fun u25 H locs hc25 hP hD hS => ?_)
  obtain ⟨w25h, w25l⟩ := u25
  try dsimp only at hc25
  have hP : va_P D vwCl [(o, .inr (1, [.ref up, .ref lw])), (lw, .inr (2, [.long vh, .long vl])), (wh, .inr (2, [.long wh2, .long wl2])), (up, .inr (2, [.long w25h, .long w25l])), (pa, .inr (2, [.long ph, .long pl]))] H := hP
  have hD : va_D A [(o, .inr (1, [.ref up, .ref lw])), (lw, .inr (2, [.long vh, .long vl])), (wh, .inr (2, [.long wh2, .long wl2])), (up, .inr (2, [.long w25h, .long w25l])), (pa, .inr (2, [.long ph, .long pl]))] := hD
  refine lv_aload_n hx hb dX1_putOnWay_28 rfl (lv_at hl 0 rfl) ?_
  refine va_get (D := D) (ci := 1) (v := .ref lw) (C := RX1) (T := TX1) (N := 2) hx hb hTB tb_X1 hown hK.1 hP 0 rfl rfl 1 (by decide) (hTB _ tb_2_20) (fun _ h9 => h9) rfl dX1_putOnWay_29 ?_
  refine lv_aload hx hb dX1_putOnWay_32 (lv_at hl 4 rfl) ?_
  refine fin_v (wr := [(o, .inr (1, [.ref up, .ref lw])), (up, .inr (2, [.long w25h, .long w25l])), (pa, .inr (2, [.long ph, .long pl]))]) (va_runV (As := [.ref wh]) (rest := []) ⟨hx, hb, hml, hown, hTB⟩ (c_X2_copy l D cZ cI cJ lw wh vh vl wh2 wl2 _) (cw_V hTB tb_10_10 tb_2_9 tb_10_7 tb_10_8 tb_10_9 nd_X2_copy rfl rfl ⟨Nat.le_of_ble_eq_true rfl, Nat.le_of_ble_eq_true rfl⟩) (pre_V (q0 := 1) hK hP hD [1, 2] rfl rfl rfl rfl) rfl rfl hl.1 rfl (lv_room (Nat.le_of_ble_eq_true rfl)) dX1_putOnWay_34 ⟨Nat.le_of_ble_eq_true rfl, Nat.le_of_ble_eq_true rfl⟩) hP hD hS hA [1, 2] [0, 3, 4] rfl rfl rfl (by decide) (fun u34 H locs hc34 hP hD hS => ?_)
  obtain ⟨w34h, w34l⟩ := u34
  try dsimp only at hc34
  have hP : va_P D vwCl [(o, .inr (1, [.ref up, .ref lw])), (up, .inr (2, [.long w25h, .long w25l])), (pa, .inr (2, [.long ph, .long pl])), (lw, .inr (2, [.long w34h, .long w34l])), (wh, .inr (2, [.long wh2, .long wl2]))] H := hP
  have hD : va_D A [(o, .inr (1, [.ref up, .ref lw])), (up, .inr (2, [.long w25h, .long w25l])), (pa, .inr (2, [.long ph, .long pl])), (lw, .inr (2, [.long w34h, .long w34l])), (wh, .inr (2, [.long wh2, .long wl2]))] := hD
  exact hret hP hD hS ((w25h, w25l), (w34h, w34l)) (⟨by rw [hc5, t0, Int.zero_add] at hc15; rw [hc15 hI1 hI1] at hc25; exact hc25 hI2 hI3, hc34⟩) [0, 1, 3, 2, 4] rfl (by decide) dX1_putOnWay_37 (Nat.le_of_ble_eq_true rfl) (Nat.le_of_ble_eq_true rfl)

set_option maxHeartbeats 4000000 in
set_option maxRecDepth 100000 in
theorem c_X1_reduce (l : Launch) (D : va_G) (cZ cI cJ : ClassId) (o up lw dv q r d lm co : Nat) (uh ul vh vl qh ql rh rl dh dl mh ml ch cl : Int64) (Ln : Nat) (hL : wv vh vl = (Ln : Int)) (hL0 : 0 < Ln) (hA1 : (wv uh ul).natAbs < 170141183460469231731687303715884105728) : Cv l D cZ cI cJ yX1_reduce cX1_reduce 2 { frames := 4, cells := 0, slots := 0, locals := 90 } [.ref o, .ref dv] [(o, .inr (1, [.ref up, .ref lw])), (up, .inr (2, [.long uh, .long ul])), (lw, .inr (2, [.long vh, .long vl])), (dv, .inr (0, [.ref q, .ref r, .ref d, .ref lm, .ref co])), (q, .inr (2, [.long qh, .long ql])), (r, .inr (2, [.long rh, .long rl])), (d, .inr (2, [.long dh, .long dl])), (lm, .inr (2, [.long mh, .long ml])), (co, .inr (2, [.long ch, .long cl]))] (S := (Int64 × Int64) × (Int64 × Int64) × (Int64 × Int64) × (Int64 × Int64) × (Int64 × Int64) × (Int64 × Int64) × (Int64 × Int64)) (fun u => wv u.1.1 u.1.2 = wv uh ul / ((Nat.gcd (wv uh ul).natAbs Ln) : Int) ∧ wv u.2.1.1 u.2.1.2 = (Ln : Int) / ((Nat.gcd (wv uh ul).natAbs Ln) : Int)) (fun u => [(o, .inr (1, [.ref up, .ref lw])), (up, .inr (2, [.long u.1.1, .long u.1.2])), (lw, .inr (2, [.long u.2.1.1, .long u.2.1.2])), (dv, .inr (0, [.ref q, .ref r, .ref d, .ref lm, .ref co])), (q, .inr (2, [.long u.2.2.1.1, .long u.2.2.1.2])), (r, .inr (2, [.long u.2.2.2.1.1, .long u.2.2.2.1.2])), (d, .inr (2, [.long u.2.2.2.2.1.1, .long u.2.2.2.2.1.2])), (lm, .inr (2, [.long u.2.2.2.2.2.1.1, .long u.2.2.2.2.2.1.2])), (co, .inr (2, [.long u.2.2.2.2.2.2.1, .long u.2.2.2.2.2.2.2]))]) := by
  refine Cv.of (by decide) ?_
  intro p e s m args below meth c A Q hB hret hP hD hA
  obtain ⟨hx, hb, hr, hlocks, hml, hown, hnm, hTB, hK⟩ := hB
  have hown : s.vm.findClass RX1 = some m.cls := hown
  have hS : va_S A s.heap s.heap [] := va_S.rf
  have hG0 : 0 < (Nat.gcd (wv uh ul).natAbs Ln) := Nat.gcd_pos_of_pos_right _ hL0
  have hl := lv_entry ([.ref o, .ref dv]) (n := 2) (Nat.le_of_ble_eq_true rfl)
  rw [lg_entry_eq]
  generalize (lg_sl ([.ref o, .ref dv]) ++ List.replicate (2 - (lg_sl ([.ref o, .ref dv])).length) Slot.unset).toArray = ls at hl ⊢
  have hl : lv_has ls 2 [(0, .ref o), (1, .ref dv)] := hl
  refine lv_aload_n hx hb dX1_reduce_0 rfl (lv_at hl 1 rfl) ?_
  refine lv_aload_n hx hb dX1_reduce_1 rfl (lv_at hl 0 rfl) ?_
  refine va_get (D := D) (ci := 1) (v := .ref up) (C := RX1) (T := TX1) (N := 2) hx hb hTB tb_X1 hown hK.1 hP 0 rfl rfl 0 (by decide) (hTB _ tb_2_19) (fun _ h9 => h9) rfl dX1_reduce_2 ?_
  refine lv_aload_n hx hb dX1_reduce_5 rfl (lv_at hl 0 rfl) ?_
  refine va_get (D := D) (ci := 1) (v := .ref lw) (C := RX1) (T := TX1) (N := 2) hx hb hTB tb_X1 hown hK.1 hP 0 rfl rfl 1 (by decide) (hTB _ tb_2_20) (fun _ h9 => h9) rfl dX1_reduce_6 ?_
  refine fin_v (wr := [(o, .inr (1, [.ref up, .ref lw])), (q, .inr (2, [.long qh, .long ql])), (d, .inr (2, [.long dh, .long dl])), (lm, .inr (2, [.long mh, .long ml]))]) (va_runV (As := [.ref up, .ref lw]) (rest := []) ⟨hx, hb, hml, hown, hTB⟩ (c_X0_findCommon l D cZ cI cJ dv q r d lm co up lw rh rl ch cl uh ul vh vl Ln hL hL0 hA1 _) (cw_V hTB tb_10_18 tb_2_5 tb_10_15 tb_10_16 tb_10_17 nd_X0_findCommon rfl rfl ⟨Nat.le_of_ble_eq_true rfl, Nat.le_of_ble_eq_true rfl⟩) (pre_V (q0 := 3) hK hP hD [3, 5, 8, 1, 2] rfl rfl rfl rfl) rfl rfl hl.1 rfl (lv_room (Nat.le_of_ble_eq_true rfl)) dX1_reduce_9 ⟨Nat.le_of_ble_eq_true rfl, Nat.le_of_ble_eq_true rfl⟩) hP hD hS hA [3, 5, 8, 1, 2] [0, 4, 6, 7] rfl rfl rfl (by decide) (fun u9 H locs hc9 hP hD hS => ?_)
  obtain ⟨⟨r9h, r9l⟩, c9h, c9l⟩ := u9
  dsimp only at hc9
  have hP : va_P D vwCl [(o, .inr (1, [.ref up, .ref lw])), (q, .inr (2, [.long qh, .long ql])), (d, .inr (2, [.long dh, .long dl])), (lm, .inr (2, [.long mh, .long ml])), (dv, .inr (0, [.ref q, .ref r, .ref d, .ref lm, .ref co])), (r, .inr (2, [.long r9h, .long r9l])), (co, .inr (2, [.long c9h, .long c9l])), (up, .inr (2, [.long uh, .long ul])), (lw, .inr (2, [.long vh, .long vl]))] H := hP
  have hD : va_D A [(o, .inr (1, [.ref up, .ref lw])), (q, .inr (2, [.long qh, .long ql])), (d, .inr (2, [.long dh, .long dl])), (lm, .inr (2, [.long mh, .long ml])), (dv, .inr (0, [.ref q, .ref r, .ref d, .ref lm, .ref co])), (r, .inr (2, [.long r9h, .long r9l])), (co, .inr (2, [.long c9h, .long c9l])), (up, .inr (2, [.long uh, .long ul])), (lw, .inr (2, [.long vh, .long vl]))] := hD
  refine lv_aload_n hx hb dX1_reduce_12 rfl (lv_at hl 1 rfl) ?_
  refine lv_aload_n hx hb dX1_reduce_13 rfl (lv_at hl 0 rfl) ?_
  refine va_get (D := D) (ci := 1) (v := .ref up) (C := RX1) (T := TX1) (N := 2) hx hb hTB tb_X1 hown hK.1 hP 0 rfl rfl 0 (by decide) (hTB _ tb_2_19) (fun _ h9 => h9) rfl dX1_reduce_14 ?_
  refine fin_v (wr := [(o, .inr (1, [.ref up, .ref lw])), (lw, .inr (2, [.long vh, .long vl]))]) (va_runV (As := [.ref up]) (rest := []) ⟨hx, hb, hml, hown, hTB⟩ (c_X0_takeCommonOut l D cZ cI cJ dv q r d lm co up qh ql r9h r9l dh dl mh ml c9h c9l uh ul (Nat.gcd (wv uh ul).natAbs Ln) hc9 hG0 (Nat.gcd_dvd_left _ _) hA1 _) (cw_V hTB tb_12_3 tb_2_5 tb_12_0 tb_12_1 tb_12_2 nd_X0_takeCommonOut rfl rfl ⟨Nat.le_of_ble_eq_true rfl, Nat.le_of_ble_eq_true rfl⟩) (pre_V (q0 := 4) hK hP hD [4, 1, 5, 2, 3, 6, 7] rfl rfl rfl rfl) rfl rfl hl.1 rfl (lv_room (Nat.le_of_ble_eq_true rfl)) dX1_reduce_17 ⟨Nat.le_of_ble_eq_true rfl, Nat.le_of_ble_eq_true rfl⟩) hP hD hS hA [4, 1, 5, 2, 3, 6, 7] [0, 8] rfl rfl rfl (by decide) (fun u17 H locs hc17 hP hD hS => ?_)
  obtain ⟨⟨x17a, x17b⟩, ⟨x17c, x17d⟩, ⟨x17e, x17f⟩, ⟨x17g, x17h⟩, x17i, x17j⟩ := u17
  dsimp only at hc17
  have hP : va_P D vwCl [(o, .inr (1, [.ref up, .ref lw])), (lw, .inr (2, [.long vh, .long vl])), (dv, .inr (0, [.ref q, .ref r, .ref d, .ref lm, .ref co])), (q, .inr (2, [.long x17a, .long x17b])), (r, .inr (2, [.long x17c, .long x17d])), (d, .inr (2, [.long x17e, .long x17f])), (lm, .inr (2, [.long x17g, .long x17h])), (co, .inr (2, [.long c9h, .long c9l])), (up, .inr (2, [.long x17i, .long x17j]))] H := hP
  have hD : va_D A [(o, .inr (1, [.ref up, .ref lw])), (lw, .inr (2, [.long vh, .long vl])), (dv, .inr (0, [.ref q, .ref r, .ref d, .ref lm, .ref co])), (q, .inr (2, [.long x17a, .long x17b])), (r, .inr (2, [.long x17c, .long x17d])), (d, .inr (2, [.long x17e, .long x17f])), (lm, .inr (2, [.long x17g, .long x17h])), (co, .inr (2, [.long c9h, .long c9l])), (up, .inr (2, [.long x17i, .long x17j]))] := hD
  refine lv_aload_n hx hb dX1_reduce_20 rfl (lv_at hl 1 rfl) ?_
  refine lv_aload_n hx hb dX1_reduce_21 rfl (lv_at hl 0 rfl) ?_
  refine va_get (D := D) (ci := 1) (v := .ref lw) (C := RX1) (T := TX1) (N := 2) hx hb hTB tb_X1 hown hK.1 hP 0 rfl rfl 1 (by decide) (hTB _ tb_2_20) (fun _ h9 => h9) rfl dX1_reduce_22 ?_
  refine fin_v (wr := [(o, .inr (1, [.ref up, .ref lw])), (up, .inr (2, [.long x17i, .long x17j]))]) (va_runV (As := [.ref lw]) (rest := []) ⟨hx, hb, hml, hown, hTB⟩ (c_X0_takeCommonOut l D cZ cI cJ dv q r d lm co lw x17a x17b x17c x17d x17e x17f x17g x17h c9h c9l vh vl (Nat.gcd (wv uh ul).natAbs Ln) hc9 hG0 (by rw [hL, Int.natAbs_natCast]; exact Nat.gcd_dvd_right _ _) (by have := wv_in vh vl; unfold In at this; omega) _) (cw_V hTB tb_12_3 tb_2_5 tb_12_0 tb_12_1 tb_12_2 nd_X0_takeCommonOut rfl rfl ⟨Nat.le_of_ble_eq_true rfl, Nat.le_of_ble_eq_true rfl⟩) (pre_V (q0 := 2) hK hP hD [2, 3, 4, 5, 6, 7, 1] rfl rfl rfl rfl) rfl rfl hl.1 rfl (lv_room (Nat.le_of_ble_eq_true rfl)) dX1_reduce_25 ⟨Nat.le_of_ble_eq_true rfl, Nat.le_of_ble_eq_true rfl⟩) hP hD hS hA [2, 3, 4, 5, 6, 7, 1] [0, 8] rfl rfl rfl (by decide) (fun u25 H locs hc25 hP hD hS => ?_)
  obtain ⟨⟨x25a, x25b⟩, ⟨x25c, x25d⟩, ⟨x25e, x25f⟩, ⟨x25g, x25h⟩, x25i, x25j⟩ := u25
  dsimp only at hc25
  have hP : va_P D vwCl [(o, .inr (1, [.ref up, .ref lw])), (up, .inr (2, [.long x17i, .long x17j])), (dv, .inr (0, [.ref q, .ref r, .ref d, .ref lm, .ref co])), (q, .inr (2, [.long x25a, .long x25b])), (r, .inr (2, [.long x25c, .long x25d])), (d, .inr (2, [.long x25e, .long x25f])), (lm, .inr (2, [.long x25g, .long x25h])), (co, .inr (2, [.long c9h, .long c9l])), (lw, .inr (2, [.long x25i, .long x25j]))] H := hP
  have hD : va_D A [(o, .inr (1, [.ref up, .ref lw])), (up, .inr (2, [.long x17i, .long x17j])), (dv, .inr (0, [.ref q, .ref r, .ref d, .ref lm, .ref co])), (q, .inr (2, [.long x25a, .long x25b])), (r, .inr (2, [.long x25c, .long x25d])), (d, .inr (2, [.long x25e, .long x25f])), (lm, .inr (2, [.long x25g, .long x25h])), (co, .inr (2, [.long c9h, .long c9l])), (lw, .inr (2, [.long x25i, .long x25j]))] := hD
  exact hret hP hD hS ((x17i, x17j), (x25i, x25j), (x25a, x25b), (x25c, x25d), (x25e, x25f), (x25g, x25h), (c9h, c9l)) (⟨hc17, by rw [← hL]; exact hc25⟩) [0, 1, 8, 2, 3, 4, 5, 6, 7] rfl (by decide) dX1_reduce_28 (Nat.le_of_ble_eq_true rfl) (Nat.le_of_ble_eq_true rfl)
