theorem nd_X0_init : yX0_init.cls ≠ "java/lang/invoke/MethodHandle" ∧ yX0_init.cls ≠ "java/lang/invoke/VarHandle" ∧ (parseMethodDescriptor yX0_init.desc).map (fun d => d.parameters.length) = some 0 := by decide +kernel
theorem nd_X0_rounded : yX0_rounded.cls ≠ "java/lang/invoke/MethodHandle" ∧ yX0_rounded.cls ≠ "java/lang/invoke/VarHandle" ∧ (parseMethodDescriptor yX0_rounded.desc).map (fun d => d.parameters.length) = some 3 := by decide +kernel
theorem nd_X0_divideAmounts : yX0_divideAmounts.cls ≠ "java/lang/invoke/MethodHandle" ∧ yX0_divideAmounts.cls ≠ "java/lang/invoke/VarHandle" ∧ (parseMethodDescriptor yX0_divideAmounts.desc).map (fun d => d.parameters.length) = some 2 := by decide +kernel
theorem nd_X0_isOneMore : yX0_isOneMore.cls ≠ "java/lang/invoke/MethodHandle" ∧ yX0_isOneMore.cls ≠ "java/lang/invoke/VarHandle" ∧ (parseMethodDescriptor yX0_isOneMore.desc).map (fun d => d.parameters.length) = some 2 := by decide +kernel
theorem nd_X0_isOneMoreNearer : yX0_isOneMoreNearer.cls ≠ "java/lang/invoke/MethodHandle" ∧ yX0_isOneMoreNearer.cls ≠ "java/lang/invoke/VarHandle" ∧ (parseMethodDescriptor yX0_isOneMoreNearer.desc).map (fun d => d.parameters.length) = some 1 := by decide +kernel
theorem nd_X0_findCommon : yX0_findCommon.cls ≠ "java/lang/invoke/MethodHandle" ∧ yX0_findCommon.cls ≠ "java/lang/invoke/VarHandle" ∧ (parseMethodDescriptor yX0_findCommon.desc).map (fun d => d.parameters.length) = some 2 := by decide +kernel
theorem nd_X0_takeLessFromGreater : yX0_takeLessFromGreater.cls ≠ "java/lang/invoke/MethodHandle" ∧ yX0_takeLessFromGreater.cls ≠ "java/lang/invoke/VarHandle" ∧ (parseMethodDescriptor yX0_takeLessFromGreater.desc).map (fun d => d.parameters.length) = some 0 := by decide +kernel
theorem nd_X0_takeCommonOut : yX0_takeCommonOut.cls ≠ "java/lang/invoke/MethodHandle" ∧ yX0_takeCommonOut.cls ≠ "java/lang/invoke/VarHandle" ∧ (parseMethodDescriptor yX0_takeCommonOut.desc).map (fun d => d.parameters.length) = some 1 := by decide +kernel
theorem nd_X1_init : yX1_init.cls ≠ "java/lang/invoke/MethodHandle" ∧ yX1_init.cls ≠ "java/lang/invoke/VarHandle" ∧ (parseMethodDescriptor yX1_init.desc).map (fun d => d.parameters.length) = some 0 := by decide +kernel
theorem nd_X1_putWhole : yX1_putWhole.cls ≠ "java/lang/invoke/MethodHandle" ∧ yX1_putWhole.cls ≠ "java/lang/invoke/VarHandle" ∧ (parseMethodDescriptor yX1_putWhole.desc).map (fun d => d.parameters.length) = some 1 := by decide +kernel
theorem nd_X1_putOnWay : yX1_putOnWay.cls ≠ "java/lang/invoke/MethodHandle" ∧ yX1_putOnWay.cls ≠ "java/lang/invoke/VarHandle" ∧ (parseMethodDescriptor yX1_putOnWay.desc).map (fun d => d.parameters.length) = some 4 := by decide +kernel
theorem nd_X1_reduce : yX1_reduce.cls ≠ "java/lang/invoke/MethodHandle" ∧ yX1_reduce.cls ≠ "java/lang/invoke/VarHandle" ∧ (parseMethodDescriptor yX1_reduce.desc).map (fun d => d.parameters.length) = some 1 := by decide +kernel

set_option maxHeartbeats 4000000 in
set_option maxRecDepth 100000 in
theorem c_X0_divideAmounts (l : Launch) (D : va_G) (cZ cI cJ : ClassId) (o q r d lm co up lw : Nat) (qh ql rh rl dh dl mh ml uh ul vh vl : Int64) (N M : Nat) (hN : (wv uh ul).natAbs = N) (hM : (wv vh vl).natAbs = M) (hM0 : 0 < M) (hN1 : N < 170141183460469231731687303715884105728) (hM1 : M < 170141183460469231731687303715884105728) : Cv l D cZ cI cJ yX0_divideAmounts cX0_divideAmounts 5 { frames := 2, cells := 0, slots := 0, locals := 44 } [.ref o, .ref up, .ref lw] [(o, .inr (0, [.ref q, .ref r, .ref d, .ref lm, .ref co])), (q, .inr (2, [.long qh, .long ql])), (r, .inr (2, [.long rh, .long rl])), (d, .inr (2, [.long dh, .long dl])), (lm, .inr (2, [.long mh, .long ml])), (up, .inr (2, [.long uh, .long ul])), (lw, .inr (2, [.long vh, .long vl]))] (S := (Int64 × Int64) × (Int64 × Int64) × (Int64 × Int64) × (Int64 × Int64)) (fun u => wv u.1.1 u.1.2 = ((N / M : Nat) : Int) ∧ wv u.2.1.1 u.2.1.2 = ((N % M : Nat) : Int) ∧ wv u.2.2.1.1 u.2.2.1.2 = (M : Int)) (fun u => [(o, .inr (0, [.ref q, .ref r, .ref d, .ref lm, .ref co])), (q, .inr (2, [.long u.1.1, .long u.1.2])), (r, .inr (2, [.long u.2.1.1, .long u.2.1.2])), (d, .inr (2, [.long u.2.2.1.1, .long u.2.2.1.2])), (lm, .inr (2, [.long u.2.2.2.1, .long u.2.2.2.2])), (up, .inr (2, [.long uh, .long ul])), (lw, .inr (2, [.long vh, .long vl]))]) := by
  refine Cv.of (by decide) ?_
  intro p e s m args below meth c A Q hB hret hP hD hA
  obtain ⟨hx, hb, hr, hlocks, hml, hown, hnm, hTB, hK⟩ := hB
  have hown : s.vm.findClass RX0 = some m.cls := hown
  have hS : va_S A s.heap s.heap [] := va_S.rf
  have hl := lv_entry ([.ref o, .ref up, .ref lw]) (n := 5) (Nat.le_of_ble_eq_true rfl)
  rw [lg_entry_eq]
  generalize (lg_sl ([.ref o, .ref up, .ref lw]) ++ List.replicate (5 - (lg_sl ([.ref o, .ref up, .ref lw])).length) Slot.unset).toArray = ls at hl ⊢
  have hl : lv_has ls 5 [(0, .ref o), (1, .ref up), (2, .ref lw)] := hl
  refine lv_aload_n hx hb dX0_divideAmounts_0 rfl (lv_at hl 0 rfl) ?_
  refine va_get (D := D) (ci := 0) (v := .ref q) (C := RX0) (T := TX0) (N := 5) hx hb hTB tb_X0 hown hK.1 hP 0 rfl rfl 0 (by decide) (hTB _ tb_3_4) (fun _ h9 => h9) rfl dX0_divideAmounts_1 ?_
  refine lv_lconst (v := 0) hx hb dX0_divideAmounts_4 (by decide) ?_
  refine fin_v (wr := [(o, .inr (0, [.ref q, .ref r, .ref d, .ref lm, .ref co])), (r, .inr (2, [.long rh, .long rl])), (d, .inr (2, [.long dh, .long dl])), (lm, .inr (2, [.long mh, .long ml])), (up, .inr (2, [.long uh, .long ul])), (lw, .inr (2, [.long vh, .long vl]))]) (va_runV (As := [.long 0]) (rest := []) ⟨hx, hb, hml, hown, hTB⟩ (c_X2_put l D cZ cI cJ q qh ql 0 _) (cw_V hTB tb_4_20 tb_2_9 tb_12_12 tb_4_18 tb_4_19 nd_X2_put rfl rfl ⟨Nat.le_of_ble_eq_true rfl, Nat.le_of_ble_eq_true rfl⟩) (pre_V (q0 := 1) hK hP hD [1] rfl rfl rfl rfl) rfl rfl hl.1 rfl (lv_room (Nat.le_of_ble_eq_true rfl)) dX0_divideAmounts_5 ⟨Nat.le_of_ble_eq_true rfl, Nat.le_of_ble_eq_true rfl⟩) hP hD hS hA [1] [0, 2, 3, 4, 5, 6] rfl rfl rfl (by decide) (fun u5 H locs hc5 hP hD hS => ?_)
  obtain ⟨w5h, w5l⟩ := u5
  try dsimp only at hc5
  have hP : va_P D vwCl [(o, .inr (0, [.ref q, .ref r, .ref d, .ref lm, .ref co])), (r, .inr (2, [.long rh, .long rl])), (d, .inr (2, [.long dh, .long dl])), (lm, .inr (2, [.long mh, .long ml])), (up, .inr (2, [.long uh, .long ul])), (lw, .inr (2, [.long vh, .long vl])), (q, .inr (2, [.long w5h, .long w5l]))] H := hP
  have hD : va_D A [(o, .inr (0, [.ref q, .ref r, .ref d, .ref lm, .ref co])), (r, .inr (2, [.long rh, .long rl])), (d, .inr (2, [.long dh, .long dl])), (lm, .inr (2, [.long mh, .long ml])), (up, .inr (2, [.long uh, .long ul])), (lw, .inr (2, [.long vh, .long vl])), (q, .inr (2, [.long w5h, .long w5l]))] := hD
  refine lv_aload_n hx hb dX0_divideAmounts_8 rfl (lv_at hl 0 rfl) ?_
  refine va_get (D := D) (ci := 0) (v := .ref r) (C := RX0) (T := TX0) (N := 5) hx hb hTB tb_X0 hown hK.1 hP 0 rfl rfl 1 (by decide) (hTB _ tb_3_5) (fun _ h9 => h9) rfl dX0_divideAmounts_9 ?_
  refine lv_aload_n hx hb dX0_divideAmounts_12 rfl (lv_at hl 1 rfl) ?_
  refine fin_v (wr := [(o, .inr (0, [.ref q, .ref r, .ref d, .ref lm, .ref co])), (d, .inr (2, [.long dh, .long dl])), (lm, .inr (2, [.long mh, .long ml])), (lw, .inr (2, [.long vh, .long vl])), (q, .inr (2, [.long w5h, .long w5l]))]) (va_runV (As := [.ref up]) (rest := []) ⟨hx, hb, hml, hown, hTB⟩ (c_X2_copyAmount l D cZ cI cJ r up rh rl uh ul _) (cw_V hTB tb_10_22 tb_2_9 tb_10_19 tb_10_20 tb_10_21 nd_X2_copyAmount rfl rfl ⟨Nat.le_of_ble_eq_true rfl, Nat.le_of_ble_eq_true rfl⟩) (pre_V (q0 := 1) hK hP hD [1, 4] rfl rfl rfl rfl) rfl rfl hl.1 rfl (lv_room (Nat.le_of_ble_eq_true rfl)) dX0_divideAmounts_13 ⟨Nat.le_of_ble_eq_true rfl, Nat.le_of_ble_eq_true rfl⟩) hP hD hS hA [1, 4] [0, 2, 3, 5, 6] rfl rfl rfl (by decide) (fun u13 H locs hc13 hP hD hS => ?_)
  obtain ⟨w13h, w13l⟩ := u13
  try dsimp only at hc13
  have hP : va_P D vwCl [(o, .inr (0, [.ref q, .ref r, .ref d, .ref lm, .ref co])), (d, .inr (2, [.long dh, .long dl])), (lm, .inr (2, [.long mh, .long ml])), (lw, .inr (2, [.long vh, .long vl])), (q, .inr (2, [.long w5h, .long w5l])), (r, .inr (2, [.long w13h, .long w13l])), (up, .inr (2, [.long uh, .long ul]))] H := hP
  have hD : va_D A [(o, .inr (0, [.ref q, .ref r, .ref d, .ref lm, .ref co])), (d, .inr (2, [.long dh, .long dl])), (lm, .inr (2, [.long mh, .long ml])), (lw, .inr (2, [.long vh, .long vl])), (q, .inr (2, [.long w5h, .long w5l])), (r, .inr (2, [.long w13h, .long w13l])), (up, .inr (2, [.long uh, .long ul]))] := hD
  have er : wv w13h w13l = (N : Int) := by rw [hc13 (by unfold In; omega), hN]
  refine lv_aload_n hx hb dX0_divideAmounts_16 rfl (lv_at hl 0 rfl) ?_
  refine va_get (D := D) (ci := 0) (v := .ref d) (C := RX0) (T := TX0) (N := 5) hx hb hTB tb_X0 hown hK.1 hP 0 rfl rfl 2 (by decide) (hTB _ tb_3_6) (fun _ h9 => h9) rfl dX0_divideAmounts_17 ?_
  refine lv_aload_n hx hb dX0_divideAmounts_20 rfl (lv_at hl 2 rfl) ?_
  refine fin_v (wr := [(o, .inr (0, [.ref q, .ref r, .ref d, .ref lm, .ref co])), (lm, .inr (2, [.long mh, .long ml])), (q, .inr (2, [.long w5h, .long w5l])), (r, .inr (2, [.long w13h, .long w13l])), (up, .inr (2, [.long uh, .long ul]))]) (va_runV (As := [.ref lw]) (rest := []) ⟨hx, hb, hml, hown, hTB⟩ (c_X2_copyAmount l D cZ cI cJ d lw dh dl vh vl _) (cw_V hTB tb_10_22 tb_2_9 tb_10_19 tb_10_20 tb_10_21 nd_X2_copyAmount rfl rfl ⟨Nat.le_of_ble_eq_true rfl, Nat.le_of_ble_eq_true rfl⟩) (pre_V (q0 := 1) hK hP hD [1, 3] rfl rfl rfl rfl) rfl rfl hl.1 rfl (lv_room (Nat.le_of_ble_eq_true rfl)) dX0_divideAmounts_21 ⟨Nat.le_of_ble_eq_true rfl, Nat.le_of_ble_eq_true rfl⟩) hP hD hS hA [1, 3] [0, 2, 4, 5, 6] rfl rfl rfl (by decide) (fun u21 H locs hc21 hP hD hS => ?_)
  obtain ⟨w21h, w21l⟩ := u21
  try dsimp only at hc21
  have hP : va_P D vwCl [(o, .inr (0, [.ref q, .ref r, .ref d, .ref lm, .ref co])), (lm, .inr (2, [.long mh, .long ml])), (q, .inr (2, [.long w5h, .long w5l])), (r, .inr (2, [.long w13h, .long w13l])), (up, .inr (2, [.long uh, .long ul])), (d, .inr (2, [.long w21h, .long w21l])), (lw, .inr (2, [.long vh, .long vl]))] H := hP
  have hD : va_D A [(o, .inr (0, [.ref q, .ref r, .ref d, .ref lm, .ref co])), (lm, .inr (2, [.long mh, .long ml])), (q, .inr (2, [.long w5h, .long w5l])), (r, .inr (2, [.long w13h, .long w13l])), (up, .inr (2, [.long uh, .long ul])), (d, .inr (2, [.long w21h, .long w21l])), (lw, .inr (2, [.long vh, .long vl]))] := hD
  have ed : wv w21h w21l = (M : Int) := by rw [hc21 (by unfold In; omega), hM]
  refine lv_aload_n hx hb dX0_divideAmounts_24 rfl (lv_at hl 0 rfl) ?_
  refine va_get (D := D) (ci := 0) (v := .ref lm) (C := RX0) (T := TX0) (N := 5) hx hb hTB tb_X0 hown hK.1 hP 0 rfl rfl 3 (by decide) (hTB _ tb_3_7) (fun _ h9 => h9) rfl dX0_divideAmounts_25 ?_
  refine lv_aload_n hx hb dX0_divideAmounts_28 rfl (lv_at hl 0 rfl) ?_
  refine va_get (D := D) (ci := 0) (v := .ref r) (C := RX0) (T := TX0) (N := 5) hx hb hTB tb_X0 hown hK.1 hP 0 rfl rfl 1 (by decide) (hTB _ tb_3_5) (fun _ h9 => h9) rfl dX0_divideAmounts_29 ?_
  refine fin_v (wr := [(o, .inr (0, [.ref q, .ref r, .ref d, .ref lm, .ref co])), (q, .inr (2, [.long w5h, .long w5l])), (up, .inr (2, [.long uh, .long ul])), (d, .inr (2, [.long w21h, .long w21l])), (lw, .inr (2, [.long vh, .long vl]))]) (va_runV (As := [.ref r]) (rest := []) ⟨hx, hb, hml, hown, hTB⟩ (c_X2_copy l D cZ cI cJ lm r mh ml w13h w13l _) (cw_V hTB tb_10_10 tb_2_9 tb_11_1 tb_10_8 tb_10_9 nd_X2_copy rfl rfl ⟨Nat.le_of_ble_eq_true rfl, Nat.le_of_ble_eq_true rfl⟩) (pre_V (q0 := 1) hK hP hD [1, 3] rfl rfl rfl rfl) rfl rfl hl.1 rfl (lv_room (Nat.le_of_ble_eq_true rfl)) dX0_divideAmounts_32 ⟨Nat.le_of_ble_eq_true rfl, Nat.le_of_ble_eq_true rfl⟩) hP hD hS hA [1, 3] [0, 2, 4, 5, 6] rfl rfl rfl (by decide) (fun u32 H locs hc32 hP hD hS => ?_)
  obtain ⟨w32h, w32l⟩ := u32
  try dsimp only at hc32
  have hP : va_P D vwCl [(o, .inr (0, [.ref q, .ref r, .ref d, .ref lm, .ref co])), (q, .inr (2, [.long w5h, .long w5l])), (up, .inr (2, [.long uh, .long ul])), (d, .inr (2, [.long w21h, .long w21l])), (lw, .inr (2, [.long vh, .long vl])), (lm, .inr (2, [.long w32h, .long w32l])), (r, .inr (2, [.long w13h, .long w13l]))] H := hP
  have hD : va_D A [(o, .inr (0, [.ref q, .ref r, .ref d, .ref lm, .ref co])), (q, .inr (2, [.long w5h, .long w5l])), (up, .inr (2, [.long uh, .long ul])), (d, .inr (2, [.long w21h, .long w21l])), (lw, .inr (2, [.long vh, .long vl])), (lm, .inr (2, [.long w32h, .long w32l])), (r, .inr (2, [.long w13h, .long w13l]))] := hD
  refine lv_aload_n hx hb dX0_divideAmounts_35 rfl (lv_at hl 0 rfl) ?_
  refine va_get (D := D) (ci := 0) (v := .ref lm) (C := RX0) (T := TX0) (N := 5) hx hb hTB tb_X0 hown hK.1 hP 0 rfl rfl 3 (by decide) (hTB _ tb_3_7) (fun _ h9 => h9) rfl dX0_divideAmounts_36 ?_
  refine fin_v (wr := [(o, .inr (0, [.ref q, .ref r, .ref d, .ref lm, .ref co])), (q, .inr (2, [.long w5h, .long w5l])), (up, .inr (2, [.long uh, .long ul])), (d, .inr (2, [.long w21h, .long w21l])), (lw, .inr (2, [.long vh, .long vl])), (r, .inr (2, [.long w13h, .long w13l]))]) (va_runV (As := []) (rest := []) ⟨hx, hb, hml, hown, hTB⟩ (c_X2_half l D cZ cI cJ lm w32h w32l _) (cw_V hTB tb_11_10 tb_2_9 tb_11_7 tb_11_8 tb_11_9 nd_X2_half rfl rfl ⟨Nat.le_of_ble_eq_true rfl, Nat.le_of_ble_eq_true rfl⟩) (pre_V (q0 := 5) hK hP hD [5] rfl rfl rfl rfl) rfl rfl hl.1 rfl (lv_room (Nat.le_of_ble_eq_true rfl)) dX0_divideAmounts_39 ⟨Nat.le_of_ble_eq_true rfl, Nat.le_of_ble_eq_true rfl⟩) hP hD hS hA [5] [0, 1, 2, 3, 4, 6] rfl rfl rfl (by decide) (fun u39 H locs hc39 hP hD hS => ?_)
  obtain ⟨w39h, w39l⟩ := u39
  try dsimp only at hc39
  have hP : va_P D vwCl [(o, .inr (0, [.ref q, .ref r, .ref d, .ref lm, .ref co])), (q, .inr (2, [.long w5h, .long w5l])), (up, .inr (2, [.long uh, .long ul])), (d, .inr (2, [.long w21h, .long w21l])), (lw, .inr (2, [.long vh, .long vl])), (r, .inr (2, [.long w13h, .long w13l])), (lm, .inr (2, [.long w39h, .long w39l]))] H := hP
  have hD : va_D A [(o, .inr (0, [.ref q, .ref r, .ref d, .ref lm, .ref co])), (q, .inr (2, [.long w5h, .long w5l])), (up, .inr (2, [.long uh, .long ul])), (d, .inr (2, [.long w21h, .long w21l])), (lw, .inr (2, [.long vh, .long vl])), (r, .inr (2, [.long w13h, .long w13l])), (lm, .inr (2, [.long w39h, .long w39l]))] := hD
  have em : wv w39h w39l = ((N / 2 : Nat) : Int) := by
    have e := congrArg (fun z : Int64 × Int64 => wv z.1 z.2) hc32
    dsimp only at e
    rw [hc39, e, er]; omega
  refine lv_iconst (v := 0) hx hb dX0_divideAmounts_42 (by decide) ?_
  refine lv_istore_n (lv' := [(3, .int 0), (0, .ref o), (1, .ref up), (2, .ref lw)]) hx hb dX0_divideAmounts_43 rfl hl (by decide) rfl (fun ls hl => ?_)
  have J77 : ∀ (k : Nat) (dh2 dl2 : Int64), k ≤ 127 → wv dh2 dl2 = ((M * 2 ^ k : Nat) : Int) → N < 2 * (M * 2 ^ k) → ∀ (H : Heap) (locs : List Loc), va_P D vwCl [(o, .inr (0, [.ref q, .ref r, .ref d, .ref lm, .ref co])), (q, .inr (2, [.long w5h, .long w5l])), (r, .inr (2, [.long w13h, .long w13l])), (d, .inr (2, [.long dh2, .long dl2])), (lm, .inr (2, [.long w39h, .long w39l])), (up, .inr (2, [.long uh, .long ul])), (lw, .inr (2, [.long vh, .long vl]))] H → va_D A [(o, .inr (0, [.ref q, .ref r, .ref d, .ref lm, .ref co])), (q, .inr (2, [.long w5h, .long w5l])), (r, .inr (2, [.long w13h, .long w13l])), (d, .inr (2, [.long dh2, .long dl2])), (lm, .inr (2, [.long w39h, .long w39l])), (up, .inr (2, [.long uh, .long ul])), (lw, .inr (2, [.long vh, .long vl]))] → va_S A s.heap H locs → ∀ (ls : Array Slot), lv_has ls 5 [(0, .ref o), (1, .ref up), (2, .ref lw), (3, .int (nI k))] → W p l e { frames := 2, cells := 0, slots := 0, locals := 44 } s m args below meth c H locs 0 0 Q (F0 m 77 ls []) := by
    intro k dh2 dl2 g2 g3 g4 H locs hP hD hS ls hl
    refine lv_iload_n hx hb dX0_divideAmounts_77 rfl (lv_at hl 3 rfl) ?_
    refine lv_istore (lv' := [(4, .int (nI k)), (0, .ref o), (1, .ref up), (2, .ref lw), (3, .int (nI k))]) hx hb dX0_divideAmounts_78 hl (by decide) rfl (fun ls hl => ?_)
    have L80 : ∀ (n80 : Nat) (j : Nat) (x4 : Int32) (qh2 ql2 rh2 rl2 dh3 dl3 : Int64) (Qn Rn : Nat), j ≤ 128 ∧ j < n80 → x4 = nI j - 1 → N = Qn * (M * 2 ^ j) + Rn → Rn < M * 2 ^ j → wv qh2 ql2 = (Qn : Int) → wv rh2 rl2 = (Rn : Int) → wv dh3 dl3 = ((M * 2 ^ (j - 1) : Nat) : Int) → ∀ (H : Heap) (locs : List Loc), va_P D vwCl [(o, .inr (0, [.ref q, .ref r, .ref d, .ref lm, .ref co])), (q, .inr (2, [.long qh2, .long ql2])), (r, .inr (2, [.long rh2, .long rl2])), (d, .inr (2, [.long dh3, .long dl3])), (lm, .inr (2, [.long w39h, .long w39l])), (up, .inr (2, [.long uh, .long ul])), (lw, .inr (2, [.long vh, .long vl]))] H → va_D A [(o, .inr (0, [.ref q, .ref r, .ref d, .ref lm, .ref co])), (q, .inr (2, [.long qh2, .long ql2])), (r, .inr (2, [.long rh2, .long rl2])), (d, .inr (2, [.long dh3, .long dl3])), (lm, .inr (2, [.long w39h, .long w39l])), (up, .inr (2, [.long uh, .long ul])), (lw, .inr (2, [.long vh, .long vl]))] → va_S A s.heap H locs → ∀ (ls : Array Slot), lv_has ls 5 [(0, .ref o), (1, .ref up), (2, .ref lw), (4, .int x4)] → W p l e { frames := 2, cells := 0, slots := 0, locals := 44 } s m args below meth c H locs 0 0 Q (F0 m 80 ls []) := by
      intro n80
      induction n80 with
      | zero =>
        intro j x4 qh2 ql2 rh2 rl2 dh3 dl3 Qn Rn b0 b1 b2 b3 b4 b5 b6
        exfalso; omega
      | succ n80 ih80 =>
        intro j x4 qh2 ql2 rh2 rl2 dh3 dl3 Qn Rn b0 b1 b2 b3 b4 b5 b6 H locs hP hD hS ls hl
        refine lv_iload hx hb dX0_divideAmounts_80 (lv_at hl 3 rfl) ?_
        refine lv_if_lt (tgt := 142) hx hb dX0_divideAmounts_82 (by decide) (fun c_82 => ?_) (fun c_82 => ?_)
        · exact hret hP hD hS ((qh2, ql2), (rh2, rl2), (dh3, dl3), (w39h, w39l)) (by have hj := ni_pt (by omega) b1 c_82; subst hj; obtain ⟨e1, e2⟩ := dv_end hM0 b2 b3; refine ⟨by rw [b4, e1], by rw [b5, e2], ?_⟩; rw [b6]; omega) [0, 1, 2, 3, 4, 5, 6] rfl (by decide) dX0_divideAmounts_142 (Nat.le_of_ble_eq_true rfl) (Nat.le_of_ble_eq_true rfl)
        · obtain ⟨i, rfl, ei⟩ := ni_pf (by omega) b1 c_82
          rw [Nat.add_sub_cancel] at b6
          refine lv_aload_n hx hb dX0_divideAmounts_85 rfl (lv_at hl 0 rfl) ?_
          refine va_get (D := D) (ci := 0) (v := .ref q) (C := RX0) (T := TX0) (N := 5) hx hb hTB tb_X0 hown hK.1 hP 0 rfl rfl 0 (by decide) (hTB _ tb_3_4) (fun _ h9 => h9) rfl dX0_divideAmounts_86 ?_
          refine fin_v (wr := [(o, .inr (0, [.ref q, .ref r, .ref d, .ref lm, .ref co])), (r, .inr (2, [.long rh2, .long rl2])), (d, .inr (2, [.long dh3, .long dl3])), (lm, .inr (2, [.long w39h, .long w39l])), (up, .inr (2, [.long uh, .long ul])), (lw, .inr (2, [.long vh, .long vl]))]) (va_runV (As := []) (rest := []) ⟨hx, hb, hml, hown, hTB⟩ (c_X2_twice l D cZ cI cJ q qh2 ql2 _) (cw_V hTB tb_11_23 tb_2_9 tb_11_20 tb_11_21 tb_11_22 nd_X2_twice rfl rfl ⟨Nat.le_of_ble_eq_true rfl, Nat.le_of_ble_eq_true rfl⟩) (pre_V (q0 := 1) hK hP hD [1] rfl rfl rfl rfl) rfl rfl hl.1 rfl (lv_room (Nat.le_of_ble_eq_true rfl)) dX0_divideAmounts_89 ⟨Nat.le_of_ble_eq_true rfl, Nat.le_of_ble_eq_true rfl⟩) hP hD hS hA [1] [0, 2, 3, 4, 5, 6] rfl rfl rfl (by decide) (fun u89 H locs hc89 hP hD hS => ?_)
          obtain ⟨w89h, w89l⟩ := u89
          try dsimp only at hc89
          have hP : va_P D vwCl [(o, .inr (0, [.ref q, .ref r, .ref d, .ref lm, .ref co])), (r, .inr (2, [.long rh2, .long rl2])), (d, .inr (2, [.long dh3, .long dl3])), (lm, .inr (2, [.long w39h, .long w39l])), (up, .inr (2, [.long uh, .long ul])), (lw, .inr (2, [.long vh, .long vl])), (q, .inr (2, [.long w89h, .long w89l]))] H := hP
          have hD : va_D A [(o, .inr (0, [.ref q, .ref r, .ref d, .ref lm, .ref co])), (r, .inr (2, [.long rh2, .long rl2])), (d, .inr (2, [.long dh3, .long dl3])), (lm, .inr (2, [.long w39h, .long w39l])), (up, .inr (2, [.long uh, .long ul])), (lw, .inr (2, [.long vh, .long vl])), (q, .inr (2, [.long w89h, .long w89l]))] := hD
          refine lv_aload_n hx hb dX0_divideAmounts_92 rfl (lv_at hl 0 rfl) ?_
          refine va_get (D := D) (ci := 0) (v := .ref d) (C := RX0) (T := TX0) (N := 5) hx hb hTB tb_X0 hown hK.1 hP 0 rfl rfl 2 (by decide) (hTB _ tb_3_6) (fun _ h9 => h9) rfl dX0_divideAmounts_93 ?_
          refine lv_aload_n hx hb dX0_divideAmounts_96 rfl (lv_at hl 0 rfl) ?_
          refine va_get (D := D) (ci := 0) (v := .ref r) (C := RX0) (T := TX0) (N := 5) hx hb hTB tb_X0 hown hK.1 hP 0 rfl rfl 1 (by decide) (hTB _ tb_3_5) (fun _ h9 => h9) rfl dX0_divideAmounts_97 ?_
          refine vp_callSi (va_runV (As := [.ref r]) (rest := []) ⟨hx, hb, hml, hown, hTB⟩ (c_X2_compare l D cZ cI cJ d r dh3 dl3 rh2 rl2) (cw_V hTB tb_9_22 tb_2_9 tb_11_15 tb_9_20 tb_9_21 nd_X2_compare rfl rfl ⟨Nat.le_of_ble_eq_true rfl, Nat.le_of_ble_eq_true rfl⟩) (prr_V (q0 := 2) hK hP [2, 1] rfl rfl rfl) rfl rfl hl.1 rfl (lv_room (Nat.le_of_ble_eq_true rfl)) dX0_divideAmounts_100 ⟨Nat.le_of_ble_eq_true rfl, Nat.le_of_ble_eq_true rfl⟩).run (fun r100 hc100 => ?_)
          subst hc100
          refine lv_if_gt (tgt := 124) hx hb dX0_divideAmounts_103 (by decide) (fun c_103 => ?_) (fun c_103 => ?_)
          · have c_103 := cm_gtt c_103
            refine lv_iload hx hb dX0_divideAmounts_124 (lv_at hl 3 rfl) ?_
            refine lv_if_le (tgt := 136) hx hb dX0_divideAmounts_126 (by decide) (fun c_126 => ?_) (fun c_126 => ?_)
            · obtain ⟨i4_1, ei4_1⟩ : ∃ y : Int32, y = x4 + (-1) := ⟨_, rfl⟩
              refine lv_iinc (v := i4_1) (lv' := [(4, .int i4_1), (0, .ref o), (1, .ref up), (2, .ref lw)]) hx hb dX0_divideAmounts_136 hl (k := 3) rfl (by rw [ei4_1]; rfl) (by decide) rfl (fun ls hl => ?_)
              refine lv_goto (tgt := 80) hx hb dX0_divideAmounts_139 (by decide) ?_
              refine ih80 i i4_1 w89h w89l rh2 rl2 dh3 dl3 (2 * Qn) Rn ?_ ?_ ?_ ?_ ?_ ?_ ?_ _ _ (hP.sub [0, 6, 1, 2, 3, 4, 5] rfl) (hD.sub [0, 6, 1, 2, 3, 4, 5] (by decide) rfl) hS _ (lv_sub hl [1, 2, 3, 0] rfl)
              · omega
              · rw [ei4_1, ei, ni_m]
              · exact dv_s0 b2
              · rw [b5, b6] at c_103; omega
              · have e2 : wv w89h w89l = 2 * (Qn : Int) := by rw [hc89 (by rw [b4]; have := dv_q hM0 b2; unfold In; omega), b4]
                rw [e2]; omega
              · exact b5
              · have hi : i = 0 := by
                  cases i with
                  | zero => rfl
                  | succ z => rw [ei] at c_126; exact absurd c_126 (nI_nle (by omega) (by omega))
                subst hi; exact b6
            · refine lv_aload_n hx hb dX0_divideAmounts_129 rfl (lv_at hl 0 rfl) ?_
              refine va_get (D := D) (ci := 0) (v := .ref d) (C := RX0) (T := TX0) (N := 5) hx hb hTB tb_X0 hown hK.1 hP 0 rfl rfl 2 (by decide) (hTB _ tb_3_6) (fun _ h9 => h9) rfl dX0_divideAmounts_130 ?_
              refine fin_v (wr := [(o, .inr (0, [.ref q, .ref r, .ref d, .ref lm, .ref co])), (r, .inr (2, [.long rh2, .long rl2])), (lm, .inr (2, [.long w39h, .long w39l])), (up, .inr (2, [.long uh, .long ul])), (lw, .inr (2, [.long vh, .long vl])), (q, .inr (2, [.long w89h, .long w89l]))]) (va_runV (As := []) (rest := []) ⟨hx, hb, hml, hown, hTB⟩ (c_X2_half l D cZ cI cJ d dh3 dl3 _) (cw_V hTB tb_11_10 tb_2_9 tb_11_7 tb_11_8 tb_11_9 nd_X2_half rfl rfl ⟨Nat.le_of_ble_eq_true rfl, Nat.le_of_ble_eq_true rfl⟩) (pre_V (q0 := 2) hK hP hD [2] rfl rfl rfl rfl) rfl rfl hl.1 rfl (lv_room (Nat.le_of_ble_eq_true rfl)) dX0_divideAmounts_133 ⟨Nat.le_of_ble_eq_true rfl, Nat.le_of_ble_eq_true rfl⟩) hP hD hS hA [2] [0, 1, 3, 4, 5, 6] rfl rfl rfl (by decide) (fun u133 H locs hc133 hP hD hS => ?_)
              obtain ⟨w133h, w133l⟩ := u133
              try dsimp only at hc133
              have hP : va_P D vwCl [(o, .inr (0, [.ref q, .ref r, .ref d, .ref lm, .ref co])), (r, .inr (2, [.long rh2, .long rl2])), (lm, .inr (2, [.long w39h, .long w39l])), (up, .inr (2, [.long uh, .long ul])), (lw, .inr (2, [.long vh, .long vl])), (q, .inr (2, [.long w89h, .long w89l])), (d, .inr (2, [.long w133h, .long w133l]))] H := hP
              have hD : va_D A [(o, .inr (0, [.ref q, .ref r, .ref d, .ref lm, .ref co])), (r, .inr (2, [.long rh2, .long rl2])), (lm, .inr (2, [.long w39h, .long w39l])), (up, .inr (2, [.long uh, .long ul])), (lw, .inr (2, [.long vh, .long vl])), (q, .inr (2, [.long w89h, .long w89l])), (d, .inr (2, [.long w133h, .long w133l]))] := hD
              obtain ⟨i4_2, ei4_2⟩ : ∃ y : Int32, y = x4 + (-1) := ⟨_, rfl⟩
              refine lv_iinc (v := i4_2) (lv' := [(4, .int i4_2), (0, .ref o), (1, .ref up), (2, .ref lw)]) hx hb dX0_divideAmounts_136 hl (k := 3) rfl (by rw [ei4_2]; rfl) (by decide) rfl (fun ls hl => ?_)
              refine lv_goto (tgt := 80) hx hb dX0_divideAmounts_139 (by decide) ?_
              refine ih80 i i4_2 w89h w89l rh2 rl2 w133h w133l (2 * Qn) Rn ?_ ?_ ?_ ?_ ?_ ?_ ?_ _ _ (hP.sub [0, 5, 1, 6, 2, 3, 4] rfl) (hD.sub [0, 5, 1, 6, 2, 3, 4] (by decide) rfl) hS _ (lv_sub hl [1, 2, 3, 0] rfl)
              · omega
              · rw [ei4_2, ei, ni_m]
              · exact dv_s0 b2
              · rw [b5, b6] at c_103; omega
              · have e2 : wv w89h w89l = 2 * (Qn : Int) := by rw [hc89 (by rw [b4]; have := dv_q hM0 b2; unfold In; omega), b4]
                rw [e2]; omega
              · exact b5
              · rw [hc133, b6]
                have hi : ¬ i = 0 := fun q => c_126 (by rw [ei, q]; decide)
                obtain ⟨z, rfl⟩ : ∃ z, i = z + 1 := ⟨i - 1, by omega⟩
                rw [pw_s, Nat.add_sub_cancel]
                omega
          · have c_103 := cm_gtf c_103
            refine lv_aload_n hx hb dX0_divideAmounts_106 rfl (lv_at hl 0 rfl) ?_
            refine va_get (D := D) (ci := 0) (v := .ref r) (C := RX0) (T := TX0) (N := 5) hx hb hTB tb_X0 hown hK.1 hP 0 rfl rfl 1 (by decide) (hTB _ tb_3_5) (fun _ h9 => h9) rfl dX0_divideAmounts_107 ?_
            refine lv_aload_n hx hb dX0_divideAmounts_110 rfl (lv_at hl 0 rfl) ?_
            refine va_get (D := D) (ci := 0) (v := .ref d) (C := RX0) (T := TX0) (N := 5) hx hb hTB tb_X0 hown hK.1 hP 0 rfl rfl 2 (by decide) (hTB _ tb_3_6) (fun _ h9 => h9) rfl dX0_divideAmounts_111 ?_
            refine fin_v (wr := [(o, .inr (0, [.ref q, .ref r, .ref d, .ref lm, .ref co])), (lm, .inr (2, [.long w39h, .long w39l])), (up, .inr (2, [.long uh, .long ul])), (lw, .inr (2, [.long vh, .long vl])), (q, .inr (2, [.long w89h, .long w89l]))]) (va_runV (As := [.ref d]) (rest := []) ⟨hx, hb, hml, hown, hTB⟩ (c_X2_subtract l D cZ cI cJ r d rh2 rl2 dh3 dl3 _) (cw_V hTB tb_11_19 tb_2_9 tb_11_16 tb_11_17 tb_11_18 nd_X2_subtract rfl rfl ⟨Nat.le_of_ble_eq_true rfl, Nat.le_of_ble_eq_true rfl⟩) (pre_V (q0 := 1) hK hP hD [1, 2] rfl rfl rfl rfl) rfl rfl hl.1 rfl (lv_room (Nat.le_of_ble_eq_true rfl)) dX0_divideAmounts_114 ⟨Nat.le_of_ble_eq_true rfl, Nat.le_of_ble_eq_true rfl⟩) hP hD hS hA [1, 2] [0, 3, 4, 5, 6] rfl rfl rfl (by decide) (fun u114 H locs hc114 hP hD hS => ?_)
            obtain ⟨w114h, w114l⟩ := u114
            try dsimp only at hc114
            have hP : va_P D vwCl [(o, .inr (0, [.ref q, .ref r, .ref d, .ref lm, .ref co])), (lm, .inr (2, [.long w39h, .long w39l])), (up, .inr (2, [.long uh, .long ul])), (lw, .inr (2, [.long vh, .long vl])), (q, .inr (2, [.long w89h, .long w89l])), (r, .inr (2, [.long w114h, .long w114l])), (d, .inr (2, [.long dh3, .long dl3]))] H := hP
            have hD : va_D A [(o, .inr (0, [.ref q, .ref r, .ref d, .ref lm, .ref co])), (lm, .inr (2, [.long w39h, .long w39l])), (up, .inr (2, [.long uh, .long ul])), (lw, .inr (2, [.long vh, .long vl])), (q, .inr (2, [.long w89h, .long w89l])), (r, .inr (2, [.long w114h, .long w114l])), (d, .inr (2, [.long dh3, .long dl3]))] := hD
            refine lv_aload_n hx hb dX0_divideAmounts_117 rfl (lv_at hl 0 rfl) ?_
            refine va_get (D := D) (ci := 0) (v := .ref q) (C := RX0) (T := TX0) (N := 5) hx hb hTB tb_X0 hown hK.1 hP 0 rfl rfl 0 (by decide) (hTB _ tb_3_4) (fun _ h9 => h9) rfl dX0_divideAmounts_118 ?_
            refine fin_v (wr := [(o, .inr (0, [.ref q, .ref r, .ref d, .ref lm, .ref co])), (lm, .inr (2, [.long w39h, .long w39l])), (up, .inr (2, [.long uh, .long ul])), (lw, .inr (2, [.long vh, .long vl])), (r, .inr (2, [.long w114h, .long w114l])), (d, .inr (2, [.long dh3, .long dl3]))]) (va_runV (As := []) (rest := []) ⟨hx, hb, hml, hown, hTB⟩ (c_X2_setLowestBit l D cZ cI cJ q w89h w89l _) (cw_V hTB tb_12_16 tb_2_9 tb_12_13 tb_12_14 tb_12_15 nd_X2_setLowestBit rfl rfl ⟨Nat.le_of_ble_eq_true rfl, Nat.le_of_ble_eq_true rfl⟩) (pre_V (q0 := 4) hK hP hD [4] rfl rfl rfl rfl) rfl rfl hl.1 rfl (lv_room (Nat.le_of_ble_eq_true rfl)) dX0_divideAmounts_121 ⟨Nat.le_of_ble_eq_true rfl, Nat.le_of_ble_eq_true rfl⟩) hP hD hS hA [4] [0, 1, 2, 3, 5, 6] rfl rfl rfl (by decide) (fun u121 H locs hc121 hP hD hS => ?_)
            obtain ⟨w121h, w121l⟩ := u121
            try dsimp only at hc121
            have hP : va_P D vwCl [(o, .inr (0, [.ref q, .ref r, .ref d, .ref lm, .ref co])), (lm, .inr (2, [.long w39h, .long w39l])), (up, .inr (2, [.long uh, .long ul])), (lw, .inr (2, [.long vh, .long vl])), (r, .inr (2, [.long w114h, .long w114l])), (d, .inr (2, [.long dh3, .long dl3])), (q, .inr (2, [.long w121h, .long w121l]))] H := hP
            have hD : va_D A [(o, .inr (0, [.ref q, .ref r, .ref d, .ref lm, .ref co])), (lm, .inr (2, [.long w39h, .long w39l])), (up, .inr (2, [.long uh, .long ul])), (lw, .inr (2, [.long vh, .long vl])), (r, .inr (2, [.long w114h, .long w114l])), (d, .inr (2, [.long dh3, .long dl3])), (q, .inr (2, [.long w121h, .long w121l]))] := hD
            refine lv_iload hx hb dX0_divideAmounts_124 (lv_at hl 3 rfl) ?_
            refine lv_if_le (tgt := 136) hx hb dX0_divideAmounts_126 (by decide) (fun c_126 => ?_) (fun c_126 => ?_)
            · obtain ⟨i4_3, ei4_3⟩ : ∃ y : Int32, y = x4 + (-1) := ⟨_, rfl⟩
              refine lv_iinc (v := i4_3) (lv' := [(4, .int i4_3), (0, .ref o), (1, .ref up), (2, .ref lw)]) hx hb dX0_divideAmounts_136 hl (k := 3) rfl (by rw [ei4_3]; rfl) (by decide) rfl (fun ls hl => ?_)
              refine lv_goto (tgt := 80) hx hb dX0_divideAmounts_139 (by decide) ?_
              refine ih80 i i4_3 w121h w121l w114h w114l dh3 dl3 (2 * Qn + 1) (Rn - M * 2 ^ i) ?_ ?_ ?_ ?_ ?_ ?_ ?_ _ _ (hP.sub [0, 6, 4, 5, 1, 2, 3] rfl) (hD.sub [0, 6, 4, 5, 1, 2, 3] (by decide) rfl) hS _ (lv_sub hl [1, 2, 3, 0] rfl)
              · omega
              · rw [ei4_3, ei, ni_m]
              · rw [b5, b6] at c_103; exact dv_s1 b2 (by omega)
              · rw [b5, b6] at c_103; have := pw_s M i; omega
              · have e2 : wv w89h w89l = 2 * (Qn : Int) := by rw [hc89 (by rw [b4]; have := dv_q hM0 b2; unfold In; omega), b4]
                rw [hc121, e2]; omega
              · rw [b5, b6] at c_103; rw [hc114 (by rw [b5, b6]; unfold In; omega), b5, b6]; omega
              · have hi : i = 0 := by
                  cases i with
                  | zero => rfl
                  | succ z => rw [ei] at c_126; exact absurd c_126 (nI_nle (by omega) (by omega))
                subst hi; exact b6
            · refine lv_aload_n hx hb dX0_divideAmounts_129 rfl (lv_at hl 0 rfl) ?_
              refine va_get (D := D) (ci := 0) (v := .ref d) (C := RX0) (T := TX0) (N := 5) hx hb hTB tb_X0 hown hK.1 hP 0 rfl rfl 2 (by decide) (hTB _ tb_3_6) (fun _ h9 => h9) rfl dX0_divideAmounts_130 ?_
              refine fin_v (wr := [(o, .inr (0, [.ref q, .ref r, .ref d, .ref lm, .ref co])), (lm, .inr (2, [.long w39h, .long w39l])), (up, .inr (2, [.long uh, .long ul])), (lw, .inr (2, [.long vh, .long vl])), (r, .inr (2, [.long w114h, .long w114l])), (q, .inr (2, [.long w121h, .long w121l]))]) (va_runV (As := []) (rest := []) ⟨hx, hb, hml, hown, hTB⟩ (c_X2_half l D cZ cI cJ d dh3 dl3 _) (cw_V hTB tb_11_10 tb_2_9 tb_11_7 tb_11_8 tb_11_9 nd_X2_half rfl rfl ⟨Nat.le_of_ble_eq_true rfl, Nat.le_of_ble_eq_true rfl⟩) (pre_V (q0 := 5) hK hP hD [5] rfl rfl rfl rfl) rfl rfl hl.1 rfl (lv_room (Nat.le_of_ble_eq_true rfl)) dX0_divideAmounts_133 ⟨Nat.le_of_ble_eq_true rfl, Nat.le_of_ble_eq_true rfl⟩) hP hD hS hA [5] [0, 1, 2, 3, 4, 6] rfl rfl rfl (by decide) (fun u133 H locs hc133 hP hD hS => ?_)
              obtain ⟨w133h, w133l⟩ := u133
              try dsimp only at hc133
              have hP : va_P D vwCl [(o, .inr (0, [.ref q, .ref r, .ref d, .ref lm, .ref co])), (lm, .inr (2, [.long w39h, .long w39l])), (up, .inr (2, [.long uh, .long ul])), (lw, .inr (2, [.long vh, .long vl])), (r, .inr (2, [.long w114h, .long w114l])), (q, .inr (2, [.long w121h, .long w121l])), (d, .inr (2, [.long w133h, .long w133l]))] H := hP
              have hD : va_D A [(o, .inr (0, [.ref q, .ref r, .ref d, .ref lm, .ref co])), (lm, .inr (2, [.long w39h, .long w39l])), (up, .inr (2, [.long uh, .long ul])), (lw, .inr (2, [.long vh, .long vl])), (r, .inr (2, [.long w114h, .long w114l])), (q, .inr (2, [.long w121h, .long w121l])), (d, .inr (2, [.long w133h, .long w133l]))] := hD
              obtain ⟨i4_4, ei4_4⟩ : ∃ y : Int32, y = x4 + (-1) := ⟨_, rfl⟩
              refine lv_iinc (v := i4_4) (lv' := [(4, .int i4_4), (0, .ref o), (1, .ref up), (2, .ref lw)]) hx hb dX0_divideAmounts_136 hl (k := 3) rfl (by rw [ei4_4]; rfl) (by decide) rfl (fun ls hl => ?_)
              refine lv_goto (tgt := 80) hx hb dX0_divideAmounts_139 (by decide) ?_
              refine ih80 i i4_4 w121h w121l w114h w114l w133h w133l (2 * Qn + 1) (Rn - M * 2 ^ i) ?_ ?_ ?_ ?_ ?_ ?_ ?_ _ _ (hP.sub [0, 5, 4, 6, 1, 2, 3] rfl) (hD.sub [0, 5, 4, 6, 1, 2, 3] (by decide) rfl) hS _ (lv_sub hl [1, 2, 3, 0] rfl)
              · omega
              · rw [ei4_4, ei, ni_m]
              · rw [b5, b6] at c_103; exact dv_s1 b2 (by omega)
              · rw [b5, b6] at c_103; have := pw_s M i; omega
              · have e2 : wv w89h w89l = 2 * (Qn : Int) := by rw [hc89 (by rw [b4]; have := dv_q hM0 b2; unfold In; omega), b4]
                rw [hc121, e2]; omega
              · rw [b5, b6] at c_103; rw [hc114 (by rw [b5, b6]; unfold In; omega), b5, b6]; omega
              · rw [hc133, b6]
                have hi : ¬ i = 0 := fun q => c_126 (by rw [ei, q]; decide)
                obtain ⟨z, rfl⟩ : ∃ z, i = z + 1 := ⟨i - 1, by omega⟩
                rw [pw_s, Nat.add_sub_cancel]
                omega
    refine L80 130 (k + 1) (nI k) w5h w5l w13h w13l dh2 dl2 0 N ?_ ?_ ?_ ?_ ?_ ?_ ?_ _ _ hP hD hS _ (lv_sub hl [1, 2, 3, 0] rfl)
    · omega
    · rw [nI_pred]
    · omega
    · rw [pw_s]; exact g4
    · exact hc5
    · exact er
    · rw [Nat.add_sub_cancel]; exact g3
  have L44 : ∀ (n44 : Nat) (k : Nat) (dh2 dl2 : Int64), 127 < k + n44 → k ≤ 127 → wv dh2 dl2 = ((M * 2 ^ k : Nat) : Int) → ∀ (H : Heap) (locs : List Loc), va_P D vwCl [(o, .inr (0, [.ref q, .ref r, .ref d, .ref lm, .ref co])), (q, .inr (2, [.long w5h, .long w5l])), (r, .inr (2, [.long w13h, .long w13l])), (d, .inr (2, [.long dh2, .long dl2])), (lm, .inr (2, [.long w39h, .long w39l])), (up, .inr (2, [.long uh, .long ul])), (lw, .inr (2, [.long vh, .long vl]))] H → va_D A [(o, .inr (0, [.ref q, .ref r, .ref d, .ref lm, .ref co])), (q, .inr (2, [.long w5h, .long w5l])), (r, .inr (2, [.long w13h, .long w13l])), (d, .inr (2, [.long dh2, .long dl2])), (lm, .inr (2, [.long w39h, .long w39l])), (up, .inr (2, [.long uh, .long ul])), (lw, .inr (2, [.long vh, .long vl]))] → va_S A s.heap H locs → ∀ (ls : Array Slot), lv_has ls 5 [(0, .ref o), (1, .ref up), (2, .ref lw), (3, .int (nI k))] → W p l e { frames := 2, cells := 0, slots := 0, locals := 44 } s m args below meth c H locs 0 0 Q (F0 m 44 ls []) := by
    intro n44
    induction n44 with
    | zero =>
      intro k dh2 dl2 g1 g2 g3
      exfalso; omega
    | succ n44 ih44 =>
      intro k dh2 dl2 g1 g2 g3 H locs hP hD hS ls hl
      refine lv_iload_n hx hb dX0_divideAmounts_44 rfl (lv_at hl 3 rfl) ?_
      refine lv_bipush (v := 127) hx hb dX0_divideAmounts_45 (by decide) ?_
      refine lv_icmp_ge (tgt := 77) hx hb dX0_divideAmounts_47 (by decide) (fun c_47 => ?_) (fun c_47 => ?_)
      · refine J77 k dh2 dl2 ?_ ?_ ?_ _ _ hP hD hS _ (lv_sub hl [0, 1, 2, 3] rfl)
        · exact g2
        · exact g3
        · have := pw_ge hM0 k
          have e : k = 127 := by have := (nI_leI (a := 127) (b := k) (by omega) (by omega)).mp c_47; omega
          subst e
          omega
      · refine lv_aload_n hx hb dX0_divideAmounts_50 rfl (lv_at hl 0 rfl) ?_
        refine va_get (D := D) (ci := 0) (v := .ref d) (C := RX0) (T := TX0) (N := 5) hx hb hTB tb_X0 hown hK.1 hP 0 rfl rfl 2 (by decide) (hTB _ tb_3_6) (fun _ h9 => h9) rfl dX0_divideAmounts_51 ?_
        refine lv_aload_n hx hb dX0_divideAmounts_54 rfl (lv_at hl 0 rfl) ?_
        refine va_get (D := D) (ci := 0) (v := .ref lm) (C := RX0) (T := TX0) (N := 5) hx hb hTB tb_X0 hown hK.1 hP 0 rfl rfl 3 (by decide) (hTB _ tb_3_7) (fun _ h9 => h9) rfl dX0_divideAmounts_55 ?_
        refine vp_callSi (va_runV (As := [.ref lm]) (rest := []) ⟨hx, hb, hml, hown, hTB⟩ (c_X2_compare l D cZ cI cJ d lm dh2 dl2 w39h w39l) (cw_V hTB tb_9_22 tb_2_9 tb_11_15 tb_9_20 tb_9_21 nd_X2_compare rfl rfl ⟨Nat.le_of_ble_eq_true rfl, Nat.le_of_ble_eq_true rfl⟩) (prr_V (q0 := 3) hK hP [3, 4] rfl rfl rfl) rfl rfl hl.1 rfl (lv_room (Nat.le_of_ble_eq_true rfl)) dX0_divideAmounts_58 ⟨Nat.le_of_ble_eq_true rfl, Nat.le_of_ble_eq_true rfl⟩).run (fun r58 hc58 => ?_)
        subst hc58
        refine lv_if_gt (tgt := 77) hx hb dX0_divideAmounts_61 (by decide) (fun c_61 => ?_) (fun c_61 => ?_)
        · have c_61 := cm_gtt c_61
          refine J77 k dh2 dl2 ?_ ?_ ?_ _ _ hP hD hS _ (lv_sub hl [0, 1, 2, 3] rfl)
          · exact g2
          · exact g3
          · rw [g3, em] at c_61; omega
        · have c_61 := cm_gtf c_61
          refine lv_aload_n hx hb dX0_divideAmounts_64 rfl (lv_at hl 0 rfl) ?_
          refine va_get (D := D) (ci := 0) (v := .ref d) (C := RX0) (T := TX0) (N := 5) hx hb hTB tb_X0 hown hK.1 hP 0 rfl rfl 2 (by decide) (hTB _ tb_3_6) (fun _ h9 => h9) rfl dX0_divideAmounts_65 ?_
          refine fin_v (wr := [(o, .inr (0, [.ref q, .ref r, .ref d, .ref lm, .ref co])), (q, .inr (2, [.long w5h, .long w5l])), (r, .inr (2, [.long w13h, .long w13l])), (lm, .inr (2, [.long w39h, .long w39l])), (up, .inr (2, [.long uh, .long ul])), (lw, .inr (2, [.long vh, .long vl]))]) (va_runV (As := []) (rest := []) ⟨hx, hb, hml, hown, hTB⟩ (c_X2_twice l D cZ cI cJ d dh2 dl2 _) (cw_V hTB tb_11_23 tb_2_9 tb_11_20 tb_11_21 tb_11_22 nd_X2_twice rfl rfl ⟨Nat.le_of_ble_eq_true rfl, Nat.le_of_ble_eq_true rfl⟩) (pre_V (q0 := 3) hK hP hD [3] rfl rfl rfl rfl) rfl rfl hl.1 rfl (lv_room (Nat.le_of_ble_eq_true rfl)) dX0_divideAmounts_68 ⟨Nat.le_of_ble_eq_true rfl, Nat.le_of_ble_eq_true rfl⟩) hP hD hS hA [3] [0, 1, 2, 4, 5, 6] rfl rfl rfl (by decide) (fun u68 H locs hc68 hP hD hS => ?_)
          obtain ⟨w68h, w68l⟩ := u68
          try dsimp only at hc68
          have hP : va_P D vwCl [(o, .inr (0, [.ref q, .ref r, .ref d, .ref lm, .ref co])), (q, .inr (2, [.long w5h, .long w5l])), (r, .inr (2, [.long w13h, .long w13l])), (lm, .inr (2, [.long w39h, .long w39l])), (up, .inr (2, [.long uh, .long ul])), (lw, .inr (2, [.long vh, .long vl])), (d, .inr (2, [.long w68h, .long w68l]))] H := hP
          have hD : va_D A [(o, .inr (0, [.ref q, .ref r, .ref d, .ref lm, .ref co])), (q, .inr (2, [.long w5h, .long w5l])), (r, .inr (2, [.long w13h, .long w13l])), (lm, .inr (2, [.long w39h, .long w39l])), (up, .inr (2, [.long uh, .long ul])), (lw, .inr (2, [.long vh, .long vl])), (d, .inr (2, [.long w68h, .long w68l]))] := hD
          obtain ⟨i3_5, ei3_5⟩ : ∃ y : Int32, y = (nI k) + 1 := ⟨_, rfl⟩
          refine lv_iinc (v := i3_5) (lv' := [(3, .int i3_5), (0, .ref o), (1, .ref up), (2, .ref lw)]) hx hb dX0_divideAmounts_71 hl (k := 3) rfl (by rw [ei3_5]; rfl) (by decide) rfl (fun ls hl => ?_)
          refine lv_goto (tgt := 44) hx hb dX0_divideAmounts_74 (by decide) ?_
          have q9 : i3_5 = nI (k + 1) := by rw [ei3_5]; exact nI_1 k
          subst q9
          refine ih44 (k + 1) w68h w68l ?_ ?_ ?_ _ _ (hP.sub [0, 1, 2, 6, 3, 4, 5] rfl) (hD.sub [0, 1, 2, 6, 3, 4, 5] (by decide) rfl) hS _ (lv_sub hl [1, 2, 3, 0] rfl)
          · omega
          · have := (nI_leI (a := 127) (b := k) (by omega) (by omega)).mpr; have : ¬ 127 ≤ k := fun q => c_47 (this q); omega
          · rw [hc68 (by rw [g3, em] at c_61; rw [g3]; unfold In; omega), g3, pw_s]; omega
  refine L44 128 0 w21h w21l ?_ ?_ ?_ _ _ (hP.sub [0, 1, 5, 3, 6, 2, 4] rfl) (hD.sub [0, 1, 5, 3, 6, 2, 4] (by decide) rfl) hS _ (lv_sub hl [1, 2, 3, 0] rfl)
  · omega
  · omega
  · rw [Nat.pow_zero, Nat.mul_one]; exact ed
