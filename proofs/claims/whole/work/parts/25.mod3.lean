set_option maxHeartbeats 4000000 in
set_option maxRecDepth 100000 in
theorem c_X4_divide (l : Launch) (D : va_G) (cZ cI cJ : ClassId) (o wa sa ma tl gx gy tx tz kx ky : Nat) (cd ln cn ah : Int32) (fw : Nat → Int64) (fs : Nat → Int32) (a b : Nat) (hlim : lim fw) (ha : a < 16) (hb9 : b < 16) (ha9 : a ≠ 9) (ha10 : a ≠ 10) (hb99 : b ≠ 9) (hb10 : b ≠ 10) (hB0 : 0 < num fw b) (hB1 : 2 * num fw b < 6277101735386680763835789423207666416102355444464034512896) : Cv l D cZ cI cJ yX4_divide cX4_divide 4 { frames := 2, cells := 0, slots := 0, locals := 50 } [.ref o, .int (nI a), .int (nI b)] [(o, .inr (4, [.int cd, .ref wa, .ref sa, .ref ma, .ref tl, .ref gx, .ref gy, .ref tx, .ref tz, .int ln, .ref kx, .ref ky, .int cn, .int ah])), (wa, .inl (cJ, 96, .inr (.inl fw))), (sa, .inl (cI, 16, .inl fs))] (S := (Nat → Int64) × (Nat → Int32)) (fun u => lim u.1 ∧ num u.1 9 = num fw a / num fw b ∧ num u.1 10 = num fw a % num fw b ∧ (∀ e9, e9 < 16 → e9 ≠ 9 → e9 ≠ 10 → num u.1 e9 = num fw e9) ∧ u.2 = upd (upd fs 9 0) 10 0) (fun u => [(o, .inr (4, [.int cd, .ref wa, .ref sa, .ref ma, .ref tl, .ref gx, .ref gy, .ref tx, .ref tz, .int ln, .ref kx, .ref ky, .int cn, .int ah])), (wa, .inl (cJ, 96, .inr (.inl u.1))), (sa, .inl (cI, 16, .inl u.2))]) := by
  refine Cv.of (by decide) ?_
  intro p e s m args below meth c A Q hB hret hP hD hA
  obtain ⟨hx, hb, hr, hlocks, hml, hown, hnm, hTB, hK⟩ := hB
  have hown : s.vm.findClass RX4 = some m.cls := hown
  have hS : va_S A s.heap s.heap [] := va_S.rf
  have hl := lv_entry ([.ref o, .int (nI a), .int (nI b)]) (n := 4) (Nat.le_of_ble_eq_true rfl)
  rw [lg_entry_eq]
  generalize (lg_sl ([.ref o, .int (nI a), .int (nI b)]) ++ List.replicate (4 - (lg_sl ([.ref o, .int (nI a), .int (nI b)])).length) Slot.unset).toArray = ls at hl ⊢
  have hl : lv_has ls 4 [(0, .ref o), (1, .int (nI a)), (2, .int (nI b))] := hl
  refine lv_aload_n hx hb dX4_divide_0 rfl (lv_at hl 0 rfl) ?_
  refine lv_bipush (v := 9) hx hb dX4_divide_1 (by decide) ?_
  refine lv_lconst (v := 0) hx hb dX4_divide_3 (by decide) ?_
  refine fin_v (wr := []) (va_runV (As := [.int 9, .long 0]) (rest := []) ⟨hx, hb, hml, hown, hTB⟩ (c_X4_put l D cZ cI cJ o wa sa ma tl gx gy tx tz kx ky cd ln cn ah fw fs 9 0 hlim (by decide) _) (cw_V hTB tb_6_21 tb_1_5 tb_6_18 tb_6_19 tb_6_20 nd_X4_put rfl rfl ⟨Nat.le_of_ble_eq_true rfl, Nat.le_of_ble_eq_true rfl⟩) (pre_V (q0 := 0) hK hP hD [0, 1, 2] rfl rfl rfl rfl) rfl rfl hl.1 rfl (lv_room (Nat.le_of_ble_eq_true rfl)) dX4_divide_4 ⟨Nat.le_of_ble_eq_true rfl, Nat.le_of_ble_eq_true rfl⟩) hP hD hS hA [0, 1, 2] [] rfl rfl rfl (by decide) (fun u4 H locs hc4 hP hD hS => ?_)
  obtain ⟨g4, s4⟩ := u4
  dsimp only at hc4
  obtain ⟨up4, rfl⟩ := hc4
  have hP : va_P D vwCl [(o, .inr (4, [.int cd, .ref wa, .ref sa, .ref ma, .ref tl, .ref gx, .ref gy, .ref tx, .ref tz, .int ln, .ref kx, .ref ky, .int cn, .int ah])), (wa, .inl (cJ, 96, .inr (.inl g4))), (sa, .inl (cI, 16, .inl (upd fs 9 (sg ((0 : Int64).toInt)))))] H := hP
  have hD : va_D A [(o, .inr (4, [.int cd, .ref wa, .ref sa, .ref ma, .ref tl, .ref gx, .ref gy, .ref tx, .ref tz, .int ln, .ref kx, .ref ky, .int cn, .int ah])), (wa, .inl (cJ, 96, .inr (.inl g4))), (sa, .inl (cI, 16, .inl (upd fs 9 (sg ((0 : Int64).toInt)))))] := hD
  refine lv_aload_n hx hb dX4_divide_7 rfl (lv_at hl 0 rfl) ?_
  refine lv_bipush (v := 10) hx hb dX4_divide_8 (by decide) ?_
  refine lv_lconst (v := 0) hx hb dX4_divide_10 (by decide) ?_
  refine fin_v (wr := []) (va_runV (As := [.int 10, .long 0]) (rest := []) ⟨hx, hb, hml, hown, hTB⟩ (c_X4_put l D cZ cI cJ o wa sa ma tl gx gy tx tz kx ky cd ln cn ah g4 (upd fs 9 (sg ((0 : Int64).toInt))) 10 0 up4.1 (by decide) _) (cw_V hTB tb_6_21 tb_1_5 tb_6_18 tb_6_19 tb_6_20 nd_X4_put rfl rfl ⟨Nat.le_of_ble_eq_true rfl, Nat.le_of_ble_eq_true rfl⟩) (pre_V (q0 := 0) hK hP hD [0, 1, 2] rfl rfl rfl rfl) rfl rfl hl.1 rfl (lv_room (Nat.le_of_ble_eq_true rfl)) dX4_divide_11 ⟨Nat.le_of_ble_eq_true rfl, Nat.le_of_ble_eq_true rfl⟩) hP hD hS hA [0, 1, 2] [] rfl rfl rfl (by decide) (fun u11 H locs hc11 hP hD hS => ?_)
  obtain ⟨g11, s11⟩ := u11
  dsimp only at hc11
  obtain ⟨up11, rfl⟩ := hc11
  have hP : va_P D vwCl [(o, .inr (4, [.int cd, .ref wa, .ref sa, .ref ma, .ref tl, .ref gx, .ref gy, .ref tx, .ref tz, .int ln, .ref kx, .ref ky, .int cn, .int ah])), (wa, .inl (cJ, 96, .inr (.inl g11))), (sa, .inl (cI, 16, .inl (upd (upd fs 9 (sg ((0 : Int64).toInt))) 10 (sg ((0 : Int64).toInt)))))] H := hP
  have hD : va_D A [(o, .inr (4, [.int cd, .ref wa, .ref sa, .ref ma, .ref tl, .ref gx, .ref gy, .ref tx, .ref tz, .int ln, .ref kx, .ref ky, .int cn, .int ah])), (wa, .inl (cJ, 96, .inr (.inl g11))), (sa, .inl (cI, 16, .inl (upd (upd fs 9 (sg ((0 : Int64).toInt))) 10 (sg ((0 : Int64).toInt)))))] := hD
  have hfr : ∀ e9, e9 < 16 → e9 ≠ 9 → e9 ≠ 10 → num g11 e9 = num fw e9 := fun e9 h1 h2 h3 => by rw [up11.other h3, up4.other h2]
  refine lv_sipush (v := 191) hx hb dX4_divide_14 (by decide) ?_
  refine lv_istore_n (lv' := [(3, .int 191), (0, .ref o), (1, .int (nI a)), (2, .int (nI b))]) hx hb dX4_divide_17 rfl hl (by decide) rfl (fun ls hl => ?_)
  have L84 : ∀ (n84 : Nat) (j : Nat) (x3 : Int32) (g : Nat → Int64), (j < n84 ∧ j ≤ 192) → (x3 = nI j - 1) → (lim g) → (num g 10 = num fw a / 2 ^ j % num fw b) → (num g 9 = num fw a / 2 ^ j / num fw b * 2 ^ j) → (∀ e9, e9 < 16 → e9 ≠ 9 → e9 ≠ 10 → num g e9 = num fw e9) → ∀ (H : Heap) (locs : List Loc), va_P D vwCl [(o, .inr (4, [.int cd, .ref wa, .ref sa, .ref ma, .ref tl, .ref gx, .ref gy, .ref tx, .ref tz, .int ln, .ref kx, .ref ky, .int cn, .int ah])), (wa, .inl (cJ, 96, .inr (.inl g))), (sa, .inl (cI, 16, .inl (upd (upd fs 9 (sg ((0 : Int64).toInt))) 10 (sg ((0 : Int64).toInt)))))] H → va_D A [(o, .inr (4, [.int cd, .ref wa, .ref sa, .ref ma, .ref tl, .ref gx, .ref gy, .ref tx, .ref tz, .int ln, .ref kx, .ref ky, .int cn, .int ah])), (wa, .inl (cJ, 96, .inr (.inl g))), (sa, .inl (cI, 16, .inl (upd (upd fs 9 (sg ((0 : Int64).toInt))) 10 (sg ((0 : Int64).toInt)))))] → va_S A s.heap H locs → ∀ (ls : Array Slot), lv_has ls 4 [(0, .ref o), (1, .int (nI a)), (2, .int (nI b)), (3, .int x3)] → W p l e { frames := 2, cells := 0, slots := 0, locals := 50 } s m args below meth c H locs 0 0 Q (F0 m 84 ls []) := by
    intro n84
    induction n84 with
    | zero =>
      intro j x3 g v1 v2 v3 v4 v5 v6
      exfalso; omega
    | succ n84 ih84 =>
      intro j x3 g v1 v2 v3 v4 v5 v6 H locs hP hD hS ls hl
      refine lv_iload_n hx hb dX4_divide_84 rfl (lv_at hl 3 rfl) ?_
      refine lv_if_lt (tgt := 187) hx hb dX4_divide_85 (by decide) (fun c_85 => ?_) (fun c_85 => ?_)
      · exact hret hP hD hS (g, upd (upd fs 9 (sg ((0 : Int64).toInt))) 10 (sg ((0 : Int64).toInt))) (by have hj := ni_pt (by omega) v2 c_85; subst hj; rw [Nat.pow_zero, Nat.div_one] at v4 v5; exact ⟨v3, (by rw [v5, Nat.mul_one]), v4, v6, rfl⟩) [0, 1, 2] rfl (by decide) dX4_divide_187 (Nat.le_of_ble_eq_true rfl) (Nat.le_of_ble_eq_true rfl)
      · obtain ⟨i, rfl, ei⟩ := ni_pf (by omega) v2 c_85
        have hi9 : i < 192 := by omega
        refine lv_aload_n hx hb dX4_divide_88 rfl (lv_at hl 0 rfl) ?_
        refine lv_bipush (v := 10) hx hb dX4_divide_89 (by decide) ?_
        refine fin_v (wr := [(sa, .inl (cI, 16, .inl (upd (upd fs 9 (sg ((0 : Int64).toInt))) 10 (sg ((0 : Int64).toInt)))))]) (va_runV (As := [.int 10]) (rest := []) ⟨hx, hb, hml, hown, hTB⟩ (c_X4_twice l D cZ cI cJ o wa sa ma tl gx gy tx tz kx ky cd ln cn ah g 10 v3 (by decide) (by rw [v4]; have := Nat.mod_lt (num fw a / 2 ^ (i + 1)) hB0; omega) _) (cw_V hTB tb_14_13 tb_1_5 tb_14_10 tb_14_11 tb_14_12 nd_X4_twice rfl rfl ⟨Nat.le_of_ble_eq_true rfl, Nat.le_of_ble_eq_true rfl⟩) (pre_V (q0 := 0) hK hP hD [0, 1] rfl rfl rfl rfl) rfl rfl hl.1 rfl (lv_room (Nat.le_of_ble_eq_true rfl)) dX4_divide_91 ⟨Nat.le_of_ble_eq_true rfl, Nat.le_of_ble_eq_true rfl⟩) hP hD hS hA [0, 1] [2] rfl rfl rfl (by decide) (fun u91 H locs hc91 hP hD hS => ?_)
        have hP : va_P D vwCl [(sa, .inl (cI, 16, .inl (upd (upd fs 9 (sg ((0 : Int64).toInt))) 10 (sg ((0 : Int64).toInt))))), (o, .inr (4, [.int cd, .ref wa, .ref sa, .ref ma, .ref tl, .ref gx, .ref gy, .ref tx, .ref tz, .int ln, .ref kx, .ref ky, .int cn, .int ah])), (wa, .inl (cJ, 96, .inr (.inl u91)))] H := hP
        have hD : va_D A [(sa, .inl (cI, 16, .inl (upd (upd fs 9 (sg ((0 : Int64).toInt))) 10 (sg ((0 : Int64).toInt))))), (o, .inr (4, [.int cd, .ref wa, .ref sa, .ref ma, .ref tl, .ref gx, .ref gy, .ref tx, .ref tz, .int ln, .ref kx, .ref ky, .int cn, .int ah])), (wa, .inl (cJ, 96, .inr (.inl u91)))] := hD
        refine lv_aload_n hx hb dX4_divide_94 rfl (lv_at hl 0 rfl) ?_
        refine va_get (D := D) (ci := 4) (v := .ref wa) (C := RX4) (T := TX4) (N := 14) hx hb hTB tb_X4 hown hK.1 hP 1 rfl rfl 1 (by decide) (hTB _ tb_3_13) (fun _ h9 => h9) rfl dX4_divide_95 ?_
        refine lv_bipush (v := 60) hx hb dX4_divide_98 (by decide) ?_
        refine lv_aload_n hx hb dX4_divide_100 rfl (lv_at hl 0 rfl) ?_
        refine va_get (D := D) (ci := 4) (v := .ref wa) (C := RX4) (T := TX4) (N := 14) hx hb hTB tb_X4 hown hK.1 hP 1 rfl rfl 1 (by decide) (hTB _ tb_3_13) (fun _ h9 => h9) rfl dX4_divide_101 ?_
        refine lv_bipush (v := 60) hx hb dX4_divide_104 (by decide) ?_
        refine va_lald (f := u91) hx hb hK.1 hP 2 2 rfl rfl (vp_in_nI (n := 60) (by decide) (by decide)) dX4_divide_106 ?_
        rw [show (60 : Int32).toNatClampNeg = 6 * 10 + 0 from rfl]
        refine lv_aload_n hx hb dX4_divide_107 rfl (lv_at hl 0 rfl) ?_
        refine va_get (D := D) (ci := 4) (v := .ref wa) (C := RX4) (T := TX4) (N := 14) hx hb hTB tb_X4 hown hK.1 hP 1 rfl rfl 1 (by decide) (hTB _ tb_3_13) (fun _ h9 => h9) rfl dX4_divide_108 ?_
        refine lv_bipush (v := 6) hx hb dX4_divide_111 (by decide) ?_
        refine lv_iload_n hx hb dX4_divide_113 rfl (lv_at hl 1 rfl) ?_
        refine lv_imul hx hb dX4_divide_114 ?_
        refine lv_iload_n hx hb dX4_divide_115 rfl (lv_at hl 3 rfl) ?_
        refine lv_bipush (v := 32) hx hb dX4_divide_116 (by decide) ?_
        refine lv_idiv hx hb dX4_divide_118 (by decide) ?_
        refine lv_iadd hx hb dX4_divide_119 ?_
        refine va_lald (f := u91) hx hb hK.1 hP 2 2 rfl rfl (ixd_in (a := a) ei hi9 (by omega)) dX4_divide_120 ?_
        rw [show ((6 * (nI a)) + (x3 / 32)).toNatClampNeg = 6 * a + i / 32 from ixd_cl ei hi9 (by omega)]
        refine lv_iload_n hx hb dX4_divide_121 rfl (lv_at hl 3 rfl) ?_
        refine lv_bipush (v := 32) hx hb dX4_divide_122 (by decide) ?_
        refine lv_irem hx hb dX4_divide_124 (by decide) ?_
        refine lv_lshr (v := (u91 (6 * a + i / 32)) >>> ((x3 - x3 / 32 * 32).toInt64 &&& 63)) hx hb dX4_divide_125 rfl ?_
        refine lv_lconst (v := 1) hx hb dX4_divide_126 (by decide) ?_
        refine lv_land hx hb dX4_divide_127 ?_
        refine lv_lor hx hb dX4_divide_128 ?_
        refine va_last (f := u91) hx hb hK.1 hP hD hS 2 2 rfl rfl (vp_in_nI (n := 60) (by decide) (by decide)) dX4_divide_129 (fun H locs hP hD hS => ?_)
        rw [show (60 : Int32).toNatClampNeg = 6 * 10 + 0 from rfl] at hP hD
        have hP : va_P D vwCl [(sa, .inl (cI, 16, .inl (upd (upd fs 9 (sg ((0 : Int64).toInt))) 10 (sg ((0 : Int64).toInt))))), (o, .inr (4, [.int cd, .ref wa, .ref sa, .ref ma, .ref tl, .ref gx, .ref gy, .ref tx, .ref tz, .int ln, .ref kx, .ref ky, .int cn, .int ah])), (wa, .inl (cJ, 96, .inr (.inl (vp_updL u91 (6 * 10 + 0) ((u91 (6 * 10 + 0)) ||| (((u91 (6 * a + i / 32)) >>> ((x3 - x3 / 32 * 32).toInt64 &&& 63)) &&& 1))))))] H := hP
        have hD : va_D A [(sa, .inl (cI, 16, .inl (upd (upd fs 9 (sg ((0 : Int64).toInt))) 10 (sg ((0 : Int64).toInt))))), (o, .inr (4, [.int cd, .ref wa, .ref sa, .ref ma, .ref tl, .ref gx, .ref gy, .ref tx, .ref tz, .int ln, .ref kx, .ref ky, .int cn, .int ah])), (wa, .inl (cJ, 96, .inr (.inl (vp_updL u91 (6 * 10 + 0) ((u91 (6 * 10 + 0)) ||| (((u91 (6 * a + i / 32)) >>> ((x3 - x3 / 32 * 32).toInt64 &&& 63)) &&& 1))))))] := hD
        have hlm9 : lim (vp_updL u91 (6 * 10 + 0) (u91 (6 * 10 + 0) ||| (u91 (6 * a + i / 32) >>> ((x3 - x3 / 32 * 32).toInt64 &&& 63) &&& 1))) := lim_up hc91.1 (by
          have hb1 := dvb hc91.1 ha hi9 ei
          have hev : uN (u91 (6 * 10 + 0)) % 2 = 0 := by
            have hp9 : num u91 10 % 2 = uN (u91 (6 * 10 + 0)) % 2 := num_par u91 10
            have := hc91.2.1
            omega
          rw [or_even hev (by rw [hb1]; omega), hb1]
          have := hc91.1 (6 * 10 + 0) (by decide)
          omega)
        refine lv_aload_n hx hb dX4_divide_130 rfl (lv_at hl 0 rfl) ?_
        refine lv_bipush (v := 10) hx hb dX4_divide_131 (by decide) ?_
        refine lv_iload_n hx hb dX4_divide_133 rfl (lv_at hl 2 rfl) ?_
        refine vp_callSi (va_runV (As := [.int 10, .int (nI b)]) (rest := []) ⟨hx, hb, hml, hown, hTB⟩ (c_X4_compare l D cZ cI cJ o wa sa ma tl gx gy tx tz kx ky cd ln cn ah (vp_updL u91 (6 * 10 + 0) ((u91 (6 * 10 + 0)) ||| (((u91 (6 * a + i / 32)) >>> ((x3 - x3 / 32 * 32).toInt64 &&& 63)) &&& 1))) 10 b hlm9 (by decide) hb9) (cw_V hTB tb_7_14 tb_1_5 tb_7_11 tb_7_12 tb_7_13 nd_X4_compare rfl rfl ⟨Nat.le_of_ble_eq_true rfl, Nat.le_of_ble_eq_true rfl⟩) (prr_V (q0 := 1) hK hP [1, 2] rfl rfl rfl) rfl rfl hl.1 rfl (lv_room (Nat.le_of_ble_eq_true rfl)) dX4_divide_134 ⟨Nat.le_of_ble_eq_true rfl, Nat.le_of_ble_eq_true rfl⟩).run (fun r134 hc134 => ?_)
        subst hc134
        refine lv_if_lt (tgt := 181) hx hb dX4_divide_137 (by decide) (fun c_137 => ?_) (fun c_137 => ?_)
        · have c_137 := cm_ltt c_137
          obtain ⟨i3_1, ei3_1⟩ : ∃ y : Int32, y = x3 + (-1) := ⟨_, rfl⟩
          refine lv_iinc (v := i3_1) (lv' := [(3, .int i3_1), (0, .ref o), (1, .int (nI a)), (2, .int (nI b))]) hx hb dX4_divide_181 hl (k := 3) rfl (by rw [ei3_1]; rfl) (by decide) rfl (fun ls hl => ?_)
          refine lv_goto (tgt := 84) hx hb dX4_divide_184 (by decide) ?_
          refine ih84 i i3_1 (vp_updL u91 (6 * 10 + 0) (u91 (6 * 10 + 0) ||| (u91 (6 * a + i / 32) >>> ((x3 - x3 / 32 * 32).toInt64 &&& 63) &&& 1))) ?_ ?_ ?_ ?_ ?_ ?_ _ _ (hP.sub [1, 2, 0] rfl) (hD.sub [1, 2, 0] (by decide) rfl) hS _ (lv_sub hl [1, 2, 3, 0] rfl)
          · omega
          · rw [ei3_1, ei, ni_m]
          · have l92 := hc91.1
            have e10 : num u91 10 = 2 * (num fw a / 2 ^ (i + 1) % num fw b) := by rw [hc91.2.1, v4]
            have ea : num u91 a = num fw a := by rw [hc91.other (by omega)]; exact v6 a ha ha9 ha10
            have hb1 := dvb l92 ha hi9 ei
            rw [ea] at hb1
            have hb2 : uN (u91 (6 * a + i / 32) >>> ((x3 - x3 / 32 * 32).toInt64 &&& 63) &&& 1) < 2 := by rw [hb1]; omega
            have hev : uN (u91 (6 * 10 + 0)) % 2 = 0 := by
              have hp9 : num u91 10 % 2 = uN (u91 (6 * 10 + 0)) % 2 := num_par u91 10
              omega
            have ho := or_even hev hb2
            have hn := num_up (f := u91) (d := 10) (k := 0) (w := u91 (6 * 10 + 0) ||| (u91 (6 * a + i / 32) >>> ((x3 - x3 / 32 * 32).toInt64 &&& 63) &&& 1)) (by decide)
            rw [ho, Nat.pow_zero, Nat.mul_one, Nat.mul_one, hb1, e10] at hn
            have hlm : lim (vp_updL u91 (6 * 10 + 0) (u91 (6 * 10 + 0) ||| (u91 (6 * a + i / 32) >>> ((x3 - x3 / 32 * 32).toInt64 &&& 63) &&& 1))) := lim_up l92 (by rw [ho]; have := l92 (6 * 10 + 0) (by decide); omega)
            have hR1 : num (vp_updL u91 (6 * 10 + 0) (u91 (6 * 10 + 0) ||| (u91 (6 * a + i / 32) >>> ((x3 - x3 / 32 * 32).toInt64 &&& 63) &&& 1))) 10 = 2 * (num fw a / 2 ^ (i + 1) % num fw b) + num fw a / 2 ^ i % 2 := by omega
            have hbb : num (vp_updL u91 (6 * 10 + 0) (u91 (6 * 10 + 0) ||| (u91 (6 * a + i / 32) >>> ((x3 - x3 / 32 * 32).toInt64 &&& 63) &&& 1))) b = num fw b := by rw [num_upo (by decide) hb10, hc91.other (by omega)]; exact v6 b hb9 hb99 hb10
            rw [hR1, hbb] at c_137
            have hdh := dd_h (num fw a) i
            exact hlm
          · have l92 := hc91.1
            have e10 : num u91 10 = 2 * (num fw a / 2 ^ (i + 1) % num fw b) := by rw [hc91.2.1, v4]
            have ea : num u91 a = num fw a := by rw [hc91.other (by omega)]; exact v6 a ha ha9 ha10
            have hb1 := dvb l92 ha hi9 ei
            rw [ea] at hb1
            have hb2 : uN (u91 (6 * a + i / 32) >>> ((x3 - x3 / 32 * 32).toInt64 &&& 63) &&& 1) < 2 := by rw [hb1]; omega
            have hev : uN (u91 (6 * 10 + 0)) % 2 = 0 := by
              have hp9 : num u91 10 % 2 = uN (u91 (6 * 10 + 0)) % 2 := num_par u91 10
              omega
            have ho := or_even hev hb2
            have hn := num_up (f := u91) (d := 10) (k := 0) (w := u91 (6 * 10 + 0) ||| (u91 (6 * a + i / 32) >>> ((x3 - x3 / 32 * 32).toInt64 &&& 63) &&& 1)) (by decide)
            rw [ho, Nat.pow_zero, Nat.mul_one, Nat.mul_one, hb1, e10] at hn
            have hlm : lim (vp_updL u91 (6 * 10 + 0) (u91 (6 * 10 + 0) ||| (u91 (6 * a + i / 32) >>> ((x3 - x3 / 32 * 32).toInt64 &&& 63) &&& 1))) := lim_up l92 (by rw [ho]; have := l92 (6 * 10 + 0) (by decide); omega)
            have hR1 : num (vp_updL u91 (6 * 10 + 0) (u91 (6 * 10 + 0) ||| (u91 (6 * a + i / 32) >>> ((x3 - x3 / 32 * 32).toInt64 &&& 63) &&& 1))) 10 = 2 * (num fw a / 2 ^ (i + 1) % num fw b) + num fw a / 2 ^ i % 2 := by omega
            have hbb : num (vp_updL u91 (6 * 10 + 0) (u91 (6 * 10 + 0) ||| (u91 (6 * a + i / 32) >>> ((x3 - x3 / 32 * 32).toInt64 &&& 63) &&& 1))) b = num fw b := by rw [num_upo (by decide) hb10, hc91.other (by omega)]; exact v6 b hb9 hb99 hb10
            rw [hR1, hbb] at c_137
            have hdh := dd_h (num fw a) i
            obtain ⟨d1, d2⟩ := dd_0 hB0 hdh (by omega)
            rw [hR1, d2]
          · have l92 := hc91.1
            have e10 : num u91 10 = 2 * (num fw a / 2 ^ (i + 1) % num fw b) := by rw [hc91.2.1, v4]
            have ea : num u91 a = num fw a := by rw [hc91.other (by omega)]; exact v6 a ha ha9 ha10
            have hb1 := dvb l92 ha hi9 ei
            rw [ea] at hb1
            have hb2 : uN (u91 (6 * a + i / 32) >>> ((x3 - x3 / 32 * 32).toInt64 &&& 63) &&& 1) < 2 := by rw [hb1]; omega
            have hev : uN (u91 (6 * 10 + 0)) % 2 = 0 := by
              have hp9 : num u91 10 % 2 = uN (u91 (6 * 10 + 0)) % 2 := num_par u91 10
              omega
            have ho := or_even hev hb2
            have hn := num_up (f := u91) (d := 10) (k := 0) (w := u91 (6 * 10 + 0) ||| (u91 (6 * a + i / 32) >>> ((x3 - x3 / 32 * 32).toInt64 &&& 63) &&& 1)) (by decide)
            rw [ho, Nat.pow_zero, Nat.mul_one, Nat.mul_one, hb1, e10] at hn
            have hlm : lim (vp_updL u91 (6 * 10 + 0) (u91 (6 * 10 + 0) ||| (u91 (6 * a + i / 32) >>> ((x3 - x3 / 32 * 32).toInt64 &&& 63) &&& 1))) := lim_up l92 (by rw [ho]; have := l92 (6 * 10 + 0) (by decide); omega)
            have hR1 : num (vp_updL u91 (6 * 10 + 0) (u91 (6 * 10 + 0) ||| (u91 (6 * a + i / 32) >>> ((x3 - x3 / 32 * 32).toInt64 &&& 63) &&& 1))) 10 = 2 * (num fw a / 2 ^ (i + 1) % num fw b) + num fw a / 2 ^ i % 2 := by omega
            have hbb : num (vp_updL u91 (6 * 10 + 0) (u91 (6 * 10 + 0) ||| (u91 (6 * a + i / 32) >>> ((x3 - x3 / 32 * 32).toInt64 &&& 63) &&& 1))) b = num fw b := by rw [num_upo (by decide) hb10, hc91.other (by omega)]; exact v6 b hb9 hb99 hb10
            rw [hR1, hbb] at c_137
            have hdh := dd_h (num fw a) i
            obtain ⟨d1, d2⟩ := dd_0 hB0 hdh (by omega)
            rw [num_upo (by decide) (by decide), hc91.other (by decide), v5, d1, Nat.pow_succ, Nat.mul_comm (2 ^ i) 2, ← Nat.mul_assoc, Nat.mul_comm _ 2]
          · have l92 := hc91.1
            have e10 : num u91 10 = 2 * (num fw a / 2 ^ (i + 1) % num fw b) := by rw [hc91.2.1, v4]
            have ea : num u91 a = num fw a := by rw [hc91.other (by omega)]; exact v6 a ha ha9 ha10
            have hb1 := dvb l92 ha hi9 ei
            rw [ea] at hb1
            have hb2 : uN (u91 (6 * a + i / 32) >>> ((x3 - x3 / 32 * 32).toInt64 &&& 63) &&& 1) < 2 := by rw [hb1]; omega
            have hev : uN (u91 (6 * 10 + 0)) % 2 = 0 := by
              have hp9 : num u91 10 % 2 = uN (u91 (6 * 10 + 0)) % 2 := num_par u91 10
              omega
            have ho := or_even hev hb2
            have hn := num_up (f := u91) (d := 10) (k := 0) (w := u91 (6 * 10 + 0) ||| (u91 (6 * a + i / 32) >>> ((x3 - x3 / 32 * 32).toInt64 &&& 63) &&& 1)) (by decide)
            rw [ho, Nat.pow_zero, Nat.mul_one, Nat.mul_one, hb1, e10] at hn
            have hlm : lim (vp_updL u91 (6 * 10 + 0) (u91 (6 * 10 + 0) ||| (u91 (6 * a + i / 32) >>> ((x3 - x3 / 32 * 32).toInt64 &&& 63) &&& 1))) := lim_up l92 (by rw [ho]; have := l92 (6 * 10 + 0) (by decide); omega)
            have hR1 : num (vp_updL u91 (6 * 10 + 0) (u91 (6 * 10 + 0) ||| (u91 (6 * a + i / 32) >>> ((x3 - x3 / 32 * 32).toInt64 &&& 63) &&& 1))) 10 = 2 * (num fw a / 2 ^ (i + 1) % num fw b) + num fw a / 2 ^ i % 2 := by omega
            have hbb : num (vp_updL u91 (6 * 10 + 0) (u91 (6 * 10 + 0) ||| (u91 (6 * a + i / 32) >>> ((x3 - x3 / 32 * 32).toInt64 &&& 63) &&& 1))) b = num fw b := by rw [num_upo (by decide) hb10, hc91.other (by omega)]; exact v6 b hb9 hb99 hb10
            rw [hR1, hbb] at c_137
            have hdh := dd_h (num fw a) i
            intro e9 h1 h2 h3
            rw [num_upo (by decide) h3, hc91.other h3]; exact v6 e9 h1 h2 h3
        · have c_137 := cm_ltf c_137
          refine lv_aload_n hx hb dX4_divide_140 rfl (lv_at hl 0 rfl) ?_
          refine lv_bipush (v := 10) hx hb dX4_divide_141 (by decide) ?_
          refine lv_bipush (v := 10) hx hb dX4_divide_143 (by decide) ?_
          refine lv_iload_n hx hb dX4_divide_145 rfl (lv_at hl 2 rfl) ?_
          refine lv_iconst (v := 0) hx hb dX4_divide_146 (by decide) ?_
          refine fin_v (wr := [(sa, .inl (cI, 16, .inl (upd (upd fs 9 (sg ((0 : Int64).toInt))) 10 (sg ((0 : Int64).toInt)))))]) (va_runV (As := [.int 10, .int 10, .int (nI b), .int 0]) (rest := []) ⟨hx, hb, hml, hown, hTB⟩ (c_X4_change_m l D cZ cI cJ o wa sa ma tl gx gy tx tz kx ky cd ln cn ah (vp_updL u91 (6 * 10 + 0) ((u91 (6 * 10 + 0)) ||| (((u91 (6 * a + i / 32)) >>> ((x3 - x3 / 32 * 32).toInt64 &&& 63)) &&& 1))) (10) (10) (b) hlm9 (by decide) (by decide) hb9 (by omega) _) (cw_V hTB tb_7_10 tb_1_5 tb_7_7 tb_7_8 tb_7_9 nd_X4_change rfl rfl ⟨Nat.le_of_ble_eq_true rfl, Nat.le_of_ble_eq_true rfl⟩) (pre_V (q0 := 1) hK hP hD [1, 2] rfl rfl rfl rfl) rfl rfl hl.1 rfl (lv_room (Nat.le_of_ble_eq_true rfl)) dX4_divide_147 ⟨Nat.le_of_ble_eq_true rfl, Nat.le_of_ble_eq_true rfl⟩) hP hD hS hA [1, 2] [0] rfl rfl rfl (by decide) (fun u147 H locs hc147 hP hD hS => ?_)
          have hP : va_P D vwCl [(sa, .inl (cI, 16, .inl (upd (upd fs 9 (sg ((0 : Int64).toInt))) 10 (sg ((0 : Int64).toInt))))), (o, .inr (4, [.int cd, .ref wa, .ref sa, .ref ma, .ref tl, .ref gx, .ref gy, .ref tx, .ref tz, .int ln, .ref kx, .ref ky, .int cn, .int ah])), (wa, .inl (cJ, 96, .inr (.inl u147)))] H := hP
          have hD : va_D A [(sa, .inl (cI, 16, .inl (upd (upd fs 9 (sg ((0 : Int64).toInt))) 10 (sg ((0 : Int64).toInt))))), (o, .inr (4, [.int cd, .ref wa, .ref sa, .ref ma, .ref tl, .ref gx, .ref gy, .ref tx, .ref tz, .int ln, .ref kx, .ref ky, .int cn, .int ah])), (wa, .inl (cJ, 96, .inr (.inl u147)))] := hD
          refine lv_aload_n hx hb dX4_divide_150 rfl (lv_at hl 0 rfl) ?_
          refine va_get (D := D) (ci := 4) (v := .ref wa) (C := RX4) (T := TX4) (N := 14) hx hb hTB tb_X4 hown hK.1 hP 1 rfl rfl 1 (by decide) (hTB _ tb_3_13) (fun _ h9 => h9) rfl dX4_divide_151 ?_
          refine lv_bipush (v := 54) hx hb dX4_divide_154 (by decide) ?_
          refine lv_iload_n hx hb dX4_divide_156 rfl (lv_at hl 3 rfl) ?_
          refine lv_bipush (v := 32) hx hb dX4_divide_157 (by decide) ?_
          refine lv_idiv hx hb dX4_divide_159 (by decide) ?_
          refine lv_iadd hx hb dX4_divide_160 ?_
          refine lv_aload_n hx hb dX4_divide_161 rfl (lv_at hl 0 rfl) ?_
          refine va_get (D := D) (ci := 4) (v := .ref wa) (C := RX4) (T := TX4) (N := 14) hx hb hTB tb_X4 hown hK.1 hP 1 rfl rfl 1 (by decide) (hTB _ tb_3_13) (fun _ h9 => h9) rfl dX4_divide_162 ?_
          refine lv_bipush (v := 54) hx hb dX4_divide_165 (by decide) ?_
          refine lv_iload_n hx hb dX4_divide_167 rfl (lv_at hl 3 rfl) ?_
          refine lv_bipush (v := 32) hx hb dX4_divide_168 (by decide) ?_
          refine lv_idiv hx hb dX4_divide_170 (by decide) ?_
          refine lv_iadd hx hb dX4_divide_171 ?_
          refine va_lald (f := u147) hx hb hK.1 hP 2 2 rfl rfl (ixq_in ei hi9) dX4_divide_172 ?_
          rw [show (54 + (x3 / 32)).toNatClampNeg = 6 * 9 + i / 32 from ixq_cl ei hi9]
          refine lv_lconst (v := 1) hx hb dX4_divide_173 (by decide) ?_
          refine lv_iload_n hx hb dX4_divide_174 rfl (lv_at hl 3 rfl) ?_
          refine lv_bipush (v := 32) hx hb dX4_divide_175 (by decide) ?_
          refine lv_irem hx hb dX4_divide_177 (by decide) ?_
          refine lv_lshl (v := 1 <<< ((x3 - x3 / 32 * 32).toInt64 &&& 63)) hx hb dX4_divide_178 rfl ?_
          refine lv_lor hx hb dX4_divide_179 ?_
          refine va_last (f := u147) hx hb hK.1 hP hD hS 2 2 rfl rfl (ixq_in ei hi9) dX4_divide_180 (fun H locs hP hD hS => ?_)
          rw [show (54 + (x3 / 32)).toNatClampNeg = 6 * 9 + i / 32 from ixq_cl ei hi9] at hP hD
          have hP : va_P D vwCl [(sa, .inl (cI, 16, .inl (upd (upd fs 9 (sg ((0 : Int64).toInt))) 10 (sg ((0 : Int64).toInt))))), (o, .inr (4, [.int cd, .ref wa, .ref sa, .ref ma, .ref tl, .ref gx, .ref gy, .ref tx, .ref tz, .int ln, .ref kx, .ref ky, .int cn, .int ah])), (wa, .inl (cJ, 96, .inr (.inl (vp_updL u147 (6 * 9 + i / 32) ((u147 (6 * 9 + i / 32)) ||| (1 <<< ((x3 - x3 / 32 * 32).toInt64 &&& 63)))))))] H := hP
          have hD : va_D A [(sa, .inl (cI, 16, .inl (upd (upd fs 9 (sg ((0 : Int64).toInt))) 10 (sg ((0 : Int64).toInt))))), (o, .inr (4, [.int cd, .ref wa, .ref sa, .ref ma, .ref tl, .ref gx, .ref gy, .ref tx, .ref tz, .int ln, .ref kx, .ref ky, .int cn, .int ah])), (wa, .inl (cJ, 96, .inr (.inl (vp_updL u147 (6 * 9 + i / 32) ((u147 (6 * 9 + i / 32)) ||| (1 <<< ((x3 - x3 / 32 * 32).toInt64 &&& 63)))))))] := hD
          obtain ⟨i3_2, ei3_2⟩ : ∃ y : Int32, y = x3 + (-1) := ⟨_, rfl⟩
          refine lv_iinc (v := i3_2) (lv' := [(3, .int i3_2), (0, .ref o), (1, .int (nI a)), (2, .int (nI b))]) hx hb dX4_divide_181 hl (k := 3) rfl (by rw [ei3_2]; rfl) (by decide) rfl (fun ls hl => ?_)
          refine lv_goto (tgt := 84) hx hb dX4_divide_184 (by decide) ?_
          refine ih84 i i3_2 (vp_updL u147 (6 * 9 + i / 32) (u147 (6 * 9 + i / 32) ||| 1 <<< ((x3 - x3 / 32 * 32).toInt64 &&& 63))) ?_ ?_ ?_ ?_ ?_ ?_ _ _ (hP.sub [1, 2, 0] rfl) (hD.sub [1, 2, 0] (by decide) rfl) hS _ (lv_sub hl [1, 2, 3, 0] rfl)
          · omega
          · rw [ei3_2, ei, ni_m]
          · have l92 := hc91.1
            have e10 : num u91 10 = 2 * (num fw a / 2 ^ (i + 1) % num fw b) := by rw [hc91.2.1, v4]
            have ea : num u91 a = num fw a := by rw [hc91.other (by omega)]; exact v6 a ha ha9 ha10
            have hb1 := dvb l92 ha hi9 ei
            rw [ea] at hb1
            have hb2 : uN (u91 (6 * a + i / 32) >>> ((x3 - x3 / 32 * 32).toInt64 &&& 63) &&& 1) < 2 := by rw [hb1]; omega
            have hev : uN (u91 (6 * 10 + 0)) % 2 = 0 := by
              have hp9 : num u91 10 % 2 = uN (u91 (6 * 10 + 0)) % 2 := num_par u91 10
              omega
            have ho := or_even hev hb2
            have hn := num_up (f := u91) (d := 10) (k := 0) (w := u91 (6 * 10 + 0) ||| (u91 (6 * a + i / 32) >>> ((x3 - x3 / 32 * 32).toInt64 &&& 63) &&& 1)) (by decide)
            rw [ho, Nat.pow_zero, Nat.mul_one, Nat.mul_one, hb1, e10] at hn
            have hlm : lim (vp_updL u91 (6 * 10 + 0) (u91 (6 * 10 + 0) ||| (u91 (6 * a + i / 32) >>> ((x3 - x3 / 32 * 32).toInt64 &&& 63) &&& 1))) := lim_up l92 (by rw [ho]; have := l92 (6 * 10 + 0) (by decide); omega)
            have hR1 : num (vp_updL u91 (6 * 10 + 0) (u91 (6 * 10 + 0) ||| (u91 (6 * a + i / 32) >>> ((x3 - x3 / 32 * 32).toInt64 &&& 63) &&& 1))) 10 = 2 * (num fw a / 2 ^ (i + 1) % num fw b) + num fw a / 2 ^ i % 2 := by omega
            have hbb : num (vp_updL u91 (6 * 10 + 0) (u91 (6 * 10 + 0) ||| (u91 (6 * a + i / 32) >>> ((x3 - x3 / 32 * 32).toInt64 &&& 63) &&& 1))) b = num fw b := by rw [num_upo (by decide) hb10, hc91.other (by omega)]; exact v6 b hb9 hb99 hb10
            rw [hR1, hbb] at c_137
            have hdh := dd_h (num fw a) i
            obtain ⟨d1, d2⟩ := dd_1 hB0 (by omega) hdh (by omega)
            have hq9 : num u147 9 = num fw a / 2 ^ (i + 1) / num fw b * 2 ^ (i + 1) := by rw [hc147.other (by decide), num_upo (by decide) (by decide), hc91.other (by decide), v5]
            obtain ⟨qb1, qb2⟩ := qbit hc147.1 hi9 ei hq9
            have hn9 := num_up (f := u147) (d := 9) (k := i / 32) (w := u147 (6 * 9 + i / 32) ||| 1 <<< ((x3 - x3 / 32 * 32).toInt64 &&& 63)) (by omega)
            rw [qb1, Nat.add_mul, p2B] at hn9
            exact lim_up hc147.1 (by rw [qb1]; exact qb2)
          · have l92 := hc91.1
            have e10 : num u91 10 = 2 * (num fw a / 2 ^ (i + 1) % num fw b) := by rw [hc91.2.1, v4]
            have ea : num u91 a = num fw a := by rw [hc91.other (by omega)]; exact v6 a ha ha9 ha10
            have hb1 := dvb l92 ha hi9 ei
            rw [ea] at hb1
            have hb2 : uN (u91 (6 * a + i / 32) >>> ((x3 - x3 / 32 * 32).toInt64 &&& 63) &&& 1) < 2 := by rw [hb1]; omega
            have hev : uN (u91 (6 * 10 + 0)) % 2 = 0 := by
              have hp9 : num u91 10 % 2 = uN (u91 (6 * 10 + 0)) % 2 := num_par u91 10
              omega
            have ho := or_even hev hb2
            have hn := num_up (f := u91) (d := 10) (k := 0) (w := u91 (6 * 10 + 0) ||| (u91 (6 * a + i / 32) >>> ((x3 - x3 / 32 * 32).toInt64 &&& 63) &&& 1)) (by decide)
            rw [ho, Nat.pow_zero, Nat.mul_one, Nat.mul_one, hb1, e10] at hn
            have hlm : lim (vp_updL u91 (6 * 10 + 0) (u91 (6 * 10 + 0) ||| (u91 (6 * a + i / 32) >>> ((x3 - x3 / 32 * 32).toInt64 &&& 63) &&& 1))) := lim_up l92 (by rw [ho]; have := l92 (6 * 10 + 0) (by decide); omega)
            have hR1 : num (vp_updL u91 (6 * 10 + 0) (u91 (6 * 10 + 0) ||| (u91 (6 * a + i / 32) >>> ((x3 - x3 / 32 * 32).toInt64 &&& 63) &&& 1))) 10 = 2 * (num fw a / 2 ^ (i + 1) % num fw b) + num fw a / 2 ^ i % 2 := by omega
            have hbb : num (vp_updL u91 (6 * 10 + 0) (u91 (6 * 10 + 0) ||| (u91 (6 * a + i / 32) >>> ((x3 - x3 / 32 * 32).toInt64 &&& 63) &&& 1))) b = num fw b := by rw [num_upo (by decide) hb10, hc91.other (by omega)]; exact v6 b hb9 hb99 hb10
            rw [hR1, hbb] at c_137
            have hdh := dd_h (num fw a) i
            obtain ⟨d1, d2⟩ := dd_1 hB0 (by omega) hdh (by omega)
            have hq9 : num u147 9 = num fw a / 2 ^ (i + 1) / num fw b * 2 ^ (i + 1) := by rw [hc147.other (by decide), num_upo (by decide) (by decide), hc91.other (by decide), v5]
            obtain ⟨qb1, qb2⟩ := qbit hc147.1 hi9 ei hq9
            have hn9 := num_up (f := u147) (d := 9) (k := i / 32) (w := u147 (6 * 9 + i / 32) ||| 1 <<< ((x3 - x3 / 32 * 32).toInt64 &&& 63)) (by omega)
            rw [qb1, Nat.add_mul, p2B] at hn9
            rw [num_upo (by omega) (by decide), hc147.2.1, hR1, hbb, d2]
          · have l92 := hc91.1
            have e10 : num u91 10 = 2 * (num fw a / 2 ^ (i + 1) % num fw b) := by rw [hc91.2.1, v4]
            have ea : num u91 a = num fw a := by rw [hc91.other (by omega)]; exact v6 a ha ha9 ha10
            have hb1 := dvb l92 ha hi9 ei
            rw [ea] at hb1
            have hb2 : uN (u91 (6 * a + i / 32) >>> ((x3 - x3 / 32 * 32).toInt64 &&& 63) &&& 1) < 2 := by rw [hb1]; omega
            have hev : uN (u91 (6 * 10 + 0)) % 2 = 0 := by
              have hp9 : num u91 10 % 2 = uN (u91 (6 * 10 + 0)) % 2 := num_par u91 10
              omega
            have ho := or_even hev hb2
            have hn := num_up (f := u91) (d := 10) (k := 0) (w := u91 (6 * 10 + 0) ||| (u91 (6 * a + i / 32) >>> ((x3 - x3 / 32 * 32).toInt64 &&& 63) &&& 1)) (by decide)
            rw [ho, Nat.pow_zero, Nat.mul_one, Nat.mul_one, hb1, e10] at hn
            have hlm : lim (vp_updL u91 (6 * 10 + 0) (u91 (6 * 10 + 0) ||| (u91 (6 * a + i / 32) >>> ((x3 - x3 / 32 * 32).toInt64 &&& 63) &&& 1))) := lim_up l92 (by rw [ho]; have := l92 (6 * 10 + 0) (by decide); omega)
            have hR1 : num (vp_updL u91 (6 * 10 + 0) (u91 (6 * 10 + 0) ||| (u91 (6 * a + i / 32) >>> ((x3 - x3 / 32 * 32).toInt64 &&& 63) &&& 1))) 10 = 2 * (num fw a / 2 ^ (i + 1) % num fw b) + num fw a / 2 ^ i % 2 := by omega
            have hbb : num (vp_updL u91 (6 * 10 + 0) (u91 (6 * 10 + 0) ||| (u91 (6 * a + i / 32) >>> ((x3 - x3 / 32 * 32).toInt64 &&& 63) &&& 1))) b = num fw b := by rw [num_upo (by decide) hb10, hc91.other (by omega)]; exact v6 b hb9 hb99 hb10
            rw [hR1, hbb] at c_137
            have hdh := dd_h (num fw a) i
            obtain ⟨d1, d2⟩ := dd_1 hB0 (by omega) hdh (by omega)
            have hq9 : num u147 9 = num fw a / 2 ^ (i + 1) / num fw b * 2 ^ (i + 1) := by rw [hc147.other (by decide), num_upo (by decide) (by decide), hc91.other (by decide), v5]
            obtain ⟨qb1, qb2⟩ := qbit hc147.1 hi9 ei hq9
            have hn9 := num_up (f := u147) (d := 9) (k := i / 32) (w := u147 (6 * 9 + i / 32) ||| 1 <<< ((x3 - x3 / 32 * 32).toInt64 &&& 63)) (by omega)
            rw [qb1, Nat.add_mul, p2B] at hn9
            rw [d1, Nat.add_mul, Nat.one_mul]
            have hpp : num fw a / 2 ^ (i + 1) / num fw b * 2 ^ (i + 1) = 2 * (num fw a / 2 ^ (i + 1) / num fw b) * 2 ^ i := by rw [Nat.pow_succ, Nat.mul_comm (2 ^ i) 2, ← Nat.mul_assoc, Nat.mul_comm _ 2]
            omega
          · have l92 := hc91.1
            have e10 : num u91 10 = 2 * (num fw a / 2 ^ (i + 1) % num fw b) := by rw [hc91.2.1, v4]
            have ea : num u91 a = num fw a := by rw [hc91.other (by omega)]; exact v6 a ha ha9 ha10
            have hb1 := dvb l92 ha hi9 ei
            rw [ea] at hb1
            have hb2 : uN (u91 (6 * a + i / 32) >>> ((x3 - x3 / 32 * 32).toInt64 &&& 63) &&& 1) < 2 := by rw [hb1]; omega
            have hev : uN (u91 (6 * 10 + 0)) % 2 = 0 := by
              have hp9 : num u91 10 % 2 = uN (u91 (6 * 10 + 0)) % 2 := num_par u91 10
              omega
            have ho := or_even hev hb2
            have hn := num_up (f := u91) (d := 10) (k := 0) (w := u91 (6 * 10 + 0) ||| (u91 (6 * a + i / 32) >>> ((x3 - x3 / 32 * 32).toInt64 &&& 63) &&& 1)) (by decide)
            rw [ho, Nat.pow_zero, Nat.mul_one, Nat.mul_one, hb1, e10] at hn
            have hlm : lim (vp_updL u91 (6 * 10 + 0) (u91 (6 * 10 + 0) ||| (u91 (6 * a + i / 32) >>> ((x3 - x3 / 32 * 32).toInt64 &&& 63) &&& 1))) := lim_up l92 (by rw [ho]; have := l92 (6 * 10 + 0) (by decide); omega)
            have hR1 : num (vp_updL u91 (6 * 10 + 0) (u91 (6 * 10 + 0) ||| (u91 (6 * a + i / 32) >>> ((x3 - x3 / 32 * 32).toInt64 &&& 63) &&& 1))) 10 = 2 * (num fw a / 2 ^ (i + 1) % num fw b) + num fw a / 2 ^ i % 2 := by omega
            have hbb : num (vp_updL u91 (6 * 10 + 0) (u91 (6 * 10 + 0) ||| (u91 (6 * a + i / 32) >>> ((x3 - x3 / 32 * 32).toInt64 &&& 63) &&& 1))) b = num fw b := by rw [num_upo (by decide) hb10, hc91.other (by omega)]; exact v6 b hb9 hb99 hb10
            rw [hR1, hbb] at c_137
            have hdh := dd_h (num fw a) i
            obtain ⟨d1, d2⟩ := dd_1 hB0 (by omega) hdh (by omega)
            have hq9 : num u147 9 = num fw a / 2 ^ (i + 1) / num fw b * 2 ^ (i + 1) := by rw [hc147.other (by decide), num_upo (by decide) (by decide), hc91.other (by decide), v5]
            obtain ⟨qb1, qb2⟩ := qbit hc147.1 hi9 ei hq9
            have hn9 := num_up (f := u147) (d := 9) (k := i / 32) (w := u147 (6 * 9 + i / 32) ||| 1 <<< ((x3 - x3 / 32 * 32).toInt64 &&& 63)) (by omega)
            rw [qb1, Nat.add_mul, p2B] at hn9
            intro e9 h1 h2 h3
            rw [num_upo (by omega) h2, hc147.other h3, num_upo (by decide) h3, hc91.other h3]; exact v6 e9 h1 h2 h3
  have L18 : ∀ (n18 : Nat) (j : Nat) (x3 : Int32), (j < n18 ∧ j ≤ 192) → (x3 = nI j - 1) → (num g11 a < 2 ^ j) → ∀ (H : Heap) (locs : List Loc), va_P D vwCl [(o, .inr (4, [.int cd, .ref wa, .ref sa, .ref ma, .ref tl, .ref gx, .ref gy, .ref tx, .ref tz, .int ln, .ref kx, .ref ky, .int cn, .int ah])), (wa, .inl (cJ, 96, .inr (.inl g11))), (sa, .inl (cI, 16, .inl (upd (upd fs 9 (sg ((0 : Int64).toInt))) 10 (sg ((0 : Int64).toInt)))))] H → va_D A [(o, .inr (4, [.int cd, .ref wa, .ref sa, .ref ma, .ref tl, .ref gx, .ref gy, .ref tx, .ref tz, .int ln, .ref kx, .ref ky, .int cn, .int ah])), (wa, .inl (cJ, 96, .inr (.inl g11))), (sa, .inl (cI, 16, .inl (upd (upd fs 9 (sg ((0 : Int64).toInt))) 10 (sg ((0 : Int64).toInt)))))] → va_S A s.heap H locs → ∀ (ls : Array Slot), lv_has ls 4 [(0, .ref o), (1, .int (nI a)), (2, .int (nI b)), (3, .int x3)] → W p l e { frames := 2, cells := 0, slots := 0, locals := 50 } s m args below meth c H locs 0 0 Q (F0 m 18 ls []) := by
    intro n18
    induction n18 with
    | zero =>
      intro j x3 t1 t2 t3
      exfalso; omega
    | succ n18 ih18 =>
      intro j x3 t1 t2 t3 H locs hP hD hS ls hl
      refine lv_iload_n hx hb dX4_divide_18 rfl (lv_at hl 3 rfl) ?_
      refine lv_if_lt (tgt := 84) hx hb dX4_divide_19 (by decide) (fun c_19 => ?_) (fun c_19 => ?_)
      · refine L84 193 j x3 g11 ?_ ?_ ?_ ?_ ?_ ?_ _ _ hP hD hS _ (lv_sub hl [0, 1, 2, 3] rfl)
        · omega
        · exact t2
        · exact up11.1
        · have ez : num g11 a / 2 ^ j = 0 := Nat.div_eq_of_lt t3
          have ea : num g11 a = num fw a := hfr a ha ha9 ha10
          rw [← ea, ez, Nat.zero_mod]; exact up11.2.1
        · have ez : num g11 a / 2 ^ j = 0 := Nat.div_eq_of_lt t3
          have ea : num g11 a = num fw a := hfr a ha ha9 ha10
          rw [← ea, ez, Nat.zero_div, Nat.zero_mul, up11.other (by decide)]; exact up4.2.1
        · exact hfr
      · obtain ⟨i, rfl, ei⟩ := ni_pf (by omega) t2 c_19
        have hi9 : i < 192 := by omega
        refine lv_aload_n hx hb dX4_divide_22 rfl (lv_at hl 0 rfl) ?_
        refine va_get (D := D) (ci := 4) (v := .ref wa) (C := RX4) (T := TX4) (N := 14) hx hb hTB tb_X4 hown hK.1 hP 0 rfl rfl 1 (by decide) (hTB _ tb_3_13) (fun _ h9 => h9) rfl dX4_divide_23 ?_
        refine lv_bipush (v := 6) hx hb dX4_divide_26 (by decide) ?_
        refine lv_iload_n hx hb dX4_divide_28 rfl (lv_at hl 1 rfl) ?_
        refine lv_imul hx hb dX4_divide_29 ?_
        refine lv_iload_n hx hb dX4_divide_30 rfl (lv_at hl 3 rfl) ?_
        refine lv_bipush (v := 32) hx hb dX4_divide_31 (by decide) ?_
        refine lv_idiv hx hb dX4_divide_33 (by decide) ?_
        refine lv_iadd hx hb dX4_divide_34 ?_
        refine va_lald (f := g11) hx hb hK.1 hP 1 2 rfl rfl (ixd_in (a := a) ei hi9 (by omega)) dX4_divide_35 ?_
        rw [show ((6 * (nI a)) + (x3 / 32)).toNatClampNeg = 6 * a + i / 32 from ixd_cl ei hi9 (by omega)]
        refine lv_iload_n hx hb dX4_divide_36 rfl (lv_at hl 3 rfl) ?_
        refine lv_bipush (v := 32) hx hb dX4_divide_37 (by decide) ?_
        refine lv_irem hx hb dX4_divide_39 (by decide) ?_
        refine lv_lshr (v := (g11 (6 * a + i / 32)) >>> ((x3 - x3 / 32 * 32).toInt64 &&& 63)) hx hb dX4_divide_40 rfl ?_
        refine lv_lconst (v := 0) hx hb dX4_divide_41 (by decide) ?_
        refine W.lcmp hx hb dX4_divide_42 ?_
        refine lv_if_ne (tgt := 84) hx hb dX4_divide_43 (by decide) (fun c_43 => ?_) (fun c_43 => ?_)
        · have c_43 : ((g11 (6 * a + i / 32)) >>> ((x3 - x3 / 32 * 32).toInt64 &&& 63)).toInt ≠ (0 : Int) := lc_ne c_43
          refine L84 193 (i + 1) x3 g11 ?_ ?_ ?_ ?_ ?_ ?_ _ _ hP hD hS _ (lv_sub hl [0, 1, 2, 3] rfl)
          · omega
          · rw [ei, nI_pred]
          · exact up11.1
          · have ez : num g11 a / 2 ^ (i + 1) = 0 := Nat.div_eq_of_lt t3
            have ea : num g11 a = num fw a := hfr a ha ha9 ha10
            rw [← ea, ez, Nat.zero_mod]; exact up11.2.1
          · have ez : num g11 a / 2 ^ (i + 1) = 0 := Nat.div_eq_of_lt t3
            have ea : num g11 a = num fw a := hfr a ha ha9 ha10
            rw [← ea, ez, Nat.zero_div, Nat.zero_mul, up11.other (by decide)]; exact up4.2.1
          · exact hfr
        · have c_43 : ((g11 (6 * a + i / 32)) >>> ((x3 - x3 / 32 * 32).toInt64 &&& 63)).toInt = (0 : Int) := lc_eq c_43
          refine lv_aload_n hx hb dX4_divide_46 rfl (lv_at hl 0 rfl) ?_
          refine va_get (D := D) (ci := 4) (v := .ref wa) (C := RX4) (T := TX4) (N := 14) hx hb hTB tb_X4 hown hK.1 hP 0 rfl rfl 1 (by decide) (hTB _ tb_3_13) (fun _ h9 => h9) rfl dX4_divide_47 ?_
          refine lv_bipush (v := 6) hx hb dX4_divide_50 (by decide) ?_
          refine lv_iload_n hx hb dX4_divide_52 rfl (lv_at hl 1 rfl) ?_
          refine lv_imul hx hb dX4_divide_53 ?_
          refine lv_iload_n hx hb dX4_divide_54 rfl (lv_at hl 3 rfl) ?_
          refine lv_bipush (v := 32) hx hb dX4_divide_55 (by decide) ?_
          refine lv_idiv hx hb dX4_divide_57 (by decide) ?_
          refine lv_iadd hx hb dX4_divide_58 ?_
          refine va_lald (f := g11) hx hb hK.1 hP 1 2 rfl rfl (ixd_in (a := a) ei hi9 (by omega)) dX4_divide_59 ?_
          rw [show ((6 * (nI a)) + (x3 / 32)).toNatClampNeg = 6 * a + i / 32 from ixd_cl ei hi9 (by omega)]
          refine lv_lconst (v := 0) hx hb dX4_divide_60 (by decide) ?_
          refine W.lcmp hx hb dX4_divide_61 ?_
          refine lv_if_ne (tgt := 77) hx hb dX4_divide_62 (by decide) (fun c_62 => ?_) (fun c_62 => ?_)
          · have c_62 : (g11 (6 * a + i / 32)).toInt ≠ (0 : Int) := lc_ne c_62
            refine lv_iload_n hx hb dX4_divide_77 rfl (lv_at hl 3 rfl) ?_
            refine lv_iconst (v := 1) hx hb dX4_divide_78 (by decide) ?_
            refine lv_isub hx hb dX4_divide_79 ?_
            refine lv_istore_n (lv' := [(3, .int (x3 - 1)), (0, .ref o), (1, .int (nI a)), (2, .int (nI b))]) hx hb dX4_divide_80 rfl hl (by decide) rfl (fun ls hl => ?_)
            refine lv_goto (tgt := 18) hx hb dX4_divide_81 (by decide) ?_
            refine ih18 i (x3 - 1) ?_ ?_ ?_ _ _ hP hD hS _ (lv_sub hl [1, 2, 3, 0] rfl)
            · omega
            · rw [ei]
            · rw [dvs up11.1 ha hi9 t3 ei] at c_43
              exact n_div0 (Nat.two_pow_pos _) (by omega)
          · have c_62 : (g11 (6 * a + i / 32)).toInt = (0 : Int) := lc_eq c_62
            refine lv_iload_n hx hb dX4_divide_65 rfl (lv_at hl 3 rfl) ?_
            refine lv_bipush (v := 32) hx hb dX4_divide_66 (by decide) ?_
            refine lv_idiv hx hb dX4_divide_68 (by decide) ?_
            refine lv_bipush (v := 32) hx hb dX4_divide_69 (by decide) ?_
            refine lv_imul hx hb dX4_divide_71 ?_
            refine lv_iconst (v := 1) hx hb dX4_divide_72 (by decide) ?_
            refine lv_isub hx hb dX4_divide_73 ?_
            refine lv_goto (tgt := 80) hx hb dX4_divide_74 (by decide) ?_
            refine lv_istore_n (lv' := [(3, .int (((x3 / 32) * 32) - 1)), (0, .ref o), (1, .int (nI a)), (2, .int (nI b))]) hx hb dX4_divide_80 rfl hl (by decide) rfl (fun ls hl => ?_)
            refine lv_goto (tgt := 18) hx hb dX4_divide_81 (by decide) ?_
            refine ih18 (32 * (i / 32)) (((x3 / 32) * 32) - 1) ?_ ?_ ?_ _ _ hP hD hS _ (lv_sub hl [1, 2, 3, 0] rfl)
            · omega
            · rw [q32 ei hi9, show (32 : Int32) = nI 32 from rfl, pk_mul, Nat.mul_comm]
            · rw [uN_small (up11.1 _ (by omega)), dvx up11.1 ha hi9 t3] at c_62
              exact n_div0 (Nat.two_pow_pos _) (by omega)
  refine L18 193 192 191 ?_ ?_ ?_ _ _ hP hD hS _ (lv_sub hl [1, 2, 3, 0] rfl)
  · omega
  · decide
  · exact num_lt up11.1 ha
