set_option maxHeartbeats 4000000 in
set_option maxRecDepth 100000 in
theorem c_X4_share (l : Launch) (D : va_G) (cZ cI cJ : ClassId) (o wa sa ma tl gx gy tx tz kx ky : Nat) (cd ln cn ah : Int32) (all : Int64) (k n : Int32) : Cl l D cZ cI cJ yX4_share cX4_share 9 (some .long) { frames := 0, cells := 0, slots := 0, locals := 0 } [.ref o, .long all, .int k, .int n] [(o, .inr (4, [.int cd, .ref wa, .ref sa, .ref ma, .ref tl, .ref gx, .ref gy, .ref tx, .ref tz, .int ln, .ref kx, .ref ky, .int cn, .int ah]))] (S := Int32) (fun z u => (¬ shok n → u = 0 ∧ z = -4611686018427387904) ∧ (shok n → (shbad k n → u = 1) ∧ (¬ shbad k n → u = 0 ∧ z.toInt = shv all.toInt k.toInt n.toInt))) (fun u => [(o, .inr (4, [.int u, .ref wa, .ref sa, .ref ma, .ref tl, .ref gx, .ref gy, .ref tx, .ref tz, .int ln, .ref kx, .ref ky, .int cn, .int ah]))]) := by
  refine Cl.of (by decide) ?_
  intro p e s m args below meth c A Q hB hret hP hD hA
  obtain ⟨hx, hb, hr, hlocks, hml, hown, hnm, hTB, hK⟩ := hB
  have hown : s.vm.findClass RX4 = some m.cls := hown
  have hS : va_S A s.heap s.heap [] := va_S.rf
  have hl := lv_entry ([.ref o, .long all, .int k, .int n]) (n := 9) (Nat.le_of_ble_eq_true rfl)
  rw [lg_entry_eq]
  generalize (lg_sl ([.ref o, .long all, .int k, .int n]) ++ List.replicate (9 - (lg_sl ([.ref o, .long all, .int k, .int n])).length) Slot.unset).toArray = ls at hl ⊢
  have hl : lv_has ls 9 [(0, .ref o), (1, .long all), (3, .int k), (4, .int n)] := hl
  refine lv_aload_n hx hb dX4_share_0 rfl (lv_at hl 0 rfl) ?_
  refine lv_iconst (v := 0) hx hb dX4_share_1 (by decide) ?_
  refine va_put (D := D) (ci := 4) (v := .int 0) (ty := .int) (C := RX4) (T := TX4) (N := 14) hx hb hTB tb_X4 tyX4 tyX4_ok nmX4 hown hK.1 hP hD hS 0 rfl rfl 0 (by decide) (hTB _ tb_6_4) (fun _ h9 => h9) rfl (by decide +kernel) rfl rfl (Nat.le_of_ble_eq_true rfl) dX4_share_2 (fun H locs hP hD hS => ?_)
  have hP : va_P D vwCl [(o, .inr (4, [.int 0, .ref wa, .ref sa, .ref ma, .ref tl, .ref gx, .ref gy, .ref tx, .ref tz, .int ln, .ref kx, .ref ky, .int cn, .int ah]))] H := hP
  have hD : va_D A [(o, .inr (4, [.int 0, .ref wa, .ref sa, .ref ma, .ref tl, .ref gx, .ref gy, .ref tx, .ref tz, .int ln, .ref kx, .ref ky, .int cn, .int ah]))] := hD
  refine lv_iload hx hb dX4_share_5 (lv_at hl 3 rfl) ?_
  refine lv_iconst (v := 1) hx hb dX4_share_7 (by decide) ?_
  refine lv_icmp_lt (tgt := 18) hx hb dX4_share_8 (by decide) (fun c_8 => ?_) (fun c_8 => ?_)
  · have c_8 : n.toInt < (1 : Int) := ic_lt c_8
    refine lv_ldc2 (v := (-4611686018427387904)) hx hb hown (hTB _ tb_15_19) dX4_share_18 ?_
    exact hret hP hD hS 0 (⟨fun _ => ⟨rfl, rfl⟩, fun q => absurd q (by omega)⟩) [0] rfl (by decide) dX4_share_21 (Nat.le_of_ble_eq_true rfl) (Nat.le_of_ble_eq_true rfl)
  · have c_8 : (1 : Int) ≤ n.toInt := ic_nlt c_8
    refine lv_iload hx hb dX4_share_11 (lv_at hl 3 rfl) ?_
    refine lv_ldc (v := 1000000) hx hb hown (hTB _ tb_22_10) dX4_share_13 ?_
    refine lv_icmp_le (tgt := 22) hx hb dX4_share_15 (by decide) (fun c_15 => ?_) (fun c_15 => ?_)
    · have c_15 : n.toInt ≤ (1000000 : Int) := ic_le c_15
      refine lv_aload_n hx hb dX4_share_22 rfl (lv_at hl 0 rfl) ?_
      refine lv_iload_n hx hb dX4_share_23 rfl (lv_at hl 2 rfl) ?_
      refine lv_if_lt (tgt := 33) hx hb dX4_share_24 (by decide) (fun c_24 => ?_) (fun c_24 => ?_)
      · have c_24 : k.toInt < (0 : Int) := ic_lt c_24
        refine lv_iconst (v := 1) hx hb dX4_share_33 (by decide) ?_
        refine lv_goto (tgt := 38) hx hb dX4_share_34 (by decide) ?_
        refine va_put (D := D) (ci := 4) (v := .int 1) (ty := .int) (C := RX4) (T := TX4) (N := 14) hx hb hTB tb_X4 tyX4 tyX4_ok nmX4 hown hK.1 hP hD hS 0 rfl rfl 0 (by decide) (hTB _ tb_6_4) (fun _ h9 => h9) rfl (by decide +kernel) rfl rfl (Nat.le_of_ble_eq_true rfl) dX4_share_38 (fun H locs hP hD hS => ?_)
        have hP : va_P D vwCl [(o, .inr (4, [.int 1, .ref wa, .ref sa, .ref ma, .ref tl, .ref gx, .ref gy, .ref tx, .ref tz, .int ln, .ref kx, .ref ky, .int cn, .int ah]))] H := hP
        have hD : va_D A [(o, .inr (4, [.int 1, .ref wa, .ref sa, .ref ma, .ref tl, .ref gx, .ref gy, .ref tx, .ref tz, .int ln, .ref kx, .ref ky, .int cn, .int ah]))] := hD
        refine lv_aload_n hx hb dX4_share_41 rfl (lv_at hl 0 rfl) ?_
        refine va_get (D := D) (ci := 4) (v := .int 1) (C := RX4) (T := TX4) (N := 14) hx hb hTB tb_X4 hown hK.1 hP 0 rfl rfl 0 (by decide) (hTB _ tb_6_4) (fun _ h9 => h9) rfl dX4_share_42 ?_
        refine lv_if_le (tgt := 50) hx hb dX4_share_45 (by decide) (fun c_45 => absurd c_45 (by decide)) (fun c_45 => ?_)
        refine lv_lconst (v := 0) hx hb dX4_share_48 (by decide) ?_
        exact hret hP hD hS 1 (⟨fun q => absurd (show shok n from ⟨by omega, by omega⟩) q, fun _ => ⟨fun _ => rfl, fun q => absurd (show shbad k n by omega) q⟩⟩) [0] rfl (by decide) dX4_share_49 (Nat.le_of_ble_eq_true rfl) (Nat.le_of_ble_eq_true rfl)
      · have c_24 : (0 : Int) ≤ k.toInt := ic_nlt c_24
        refine lv_iload_n hx hb dX4_share_27 rfl (lv_at hl 2 rfl) ?_
        refine lv_iload hx hb dX4_share_28 (lv_at hl 3 rfl) ?_
        refine lv_icmp_lt (tgt := 37) hx hb dX4_share_30 (by decide) (fun c_30 => ?_) (fun c_30 => ?_)
        · have c_30 : k.toInt < n.toInt := ic_lt c_30
          refine lv_iconst (v := 0) hx hb dX4_share_37 (by decide) ?_
          refine va_put (D := D) (ci := 4) (v := .int 0) (ty := .int) (C := RX4) (T := TX4) (N := 14) hx hb hTB tb_X4 tyX4 tyX4_ok nmX4 hown hK.1 hP hD hS 0 rfl rfl 0 (by decide) (hTB _ tb_6_4) (fun _ h9 => h9) rfl (by decide +kernel) rfl rfl (Nat.le_of_ble_eq_true rfl) dX4_share_38 (fun H locs hP hD hS => ?_)
          have hP : va_P D vwCl [(o, .inr (4, [.int 0, .ref wa, .ref sa, .ref ma, .ref tl, .ref gx, .ref gy, .ref tx, .ref tz, .int ln, .ref kx, .ref ky, .int cn, .int ah]))] H := hP
          have hD : va_D A [(o, .inr (4, [.int 0, .ref wa, .ref sa, .ref ma, .ref tl, .ref gx, .ref gy, .ref tx, .ref tz, .int ln, .ref kx, .ref ky, .int cn, .int ah]))] := hD
          refine lv_aload_n hx hb dX4_share_41 rfl (lv_at hl 0 rfl) ?_
          refine va_get (D := D) (ci := 4) (v := .int 0) (C := RX4) (T := TX4) (N := 14) hx hb hTB tb_X4 hown hK.1 hP 0 rfl rfl 0 (by decide) (hTB _ tb_6_4) (fun _ h9 => h9) rfl dX4_share_42 ?_
          refine lv_if_le (tgt := 50) hx hb dX4_share_45 (by decide) (fun c_45 => ?_) (fun c_45 => absurd c_45 (by decide))
          refine lv_lload_n hx hb dX4_share_50 rfl (lv_at hl 1 rfl) ?_
          refine lv_iload hx hb dX4_share_51 (lv_at hl 3 rfl) ?_
          refine lv_i2l (v := n.toInt64) hx hb dX4_share_53 rfl ?_
          refine lv_ldiv hx hb dX4_share_54 (i2l_ne (by omega)) ?_
          refine lv_topl (fun q9 eq9 => ?_)
          refine lv_lstore (lv' := [(5, .long q9), (0, .ref o), (1, .long all), (3, .int k), (4, .int n)]) hx hb dX4_share_55 hl (by decide) rfl (fun ls hl => ?_)
          refine lv_lload_n hx hb dX4_share_57 rfl (lv_at hl 2 rfl) ?_
          refine lv_iload hx hb dX4_share_58 (lv_at hl 4 rfl) ?_
          refine lv_i2l (v := n.toInt64) hx hb dX4_share_60 rfl ?_
          refine lv_lrem hx hb dX4_share_61 (i2l_ne (by omega)) ?_
          refine lv_topl (fun r9 er9 => ?_)
          refine lv_lstore (lv' := [(7, .long r9), (5, .long q9), (0, .ref o), (1, .long all), (3, .int k), (4, .int n)]) hx hb dX4_share_62 hl (by decide) rfl (fun ls hl => ?_)
          refine lv_lload hx hb dX4_share_64 (lv_at hl 0 rfl) ?_
          refine lv_lconst (v := 0) hx hb dX4_share_66 (by decide) ?_
          refine W.lcmp hx hb dX4_share_67 ?_
          refine lv_if_ge (tgt := 85) hx hb dX4_share_68 (by decide) (fun c_68 => ?_) (fun c_68 => ?_)
          · have c_68 : (0 : Int) ≤ r9.toInt := lc_ge c_68
            obtain ⟨hq9, hr9⟩ := sh_mul (x := all) (y := n.toInt64) (by rw [i2l]; omega)
            rw [← eq9, i2l] at hq9
            rw [← er9, i2l] at hr9
            have kd := sh_d (A := all.toInt) (N := n.toInt) (by omega)
            rw [← hq9] at hr9 kd
            rw [← hr9] at kd
            have g1 := mul_ge1 (q := q9.toInt) (n := n.toInt) (by omega)
            have hall := sI_rng all
            have hqr := sI_rng q9
            refine lv_iload_n hx hb dX4_share_85 rfl (lv_at hl 4 rfl) ?_
            refine lv_i2l (v := k.toInt64) hx hb dX4_share_86 rfl ?_
            refine lv_lload hx hb dX4_share_87 (lv_at hl 0 rfl) ?_
            refine W.lcmp hx hb dX4_share_89 ?_
            refine lv_if_ge (tgt := 100) hx hb dX4_share_90 (by decide) (fun c_90 => ?_) (fun c_90 => ?_)
            · have c_90 : r9.toInt ≤ k.toInt64.toInt := lc_ge c_90
              refine lv_lload hx hb dX4_share_100 (lv_at hl 1 rfl) ?_
              obtain ⟨d1, d2⟩ := kd.1 c_68
              rw [i2l] at c_90
              have fin9 : (q9).toInt = shv all.toInt k.toInt n.toInt := by
                show q9.toInt = shv all.toInt k.toInt n.toInt
                unfold shv; rw [d1, d2, if_neg (by omega)]
              exact hret hP hD hS 0 (⟨fun q => absurd (show shok n from ⟨by omega, by omega⟩) q, fun _ => ⟨fun q => absurd q (show ¬ shbad k n by omega), fun _ => ⟨rfl, fin9⟩⟩⟩) [0] rfl (by decide) dX4_share_102 (Nat.le_of_ble_eq_true rfl) (Nat.le_of_ble_eq_true rfl)
            · have c_90 : k.toInt64.toInt < r9.toInt := lc_nge c_90
              refine lv_lload hx hb dX4_share_93 (lv_at hl 1 rfl) ?_
              refine lv_lconst (v := 1) hx hb dX4_share_95 (by decide) ?_
              refine lv_ladd hx hb dX4_share_96 ?_
              refine lv_goto (tgt := 102) hx hb dX4_share_97 (by decide) ?_
              obtain ⟨d1, d2⟩ := kd.1 c_68
              rw [i2l] at c_90
              have fin9 : (q9 + 1).toInt = shv all.toInt k.toInt n.toInt := by
                show (q9 + 1).toInt = shv all.toInt k.toInt n.toInt
                rw [add_rng (by rw [t1]; omega) (by rw [t1]; omega), t1]
                unfold shv; rw [d1, d2, if_pos (by omega)]
              exact hret hP hD hS 0 (⟨fun q => absurd (show shok n from ⟨by omega, by omega⟩) q, fun _ => ⟨fun q => absurd q (show ¬ shbad k n by omega), fun _ => ⟨rfl, fin9⟩⟩⟩) [0] rfl (by decide) dX4_share_102 (Nat.le_of_ble_eq_true rfl) (Nat.le_of_ble_eq_true rfl)
          · have c_68 : r9.toInt < (0 : Int) := lc_nge c_68
            obtain ⟨hq9, hr9⟩ := sh_mul (x := all) (y := n.toInt64) (by rw [i2l]; omega)
            rw [← eq9, i2l] at hq9
            rw [← er9, i2l] at hr9
            have kd := sh_d (A := all.toInt) (N := n.toInt) (by omega)
            rw [← hq9] at hr9 kd
            rw [← hr9] at kd
            have g1 := mul_ge1 (q := q9.toInt) (n := n.toInt) (by omega)
            have hall := sI_rng all
            have hqr := sI_rng q9
            refine lv_lload hx hb dX4_share_71 (lv_at hl 0 rfl) ?_
            refine lv_iload hx hb dX4_share_73 (lv_at hl 5 rfl) ?_
            refine lv_i2l (v := n.toInt64) hx hb dX4_share_75 rfl ?_
            refine lv_ladd hx hb dX4_share_76 ?_
            refine lv_lstore (lv' := [(7, .long (r9 + n.toInt64)), (5, .long q9), (0, .ref o), (1, .long all), (3, .int k), (4, .int n)]) hx hb dX4_share_77 hl (by decide) rfl (fun ls hl => ?_)
            refine lv_lload hx hb dX4_share_79 (lv_at hl 1 rfl) ?_
            refine lv_lconst (v := 1) hx hb dX4_share_81 (by decide) ?_
            refine lv_lsub hx hb dX4_share_82 ?_
            refine lv_lstore (lv' := [(5, .long (q9 - 1)), (7, .long (r9 + n.toInt64)), (0, .ref o), (1, .long all), (3, .int k), (4, .int n)]) hx hb dX4_share_83 hl (by decide) rfl (fun ls hl => ?_)
            refine lv_iload_n hx hb dX4_share_85 rfl (lv_at hl 4 rfl) ?_
            refine lv_i2l (v := k.toInt64) hx hb dX4_share_86 rfl ?_
            refine lv_lload hx hb dX4_share_87 (lv_at hl 1 rfl) ?_
            refine W.lcmp hx hb dX4_share_89 ?_
            refine lv_if_ge (tgt := 100) hx hb dX4_share_90 (by decide) (fun c_90 => ?_) (fun c_90 => ?_)
            · have c_90 : (r9 + n.toInt64).toInt ≤ k.toInt64.toInt := lc_ge c_90
              refine lv_lload hx hb dX4_share_100 (lv_at hl 0 rfl) ?_
              obtain ⟨d1, d2⟩ := kd.2.1 c_68
              have s1 : (r9 + n.toInt64).toInt = r9.toInt + n.toInt := by rw [add_rng (by rw [i2l]; omega) (by rw [i2l]; omega), i2l]
              have s2 : (q9 - 1).toInt = q9.toInt - 1 := by rw [sub_rng (by rw [t1]; omega) (by rw [t1]; omega), t1]
              rw [i2l, s1] at c_90
              have fin9 : (q9 - 1).toInt = shv all.toInt k.toInt n.toInt := by
                show (q9 - 1).toInt = shv all.toInt k.toInt n.toInt
                unfold shv; rw [s2, d1, d2, if_neg (by omega)]
              exact hret hP hD hS 0 (⟨fun q => absurd (show shok n from ⟨by omega, by omega⟩) q, fun _ => ⟨fun q => absurd q (show ¬ shbad k n by omega), fun _ => ⟨rfl, fin9⟩⟩⟩) [0] rfl (by decide) dX4_share_102 (Nat.le_of_ble_eq_true rfl) (Nat.le_of_ble_eq_true rfl)
            · have c_90 : k.toInt64.toInt < (r9 + n.toInt64).toInt := lc_nge c_90
              refine lv_lload hx hb dX4_share_93 (lv_at hl 0 rfl) ?_
              refine lv_lconst (v := 1) hx hb dX4_share_95 (by decide) ?_
              refine lv_ladd hx hb dX4_share_96 ?_
              refine lv_goto (tgt := 102) hx hb dX4_share_97 (by decide) ?_
              obtain ⟨d1, d2⟩ := kd.2.1 c_68
              have s1 : (r9 + n.toInt64).toInt = r9.toInt + n.toInt := by rw [add_rng (by rw [i2l]; omega) (by rw [i2l]; omega), i2l]
              have s2 : (q9 - 1).toInt = q9.toInt - 1 := by rw [sub_rng (by rw [t1]; omega) (by rw [t1]; omega), t1]
              rw [i2l, s1] at c_90
              have fin9 : ((q9 - 1) + 1).toInt = shv all.toInt k.toInt n.toInt := by
                show (q9 - 1 + 1).toInt = shv all.toInt k.toInt n.toInt
                rw [add_rng (by rw [t1]; omega) (by rw [t1]; omega), t1, s2]
                unfold shv; rw [d1, d2, if_pos (by omega)]
              exact hret hP hD hS 0 (⟨fun q => absurd (show shok n from ⟨by omega, by omega⟩) q, fun _ => ⟨fun q => absurd q (show ¬ shbad k n by omega), fun _ => ⟨rfl, fin9⟩⟩⟩) [0] rfl (by decide) dX4_share_102 (Nat.le_of_ble_eq_true rfl) (Nat.le_of_ble_eq_true rfl)
        · have c_30 : n.toInt ≤ k.toInt := ic_nlt c_30
          refine lv_iconst (v := 1) hx hb dX4_share_33 (by decide) ?_
          refine lv_goto (tgt := 38) hx hb dX4_share_34 (by decide) ?_
          refine va_put (D := D) (ci := 4) (v := .int 1) (ty := .int) (C := RX4) (T := TX4) (N := 14) hx hb hTB tb_X4 tyX4 tyX4_ok nmX4 hown hK.1 hP hD hS 0 rfl rfl 0 (by decide) (hTB _ tb_6_4) (fun _ h9 => h9) rfl (by decide +kernel) rfl rfl (Nat.le_of_ble_eq_true rfl) dX4_share_38 (fun H locs hP hD hS => ?_)
          have hP : va_P D vwCl [(o, .inr (4, [.int 1, .ref wa, .ref sa, .ref ma, .ref tl, .ref gx, .ref gy, .ref tx, .ref tz, .int ln, .ref kx, .ref ky, .int cn, .int ah]))] H := hP
          have hD : va_D A [(o, .inr (4, [.int 1, .ref wa, .ref sa, .ref ma, .ref tl, .ref gx, .ref gy, .ref tx, .ref tz, .int ln, .ref kx, .ref ky, .int cn, .int ah]))] := hD
          refine lv_aload_n hx hb dX4_share_41 rfl (lv_at hl 0 rfl) ?_
          refine va_get (D := D) (ci := 4) (v := .int 1) (C := RX4) (T := TX4) (N := 14) hx hb hTB tb_X4 hown hK.1 hP 0 rfl rfl 0 (by decide) (hTB _ tb_6_4) (fun _ h9 => h9) rfl dX4_share_42 ?_
          refine lv_if_le (tgt := 50) hx hb dX4_share_45 (by decide) (fun c_45 => absurd c_45 (by decide)) (fun c_45 => ?_)
          refine lv_lconst (v := 0) hx hb dX4_share_48 (by decide) ?_
          exact hret hP hD hS 1 (⟨fun q => absurd (show shok n from ⟨by omega, by omega⟩) q, fun _ => ⟨fun _ => rfl, fun q => absurd (show shbad k n by omega) q⟩⟩) [0] rfl (by decide) dX4_share_49 (Nat.le_of_ble_eq_true rfl) (Nat.le_of_ble_eq_true rfl)
    · have c_15 : (1000000 : Int) < n.toInt := ic_nle c_15
      refine lv_ldc2 (v := (-4611686018427387904)) hx hb hown (hTB _ tb_15_19) dX4_share_18 ?_
      exact hret hP hD hS 0 (⟨fun _ => ⟨rfl, rfl⟩, fun q => absurd q (by omega)⟩) [0] rfl (by decide) dX4_share_21 (Nat.le_of_ble_eq_true rfl) (Nat.le_of_ble_eq_true rfl)

set_option maxHeartbeats 4000000 in
set_option maxRecDepth 100000 in
theorem c_X4_digit (l : Launch) (D : va_G) (cZ cI cJ : ClassId) (o wa sa ma tl gx gy tx tz kx ky : Nat) (cd ln cn ah : Int32) (a : Int64) (base k : Int32) : Ci l D cZ cI cJ yX4_digit cX4_digit 18 (some .int) { frames := 0, cells := 0, slots := 0, locals := 0 } [.ref o, .long a, .int base, .int k] [(o, .inr (4, [.int cd, .ref wa, .ref sa, .ref ma, .ref tl, .ref gx, .ref gy, .ref tx, .ref tz, .int ln, .ref kx, .ref ky, .int cn, .int ah]))] (S := Int32) (fun z u => (¬ dgok base → u = 0 ∧ z = -1) ∧ (dgok base → (dgbad a base k → u = 1) ∧ (¬ dgbad a base k → u = 0 ∧ z.toInt = ((dgN a base k.toInt.toNat % base.toInt.toNat : Nat) : Int)))) (fun u => [(o, .inr (4, [.int u, .ref wa, .ref sa, .ref ma, .ref tl, .ref gx, .ref gy, .ref tx, .ref tz, .int ln, .ref kx, .ref ky, .int cn, .int ah]))]) := by
  refine Ci.of (by decide) ?_
  intro p e s m args below meth c A Q hB hret hP hD hA
  obtain ⟨hx, hb, hr, hlocks, hml, hown, hnm, hTB, hK⟩ := hB
  have hown : s.vm.findClass RX4 = some m.cls := hown
  have hS : va_S A s.heap s.heap [] := va_S.rf
  have hl := lv_entry ([.ref o, .long a, .int base, .int k]) (n := 18) (Nat.le_of_ble_eq_true rfl)
  rw [lg_entry_eq]
  generalize (lg_sl ([.ref o, .long a, .int base, .int k]) ++ List.replicate (18 - (lg_sl ([.ref o, .long a, .int base, .int k])).length) Slot.unset).toArray = ls at hl ⊢
  have hl : lv_has ls 18 [(0, .ref o), (1, .long a), (3, .int base), (4, .int k)] := hl
  refine lv_aload_n hx hb dX4_digit_0 rfl (lv_at hl 0 rfl) ?_
  refine lv_iconst (v := 0) hx hb dX4_digit_1 (by decide) ?_
  refine va_put (D := D) (ci := 4) (v := .int 0) (ty := .int) (C := RX4) (T := TX4) (N := 14) hx hb hTB tb_X4 tyX4 tyX4_ok nmX4 hown hK.1 hP hD hS 0 rfl rfl 0 (by decide) (hTB _ tb_6_4) (fun _ h9 => h9) rfl (by decide +kernel) rfl rfl (Nat.le_of_ble_eq_true rfl) dX4_digit_2 (fun H locs hP hD hS => ?_)
  have hP : va_P D vwCl [(o, .inr (4, [.int 0, .ref wa, .ref sa, .ref ma, .ref tl, .ref gx, .ref gy, .ref tx, .ref tz, .int ln, .ref kx, .ref ky, .int cn, .int ah]))] H := hP
  have hD : va_D A [(o, .inr (4, [.int 0, .ref wa, .ref sa, .ref ma, .ref tl, .ref gx, .ref gy, .ref tx, .ref tz, .int ln, .ref kx, .ref ky, .int cn, .int ah]))] := hD
  refine lv_iload_n hx hb dX4_digit_5 rfl (lv_at hl 2 rfl) ?_
  refine lv_iconst (v := 2) hx hb dX4_digit_6 (by decide) ?_
  refine lv_icmp_lt (tgt := 16) hx hb dX4_digit_7 (by decide) (fun c_7 => ?_) (fun c_7 => ?_)
  · have c_7 : base.toInt < (2 : Int) := ic_lt c_7
    refine lv_iconst (v := (-1)) hx hb dX4_digit_16 (by decide) ?_
    exact hret hP hD hS rfl 0 (⟨fun _ => ⟨rfl, rfl⟩, fun q => absurd q (by omega)⟩) [0] rfl (by decide) dX4_digit_17 (Nat.le_of_ble_eq_true rfl) (Nat.le_of_ble_eq_true rfl)
  · have c_7 : (2 : Int) ≤ base.toInt := ic_nlt c_7
    refine lv_iload_n hx hb dX4_digit_10 rfl (lv_at hl 2 rfl) ?_
    refine lv_bipush (v := 36) hx hb dX4_digit_11 (by decide) ?_
    refine lv_icmp_le (tgt := 18) hx hb dX4_digit_13 (by decide) (fun c_13 => ?_) (fun c_13 => ?_)
    · have c_13 : base.toInt ≤ (36 : Int) := ic_le c_13
      refine lv_lload_n hx hb dX4_digit_18 rfl (lv_at hl 1 rfl) ?_
      refine lv_lconst (v := 0) hx hb dX4_digit_19 (by decide) ?_
      refine W.lcmp hx hb dX4_digit_20 ?_
      have J30 : ∀ (am : Int64), (uN am = a.toInt.natAbs) → ∀ (H : Heap) (locs : List Loc), va_P D vwCl [(o, .inr (4, [.int 0, .ref wa, .ref sa, .ref ma, .ref tl, .ref gx, .ref gy, .ref tx, .ref tz, .int ln, .ref kx, .ref ky, .int cn, .int ah]))] H → va_D A [(o, .inr (4, [.int 0, .ref wa, .ref sa, .ref ma, .ref tl, .ref gx, .ref gy, .ref tx, .ref tz, .int ln, .ref kx, .ref ky, .int cn, .int ah]))] → va_S A s.heap H locs → ∀ (ls : Array Slot), lv_has ls 18 [(0, .ref o), (1, .long a), (3, .int base), (4, .int k)] → W p l e { frames := 0, cells := 0, slots := 0, locals := 0 } s m args below meth c H locs 0 0 Q (F0 m 30 ls [.long am]) := by
        intro am y1 H locs hP hD hS ls hl
        refine lv_lstore (lv' := [(5, .long am), (0, .ref o), (1, .long a), (3, .int base), (4, .int k)]) hx hb dX4_digit_30 hl (by decide) rfl (fun ls hl => ?_)
        refine lv_lload hx hb dX4_digit_32 (lv_at hl 0 rfl) ?_
        refine lv_bipush (v := 32) hx hb dX4_digit_34 (by decide) ?_
        refine lv_lushr (v := (am.toUInt64 >>> ((32 : Int32).toInt64.toUInt64 &&& Int64.toUInt64 63)).toInt64) hx hb dX4_digit_36 rfl ?_
        refine lv_lstore (lv' := [(7, .long ((am.toUInt64 >>> ((32 : Int32).toInt64.toUInt64 &&& Int64.toUInt64 63)).toInt64)), (5, .long am), (0, .ref o), (1, .long a), (3, .int base), (4, .int k)]) hx hb dX4_digit_37 hl (by decide) rfl (fun ls hl => ?_)
        refine lv_lload hx hb dX4_digit_39 (lv_at hl 1 rfl) ?_
        refine lv_ldc2 (v := 4294967295) hx hb hown (hTB _ tb_6_22) dX4_digit_41 ?_
        refine lv_land hx hb dX4_digit_44 ?_
        refine lv_lstore (lv' := [(9, .long (am &&& 4294967295)), (7, .long ((am.toUInt64 >>> ((32 : Int32).toInt64.toUInt64 &&& Int64.toUInt64 63)).toInt64)), (5, .long am), (0, .ref o), (1, .long a), (3, .int base), (4, .int k)]) hx hb dX4_digit_45 hl (by decide) rfl (fun ls hl => ?_)
        refine lv_iconst (v := 0) hx hb dX4_digit_47 (by decide) ?_
        refine lv_istore (lv' := [(11, .int 0), (9, .long (am &&& 4294967295)), (7, .long ((am.toUInt64 >>> ((32 : Int32).toInt64.toUInt64 &&& Int64.toUInt64 63)).toInt64)), (5, .long am), (0, .ref o), (1, .long a), (3, .int base), (4, .int k)]) hx hb dX4_digit_48 hl (by decide) rfl (fun ls hl => ?_)
        have L65 : ∀ (n65 : Nat) (i : Nat) (hi lo : Int64) (dg hs : Int32), (70 < i + n65 ∧ i ≤ 65) → (uN hi * 4294967296 + uN lo = dgN a base i ∧ uN lo < 4294967296 ∧ uN hi < 4294967296) → ((hs = 1 ∧ 0 ≤ k.toInt ∧ (i : Int) ≤ k.toInt + 1 ∧ (0 < i → dg.toInt = ((dgN a base (i - 1) % base.toInt.toNat : Nat) : Int) ∧ (i = 1 ∨ dgN a base (i - 1) ≠ 0))) ∨ (hs = 0 ∧ ((k.toInt < 0 ∧ i = 0) ∨ (1 < i ∧ (i : Int) ≤ k.toInt + 1 ∧ dgN a base (i - 1) = 0)))) → ∀ (H : Heap) (locs : List Loc), va_P D vwCl [(o, .inr (4, [.int 0, .ref wa, .ref sa, .ref ma, .ref tl, .ref gx, .ref gy, .ref tx, .ref tz, .int ln, .ref kx, .ref ky, .int cn, .int ah]))] H → va_D A [(o, .inr (4, [.int 0, .ref wa, .ref sa, .ref ma, .ref tl, .ref gx, .ref gy, .ref tx, .ref tz, .int ln, .ref kx, .ref ky, .int cn, .int ah]))] → va_S A s.heap H locs → ∀ (ls : Array Slot), lv_has ls 18 [(0, .ref o), (1, .long a), (3, .int base), (4, .int k), (5, .long am), (7, .long hi), (9, .long lo), (11, .int dg), (12, .int hs), (13, .int (nI i))] → W p l e { frames := 0, cells := 0, slots := 0, locals := 0 } s m args below meth c H locs 0 0 Q (F0 m 65 ls []) := by
          intro n65
          induction n65 with
          | zero =>
            intro i hi lo dg hs q1 q2 q3
            exfalso; omega
          | succ n65 ih65 =>
            intro i hi lo dg hs q1 q2 q3 H locs hP hD hS ls hl
            have ni := nI_toInt (n := i) (by omega)
            refine lv_iload hx hb dX4_digit_65 (lv_at hl 9 rfl) ?_
            refine lv_iload hx hb dX4_digit_67 (lv_at hl 3 rfl) ?_
            refine lv_icmp_gt (tgt := 148) hx hb dX4_digit_69 (by decide) (fun c_69 => ?_) (fun c_69 => ?_)
            · have c_69 : k.toInt < (nI i).toInt := ic_lt c_69
              refine lv_aload_n hx hb dX4_digit_148 rfl (lv_at hl 0 rfl) ?_
              refine lv_iload hx hb dX4_digit_149 (lv_at hl 8 rfl) ?_
              refine lv_if_eq (tgt := 158) hx hb dX4_digit_151 (by decide) (fun c_151 => ?_) (fun c_151 => ?_)
              · have c_151 : hs.toInt = (0 : Int) := ic_eq c_151
                refine lv_iconst (v := 1) hx hb dX4_digit_158 (by decide) ?_
                refine va_put (D := D) (ci := 4) (v := .int 1) (ty := .int) (C := RX4) (T := TX4) (N := 14) hx hb hTB tb_X4 tyX4 tyX4_ok nmX4 hown hK.1 hP hD hS 0 rfl rfl 0 (by decide) (hTB _ tb_6_4) (fun _ h9 => h9) rfl (by decide +kernel) rfl rfl (Nat.le_of_ble_eq_true rfl) dX4_digit_159 (fun H locs hP hD hS => ?_)
                have hP : va_P D vwCl [(o, .inr (4, [.int 1, .ref wa, .ref sa, .ref ma, .ref tl, .ref gx, .ref gy, .ref tx, .ref tz, .int ln, .ref kx, .ref ky, .int cn, .int ah]))] H := hP
                have hD : va_D A [(o, .inr (4, [.int 1, .ref wa, .ref sa, .ref ma, .ref tl, .ref gx, .ref gy, .ref tx, .ref tz, .int ln, .ref kx, .ref ky, .int cn, .int ah]))] := hD
                refine lv_iload hx hb dX4_digit_162 (lv_at hl 8 rfl) ?_
                refine lv_if_eq (tgt := 172) hx hb dX4_digit_164 (by decide) (fun c_164 => ?_) (fun c_164 => ?_)
                · have c_164 : hs.toInt = (0 : Int) := ic_eq c_164
                  refine lv_iconst (v := 0) hx hb dX4_digit_172 (by decide) ?_
                  have hbad : dgbad a base k := by
                    rcases q3 with ⟨z1, _⟩ | ⟨_, ⟨z1, _⟩ | ⟨z1, z2, z3⟩⟩
                    · rw [z1] at c_151; exact absurd c_151 (by decide)
                    · exact Or.inl z1
                    · exact Or.inr ⟨by omega, dgN_z z3 (by omega)⟩
                  exact hret hP hD hS rfl 1 (⟨fun q => absurd (show dgok base from ⟨by omega, by omega⟩) q, fun _ => ⟨fun _ => rfl, fun q => absurd hbad q⟩⟩) [0] rfl (by decide) dX4_digit_173 (Nat.le_of_ble_eq_true rfl) (Nat.le_of_ble_eq_true rfl)
                · have c_164 : hs.toInt ≠ (0 : Int) := ic_ne c_164
                  refine lv_iload hx hb dX4_digit_167 (lv_at hl 7 rfl) ?_
                  refine lv_goto (tgt := 173) hx hb dX4_digit_169 (by decide) ?_
                  exact hret hP hD hS rfl 1 (absurd c_151 c_164) [0] rfl (by decide) dX4_digit_173 (Nat.le_of_ble_eq_true rfl) (Nat.le_of_ble_eq_true rfl)
              · have c_151 : hs.toInt ≠ (0 : Int) := ic_ne c_151
                refine lv_iconst (v := 0) hx hb dX4_digit_154 (by decide) ?_
                refine lv_goto (tgt := 159) hx hb dX4_digit_155 (by decide) ?_
                refine va_put (D := D) (ci := 4) (v := .int 0) (ty := .int) (C := RX4) (T := TX4) (N := 14) hx hb hTB tb_X4 tyX4 tyX4_ok nmX4 hown hK.1 hP hD hS 0 rfl rfl 0 (by decide) (hTB _ tb_6_4) (fun _ h9 => h9) rfl (by decide +kernel) rfl rfl (Nat.le_of_ble_eq_true rfl) dX4_digit_159 (fun H locs hP hD hS => ?_)
                have hP : va_P D vwCl [(o, .inr (4, [.int 0, .ref wa, .ref sa, .ref ma, .ref tl, .ref gx, .ref gy, .ref tx, .ref tz, .int ln, .ref kx, .ref ky, .int cn, .int ah]))] H := hP
                have hD : va_D A [(o, .inr (4, [.int 0, .ref wa, .ref sa, .ref ma, .ref tl, .ref gx, .ref gy, .ref tx, .ref tz, .int ln, .ref kx, .ref ky, .int cn, .int ah]))] := hD
                refine lv_iload hx hb dX4_digit_162 (lv_at hl 8 rfl) ?_
                refine lv_if_eq (tgt := 172) hx hb dX4_digit_164 (by decide) (fun c_164 => ?_) (fun c_164 => ?_)
                · have c_164 : hs.toInt = (0 : Int) := ic_eq c_164
                  refine lv_iconst (v := 0) hx hb dX4_digit_172 (by decide) ?_
                  exact hret hP hD hS rfl 0 (absurd c_164 c_151) [0] rfl (by decide) dX4_digit_173 (Nat.le_of_ble_eq_true rfl) (Nat.le_of_ble_eq_true rfl)
                · have c_164 : hs.toInt ≠ (0 : Int) := ic_ne c_164
                  refine lv_iload hx hb dX4_digit_167 (lv_at hl 7 rfl) ?_
                  refine lv_goto (tgt := 173) hx hb dX4_digit_169 (by decide) ?_
                  obtain ⟨hk0, hik, hv, hnz⟩ : 0 ≤ k.toInt ∧ i - 1 = k.toInt.toNat ∧ dg.toInt = ((dgN a base (i - 1) % base.toInt.toNat : Nat) : Int) ∧ (i = 1 ∨ dgN a base (i - 1) ≠ 0) := by
                    rcases q3 with ⟨_, z2, z3, z4⟩ | ⟨z1, _⟩
                    · exact ⟨z2, by omega, (z4 (by omega)).1, (z4 (by omega)).2⟩
                    · rw [z1] at c_151; exact absurd rfl c_151
                  rw [hik] at hv hnz
                  exact hret hP hD hS rfl 0 (⟨fun q => absurd (show dgok base from ⟨by omega, by omega⟩) q, fun _ => ⟨fun q => absurd q (fun q => by rcases q with q | ⟨q1, q2⟩; omega; rcases hnz with z | z; omega; exact z q2), fun _ => ⟨rfl, hv⟩⟩⟩) [0] rfl (by decide) dX4_digit_173 (Nat.le_of_ble_eq_true rfl) (Nat.le_of_ble_eq_true rfl)
            · have c_69 : (nI i).toInt ≤ k.toInt := ic_nlt c_69
              refine lv_iload hx hb dX4_digit_72 (lv_at hl 8 rfl) ?_
              refine lv_if_eq (tgt := 148) hx hb dX4_digit_74 (by decide) (fun c_74 => ?_) (fun c_74 => ?_)
              · have c_74 : hs.toInt = (0 : Int) := ic_eq c_74
                refine lv_aload_n hx hb dX4_digit_148 rfl (lv_at hl 0 rfl) ?_
                refine lv_iload hx hb dX4_digit_149 (lv_at hl 8 rfl) ?_
                refine lv_if_eq (tgt := 158) hx hb dX4_digit_151 (by decide) (fun c_151 => ?_) (fun c_151 => ?_)
                · have c_151 : hs.toInt = (0 : Int) := ic_eq c_151
                  refine lv_iconst (v := 1) hx hb dX4_digit_158 (by decide) ?_
                  refine va_put (D := D) (ci := 4) (v := .int 1) (ty := .int) (C := RX4) (T := TX4) (N := 14) hx hb hTB tb_X4 tyX4 tyX4_ok nmX4 hown hK.1 hP hD hS 0 rfl rfl 0 (by decide) (hTB _ tb_6_4) (fun _ h9 => h9) rfl (by decide +kernel) rfl rfl (Nat.le_of_ble_eq_true rfl) dX4_digit_159 (fun H locs hP hD hS => ?_)
                  have hP : va_P D vwCl [(o, .inr (4, [.int 1, .ref wa, .ref sa, .ref ma, .ref tl, .ref gx, .ref gy, .ref tx, .ref tz, .int ln, .ref kx, .ref ky, .int cn, .int ah]))] H := hP
                  have hD : va_D A [(o, .inr (4, [.int 1, .ref wa, .ref sa, .ref ma, .ref tl, .ref gx, .ref gy, .ref tx, .ref tz, .int ln, .ref kx, .ref ky, .int cn, .int ah]))] := hD
                  refine lv_iload hx hb dX4_digit_162 (lv_at hl 8 rfl) ?_
                  refine lv_if_eq (tgt := 172) hx hb dX4_digit_164 (by decide) (fun c_164 => ?_) (fun c_164 => ?_)
                  · have c_164 : hs.toInt = (0 : Int) := ic_eq c_164
                    refine lv_iconst (v := 0) hx hb dX4_digit_172 (by decide) ?_
                    have hbad : dgbad a base k := by
                      rcases q3 with ⟨z1, _⟩ | ⟨_, ⟨z1, _⟩ | ⟨z1, z2, z3⟩⟩
                      · rw [z1] at c_151; exact absurd c_151 (by decide)
                      · exact Or.inl z1
                      · exact Or.inr ⟨by omega, dgN_z z3 (by omega)⟩
                    exact hret hP hD hS rfl 1 (⟨fun q => absurd (show dgok base from ⟨by omega, by omega⟩) q, fun _ => ⟨fun _ => rfl, fun q => absurd hbad q⟩⟩) [0] rfl (by decide) dX4_digit_173 (Nat.le_of_ble_eq_true rfl) (Nat.le_of_ble_eq_true rfl)
                  · have c_164 : hs.toInt ≠ (0 : Int) := ic_ne c_164
                    refine lv_iload hx hb dX4_digit_167 (lv_at hl 7 rfl) ?_
                    refine lv_goto (tgt := 173) hx hb dX4_digit_169 (by decide) ?_
                    exact hret hP hD hS rfl 1 (absurd c_151 c_164) [0] rfl (by decide) dX4_digit_173 (Nat.le_of_ble_eq_true rfl) (Nat.le_of_ble_eq_true rfl)
                · have c_151 : hs.toInt ≠ (0 : Int) := ic_ne c_151
                  refine lv_iconst (v := 0) hx hb dX4_digit_154 (by decide) ?_
                  refine lv_goto (tgt := 159) hx hb dX4_digit_155 (by decide) ?_
                  refine va_put (D := D) (ci := 4) (v := .int 0) (ty := .int) (C := RX4) (T := TX4) (N := 14) hx hb hTB tb_X4 tyX4 tyX4_ok nmX4 hown hK.1 hP hD hS 0 rfl rfl 0 (by decide) (hTB _ tb_6_4) (fun _ h9 => h9) rfl (by decide +kernel) rfl rfl (Nat.le_of_ble_eq_true rfl) dX4_digit_159 (fun H locs hP hD hS => ?_)
                  have hP : va_P D vwCl [(o, .inr (4, [.int 0, .ref wa, .ref sa, .ref ma, .ref tl, .ref gx, .ref gy, .ref tx, .ref tz, .int ln, .ref kx, .ref ky, .int cn, .int ah]))] H := hP
                  have hD : va_D A [(o, .inr (4, [.int 0, .ref wa, .ref sa, .ref ma, .ref tl, .ref gx, .ref gy, .ref tx, .ref tz, .int ln, .ref kx, .ref ky, .int cn, .int ah]))] := hD
                  refine lv_iload hx hb dX4_digit_162 (lv_at hl 8 rfl) ?_
                  refine lv_if_eq (tgt := 172) hx hb dX4_digit_164 (by decide) (fun c_164 => ?_) (fun c_164 => ?_)
                  · have c_164 : hs.toInt = (0 : Int) := ic_eq c_164
                    refine lv_iconst (v := 0) hx hb dX4_digit_172 (by decide) ?_
                    exact hret hP hD hS rfl 0 (absurd c_164 c_151) [0] rfl (by decide) dX4_digit_173 (Nat.le_of_ble_eq_true rfl) (Nat.le_of_ble_eq_true rfl)
                  · have c_164 : hs.toInt ≠ (0 : Int) := ic_ne c_164
                    refine lv_iload hx hb dX4_digit_167 (lv_at hl 7 rfl) ?_
                    refine lv_goto (tgt := 173) hx hb dX4_digit_169 (by decide) ?_
                    exact hret hP hD hS rfl 0 (absurd c_74 c_151) [0] rfl (by decide) dX4_digit_173 (Nat.le_of_ble_eq_true rfl) (Nat.le_of_ble_eq_true rfl)
              · have c_74 : hs.toInt ≠ (0 : Int) := ic_ne c_74
                refine lv_iload hx hb dX4_digit_77 (lv_at hl 9 rfl) ?_
                refine lv_if_eq (tgt := 96) hx hb dX4_digit_79 (by decide) (fun c_79 => ?_) (fun c_79 => ?_)
                · have c_79 : (nI i).toInt = (0 : Int) := ic_eq c_79
                  refine lv_iconst (v := 1) hx hb dX4_digit_96 (by decide) ?_
                  refine lv_goto (tgt := 101) hx hb dX4_digit_97 (by decide) ?_
                  refine lv_istore (lv' := [(12, .int 1), (0, .ref o), (1, .long a), (3, .int base), (4, .int k), (5, .long am), (7, .long hi), (9, .long lo), (11, .int dg), (13, .int (nI i))]) hx hb dX4_digit_101 hl (by decide) rfl (fun ls hl => ?_)
                  refine lv_lload hx hb dX4_digit_103 (lv_at hl 6 rfl) ?_
                  refine lv_iload_n hx hb dX4_digit_105 rfl (lv_at hl 3 rfl) ?_
                  refine lv_i2l (v := base.toInt64) hx hb dX4_digit_106 rfl ?_
                  refine lv_lrem hx hb dX4_digit_107 (i2l_ne (by omega)) ?_
                  refine lv_topl (fun rs9 ers9 => ?_)
                  refine lv_lstore (lv' := [(14, .long rs9), (12, .int 1), (0, .ref o), (1, .long a), (3, .int base), (4, .int k), (5, .long am), (7, .long hi), (9, .long lo), (11, .int dg), (13, .int (nI i))]) hx hb dX4_digit_108 hl (by decide) rfl (fun ls hl => ?_)
                  refine lv_lload hx hb dX4_digit_110 (lv_at hl 7 rfl) ?_
                  refine lv_iload_n hx hb dX4_digit_112 rfl (lv_at hl 4 rfl) ?_
                  refine lv_i2l (v := base.toInt64) hx hb dX4_digit_113 rfl ?_
                  refine lv_ldiv hx hb dX4_digit_114 (i2l_ne (by omega)) ?_
                  refine lv_topl (fun h9 eh9 => ?_)
                  refine lv_lstore (lv' := [(7, .long h9), (14, .long rs9), (12, .int 1), (0, .ref o), (1, .long a), (3, .int base), (4, .int k), (5, .long am), (9, .long lo), (11, .int dg), (13, .int (nI i))]) hx hb dX4_digit_115 hl (by decide) rfl (fun ls hl => ?_)
                  refine lv_lload hx hb dX4_digit_117 (lv_at hl 1 rfl) ?_
                  refine lv_bipush (v := 32) hx hb dX4_digit_119 (by decide) ?_
                  refine lv_lshl (v := rs9 <<< ((32 : Int32).toInt64 &&& 63)) hx hb dX4_digit_121 rfl ?_
                  refine lv_lload hx hb dX4_digit_122 (lv_at hl 8 rfl) ?_
                  refine lv_lor hx hb dX4_digit_124 ?_
                  refine lv_topl (fun bo9 ebo9 => ?_)
                  refine lv_lstore (lv' := [(16, .long bo9), (7, .long h9), (14, .long rs9), (12, .int 1), (0, .ref o), (1, .long a), (3, .int base), (4, .int k), (5, .long am), (9, .long lo), (11, .int dg), (13, .int (nI i))]) hx hb dX4_digit_125 hl (by decide) rfl (fun ls hl => ?_)
                  refine lv_lload hx hb dX4_digit_127 (lv_at hl 0 rfl) ?_
                  refine lv_iload_n hx hb dX4_digit_129 rfl (lv_at hl 6 rfl) ?_
                  refine lv_i2l (v := base.toInt64) hx hb dX4_digit_130 rfl ?_
                  refine lv_lrem hx hb dX4_digit_131 (i2l_ne (by omega)) ?_
                  refine lv_topl (fun m9r em9r => ?_)
                  refine lv_l2i (v := m9r.toInt32) hx hb dX4_digit_132 rfl ?_
                  refine lv_istore (lv' := [(11, .int m9r.toInt32), (16, .long bo9), (7, .long h9), (14, .long rs9), (12, .int 1), (0, .ref o), (1, .long a), (3, .int base), (4, .int k), (5, .long am), (9, .long lo), (13, .int (nI i))]) hx hb dX4_digit_133 hl (by decide) rfl (fun ls hl => ?_)
                  refine lv_lload hx hb dX4_digit_135 (lv_at hl 1 rfl) ?_
                  refine lv_iload_n hx hb dX4_digit_137 rfl (lv_at hl 7 rfl) ?_
                  refine lv_i2l (v := base.toInt64) hx hb dX4_digit_138 rfl ?_
                  refine lv_ldiv hx hb dX4_digit_139 (i2l_ne (by omega)) ?_
                  refine lv_topl (fun l9 el9 => ?_)
                  refine lv_lstore (lv' := [(9, .long l9), (11, .int m9r.toInt32), (16, .long bo9), (7, .long h9), (14, .long rs9), (12, .int 1), (0, .ref o), (1, .long a), (3, .int base), (4, .int k), (5, .long am), (13, .int (nI i))]) hx hb dX4_digit_140 hl (by decide) rfl (fun ls hl => ?_)
                  obtain ⟨i13_1, ei13_1⟩ : ∃ y : Int32, y = (nI i) + 1 := ⟨_, rfl⟩
                  refine lv_iinc (v := i13_1) (lv' := [(13, .int i13_1), (9, .long l9), (11, .int m9r.toInt32), (16, .long bo9), (7, .long h9), (14, .long rs9), (12, .int 1), (0, .ref o), (1, .long a), (3, .int base), (4, .int k), (5, .long am)]) hx hb dX4_digit_142 hl (k := 11) rfl (by rw [ei13_1]; rfl) (by decide) rfl (fun ls hl => ?_)
                  refine lv_goto (tgt := 65) hx hb dX4_digit_145 (by decide) ?_
                  have hB0 : 0 < base.toInt.toNat := by omega
                  obtain ⟨e1, e2⟩ := uN_pd (x := hi) (y := base.toInt64) (by omega) (by rw [i2l]; omega)
                  rw [i2l] at e1 e2
                  rw [← eh9] at e1
                  rw [← ers9] at e2
                  have u1 : uN h9 = uN hi / base.toInt.toNat := uN_nat e1
                  have u2 : uN rs9 = uN hi % base.toInt.toNat := uN_nat e2
                  have r1 := Nat.mod_lt (uN hi) hB0
                  have u3 : uN bo9 = uN rs9 * 4294967296 + uN lo := by rw [ebo9]; exact or_lo (by omega) q2.2.1
                  obtain ⟨e3, e4⟩ := uN_pd (x := bo9) (y := base.toInt64) (by omega) (by rw [i2l]; omega)
                  rw [i2l] at e3 e4
                  rw [← el9] at e3
                  rw [← em9r] at e4
                  have st9 := dg_step (H := uN hi) (L := uN lo) (b := base.toInt.toNat) hB0 q2.1 q2.2.1
                  rw [← u2, ← u3] at st9
                  have u4 : uN l9 = uN bo9 / base.toInt.toNat := uN_nat e3
                  have r2 := Nat.mod_lt (uN bo9) hB0
                  have eh : hi.toInt = (uN hi : Int) := uN_small q2.2.2
                  have el : lo.toInt = (uN lo : Int) := uN_small q2.2.1
                  obtain ⟨hk0, hik, hdd⟩ : 0 ≤ k.toInt ∧ (i : Int) ≤ k.toInt ∧ (0 < i → i = 1 ∨ dgN a base (i - 1) ≠ 0) := by
                    rcases q3 with ⟨z1, z2, z3, z4⟩ | ⟨z1, _⟩
                    · exact ⟨z2, by omega, fun h => (z4 h).2⟩
                    · rw [z1] at c_74; exact absurd rfl c_74
                  have hi65 : i < 65 := by
                    rcases Nat.lt_or_ge i 65 with z | z
                    · exact z
                    · rcases hdd (by omega) with w | w
                      · omega
                      · exact absurd (dgN_64 (a := a) (b := base) ⟨by omega, by omega⟩ (by omega)) w
                  have q13 : i13_1 = nI (i + 1) := by rw [ei13_1]; exact nI_1 i
                  subst q13
                  refine ih65 (i + 1) h9 l9 m9r.toInt32 1 ?_ ?_ ?_ _ _ hP hD hS _ (lv_sub hl [7, 8, 9, 10, 11, 4, 1, 2, 6, 0] rfl)
                  · omega
                  · exact ⟨by rw [u1, u4, dgN_s]; exact st9.1, by rw [u4]; exact st9.2.2, by rw [u1]; have := Nat.div_le_self (uN hi) base.toInt.toNat; omega⟩
                  · exact Or.inl ⟨rfl, hk0, by omega, fun _ => ⟨by rw [show i + 1 - 1 = i by omega, l2i_s (by omega) (by omega), e4, st9.2.1], Or.inl (by omega)⟩⟩
                · have c_79 : (nI i).toInt ≠ (0 : Int) := ic_ne c_79
                  refine lv_lload hx hb dX4_digit_82 (lv_at hl 5 rfl) ?_
                  refine lv_lconst (v := 0) hx hb dX4_digit_84 (by decide) ?_
                  refine W.lcmp hx hb dX4_digit_85 ?_
                  refine lv_if_gt (tgt := 96) hx hb dX4_digit_86 (by decide) (fun c_86 => ?_) (fun c_86 => ?_)
                  · have c_86 : (0 : Int) < hi.toInt := lc_gt c_86
                    refine lv_iconst (v := 1) hx hb dX4_digit_96 (by decide) ?_
                    refine lv_goto (tgt := 101) hx hb dX4_digit_97 (by decide) ?_
                    refine lv_istore (lv' := [(12, .int 1), (0, .ref o), (1, .long a), (3, .int base), (4, .int k), (5, .long am), (7, .long hi), (9, .long lo), (11, .int dg), (13, .int (nI i))]) hx hb dX4_digit_101 hl (by decide) rfl (fun ls hl => ?_)
                    refine lv_lload hx hb dX4_digit_103 (lv_at hl 6 rfl) ?_
                    refine lv_iload_n hx hb dX4_digit_105 rfl (lv_at hl 3 rfl) ?_
                    refine lv_i2l (v := base.toInt64) hx hb dX4_digit_106 rfl ?_
                    refine lv_lrem hx hb dX4_digit_107 (i2l_ne (by omega)) ?_
                    refine lv_topl (fun rs9 ers9 => ?_)
                    refine lv_lstore (lv' := [(14, .long rs9), (12, .int 1), (0, .ref o), (1, .long a), (3, .int base), (4, .int k), (5, .long am), (7, .long hi), (9, .long lo), (11, .int dg), (13, .int (nI i))]) hx hb dX4_digit_108 hl (by decide) rfl (fun ls hl => ?_)
                    refine lv_lload hx hb dX4_digit_110 (lv_at hl 7 rfl) ?_
                    refine lv_iload_n hx hb dX4_digit_112 rfl (lv_at hl 4 rfl) ?_
                    refine lv_i2l (v := base.toInt64) hx hb dX4_digit_113 rfl ?_
                    refine lv_ldiv hx hb dX4_digit_114 (i2l_ne (by omega)) ?_
                    refine lv_topl (fun h9 eh9 => ?_)
                    refine lv_lstore (lv' := [(7, .long h9), (14, .long rs9), (12, .int 1), (0, .ref o), (1, .long a), (3, .int base), (4, .int k), (5, .long am), (9, .long lo), (11, .int dg), (13, .int (nI i))]) hx hb dX4_digit_115 hl (by decide) rfl (fun ls hl => ?_)
                    refine lv_lload hx hb dX4_digit_117 (lv_at hl 1 rfl) ?_
                    refine lv_bipush (v := 32) hx hb dX4_digit_119 (by decide) ?_
                    refine lv_lshl (v := rs9 <<< ((32 : Int32).toInt64 &&& 63)) hx hb dX4_digit_121 rfl ?_
                    refine lv_lload hx hb dX4_digit_122 (lv_at hl 8 rfl) ?_
                    refine lv_lor hx hb dX4_digit_124 ?_
                    refine lv_topl (fun bo9 ebo9 => ?_)
                    refine lv_lstore (lv' := [(16, .long bo9), (7, .long h9), (14, .long rs9), (12, .int 1), (0, .ref o), (1, .long a), (3, .int base), (4, .int k), (5, .long am), (9, .long lo), (11, .int dg), (13, .int (nI i))]) hx hb dX4_digit_125 hl (by decide) rfl (fun ls hl => ?_)
                    refine lv_lload hx hb dX4_digit_127 (lv_at hl 0 rfl) ?_
                    refine lv_iload_n hx hb dX4_digit_129 rfl (lv_at hl 6 rfl) ?_
                    refine lv_i2l (v := base.toInt64) hx hb dX4_digit_130 rfl ?_
                    refine lv_lrem hx hb dX4_digit_131 (i2l_ne (by omega)) ?_
                    refine lv_topl (fun m9r em9r => ?_)
                    refine lv_l2i (v := m9r.toInt32) hx hb dX4_digit_132 rfl ?_
                    refine lv_istore (lv' := [(11, .int m9r.toInt32), (16, .long bo9), (7, .long h9), (14, .long rs9), (12, .int 1), (0, .ref o), (1, .long a), (3, .int base), (4, .int k), (5, .long am), (9, .long lo), (13, .int (nI i))]) hx hb dX4_digit_133 hl (by decide) rfl (fun ls hl => ?_)
                    refine lv_lload hx hb dX4_digit_135 (lv_at hl 1 rfl) ?_
                    refine lv_iload_n hx hb dX4_digit_137 rfl (lv_at hl 7 rfl) ?_
                    refine lv_i2l (v := base.toInt64) hx hb dX4_digit_138 rfl ?_
                    refine lv_ldiv hx hb dX4_digit_139 (i2l_ne (by omega)) ?_
                    refine lv_topl (fun l9 el9 => ?_)
                    refine lv_lstore (lv' := [(9, .long l9), (11, .int m9r.toInt32), (16, .long bo9), (7, .long h9), (14, .long rs9), (12, .int 1), (0, .ref o), (1, .long a), (3, .int base), (4, .int k), (5, .long am), (13, .int (nI i))]) hx hb dX4_digit_140 hl (by decide) rfl (fun ls hl => ?_)
                    obtain ⟨i13_2, ei13_2⟩ : ∃ y : Int32, y = (nI i) + 1 := ⟨_, rfl⟩
                    refine lv_iinc (v := i13_2) (lv' := [(13, .int i13_2), (9, .long l9), (11, .int m9r.toInt32), (16, .long bo9), (7, .long h9), (14, .long rs9), (12, .int 1), (0, .ref o), (1, .long a), (3, .int base), (4, .int k), (5, .long am)]) hx hb dX4_digit_142 hl (k := 11) rfl (by rw [ei13_2]; rfl) (by decide) rfl (fun ls hl => ?_)
                    refine lv_goto (tgt := 65) hx hb dX4_digit_145 (by decide) ?_
                    have hB0 : 0 < base.toInt.toNat := by omega
                    obtain ⟨e1, e2⟩ := uN_pd (x := hi) (y := base.toInt64) (by omega) (by rw [i2l]; omega)
                    rw [i2l] at e1 e2
                    rw [← eh9] at e1
                    rw [← ers9] at e2
                    have u1 : uN h9 = uN hi / base.toInt.toNat := uN_nat e1
                    have u2 : uN rs9 = uN hi % base.toInt.toNat := uN_nat e2
                    have r1 := Nat.mod_lt (uN hi) hB0
                    have u3 : uN bo9 = uN rs9 * 4294967296 + uN lo := by rw [ebo9]; exact or_lo (by omega) q2.2.1
                    obtain ⟨e3, e4⟩ := uN_pd (x := bo9) (y := base.toInt64) (by omega) (by rw [i2l]; omega)
                    rw [i2l] at e3 e4
                    rw [← el9] at e3
                    rw [← em9r] at e4
                    have st9 := dg_step (H := uN hi) (L := uN lo) (b := base.toInt.toNat) hB0 q2.1 q2.2.1
                    rw [← u2, ← u3] at st9
                    have u4 : uN l9 = uN bo9 / base.toInt.toNat := uN_nat e3
                    have r2 := Nat.mod_lt (uN bo9) hB0
                    have eh : hi.toInt = (uN hi : Int) := uN_small q2.2.2
                    have el : lo.toInt = (uN lo : Int) := uN_small q2.2.1
                    obtain ⟨hk0, hik, hdd⟩ : 0 ≤ k.toInt ∧ (i : Int) ≤ k.toInt ∧ (0 < i → i = 1 ∨ dgN a base (i - 1) ≠ 0) := by
                      rcases q3 with ⟨z1, z2, z3, z4⟩ | ⟨z1, _⟩
                      · exact ⟨z2, by omega, fun h => (z4 h).2⟩
                      · rw [z1] at c_74; exact absurd rfl c_74
                    have hi65 : i < 65 := by
                      rcases Nat.lt_or_ge i 65 with z | z
                      · exact z
                      · rcases hdd (by omega) with w | w
                        · omega
                        · exact absurd (dgN_64 (a := a) (b := base) ⟨by omega, by omega⟩ (by omega)) w
                    have q13 : i13_2 = nI (i + 1) := by rw [ei13_2]; exact nI_1 i
                    subst q13
                    refine ih65 (i + 1) h9 l9 m9r.toInt32 1 ?_ ?_ ?_ _ _ hP hD hS _ (lv_sub hl [7, 8, 9, 10, 11, 4, 1, 2, 6, 0] rfl)
                    · omega
                    · exact ⟨by rw [u1, u4, dgN_s]; exact st9.1, by rw [u4]; exact st9.2.2, by rw [u1]; have := Nat.div_le_self (uN hi) base.toInt.toNat; omega⟩
                    · exact Or.inl ⟨rfl, hk0, by omega, fun _ => ⟨by rw [show i + 1 - 1 = i by omega, l2i_s (by omega) (by omega), e4, st9.2.1], Or.inr (by rw [show i + 1 - 1 = i by omega, ← q2.1]; omega)⟩⟩
                  · have c_86 : hi.toInt ≤ (0 : Int) := lc_ngt c_86
                    refine lv_lload hx hb dX4_digit_89 (lv_at hl 6 rfl) ?_
                    refine lv_lconst (v := 0) hx hb dX4_digit_91 (by decide) ?_
                    refine W.lcmp hx hb dX4_digit_92 ?_
                    refine lv_if_le (tgt := 100) hx hb dX4_digit_93 (by decide) (fun c_93 => ?_) (fun c_93 => ?_)
                    · have c_93 : lo.toInt ≤ (0 : Int) := lc_le c_93
                      refine lv_iconst (v := 0) hx hb dX4_digit_100 (by decide) ?_
                      refine lv_istore (lv' := [(12, .int 0), (0, .ref o), (1, .long a), (3, .int base), (4, .int k), (5, .long am), (7, .long hi), (9, .long lo), (11, .int dg), (13, .int (nI i))]) hx hb dX4_digit_101 hl (by decide) rfl (fun ls hl => ?_)
                      refine lv_lload hx hb dX4_digit_103 (lv_at hl 6 rfl) ?_
                      refine lv_iload_n hx hb dX4_digit_105 rfl (lv_at hl 3 rfl) ?_
                      refine lv_i2l (v := base.toInt64) hx hb dX4_digit_106 rfl ?_
                      refine lv_lrem hx hb dX4_digit_107 (i2l_ne (by omega)) ?_
                      refine lv_topl (fun rs9 ers9 => ?_)
                      refine lv_lstore (lv' := [(14, .long rs9), (12, .int 0), (0, .ref o), (1, .long a), (3, .int base), (4, .int k), (5, .long am), (7, .long hi), (9, .long lo), (11, .int dg), (13, .int (nI i))]) hx hb dX4_digit_108 hl (by decide) rfl (fun ls hl => ?_)
                      refine lv_lload hx hb dX4_digit_110 (lv_at hl 7 rfl) ?_
                      refine lv_iload_n hx hb dX4_digit_112 rfl (lv_at hl 4 rfl) ?_
                      refine lv_i2l (v := base.toInt64) hx hb dX4_digit_113 rfl ?_
                      refine lv_ldiv hx hb dX4_digit_114 (i2l_ne (by omega)) ?_
                      refine lv_topl (fun h9 eh9 => ?_)
                      refine lv_lstore (lv' := [(7, .long h9), (14, .long rs9), (12, .int 0), (0, .ref o), (1, .long a), (3, .int base), (4, .int k), (5, .long am), (9, .long lo), (11, .int dg), (13, .int (nI i))]) hx hb dX4_digit_115 hl (by decide) rfl (fun ls hl => ?_)
                      refine lv_lload hx hb dX4_digit_117 (lv_at hl 1 rfl) ?_
                      refine lv_bipush (v := 32) hx hb dX4_digit_119 (by decide) ?_
                      refine lv_lshl (v := rs9 <<< ((32 : Int32).toInt64 &&& 63)) hx hb dX4_digit_121 rfl ?_
                      refine lv_lload hx hb dX4_digit_122 (lv_at hl 8 rfl) ?_
                      refine lv_lor hx hb dX4_digit_124 ?_
                      refine lv_topl (fun bo9 ebo9 => ?_)
                      refine lv_lstore (lv' := [(16, .long bo9), (7, .long h9), (14, .long rs9), (12, .int 0), (0, .ref o), (1, .long a), (3, .int base), (4, .int k), (5, .long am), (9, .long lo), (11, .int dg), (13, .int (nI i))]) hx hb dX4_digit_125 hl (by decide) rfl (fun ls hl => ?_)
                      refine lv_lload hx hb dX4_digit_127 (lv_at hl 0 rfl) ?_
                      refine lv_iload_n hx hb dX4_digit_129 rfl (lv_at hl 6 rfl) ?_
                      refine lv_i2l (v := base.toInt64) hx hb dX4_digit_130 rfl ?_
                      refine lv_lrem hx hb dX4_digit_131 (i2l_ne (by omega)) ?_
                      refine lv_topl (fun m9r em9r => ?_)
                      refine lv_l2i (v := m9r.toInt32) hx hb dX4_digit_132 rfl ?_
                      refine lv_istore (lv' := [(11, .int m9r.toInt32), (16, .long bo9), (7, .long h9), (14, .long rs9), (12, .int 0), (0, .ref o), (1, .long a), (3, .int base), (4, .int k), (5, .long am), (9, .long lo), (13, .int (nI i))]) hx hb dX4_digit_133 hl (by decide) rfl (fun ls hl => ?_)
                      refine lv_lload hx hb dX4_digit_135 (lv_at hl 1 rfl) ?_
                      refine lv_iload_n hx hb dX4_digit_137 rfl (lv_at hl 7 rfl) ?_
                      refine lv_i2l (v := base.toInt64) hx hb dX4_digit_138 rfl ?_
                      refine lv_ldiv hx hb dX4_digit_139 (i2l_ne (by omega)) ?_
                      refine lv_topl (fun l9 el9 => ?_)
                      refine lv_lstore (lv' := [(9, .long l9), (11, .int m9r.toInt32), (16, .long bo9), (7, .long h9), (14, .long rs9), (12, .int 0), (0, .ref o), (1, .long a), (3, .int base), (4, .int k), (5, .long am), (13, .int (nI i))]) hx hb dX4_digit_140 hl (by decide) rfl (fun ls hl => ?_)
                      obtain ⟨i13_3, ei13_3⟩ : ∃ y : Int32, y = (nI i) + 1 := ⟨_, rfl⟩
                      refine lv_iinc (v := i13_3) (lv' := [(13, .int i13_3), (9, .long l9), (11, .int m9r.toInt32), (16, .long bo9), (7, .long h9), (14, .long rs9), (12, .int 0), (0, .ref o), (1, .long a), (3, .int base), (4, .int k), (5, .long am)]) hx hb dX4_digit_142 hl (k := 11) rfl (by rw [ei13_3]; rfl) (by decide) rfl (fun ls hl => ?_)
                      refine lv_goto (tgt := 65) hx hb dX4_digit_145 (by decide) ?_
                      have hB0 : 0 < base.toInt.toNat := by omega
                      obtain ⟨e1, e2⟩ := uN_pd (x := hi) (y := base.toInt64) (by omega) (by rw [i2l]; omega)
                      rw [i2l] at e1 e2
                      rw [← eh9] at e1
                      rw [← ers9] at e2
                      have u1 : uN h9 = uN hi / base.toInt.toNat := uN_nat e1
                      have u2 : uN rs9 = uN hi % base.toInt.toNat := uN_nat e2
                      have r1 := Nat.mod_lt (uN hi) hB0
                      have u3 : uN bo9 = uN rs9 * 4294967296 + uN lo := by rw [ebo9]; exact or_lo (by omega) q2.2.1
                      obtain ⟨e3, e4⟩ := uN_pd (x := bo9) (y := base.toInt64) (by omega) (by rw [i2l]; omega)
                      rw [i2l] at e3 e4
                      rw [← el9] at e3
                      rw [← em9r] at e4
                      have st9 := dg_step (H := uN hi) (L := uN lo) (b := base.toInt.toNat) hB0 q2.1 q2.2.1
                      rw [← u2, ← u3] at st9
                      have u4 : uN l9 = uN bo9 / base.toInt.toNat := uN_nat e3
                      have r2 := Nat.mod_lt (uN bo9) hB0
                      have eh : hi.toInt = (uN hi : Int) := uN_small q2.2.2
                      have el : lo.toInt = (uN lo : Int) := uN_small q2.2.1
                      obtain ⟨hk0, hik, hdd⟩ : 0 ≤ k.toInt ∧ (i : Int) ≤ k.toInt ∧ (0 < i → i = 1 ∨ dgN a base (i - 1) ≠ 0) := by
                        rcases q3 with ⟨z1, z2, z3, z4⟩ | ⟨z1, _⟩
                        · exact ⟨z2, by omega, fun h => (z4 h).2⟩
                        · rw [z1] at c_74; exact absurd rfl c_74
                      have hi65 : i < 65 := by
                        rcases Nat.lt_or_ge i 65 with z | z
                        · exact z
                        · rcases hdd (by omega) with w | w
                          · omega
                          · exact absurd (dgN_64 (a := a) (b := base) ⟨by omega, by omega⟩ (by omega)) w
                      have q13 : i13_3 = nI (i + 1) := by rw [ei13_3]; exact nI_1 i
                      subst q13
                      refine ih65 (i + 1) h9 l9 m9r.toInt32 0 ?_ ?_ ?_ _ _ hP hD hS _ (lv_sub hl [7, 8, 9, 10, 11, 4, 1, 2, 6, 0] rfl)
                      · omega
                      · exact ⟨by rw [u1, u4, dgN_s]; exact st9.1, by rw [u4]; exact st9.2.2, by rw [u1]; have := Nat.div_le_self (uN hi) base.toInt.toNat; omega⟩
                      · exact Or.inr ⟨rfl, Or.inr ⟨by omega, by omega, by rw [show i + 1 - 1 = i by omega, ← q2.1]; omega⟩⟩
                    · have c_93 : (0 : Int) < lo.toInt := lc_nle c_93
                      refine lv_iconst (v := 1) hx hb dX4_digit_96 (by decide) ?_
                      refine lv_goto (tgt := 101) hx hb dX4_digit_97 (by decide) ?_
                      refine lv_istore (lv' := [(12, .int 1), (0, .ref o), (1, .long a), (3, .int base), (4, .int k), (5, .long am), (7, .long hi), (9, .long lo), (11, .int dg), (13, .int (nI i))]) hx hb dX4_digit_101 hl (by decide) rfl (fun ls hl => ?_)
                      refine lv_lload hx hb dX4_digit_103 (lv_at hl 6 rfl) ?_
                      refine lv_iload_n hx hb dX4_digit_105 rfl (lv_at hl 3 rfl) ?_
                      refine lv_i2l (v := base.toInt64) hx hb dX4_digit_106 rfl ?_
                      refine lv_lrem hx hb dX4_digit_107 (i2l_ne (by omega)) ?_
                      refine lv_topl (fun rs9 ers9 => ?_)
                      refine lv_lstore (lv' := [(14, .long rs9), (12, .int 1), (0, .ref o), (1, .long a), (3, .int base), (4, .int k), (5, .long am), (7, .long hi), (9, .long lo), (11, .int dg), (13, .int (nI i))]) hx hb dX4_digit_108 hl (by decide) rfl (fun ls hl => ?_)
                      refine lv_lload hx hb dX4_digit_110 (lv_at hl 7 rfl) ?_
                      refine lv_iload_n hx hb dX4_digit_112 rfl (lv_at hl 4 rfl) ?_
                      refine lv_i2l (v := base.toInt64) hx hb dX4_digit_113 rfl ?_
                      refine lv_ldiv hx hb dX4_digit_114 (i2l_ne (by omega)) ?_
                      refine lv_topl (fun h9 eh9 => ?_)
                      refine lv_lstore (lv' := [(7, .long h9), (14, .long rs9), (12, .int 1), (0, .ref o), (1, .long a), (3, .int base), (4, .int k), (5, .long am), (9, .long lo), (11, .int dg), (13, .int (nI i))]) hx hb dX4_digit_115 hl (by decide) rfl (fun ls hl => ?_)
                      refine lv_lload hx hb dX4_digit_117 (lv_at hl 1 rfl) ?_
                      refine lv_bipush (v := 32) hx hb dX4_digit_119 (by decide) ?_
                      refine lv_lshl (v := rs9 <<< ((32 : Int32).toInt64 &&& 63)) hx hb dX4_digit_121 rfl ?_
                      refine lv_lload hx hb dX4_digit_122 (lv_at hl 8 rfl) ?_
                      refine lv_lor hx hb dX4_digit_124 ?_
                      refine lv_topl (fun bo9 ebo9 => ?_)
                      refine lv_lstore (lv' := [(16, .long bo9), (7, .long h9), (14, .long rs9), (12, .int 1), (0, .ref o), (1, .long a), (3, .int base), (4, .int k), (5, .long am), (9, .long lo), (11, .int dg), (13, .int (nI i))]) hx hb dX4_digit_125 hl (by decide) rfl (fun ls hl => ?_)
                      refine lv_lload hx hb dX4_digit_127 (lv_at hl 0 rfl) ?_
                      refine lv_iload_n hx hb dX4_digit_129 rfl (lv_at hl 6 rfl) ?_
                      refine lv_i2l (v := base.toInt64) hx hb dX4_digit_130 rfl ?_
                      refine lv_lrem hx hb dX4_digit_131 (i2l_ne (by omega)) ?_
                      refine lv_topl (fun m9r em9r => ?_)
                      refine lv_l2i (v := m9r.toInt32) hx hb dX4_digit_132 rfl ?_
                      refine lv_istore (lv' := [(11, .int m9r.toInt32), (16, .long bo9), (7, .long h9), (14, .long rs9), (12, .int 1), (0, .ref o), (1, .long a), (3, .int base), (4, .int k), (5, .long am), (9, .long lo), (13, .int (nI i))]) hx hb dX4_digit_133 hl (by decide) rfl (fun ls hl => ?_)
                      refine lv_lload hx hb dX4_digit_135 (lv_at hl 1 rfl) ?_
                      refine lv_iload_n hx hb dX4_digit_137 rfl (lv_at hl 7 rfl) ?_
                      refine lv_i2l (v := base.toInt64) hx hb dX4_digit_138 rfl ?_
                      refine lv_ldiv hx hb dX4_digit_139 (i2l_ne (by omega)) ?_
                      refine lv_topl (fun l9 el9 => ?_)
                      refine lv_lstore (lv' := [(9, .long l9), (11, .int m9r.toInt32), (16, .long bo9), (7, .long h9), (14, .long rs9), (12, .int 1), (0, .ref o), (1, .long a), (3, .int base), (4, .int k), (5, .long am), (13, .int (nI i))]) hx hb dX4_digit_140 hl (by decide) rfl (fun ls hl => ?_)
                      obtain ⟨i13_4, ei13_4⟩ : ∃ y : Int32, y = (nI i) + 1 := ⟨_, rfl⟩
                      refine lv_iinc (v := i13_4) (lv' := [(13, .int i13_4), (9, .long l9), (11, .int m9r.toInt32), (16, .long bo9), (7, .long h9), (14, .long rs9), (12, .int 1), (0, .ref o), (1, .long a), (3, .int base), (4, .int k), (5, .long am)]) hx hb dX4_digit_142 hl (k := 11) rfl (by rw [ei13_4]; rfl) (by decide) rfl (fun ls hl => ?_)
                      refine lv_goto (tgt := 65) hx hb dX4_digit_145 (by decide) ?_
                      have hB0 : 0 < base.toInt.toNat := by omega
                      obtain ⟨e1, e2⟩ := uN_pd (x := hi) (y := base.toInt64) (by omega) (by rw [i2l]; omega)
                      rw [i2l] at e1 e2
                      rw [← eh9] at e1
                      rw [← ers9] at e2
                      have u1 : uN h9 = uN hi / base.toInt.toNat := uN_nat e1
                      have u2 : uN rs9 = uN hi % base.toInt.toNat := uN_nat e2
                      have r1 := Nat.mod_lt (uN hi) hB0
                      have u3 : uN bo9 = uN rs9 * 4294967296 + uN lo := by rw [ebo9]; exact or_lo (by omega) q2.2.1
                      obtain ⟨e3, e4⟩ := uN_pd (x := bo9) (y := base.toInt64) (by omega) (by rw [i2l]; omega)
                      rw [i2l] at e3 e4
                      rw [← el9] at e3
                      rw [← em9r] at e4
                      have st9 := dg_step (H := uN hi) (L := uN lo) (b := base.toInt.toNat) hB0 q2.1 q2.2.1
                      rw [← u2, ← u3] at st9
                      have u4 : uN l9 = uN bo9 / base.toInt.toNat := uN_nat e3
                      have r2 := Nat.mod_lt (uN bo9) hB0
                      have eh : hi.toInt = (uN hi : Int) := uN_small q2.2.2
                      have el : lo.toInt = (uN lo : Int) := uN_small q2.2.1
                      obtain ⟨hk0, hik, hdd⟩ : 0 ≤ k.toInt ∧ (i : Int) ≤ k.toInt ∧ (0 < i → i = 1 ∨ dgN a base (i - 1) ≠ 0) := by
                        rcases q3 with ⟨z1, z2, z3, z4⟩ | ⟨z1, _⟩
                        · exact ⟨z2, by omega, fun h => (z4 h).2⟩
                        · rw [z1] at c_74; exact absurd rfl c_74
                      have hi65 : i < 65 := by
                        rcases Nat.lt_or_ge i 65 with z | z
                        · exact z
                        · rcases hdd (by omega) with w | w
                          · omega
                          · exact absurd (dgN_64 (a := a) (b := base) ⟨by omega, by omega⟩ (by omega)) w
                      have q13 : i13_4 = nI (i + 1) := by rw [ei13_4]; exact nI_1 i
                      subst q13
                      refine ih65 (i + 1) h9 l9 m9r.toInt32 1 ?_ ?_ ?_ _ _ hP hD hS _ (lv_sub hl [7, 8, 9, 10, 11, 4, 1, 2, 6, 0] rfl)
                      · omega
                      · exact ⟨by rw [u1, u4, dgN_s]; exact st9.1, by rw [u4]; exact st9.2.2, by rw [u1]; have := Nat.div_le_self (uN hi) base.toInt.toNat; omega⟩
                      · exact Or.inl ⟨rfl, hk0, by omega, fun _ => ⟨by rw [show i + 1 - 1 = i by omega, l2i_s (by omega) (by omega), e4, st9.2.1], Or.inr (by rw [show i + 1 - 1 = i by omega, ← q2.1]; omega)⟩⟩
        refine lv_iload hx hb dX4_digit_50 (lv_at hl 7 rfl) ?_
        refine lv_if_lt (tgt := 59) hx hb dX4_digit_52 (by decide) (fun c_52 => ?_) (fun c_52 => ?_)
        · have c_52 : k.toInt < (0 : Int) := ic_lt c_52
          refine lv_iconst (v := 0) hx hb dX4_digit_59 (by decide) ?_
          refine lv_istore (lv' := [(12, .int 0), (11, .int 0), (9, .long (am &&& 4294967295)), (7, .long ((am.toUInt64 >>> ((32 : Int32).toInt64.toUInt64 &&& Int64.toUInt64 63)).toInt64)), (5, .long am), (0, .ref o), (1, .long a), (3, .int base), (4, .int k)]) hx hb dX4_digit_60 hl (by decide) rfl (fun ls hl => ?_)
          refine lv_iconst (v := 0) hx hb dX4_digit_62 (by decide) ?_
          refine lv_istore (lv' := [(13, .int 0), (12, .int 0), (11, .int 0), (9, .long (am &&& 4294967295)), (7, .long ((am.toUInt64 >>> ((32 : Int32).toInt64.toUInt64 &&& Int64.toUInt64 63)).toInt64)), (5, .long am), (0, .ref o), (1, .long a), (3, .int base), (4, .int k)]) hx hb dX4_digit_63 hl (by decide) rfl (fun ls hl => ?_)
          refine L65 71 0 ((am.toUInt64 >>> ((32 : Int32).toInt64.toUInt64 &&& Int64.toUInt64 63)).toInt64) (am &&& 4294967295) 0 0 ?_ ?_ ?_ _ _ hP hD hS _ (lv_sub hl [6, 7, 8, 9, 5, 4, 3, 2, 1, 0] rfl)
          · omega
          · rw [uN_s32, uN_lo, dgN_0, y1]
            have := sI_rng a
            exact ⟨by omega, by omega, by omega⟩
          · exact Or.inr ⟨rfl, Or.inl ⟨c_52, rfl⟩⟩
        · have c_52 : (0 : Int) ≤ k.toInt := ic_nlt c_52
          refine lv_iconst (v := 1) hx hb dX4_digit_55 (by decide) ?_
          refine lv_goto (tgt := 60) hx hb dX4_digit_56 (by decide) ?_
          refine lv_istore (lv' := [(12, .int 1), (11, .int 0), (9, .long (am &&& 4294967295)), (7, .long ((am.toUInt64 >>> ((32 : Int32).toInt64.toUInt64 &&& Int64.toUInt64 63)).toInt64)), (5, .long am), (0, .ref o), (1, .long a), (3, .int base), (4, .int k)]) hx hb dX4_digit_60 hl (by decide) rfl (fun ls hl => ?_)
          refine lv_iconst (v := 0) hx hb dX4_digit_62 (by decide) ?_
          refine lv_istore (lv' := [(13, .int 0), (12, .int 1), (11, .int 0), (9, .long (am &&& 4294967295)), (7, .long ((am.toUInt64 >>> ((32 : Int32).toInt64.toUInt64 &&& Int64.toUInt64 63)).toInt64)), (5, .long am), (0, .ref o), (1, .long a), (3, .int base), (4, .int k)]) hx hb dX4_digit_63 hl (by decide) rfl (fun ls hl => ?_)
          refine L65 71 0 ((am.toUInt64 >>> ((32 : Int32).toInt64.toUInt64 &&& Int64.toUInt64 63)).toInt64) (am &&& 4294967295) 0 1 ?_ ?_ ?_ _ _ hP hD hS _ (lv_sub hl [6, 7, 8, 9, 5, 4, 3, 2, 1, 0] rfl)
          · omega
          · rw [uN_s32, uN_lo, dgN_0, y1]
            have := sI_rng a
            exact ⟨by omega, by omega, by omega⟩
          · exact Or.inl ⟨rfl, c_52, by omega, fun h => absurd h (by decide)⟩
      refine lv_if_ge (tgt := 29) hx hb dX4_digit_21 (by decide) (fun c_21 => ?_) (fun c_21 => ?_)
      · have c_21 : (0 : Int) ≤ a.toInt := lc_ge c_21
        refine lv_lload_n hx hb dX4_digit_29 rfl (lv_at hl 1 rfl) ?_
        refine J30 a ?_ _ _ hP hD hS _ (lv_sub hl [0, 1, 2, 3] rfl)
        · exact abs_m (Or.inl ⟨c_21, rfl⟩)
      · have c_21 : a.toInt < (0 : Int) := lc_nge c_21
        refine lv_lload_n hx hb dX4_digit_24 rfl (lv_at hl 1 rfl) ?_
        refine lv_lneg hx hb dX4_digit_25 ?_
        refine lv_goto (tgt := 30) hx hb dX4_digit_26 (by decide) ?_
        refine J30 (-a) ?_ _ _ hP hD hS _ (lv_sub hl [0, 1, 2, 3] rfl)
        · exact abs_m (Or.inr ⟨c_21, rfl⟩)
    · have c_13 : (36 : Int) < base.toInt := ic_nle c_13
      refine lv_iconst (v := (-1)) hx hb dX4_digit_16 (by decide) ?_
      exact hret hP hD hS rfl 0 (⟨fun _ => ⟨rfl, rfl⟩, fun q => absurd q (by omega)⟩) [0] rfl (by decide) dX4_digit_17 (Nat.le_of_ble_eq_true rfl) (Nat.le_of_ble_eq_true rfl)
