set_option maxHeartbeats 4000000 in
set_option maxRecDepth 100000 in
theorem c_X4_isPlace (l : Launch) (D : va_G) (cZ cI cJ : ClassId) (x y : Int64) : Ri l D cZ cI cJ yX4_isPlace cX4_isPlace 4 (some .boolean) { frames := 0, cells := 0, slots := 0, locals := 0 } [.long x, .long y] [] (fun r => r = bz (ogr x y)) := by
  refine Ri.of (by decide) ?_
  intro p e s m args below meth c Q hB hret hP
  obtain ⟨hx, hb, hr, hlocks, hml, hown, hnm, hTB, hK⟩ := hB
  have hown : s.vm.findClass RX4 = some m.cls := hown
  have hl := lv_entry ([.long x, .long y]) (n := 4) (Nat.le_of_ble_eq_true rfl)
  rw [lg_entry_eq]
  generalize (lg_sl ([.long x, .long y]) ++ List.replicate (4 - (lg_sl ([.long x, .long y])).length) Slot.unset).toArray = ls at hl ⊢
  have hl : lv_has ls 4 [(0, .long x), (2, .long y)] := hl
  refine lv_lload_n hx hb dX4_isPlace_0 rfl (lv_at hl 0 rfl) ?_
  refine lv_ldc2 (v := (-1099511627776)) hx hb hown (hTB _ tb_6_8) dX4_isPlace_1 ?_
  refine W.lcmp hx hb dX4_isPlace_4 ?_
  refine lv_if_lt (tgt := 36) hx hb dX4_isPlace_5 (by decide) (fun c_5 => ?_) (fun c_5 => ?_)
  · have c_5 : x.toInt < (-1099511627776 : Int) := lc_lt c_5
    refine lv_iconst (v := 0) hx hb dX4_isPlace_36 (by decide) ?_
    exact hret rfl (bz_f (by omega)) dX4_isPlace_37
  · have c_5 : (-1099511627776 : Int) ≤ x.toInt := lc_nlt c_5
    refine lv_lload_n hx hb dX4_isPlace_8 rfl (lv_at hl 0 rfl) ?_
    refine lv_ldc2 (v := 1099511627776) hx hb hown (hTB _ tb_6_9) dX4_isPlace_9 ?_
    refine W.lcmp hx hb dX4_isPlace_12 ?_
    refine lv_if_gt (tgt := 36) hx hb dX4_isPlace_13 (by decide) (fun c_13 => ?_) (fun c_13 => ?_)
    · have c_13 : (1099511627776 : Int) < x.toInt := lc_gt c_13
      refine lv_iconst (v := 0) hx hb dX4_isPlace_36 (by decide) ?_
      exact hret rfl (bz_f (by omega)) dX4_isPlace_37
    · have c_13 : x.toInt ≤ (1099511627776 : Int) := lc_ngt c_13
      refine lv_lload_n hx hb dX4_isPlace_16 rfl (lv_at hl 1 rfl) ?_
      refine lv_ldc2 (v := (-1099511627776)) hx hb hown (hTB _ tb_6_8) dX4_isPlace_17 ?_
      refine W.lcmp hx hb dX4_isPlace_20 ?_
      refine lv_if_lt (tgt := 36) hx hb dX4_isPlace_21 (by decide) (fun c_21 => ?_) (fun c_21 => ?_)
      · have c_21 : y.toInt < (-1099511627776 : Int) := lc_lt c_21
        refine lv_iconst (v := 0) hx hb dX4_isPlace_36 (by decide) ?_
        exact hret rfl (bz_f (by omega)) dX4_isPlace_37
      · have c_21 : (-1099511627776 : Int) ≤ y.toInt := lc_nlt c_21
        refine lv_lload_n hx hb dX4_isPlace_24 rfl (lv_at hl 1 rfl) ?_
        refine lv_ldc2 (v := 1099511627776) hx hb hown (hTB _ tb_6_9) dX4_isPlace_25 ?_
        refine W.lcmp hx hb dX4_isPlace_28 ?_
        refine lv_if_gt (tgt := 36) hx hb dX4_isPlace_29 (by decide) (fun c_29 => ?_) (fun c_29 => ?_)
        · have c_29 : (1099511627776 : Int) < y.toInt := lc_gt c_29
          refine lv_iconst (v := 0) hx hb dX4_isPlace_36 (by decide) ?_
          exact hret rfl (bz_f (by omega)) dX4_isPlace_37
        · have c_29 : y.toInt ≤ (1099511627776 : Int) := lc_ngt c_29
          refine lv_iconst (v := 1) hx hb dX4_isPlace_32 (by decide) ?_
          refine lv_goto (tgt := 37) hx hb dX4_isPlace_33 (by decide) ?_
          exact hret rfl (bz_t (by omega)) dX4_isPlace_37

set_option maxHeartbeats 4000000 in
set_option maxRecDepth 100000 in
theorem c_X4_isLine (l : Launch) (D : va_G) (cZ cI cJ : ClassId) (k : Int32) : Ri l D cZ cI cJ yX4_isLine cX4_isLine 1 (some .boolean) { frames := 0, cells := 0, slots := 0, locals := 0 } [.int k] [] (fun r => r = bz (inr k 16)) := by
  refine Ri.of (by decide) ?_
  intro p e s m args below meth c Q hB hret hP
  obtain ⟨hx, hb, hr, hlocks, hml, hown, hnm, hTB, hK⟩ := hB
  have hown : s.vm.findClass RX4 = some m.cls := hown
  have hl := lv_entry ([.int k]) (n := 1) (Nat.le_of_ble_eq_true rfl)
  rw [lg_entry_eq]
  generalize (lg_sl ([.int k]) ++ List.replicate (1 - (lg_sl ([.int k])).length) Slot.unset).toArray = ls at hl ⊢
  have hl : lv_has ls 1 [(0, .int k)] := hl
  refine lv_iload_n hx hb dX4_isLine_0 rfl (lv_at hl 0 rfl) ?_
  refine lv_if_lt (tgt := 14) hx hb dX4_isLine_1 (by decide) (fun c_1 => ?_) (fun c_1 => ?_)
  · have c_1 : k.toInt < (0 : Int) := ic_lt c_1
    refine lv_iconst (v := 0) hx hb dX4_isLine_14 (by decide) ?_
    exact hret rfl (bz_f (by omega)) dX4_isLine_15
  · have c_1 : (0 : Int) ≤ k.toInt := ic_nlt c_1
    refine lv_iload_n hx hb dX4_isLine_4 rfl (lv_at hl 0 rfl) ?_
    refine lv_bipush (v := 16) hx hb dX4_isLine_5 (by decide) ?_
    refine lv_icmp_ge (tgt := 14) hx hb dX4_isLine_7 (by decide) (fun c_7 => ?_) (fun c_7 => ?_)
    · have c_7 : (16 : Int) ≤ k.toInt := ic_le c_7
      refine lv_iconst (v := 0) hx hb dX4_isLine_14 (by decide) ?_
      exact hret rfl (bz_f (by omega)) dX4_isLine_15
    · have c_7 : k.toInt < (16 : Int) := ic_nle c_7
      refine lv_iconst (v := 1) hx hb dX4_isLine_10 (by decide) ?_
      refine lv_goto (tgt := 15) hx hb dX4_isLine_11 (by decide) ?_
      exact hret rfl (bz_t (by omega)) dX4_isLine_15

set_option maxHeartbeats 4000000 in
set_option maxRecDepth 100000 in
theorem c_X4_less (l : Launch) (D : va_G) (cZ cI cJ : ClassId) (a b : Int64) : Rl l D cZ cI cJ yX4_less cX4_less 4 (some .long) { frames := 0, cells := 0, slots := 0, locals := 0 } [.long a, .long b] [] (fun r => r.toInt = imn a.toInt b.toInt) := by
  refine Rl.of (by decide) ?_
  intro p e s m args below meth c Q hB hret hP
  obtain ⟨hx, hb, hr, hlocks, hml, hown, hnm, hTB, hK⟩ := hB
  have hown : s.vm.findClass RX4 = some m.cls := hown
  have hl := lv_entry ([.long a, .long b]) (n := 4) (Nat.le_of_ble_eq_true rfl)
  rw [lg_entry_eq]
  generalize (lg_sl ([.long a, .long b]) ++ List.replicate (4 - (lg_sl ([.long a, .long b])).length) Slot.unset).toArray = ls at hl ⊢
  have hl : lv_has ls 4 [(0, .long a), (2, .long b)] := hl
  refine lv_lload_n hx hb dX4_less_0 rfl (lv_at hl 0 rfl) ?_
  refine lv_lload_n hx hb dX4_less_1 rfl (lv_at hl 1 rfl) ?_
  refine W.lcmp hx hb dX4_less_2 ?_
  refine lv_if_ge (tgt := 10) hx hb dX4_less_3 (by decide) (fun c_3 => ?_) (fun c_3 => ?_)
  · have c_3 : b.toInt ≤ a.toInt := lc_ge c_3
    refine lv_lload_n hx hb dX4_less_10 rfl (lv_at hl 1 rfl) ?_
    exact hret (by unfold imn; split <;> omega) dX4_less_11
  · have c_3 : a.toInt < b.toInt := lc_nge c_3
    refine lv_lload_n hx hb dX4_less_6 rfl (lv_at hl 0 rfl) ?_
    refine lv_goto (tgt := 11) hx hb dX4_less_7 (by decide) ?_
    exact hret (by unfold imn; split <;> omega) dX4_less_11

set_option maxHeartbeats 4000000 in
set_option maxRecDepth 100000 in
theorem c_X4_turned (l : Launch) (D : va_G) (cZ cI cJ : ClassId) (o wa sa ma tl gx gy tx tz kx ky : Nat) (cd ln cn ah : Int32) (fw : Nat → Int64) (fs : Nat → Int32) (fm : Nat → Int64) (ax ay bx by_ cx cy : Int64) (hlim : lim fw) (hga : ogr ax ay) (hgb : ogr bx by_) (hgc : ogr cx cy) : Ci l D cZ cI cJ yX4_turned cX4_turned 13 (some .int) { frames := 3, cells := 0, slots := 0, locals := 83 } [.ref o, .long ax, .long ay, .long bx, .long by_, .long cx, .long cy] [(o, .inr (4, [.int cd, .ref wa, .ref sa, .ref ma, .ref tl, .ref gx, .ref gy, .ref tx, .ref tz, .int ln, .ref kx, .ref ky, .int cn, .int ah])), (wa, .inl (cJ, 96, .inr (.inl fw))), (sa, .inl (cI, 16, .inl fs)), (ma, .inl (cJ, 12, .inr (.inl fm)))] (S := (Nat → Int64) × (Nat → Int32) × (Nat → Int64)) (fun z u => z = sg (det ax.toInt ay.toInt bx.toInt by_.toInt cx.toInt cy.toInt) ∧ kept fw fs u.1 u.2.1) (fun u => [(o, .inr (4, [.int cd, .ref wa, .ref sa, .ref ma, .ref tl, .ref gx, .ref gy, .ref tx, .ref tz, .int ln, .ref kx, .ref ky, .int cn, .int ah])), (wa, .inl (cJ, 96, .inr (.inl u.1))), (sa, .inl (cI, 16, .inl u.2.1)), (ma, .inl (cJ, 12, .inr (.inl u.2.2)))]) := by
  refine Ci.of (by decide) ?_
  intro p e s m args below meth c A Q hB hret hP hD hA
  obtain ⟨hx, hb, hr, hlocks, hml, hown, hnm, hTB, hK⟩ := hB
  have hown : s.vm.findClass RX4 = some m.cls := hown
  have hS : va_S A s.heap s.heap [] := va_S.rf
  have e1 : (bx - ax).toInt = bx.toInt - ax.toInt := sub_rng (by omega) (by omega)
  have e2 : (by_ - ay).toInt = by_.toInt - ay.toInt := sub_rng (by omega) (by omega)
  have e3 : (cx - ax).toInt = cx.toInt - ax.toInt := sub_rng (by omega) (by omega)
  have e4 : (cy - ay).toInt = cy.toInt - ay.toInt := sub_rng (by omega) (by omega)
  have hl := lv_entry ([.ref o, .long ax, .long ay, .long bx, .long by_, .long cx, .long cy]) (n := 13) (Nat.le_of_ble_eq_true rfl)
  rw [lg_entry_eq]
  generalize (lg_sl ([.ref o, .long ax, .long ay, .long bx, .long by_, .long cx, .long cy]) ++ List.replicate (13 - (lg_sl ([.ref o, .long ax, .long ay, .long bx, .long by_, .long cx, .long cy])).length) Slot.unset).toArray = ls at hl ⊢
  have hl : lv_has ls 13 [(0, .ref o), (1, .long ax), (3, .long ay), (5, .long bx), (7, .long by_), (9, .long cx), (11, .long cy)] := hl
  refine lv_aload_n hx hb dX4_turned_0 rfl (lv_at hl 0 rfl) ?_
  refine lv_iconst (v := 5) hx hb dX4_turned_1 (by decide) ?_
  refine lv_lload hx hb dX4_turned_2 (lv_at hl 3 rfl) ?_
  refine lv_lload_n hx hb dX4_turned_4 rfl (lv_at hl 1 rfl) ?_
  refine lv_lsub hx hb dX4_turned_5 ?_
  refine lv_lload hx hb dX4_turned_6 (lv_at hl 4 rfl) ?_
  refine lv_lload_n hx hb dX4_turned_8 rfl (lv_at hl 2 rfl) ?_
  refine lv_lsub hx hb dX4_turned_9 ?_
  refine lv_lload hx hb dX4_turned_10 (lv_at hl 5 rfl) ?_
  refine lv_lload_n hx hb dX4_turned_12 rfl (lv_at hl 1 rfl) ?_
  refine lv_lsub hx hb dX4_turned_13 ?_
  refine lv_lload hx hb dX4_turned_14 (lv_at hl 6 rfl) ?_
  refine lv_lload_n hx hb dX4_turned_16 rfl (lv_at hl 2 rfl) ?_
  refine lv_lsub hx hb dX4_turned_17 ?_
  refine fin_v (wr := []) (va_runV (As := [.int 5, .long (bx - ax), .long (by_ - ay), .long (cx - ax), .long (cy - ay)]) (rest := []) ⟨hx, hb, hml, hown, hTB⟩ (c_X4_determinant l D cZ cI cJ o wa sa ma tl gx gy tx tz kx ky cd ln cn ah fw fs fm 5 (bx - ax) (by_ - ay) (cx - ax) (cy - ay) hlim (by decide) (by decide) _) (cw_V hTB tb_6_17 tb_1_5 tb_6_14 tb_6_15 tb_6_16 nd_X4_determinant rfl rfl ⟨Nat.le_of_ble_eq_true rfl, Nat.le_of_ble_eq_true rfl⟩) (pre_V (q0 := 0) hK hP hD [0, 1, 2, 3] rfl rfl rfl rfl) rfl rfl hl.1 rfl (lv_room (Nat.le_of_ble_eq_true rfl)) dX4_turned_18 ⟨Nat.le_of_ble_eq_true rfl, Nat.le_of_ble_eq_true rfl⟩) hP hD hS hA [0, 1, 2, 3] [] rfl rfl rfl (by decide) (fun u18 H locs hc18 hP hD hS => ?_)
  obtain ⟨g18, s18, m18⟩ := u18
  dsimp only at hc18
  obtain ⟨lm18, hz18, kp18⟩ := hc18
  have hP : va_P D vwCl [(o, .inr (4, [.int cd, .ref wa, .ref sa, .ref ma, .ref tl, .ref gx, .ref gy, .ref tx, .ref tz, .int ln, .ref kx, .ref ky, .int cn, .int ah])), (wa, .inl (cJ, 96, .inr (.inl g18))), (sa, .inl (cI, 16, .inl s18)), (ma, .inl (cJ, 12, .inr (.inl m18)))] H := hP
  have hD : va_D A [(o, .inr (4, [.int cd, .ref wa, .ref sa, .ref ma, .ref tl, .ref gx, .ref gy, .ref tx, .ref tz, .int ln, .ref kx, .ref ky, .int cn, .int ah])), (wa, .inl (cJ, 96, .inr (.inl g18))), (sa, .inl (cI, 16, .inl s18)), (ma, .inl (cJ, 12, .inr (.inl m18)))] := hD
  refine lv_aload_n hx hb dX4_turned_21 rfl (lv_at hl 0 rfl) ?_
  refine va_get (D := D) (ci := 4) (v := .ref sa) (C := RX4) (T := TX4) (N := 14) hx hb hTB tb_X4 hown hK.1 hP 0 rfl rfl 2 (by decide) (hTB _ tb_3_15) (fun _ h9 => h9) rfl dX4_turned_22 ?_
  refine lv_iconst (v := 5) hx hb dX4_turned_25 (by decide) ?_
  refine va_iald (f := s18) hx hb hK.1 hP 2 1 rfl rfl (vp_in_nI (n := 5) (by decide) (by decide)) dX4_turned_26 ?_
  rw [show (5 : Int32).toNatClampNeg = 5 from rfl]
  exact hret hP hD hS rfl (g18, s18, m18) (⟨by rw [hz18.2, e1, e2, e3, e4]; rfl, lm18, fun e h1 h2 => kp18 e h1 (by omega) (by omega)⟩) [0, 1, 2, 3] rfl (by decide) dX4_turned_27 (Nat.le_of_ble_eq_true rfl) (Nat.le_of_ble_eq_true rfl)

set_option maxHeartbeats 4000000 in
set_option maxRecDepth 100000 in
theorem c_X4_turn (l : Launch) (D : va_G) (cZ cI cJ : ClassId) (o wa sa ma tl gx gy tx tz kx ky : Nat) (cd ln cn ah : Int32) (fw : Nat → Int64) (fs : Nat → Int32) (fm : Nat → Int64) (ax ay bx by_ cx cy : Int64) (hlim : lim fw) : Ci l D cZ cI cJ yX4_turn cX4_turn 13 (some .int) { frames := 4, cells := 0, slots := 0, locals := 115 } [.ref o, .long ax, .long ay, .long bx, .long by_, .long cx, .long cy] [(o, .inr (4, [.int cd, .ref wa, .ref sa, .ref ma, .ref tl, .ref gx, .ref gy, .ref tx, .ref tz, .int ln, .ref kx, .ref ky, .int cn, .int ah])), (wa, .inl (cJ, 96, .inr (.inl fw))), (sa, .inl (cI, 16, .inl fs)), (ma, .inl (cJ, 12, .inr (.inl fm)))] (S := (Nat → Int64) × (Nat → Int32) × (Nat → Int64)) (fun z u => z = trn ax ay bx by_ cx cy ∧ kept fw fs u.1 u.2.1) (fun u => [(o, .inr (4, [.int 0, .ref wa, .ref sa, .ref ma, .ref tl, .ref gx, .ref gy, .ref tx, .ref tz, .int ln, .ref kx, .ref ky, .int cn, .int ah])), (wa, .inl (cJ, 96, .inr (.inl u.1))), (sa, .inl (cI, 16, .inl u.2.1)), (ma, .inl (cJ, 12, .inr (.inl u.2.2)))]) := by
  refine Ci.of (by decide) ?_
  intro p e s m args below meth c A Q hB hret hP hD hA
  obtain ⟨hx, hb, hr, hlocks, hml, hown, hnm, hTB, hK⟩ := hB
  have hown : s.vm.findClass RX4 = some m.cls := hown
  have hS : va_S A s.heap s.heap [] := va_S.rf
  have hl := lv_entry ([.ref o, .long ax, .long ay, .long bx, .long by_, .long cx, .long cy]) (n := 13) (Nat.le_of_ble_eq_true rfl)
  rw [lg_entry_eq]
  generalize (lg_sl ([.ref o, .long ax, .long ay, .long bx, .long by_, .long cx, .long cy]) ++ List.replicate (13 - (lg_sl ([.ref o, .long ax, .long ay, .long bx, .long by_, .long cx, .long cy])).length) Slot.unset).toArray = ls at hl ⊢
  have hl : lv_has ls 13 [(0, .ref o), (1, .long ax), (3, .long ay), (5, .long bx), (7, .long by_), (9, .long cx), (11, .long cy)] := hl
  refine lv_aload_n hx hb dX4_turn_0 rfl (lv_at hl 0 rfl) ?_
  refine lv_iconst (v := 0) hx hb dX4_turn_1 (by decide) ?_
  refine va_put (D := D) (ci := 4) (v := .int 0) (ty := .int) (C := RX4) (T := TX4) (N := 14) hx hb hTB tb_X4 tyX4 tyX4_ok nmX4 hown hK.1 hP hD hS 0 rfl rfl 0 (by decide) (hTB _ tb_6_4) (fun _ h9 => h9) rfl (by decide +kernel) rfl rfl (Nat.le_of_ble_eq_true rfl) dX4_turn_2 (fun H locs hP hD hS => ?_)
  have hP : va_P D vwCl [(o, .inr (4, [.int 0, .ref wa, .ref sa, .ref ma, .ref tl, .ref gx, .ref gy, .ref tx, .ref tz, .int ln, .ref kx, .ref ky, .int cn, .int ah])), (wa, .inl (cJ, 96, .inr (.inl fw))), (sa, .inl (cI, 16, .inl fs)), (ma, .inl (cJ, 12, .inr (.inl fm)))] H := hP
  have hD : va_D A [(o, .inr (4, [.int 0, .ref wa, .ref sa, .ref ma, .ref tl, .ref gx, .ref gy, .ref tx, .ref tz, .int ln, .ref kx, .ref ky, .int cn, .int ah])), (wa, .inl (cJ, 96, .inr (.inl fw))), (sa, .inl (cI, 16, .inl fs)), (ma, .inl (cJ, 12, .inr (.inl fm)))] := hD
  refine lv_lload_n hx hb dX4_turn_5 rfl (lv_at hl 1 rfl) ?_
  refine lv_lload_n hx hb dX4_turn_6 rfl (lv_at hl 2 rfl) ?_
  refine vp_callSi (va_runS (As := [.long ax, .long ay]) (rest := []) ⟨hx, hb, hml, hown, hTB⟩ (c_X4_isPlace l D cZ cI cJ ax ay) (cw_S hTB tb_6_7 tb_1_5 tb_6_5 tb_6_6 nd_X4_isPlace rfl rfl ⟨Nat.le_of_ble_eq_true rfl, Nat.le_of_ble_eq_true rfl⟩) (prr_S hK hP [] rfl) rfl rfl hl.1 rfl (lv_room (Nat.le_of_ble_eq_true rfl)) dX4_turn_7 ⟨Nat.le_of_ble_eq_true rfl, Nat.le_of_ble_eq_true rfl⟩).run (fun r7 hc7 => ?_)
  subst hc7
  refine lv_if_eq (tgt := 50) hx hb dX4_turn_10 (by decide) (fun c_10 => ?_) (fun c_10 => ?_)
  · have c_10 := bz_0 c_10
    refine lv_bipush (v := (-2)) hx hb dX4_turn_50 (by decide) ?_
    exact hret hP hD hS rfl (fw, fs, fm) (⟨by unfold trn; rw [if_neg]; intro q; exact c_10 q.1, kept.rf hlim⟩) [0, 1, 2, 3] rfl (by decide) dX4_turn_52 (Nat.le_of_ble_eq_true rfl) (Nat.le_of_ble_eq_true rfl)
  · have c_10 := bz_1 c_10
    refine lv_lload hx hb dX4_turn_13 (lv_at hl 3 rfl) ?_
    refine lv_lload hx hb dX4_turn_15 (lv_at hl 4 rfl) ?_
    refine vp_callSi (va_runS (As := [.long bx, .long by_]) (rest := []) ⟨hx, hb, hml, hown, hTB⟩ (c_X4_isPlace l D cZ cI cJ bx by_) (cw_S hTB tb_6_7 tb_1_5 tb_6_5 tb_6_6 nd_X4_isPlace rfl rfl ⟨Nat.le_of_ble_eq_true rfl, Nat.le_of_ble_eq_true rfl⟩) (prr_S hK hP [] rfl) rfl rfl hl.1 rfl (lv_room (Nat.le_of_ble_eq_true rfl)) dX4_turn_17 ⟨Nat.le_of_ble_eq_true rfl, Nat.le_of_ble_eq_true rfl⟩).run (fun r17 hc17 => ?_)
    subst hc17
    refine lv_if_eq (tgt := 50) hx hb dX4_turn_20 (by decide) (fun c_20 => ?_) (fun c_20 => ?_)
    · have c_20 := bz_0 c_20
      refine lv_bipush (v := (-2)) hx hb dX4_turn_50 (by decide) ?_
      exact hret hP hD hS rfl (fw, fs, fm) (⟨by unfold trn; rw [if_neg]; intro q; exact c_20 q.2.1, kept.rf hlim⟩) [0, 1, 2, 3] rfl (by decide) dX4_turn_52 (Nat.le_of_ble_eq_true rfl) (Nat.le_of_ble_eq_true rfl)
    · have c_20 := bz_1 c_20
      refine lv_lload hx hb dX4_turn_23 (lv_at hl 5 rfl) ?_
      refine lv_lload hx hb dX4_turn_25 (lv_at hl 6 rfl) ?_
      refine vp_callSi (va_runS (As := [.long cx, .long cy]) (rest := []) ⟨hx, hb, hml, hown, hTB⟩ (c_X4_isPlace l D cZ cI cJ cx cy) (cw_S hTB tb_6_7 tb_1_5 tb_6_5 tb_6_6 nd_X4_isPlace rfl rfl ⟨Nat.le_of_ble_eq_true rfl, Nat.le_of_ble_eq_true rfl⟩) (prr_S hK hP [] rfl) rfl rfl hl.1 rfl (lv_room (Nat.le_of_ble_eq_true rfl)) dX4_turn_27 ⟨Nat.le_of_ble_eq_true rfl, Nat.le_of_ble_eq_true rfl⟩).run (fun r27 hc27 => ?_)
      subst hc27
      refine lv_if_eq (tgt := 50) hx hb dX4_turn_30 (by decide) (fun c_30 => ?_) (fun c_30 => ?_)
      · have c_30 := bz_0 c_30
        refine lv_bipush (v := (-2)) hx hb dX4_turn_50 (by decide) ?_
        exact hret hP hD hS rfl (fw, fs, fm) (⟨by unfold trn; rw [if_neg]; intro q; exact c_30 q.2.2, kept.rf hlim⟩) [0, 1, 2, 3] rfl (by decide) dX4_turn_52 (Nat.le_of_ble_eq_true rfl) (Nat.le_of_ble_eq_true rfl)
      · have c_30 := bz_1 c_30
        refine lv_aload_n hx hb dX4_turn_33 rfl (lv_at hl 0 rfl) ?_
        refine lv_lload_n hx hb dX4_turn_34 rfl (lv_at hl 1 rfl) ?_
        refine lv_lload_n hx hb dX4_turn_35 rfl (lv_at hl 2 rfl) ?_
        refine lv_lload hx hb dX4_turn_36 (lv_at hl 3 rfl) ?_
        refine lv_lload hx hb dX4_turn_38 (lv_at hl 4 rfl) ?_
        refine lv_lload hx hb dX4_turn_40 (lv_at hl 5 rfl) ?_
        refine lv_lload hx hb dX4_turn_42 (lv_at hl 6 rfl) ?_
        refine fin_i (wr := []) (va_runV (As := [.long ax, .long ay, .long bx, .long by_, .long cx, .long cy]) (rest := []) ⟨hx, hb, hml, hown, hTB⟩ (c_X4_turned l D cZ cI cJ o wa sa ma tl gx gy tx tz kx ky 0 ln cn ah fw fs fm ax ay bx by_ cx cy hlim c_10 c_20 c_30 _) (cw_V hTB tb_6_13 tb_1_5 tb_6_10 tb_6_11 tb_6_12 nd_X4_turned rfl rfl ⟨Nat.le_of_ble_eq_true rfl, Nat.le_of_ble_eq_true rfl⟩) (pre_V (q0 := 0) hK hP hD [0, 1, 2, 3] rfl rfl rfl rfl) rfl rfl hl.1 rfl (lv_room (Nat.le_of_ble_eq_true rfl)) dX4_turn_44 ⟨Nat.le_of_ble_eq_true rfl, Nat.le_of_ble_eq_true rfl⟩) hP hD hS hA [0, 1, 2, 3] [] rfl rfl rfl (by decide) (fun r44 u44 H locs hc44 hP hD hS => ?_)
        obtain ⟨g44, s44, m44⟩ := u44
        dsimp only at hc44
        obtain ⟨hz44, kp44⟩ := hc44
        have hP : va_P D vwCl [(o, .inr (4, [.int 0, .ref wa, .ref sa, .ref ma, .ref tl, .ref gx, .ref gy, .ref tx, .ref tz, .int ln, .ref kx, .ref ky, .int cn, .int ah])), (wa, .inl (cJ, 96, .inr (.inl g44))), (sa, .inl (cI, 16, .inl s44)), (ma, .inl (cJ, 12, .inr (.inl m44)))] H := hP
        have hD : va_D A [(o, .inr (4, [.int 0, .ref wa, .ref sa, .ref ma, .ref tl, .ref gx, .ref gy, .ref tx, .ref tz, .int ln, .ref kx, .ref ky, .int cn, .int ah])), (wa, .inl (cJ, 96, .inr (.inl g44))), (sa, .inl (cI, 16, .inl s44)), (ma, .inl (cJ, 12, .inr (.inl m44)))] := hD
        subst hz44
        refine lv_goto (tgt := 52) hx hb dX4_turn_47 (by decide) ?_
        exact hret hP hD hS rfl (g44, s44, m44) (⟨by unfold trn; rw [if_pos ⟨c_10, c_20, c_30⟩], kp44⟩) [0, 1, 2, 3] rfl (by decide) dX4_turn_52 (Nat.le_of_ble_eq_true rfl) (Nat.le_of_ble_eq_true rfl)

set_option maxHeartbeats 4000000 in
set_option maxRecDepth 100000 in
theorem c_X4_line (l : Launch) (D : va_G) (cZ cI cJ : ClassId) (o wa sa ma tl gx gy tx tz kx ky : Nat) (cd ln cn ah : Int32) (ft : Nat → Int32) (fgx fgy ftx fty : Nat → Int64) (k : Int32) (x0 y0 x1 y1 : Int64) : Ci l D cZ cI cJ yX4_line cX4_line 10 (some .boolean) { frames := 1, cells := 0, slots := 0, locals := 23 } [.ref o, .int k, .long x0, .long y0, .long x1, .long y1] [(o, .inr (4, [.int cd, .ref wa, .ref sa, .ref ma, .ref tl, .ref gx, .ref gy, .ref tx, .ref tz, .int ln, .ref kx, .ref ky, .int cn, .int ah])), (tl, .inl (cZ, 16, .inl ft)), (gx, .inl (cJ, 16, .inr (.inl fgx))), (gy, .inl (cJ, 16, .inr (.inl fgy))), (tx, .inl (cJ, 16, .inr (.inl ftx))), (tz, .inl (cJ, 16, .inr (.inl fty)))] (S := Int32 × (Nat → Int32) × (Nat → Int64) × (Nat → Int64) × (Nat → Int64) × (Nat → Int64)) (fun z u => z = bz (lnok k x0 y0 x1 y1) ∧ (lnok k x0 y0 x1 y1 → u = (if ft k.toNatClampNeg = 0 then ln + 1 else ln, upd ft k.toNatClampNeg 1, vp_updL fgx k.toNatClampNeg x0, vp_updL fgy k.toNatClampNeg y0, vp_updL ftx k.toNatClampNeg x1, vp_updL fty k.toNatClampNeg y1)) ∧ (¬ lnok k x0 y0 x1 y1 → u = (ln, ft, fgx, fgy, ftx, fty))) (fun u => [(o, .inr (4, [.int 0, .ref wa, .ref sa, .ref ma, .ref tl, .ref gx, .ref gy, .ref tx, .ref tz, .int u.1, .ref kx, .ref ky, .int cn, .int ah])), (tl, .inl (cZ, 16, .inl u.2.1)), (gx, .inl (cJ, 16, .inr (.inl u.2.2.1))), (gy, .inl (cJ, 16, .inr (.inl u.2.2.2.1))), (tx, .inl (cJ, 16, .inr (.inl u.2.2.2.2.1))), (tz, .inl (cJ, 16, .inr (.inl u.2.2.2.2.2)))]) := by
  refine Ci.of (by decide) ?_
  intro p e s m args below meth c A Q hB hret hP hD hA
  obtain ⟨hx, hb, hr, hlocks, hml, hown, hnm, hTB, hK⟩ := hB
  have hown : s.vm.findClass RX4 = some m.cls := hown
  have hS : va_S A s.heap s.heap [] := va_S.rf
  have hl := lv_entry ([.ref o, .int k, .long x0, .long y0, .long x1, .long y1]) (n := 10) (Nat.le_of_ble_eq_true rfl)
  rw [lg_entry_eq]
  generalize (lg_sl ([.ref o, .int k, .long x0, .long y0, .long x1, .long y1]) ++ List.replicate (10 - (lg_sl ([.ref o, .int k, .long x0, .long y0, .long x1, .long y1])).length) Slot.unset).toArray = ls at hl ⊢
  have hl : lv_has ls 10 [(0, .ref o), (1, .int k), (2, .long x0), (4, .long y0), (6, .long x1), (8, .long y1)] := hl
  refine lv_aload_n hx hb dX4_line_0 rfl (lv_at hl 0 rfl) ?_
  refine lv_iconst (v := 0) hx hb dX4_line_1 (by decide) ?_
  refine va_put (D := D) (ci := 4) (v := .int 0) (ty := .int) (C := RX4) (T := TX4) (N := 14) hx hb hTB tb_X4 tyX4 tyX4_ok nmX4 hown hK.1 hP hD hS 0 rfl rfl 0 (by decide) (hTB _ tb_6_4) (fun _ h9 => h9) rfl (by decide +kernel) rfl rfl (Nat.le_of_ble_eq_true rfl) dX4_line_2 (fun H locs hP hD hS => ?_)
  have hP : va_P D vwCl [(o, .inr (4, [.int 0, .ref wa, .ref sa, .ref ma, .ref tl, .ref gx, .ref gy, .ref tx, .ref tz, .int ln, .ref kx, .ref ky, .int cn, .int ah])), (tl, .inl (cZ, 16, .inl ft)), (gx, .inl (cJ, 16, .inr (.inl fgx))), (gy, .inl (cJ, 16, .inr (.inl fgy))), (tx, .inl (cJ, 16, .inr (.inl ftx))), (tz, .inl (cJ, 16, .inr (.inl fty)))] H := hP
  have hD : va_D A [(o, .inr (4, [.int 0, .ref wa, .ref sa, .ref ma, .ref tl, .ref gx, .ref gy, .ref tx, .ref tz, .int ln, .ref kx, .ref ky, .int cn, .int ah])), (tl, .inl (cZ, 16, .inl ft)), (gx, .inl (cJ, 16, .inr (.inl fgx))), (gy, .inl (cJ, 16, .inr (.inl fgy))), (tx, .inl (cJ, 16, .inr (.inl ftx))), (tz, .inl (cJ, 16, .inr (.inl fty)))] := hD
  refine lv_iload_n hx hb dX4_line_5 rfl (lv_at hl 1 rfl) ?_
  refine vp_callSi (va_runS (As := [.int k]) (rest := []) ⟨hx, hb, hml, hown, hTB⟩ (c_X4_isLine l D cZ cI cJ k) (cw_S hTB tb_8_6 tb_1_5 tb_8_4 tb_8_5 nd_X4_isLine rfl rfl ⟨Nat.le_of_ble_eq_true rfl, Nat.le_of_ble_eq_true rfl⟩) (prr_S hK hP [] rfl) rfl rfl hl.1 rfl (lv_room (Nat.le_of_ble_eq_true rfl)) dX4_line_6 ⟨Nat.le_of_ble_eq_true rfl, Nat.le_of_ble_eq_true rfl⟩).run (fun r6 hc6 => ?_)
  subst hc6
  refine lv_if_eq (tgt := 46) hx hb dX4_line_9 (by decide) (fun c_9 => ?_) (fun c_9 => ?_)
  · have c_9 := bz_0 c_9
    refine lv_iconst (v := 0) hx hb dX4_line_46 (by decide) ?_
    exact hret hP hD hS rfl (ln, ft, fgx, fgy, ftx, fty) (⟨bz_f (fun q => c_9 ⟨q.1, q.2.1⟩), fun q => absurd q (fun q => c_9 ⟨q.1, q.2.1⟩), fun _ => rfl⟩) [0, 1, 2, 3, 4, 5] rfl (by decide) dX4_line_47 (Nat.le_of_ble_eq_true rfl) (Nat.le_of_ble_eq_true rfl)
  · have c_9 := bz_1 c_9
    refine lv_lload_n hx hb dX4_line_12 rfl (lv_at hl 2 rfl) ?_
    refine lv_lload hx hb dX4_line_13 (lv_at hl 3 rfl) ?_
    refine vp_callSi (va_runS (As := [.long x0, .long y0]) (rest := []) ⟨hx, hb, hml, hown, hTB⟩ (c_X4_isPlace l D cZ cI cJ x0 y0) (cw_S hTB tb_6_7 tb_1_5 tb_6_5 tb_6_6 nd_X4_isPlace rfl rfl ⟨Nat.le_of_ble_eq_true rfl, Nat.le_of_ble_eq_true rfl⟩) (prr_S hK hP [] rfl) rfl rfl hl.1 rfl (lv_room (Nat.le_of_ble_eq_true rfl)) dX4_line_15 ⟨Nat.le_of_ble_eq_true rfl, Nat.le_of_ble_eq_true rfl⟩).run (fun r15 hc15 => ?_)
    subst hc15
    refine lv_if_eq (tgt := 46) hx hb dX4_line_18 (by decide) (fun c_18 => ?_) (fun c_18 => ?_)
    · have c_18 := bz_0 c_18
      refine lv_iconst (v := 0) hx hb dX4_line_46 (by decide) ?_
      exact hret hP hD hS rfl (ln, ft, fgx, fgy, ftx, fty) (⟨bz_f (fun q => c_18 q.2.2.1), fun q => absurd q (fun q => c_18 q.2.2.1), fun _ => rfl⟩) [0, 1, 2, 3, 4, 5] rfl (by decide) dX4_line_47 (Nat.le_of_ble_eq_true rfl) (Nat.le_of_ble_eq_true rfl)
    · have c_18 := bz_1 c_18
      refine lv_lload hx hb dX4_line_21 (lv_at hl 4 rfl) ?_
      refine lv_lload hx hb dX4_line_23 (lv_at hl 5 rfl) ?_
      refine vp_callSi (va_runS (As := [.long x1, .long y1]) (rest := []) ⟨hx, hb, hml, hown, hTB⟩ (c_X4_isPlace l D cZ cI cJ x1 y1) (cw_S hTB tb_6_7 tb_1_5 tb_6_5 tb_6_6 nd_X4_isPlace rfl rfl ⟨Nat.le_of_ble_eq_true rfl, Nat.le_of_ble_eq_true rfl⟩) (prr_S hK hP [] rfl) rfl rfl hl.1 rfl (lv_room (Nat.le_of_ble_eq_true rfl)) dX4_line_25 ⟨Nat.le_of_ble_eq_true rfl, Nat.le_of_ble_eq_true rfl⟩).run (fun r25 hc25 => ?_)
      subst hc25
      refine lv_if_eq (tgt := 46) hx hb dX4_line_28 (by decide) (fun c_28 => ?_) (fun c_28 => ?_)
      · have c_28 := bz_0 c_28
        refine lv_iconst (v := 0) hx hb dX4_line_46 (by decide) ?_
        exact hret hP hD hS rfl (ln, ft, fgx, fgy, ftx, fty) (⟨bz_f (fun q => c_28 q.2.2.2.1), fun q => absurd q (fun q => c_28 q.2.2.2.1), fun _ => rfl⟩) [0, 1, 2, 3, 4, 5] rfl (by decide) dX4_line_47 (Nat.le_of_ble_eq_true rfl) (Nat.le_of_ble_eq_true rfl)
      · have c_28 := bz_1 c_28
        refine lv_lload_n hx hb dX4_line_31 rfl (lv_at hl 2 rfl) ?_
        refine lv_lload hx hb dX4_line_32 (lv_at hl 4 rfl) ?_
        refine W.lcmp hx hb dX4_line_34 ?_
        refine lv_if_ne (tgt := 48) hx hb dX4_line_35 (by decide) (fun c_35 => ?_) (fun c_35 => ?_)
        · have c_35 : x0.toInt ≠ x1.toInt := lc_ne c_35
          refine lv_aload_n hx hb dX4_line_48 rfl (lv_at hl 0 rfl) ?_
          refine lv_aload_n hx hb dX4_line_49 rfl (lv_at hl 0 rfl) ?_
          refine va_get (D := D) (ci := 4) (v := .ref tl) (C := RX4) (T := TX4) (N := 14) hx hb hTB tb_X4 hown hK.1 hP 0 rfl rfl 4 (by decide) (hTB _ tb_3_17) (fun _ h9 => h9) rfl dX4_line_50 ?_
          refine lv_iload_n hx hb dX4_line_53 rfl (lv_at hl 1 rfl) ?_
          refine va_zald (f := ft) hx hb hK.1 hP 1 0 rfl rfl (vp_in_iff.mpr ⟨by omega, by omega⟩) dX4_line_54 ?_
          refine lv_if_eq (tgt := 65) hx hb dX4_line_55 (by decide) (fun c_55 => ?_) (fun c_55 => ?_)
          · refine lv_aload_n hx hb dX4_line_65 rfl (lv_at hl 0 rfl) ?_
            refine va_get (D := D) (ci := 4) (v := .int ln) (C := RX4) (T := TX4) (N := 14) hx hb hTB tb_X4 hown hK.1 hP 0 rfl rfl 9 (by decide) (hTB _ tb_8_3) (fun _ h9 => h9) rfl dX4_line_66 ?_
            refine lv_iconst (v := 1) hx hb dX4_line_69 (by decide) ?_
            refine lv_iadd hx hb dX4_line_70 ?_
            refine va_put (D := D) (ci := 4) (v := .int (ln + 1)) (ty := .int) (C := RX4) (T := TX4) (N := 14) hx hb hTB tb_X4 tyX4 tyX4_ok nmX4 hown hK.1 hP hD hS 0 rfl rfl 9 (by decide) (hTB _ tb_8_3) (fun _ h9 => h9) rfl (by decide +kernel) rfl rfl (Nat.le_of_ble_eq_true rfl) dX4_line_71 (fun H locs hP hD hS => ?_)
            have hP : va_P D vwCl [(o, .inr (4, [.int 0, .ref wa, .ref sa, .ref ma, .ref tl, .ref gx, .ref gy, .ref tx, .ref tz, .int (ln + 1), .ref kx, .ref ky, .int cn, .int ah])), (tl, .inl (cZ, 16, .inl ft)), (gx, .inl (cJ, 16, .inr (.inl fgx))), (gy, .inl (cJ, 16, .inr (.inl fgy))), (tx, .inl (cJ, 16, .inr (.inl ftx))), (tz, .inl (cJ, 16, .inr (.inl fty)))] H := hP
            have hD : va_D A [(o, .inr (4, [.int 0, .ref wa, .ref sa, .ref ma, .ref tl, .ref gx, .ref gy, .ref tx, .ref tz, .int (ln + 1), .ref kx, .ref ky, .int cn, .int ah])), (tl, .inl (cZ, 16, .inl ft)), (gx, .inl (cJ, 16, .inr (.inl fgx))), (gy, .inl (cJ, 16, .inr (.inl fgy))), (tx, .inl (cJ, 16, .inr (.inl ftx))), (tz, .inl (cJ, 16, .inr (.inl fty)))] := hD
            refine lv_aload_n hx hb dX4_line_74 rfl (lv_at hl 0 rfl) ?_
            refine va_get (D := D) (ci := 4) (v := .ref tl) (C := RX4) (T := TX4) (N := 14) hx hb hTB tb_X4 hown hK.1 hP 0 rfl rfl 4 (by decide) (hTB _ tb_3_17) (fun _ h9 => h9) rfl dX4_line_75 ?_
            refine lv_iload_n hx hb dX4_line_78 rfl (lv_at hl 1 rfl) ?_
            refine lv_iconst (v := 1) hx hb dX4_line_79 (by decide) ?_
            refine va_zast (f := ft) hx hb hK.1 hP hD hS 1 0 rfl rfl (vp_in_iff.mpr ⟨by omega, by omega⟩) dX4_line_80 (fun H locs hP hD hS => ?_)
            have hP : va_P D vwCl [(o, .inr (4, [.int 0, .ref wa, .ref sa, .ref ma, .ref tl, .ref gx, .ref gy, .ref tx, .ref tz, .int (ln + 1), .ref kx, .ref ky, .int cn, .int ah])), (tl, .inl (cZ, 16, .inl (upd ft k.toNatClampNeg 1))), (gx, .inl (cJ, 16, .inr (.inl fgx))), (gy, .inl (cJ, 16, .inr (.inl fgy))), (tx, .inl (cJ, 16, .inr (.inl ftx))), (tz, .inl (cJ, 16, .inr (.inl fty)))] H := hP
            have hD : va_D A [(o, .inr (4, [.int 0, .ref wa, .ref sa, .ref ma, .ref tl, .ref gx, .ref gy, .ref tx, .ref tz, .int (ln + 1), .ref kx, .ref ky, .int cn, .int ah])), (tl, .inl (cZ, 16, .inl (upd ft k.toNatClampNeg 1))), (gx, .inl (cJ, 16, .inr (.inl fgx))), (gy, .inl (cJ, 16, .inr (.inl fgy))), (tx, .inl (cJ, 16, .inr (.inl ftx))), (tz, .inl (cJ, 16, .inr (.inl fty)))] := hD
            refine lv_aload_n hx hb dX4_line_81 rfl (lv_at hl 0 rfl) ?_
            refine va_get (D := D) (ci := 4) (v := .ref gx) (C := RX4) (T := TX4) (N := 14) hx hb hTB tb_X4 hown hK.1 hP 0 rfl rfl 5 (by decide) (hTB _ tb_3_18) (fun _ h9 => h9) rfl dX4_line_82 ?_
            refine lv_iload_n hx hb dX4_line_85 rfl (lv_at hl 1 rfl) ?_
            refine lv_lload_n hx hb dX4_line_86 rfl (lv_at hl 2 rfl) ?_
            refine va_last (f := fgx) hx hb hK.1 hP hD hS 2 2 rfl rfl (vp_in_iff.mpr ⟨by omega, by omega⟩) dX4_line_87 (fun H locs hP hD hS => ?_)
            have hP : va_P D vwCl [(o, .inr (4, [.int 0, .ref wa, .ref sa, .ref ma, .ref tl, .ref gx, .ref gy, .ref tx, .ref tz, .int (ln + 1), .ref kx, .ref ky, .int cn, .int ah])), (tl, .inl (cZ, 16, .inl (upd ft k.toNatClampNeg 1))), (gx, .inl (cJ, 16, .inr (.inl (vp_updL fgx k.toNatClampNeg x0)))), (gy, .inl (cJ, 16, .inr (.inl fgy))), (tx, .inl (cJ, 16, .inr (.inl ftx))), (tz, .inl (cJ, 16, .inr (.inl fty)))] H := hP
            have hD : va_D A [(o, .inr (4, [.int 0, .ref wa, .ref sa, .ref ma, .ref tl, .ref gx, .ref gy, .ref tx, .ref tz, .int (ln + 1), .ref kx, .ref ky, .int cn, .int ah])), (tl, .inl (cZ, 16, .inl (upd ft k.toNatClampNeg 1))), (gx, .inl (cJ, 16, .inr (.inl (vp_updL fgx k.toNatClampNeg x0)))), (gy, .inl (cJ, 16, .inr (.inl fgy))), (tx, .inl (cJ, 16, .inr (.inl ftx))), (tz, .inl (cJ, 16, .inr (.inl fty)))] := hD
            refine lv_aload_n hx hb dX4_line_88 rfl (lv_at hl 0 rfl) ?_
            refine va_get (D := D) (ci := 4) (v := .ref gy) (C := RX4) (T := TX4) (N := 14) hx hb hTB tb_X4 hown hK.1 hP 0 rfl rfl 6 (by decide) (hTB _ tb_3_19) (fun _ h9 => h9) rfl dX4_line_89 ?_
            refine lv_iload_n hx hb dX4_line_92 rfl (lv_at hl 1 rfl) ?_
            refine lv_lload hx hb dX4_line_93 (lv_at hl 3 rfl) ?_
            refine va_last (f := fgy) hx hb hK.1 hP hD hS 3 2 rfl rfl (vp_in_iff.mpr ⟨by omega, by omega⟩) dX4_line_95 (fun H locs hP hD hS => ?_)
            have hP : va_P D vwCl [(o, .inr (4, [.int 0, .ref wa, .ref sa, .ref ma, .ref tl, .ref gx, .ref gy, .ref tx, .ref tz, .int (ln + 1), .ref kx, .ref ky, .int cn, .int ah])), (tl, .inl (cZ, 16, .inl (upd ft k.toNatClampNeg 1))), (gx, .inl (cJ, 16, .inr (.inl (vp_updL fgx k.toNatClampNeg x0)))), (gy, .inl (cJ, 16, .inr (.inl (vp_updL fgy k.toNatClampNeg y0)))), (tx, .inl (cJ, 16, .inr (.inl ftx))), (tz, .inl (cJ, 16, .inr (.inl fty)))] H := hP
            have hD : va_D A [(o, .inr (4, [.int 0, .ref wa, .ref sa, .ref ma, .ref tl, .ref gx, .ref gy, .ref tx, .ref tz, .int (ln + 1), .ref kx, .ref ky, .int cn, .int ah])), (tl, .inl (cZ, 16, .inl (upd ft k.toNatClampNeg 1))), (gx, .inl (cJ, 16, .inr (.inl (vp_updL fgx k.toNatClampNeg x0)))), (gy, .inl (cJ, 16, .inr (.inl (vp_updL fgy k.toNatClampNeg y0)))), (tx, .inl (cJ, 16, .inr (.inl ftx))), (tz, .inl (cJ, 16, .inr (.inl fty)))] := hD
            refine lv_aload_n hx hb dX4_line_96 rfl (lv_at hl 0 rfl) ?_
            refine va_get (D := D) (ci := 4) (v := .ref tx) (C := RX4) (T := TX4) (N := 14) hx hb hTB tb_X4 hown hK.1 hP 0 rfl rfl 7 (by decide) (hTB _ tb_3_20) (fun _ h9 => h9) rfl dX4_line_97 ?_
            refine lv_iload_n hx hb dX4_line_100 rfl (lv_at hl 1 rfl) ?_
            refine lv_lload hx hb dX4_line_101 (lv_at hl 4 rfl) ?_
            refine va_last (f := ftx) hx hb hK.1 hP hD hS 4 2 rfl rfl (vp_in_iff.mpr ⟨by omega, by omega⟩) dX4_line_103 (fun H locs hP hD hS => ?_)
            have hP : va_P D vwCl [(o, .inr (4, [.int 0, .ref wa, .ref sa, .ref ma, .ref tl, .ref gx, .ref gy, .ref tx, .ref tz, .int (ln + 1), .ref kx, .ref ky, .int cn, .int ah])), (tl, .inl (cZ, 16, .inl (upd ft k.toNatClampNeg 1))), (gx, .inl (cJ, 16, .inr (.inl (vp_updL fgx k.toNatClampNeg x0)))), (gy, .inl (cJ, 16, .inr (.inl (vp_updL fgy k.toNatClampNeg y0)))), (tx, .inl (cJ, 16, .inr (.inl (vp_updL ftx k.toNatClampNeg x1)))), (tz, .inl (cJ, 16, .inr (.inl fty)))] H := hP
            have hD : va_D A [(o, .inr (4, [.int 0, .ref wa, .ref sa, .ref ma, .ref tl, .ref gx, .ref gy, .ref tx, .ref tz, .int (ln + 1), .ref kx, .ref ky, .int cn, .int ah])), (tl, .inl (cZ, 16, .inl (upd ft k.toNatClampNeg 1))), (gx, .inl (cJ, 16, .inr (.inl (vp_updL fgx k.toNatClampNeg x0)))), (gy, .inl (cJ, 16, .inr (.inl (vp_updL fgy k.toNatClampNeg y0)))), (tx, .inl (cJ, 16, .inr (.inl (vp_updL ftx k.toNatClampNeg x1)))), (tz, .inl (cJ, 16, .inr (.inl fty)))] := hD
            refine lv_aload_n hx hb dX4_line_104 rfl (lv_at hl 0 rfl) ?_
            refine va_get (D := D) (ci := 4) (v := .ref tz) (C := RX4) (T := TX4) (N := 14) hx hb hTB tb_X4 hown hK.1 hP 0 rfl rfl 8 (by decide) (hTB _ tb_3_21) (fun _ h9 => h9) rfl dX4_line_105 ?_
            refine lv_iload_n hx hb dX4_line_108 rfl (lv_at hl 1 rfl) ?_
            refine lv_lload hx hb dX4_line_109 (lv_at hl 5 rfl) ?_
            refine va_last (f := fty) hx hb hK.1 hP hD hS 5 2 rfl rfl (vp_in_iff.mpr ⟨by omega, by omega⟩) dX4_line_111 (fun H locs hP hD hS => ?_)
            have hP : va_P D vwCl [(o, .inr (4, [.int 0, .ref wa, .ref sa, .ref ma, .ref tl, .ref gx, .ref gy, .ref tx, .ref tz, .int (ln + 1), .ref kx, .ref ky, .int cn, .int ah])), (tl, .inl (cZ, 16, .inl (upd ft k.toNatClampNeg 1))), (gx, .inl (cJ, 16, .inr (.inl (vp_updL fgx k.toNatClampNeg x0)))), (gy, .inl (cJ, 16, .inr (.inl (vp_updL fgy k.toNatClampNeg y0)))), (tx, .inl (cJ, 16, .inr (.inl (vp_updL ftx k.toNatClampNeg x1)))), (tz, .inl (cJ, 16, .inr (.inl (vp_updL fty k.toNatClampNeg y1))))] H := hP
            have hD : va_D A [(o, .inr (4, [.int 0, .ref wa, .ref sa, .ref ma, .ref tl, .ref gx, .ref gy, .ref tx, .ref tz, .int (ln + 1), .ref kx, .ref ky, .int cn, .int ah])), (tl, .inl (cZ, 16, .inl (upd ft k.toNatClampNeg 1))), (gx, .inl (cJ, 16, .inr (.inl (vp_updL fgx k.toNatClampNeg x0)))), (gy, .inl (cJ, 16, .inr (.inl (vp_updL fgy k.toNatClampNeg y0)))), (tx, .inl (cJ, 16, .inr (.inl (vp_updL ftx k.toNatClampNeg x1)))), (tz, .inl (cJ, 16, .inr (.inl (vp_updL fty k.toNatClampNeg y1))))] := hD
            refine lv_iconst (v := 1) hx hb dX4_line_112 (by decide) ?_
            exact hret hP hD hS rfl (ln + 1, upd ft k.toNatClampNeg 1, vp_updL fgx k.toNatClampNeg x0, vp_updL fgy k.toNatClampNeg y0, vp_updL ftx k.toNatClampNeg x1, vp_updL fty k.toNatClampNeg y1) (⟨bz_t ⟨c_9.1, c_9.2, c_18, c_28, by omega⟩, fun _ => by rw [if_pos c_55], fun q => absurd ⟨c_9.1, c_9.2, c_18, c_28, by omega⟩ q⟩) [0, 1, 2, 3, 4, 5] rfl (by decide) dX4_line_113 (Nat.le_of_ble_eq_true rfl) (Nat.le_of_ble_eq_true rfl)
          · refine lv_aload_n hx hb dX4_line_58 rfl (lv_at hl 0 rfl) ?_
            refine va_get (D := D) (ci := 4) (v := .int ln) (C := RX4) (T := TX4) (N := 14) hx hb hTB tb_X4 hown hK.1 hP 0 rfl rfl 9 (by decide) (hTB _ tb_8_3) (fun _ h9 => h9) rfl dX4_line_59 ?_
            refine lv_goto (tgt := 71) hx hb dX4_line_62 (by decide) ?_
            refine va_put (D := D) (ci := 4) (v := .int ln) (ty := .int) (C := RX4) (T := TX4) (N := 14) hx hb hTB tb_X4 tyX4 tyX4_ok nmX4 hown hK.1 hP hD hS 0 rfl rfl 9 (by decide) (hTB _ tb_8_3) (fun _ h9 => h9) rfl (by decide +kernel) rfl rfl (Nat.le_of_ble_eq_true rfl) dX4_line_71 (fun H locs hP hD hS => ?_)
            have hP : va_P D vwCl [(o, .inr (4, [.int 0, .ref wa, .ref sa, .ref ma, .ref tl, .ref gx, .ref gy, .ref tx, .ref tz, .int ln, .ref kx, .ref ky, .int cn, .int ah])), (tl, .inl (cZ, 16, .inl ft)), (gx, .inl (cJ, 16, .inr (.inl fgx))), (gy, .inl (cJ, 16, .inr (.inl fgy))), (tx, .inl (cJ, 16, .inr (.inl ftx))), (tz, .inl (cJ, 16, .inr (.inl fty)))] H := hP
            have hD : va_D A [(o, .inr (4, [.int 0, .ref wa, .ref sa, .ref ma, .ref tl, .ref gx, .ref gy, .ref tx, .ref tz, .int ln, .ref kx, .ref ky, .int cn, .int ah])), (tl, .inl (cZ, 16, .inl ft)), (gx, .inl (cJ, 16, .inr (.inl fgx))), (gy, .inl (cJ, 16, .inr (.inl fgy))), (tx, .inl (cJ, 16, .inr (.inl ftx))), (tz, .inl (cJ, 16, .inr (.inl fty)))] := hD
            refine lv_aload_n hx hb dX4_line_74 rfl (lv_at hl 0 rfl) ?_
            refine va_get (D := D) (ci := 4) (v := .ref tl) (C := RX4) (T := TX4) (N := 14) hx hb hTB tb_X4 hown hK.1 hP 0 rfl rfl 4 (by decide) (hTB _ tb_3_17) (fun _ h9 => h9) rfl dX4_line_75 ?_
            refine lv_iload_n hx hb dX4_line_78 rfl (lv_at hl 1 rfl) ?_
            refine lv_iconst (v := 1) hx hb dX4_line_79 (by decide) ?_
            refine va_zast (f := ft) hx hb hK.1 hP hD hS 1 0 rfl rfl (vp_in_iff.mpr ⟨by omega, by omega⟩) dX4_line_80 (fun H locs hP hD hS => ?_)
            have hP : va_P D vwCl [(o, .inr (4, [.int 0, .ref wa, .ref sa, .ref ma, .ref tl, .ref gx, .ref gy, .ref tx, .ref tz, .int ln, .ref kx, .ref ky, .int cn, .int ah])), (tl, .inl (cZ, 16, .inl (upd ft k.toNatClampNeg 1))), (gx, .inl (cJ, 16, .inr (.inl fgx))), (gy, .inl (cJ, 16, .inr (.inl fgy))), (tx, .inl (cJ, 16, .inr (.inl ftx))), (tz, .inl (cJ, 16, .inr (.inl fty)))] H := hP
            have hD : va_D A [(o, .inr (4, [.int 0, .ref wa, .ref sa, .ref ma, .ref tl, .ref gx, .ref gy, .ref tx, .ref tz, .int ln, .ref kx, .ref ky, .int cn, .int ah])), (tl, .inl (cZ, 16, .inl (upd ft k.toNatClampNeg 1))), (gx, .inl (cJ, 16, .inr (.inl fgx))), (gy, .inl (cJ, 16, .inr (.inl fgy))), (tx, .inl (cJ, 16, .inr (.inl ftx))), (tz, .inl (cJ, 16, .inr (.inl fty)))] := hD
            refine lv_aload_n hx hb dX4_line_81 rfl (lv_at hl 0 rfl) ?_
            refine va_get (D := D) (ci := 4) (v := .ref gx) (C := RX4) (T := TX4) (N := 14) hx hb hTB tb_X4 hown hK.1 hP 0 rfl rfl 5 (by decide) (hTB _ tb_3_18) (fun _ h9 => h9) rfl dX4_line_82 ?_
            refine lv_iload_n hx hb dX4_line_85 rfl (lv_at hl 1 rfl) ?_
            refine lv_lload_n hx hb dX4_line_86 rfl (lv_at hl 2 rfl) ?_
            refine va_last (f := fgx) hx hb hK.1 hP hD hS 2 2 rfl rfl (vp_in_iff.mpr ⟨by omega, by omega⟩) dX4_line_87 (fun H locs hP hD hS => ?_)
            have hP : va_P D vwCl [(o, .inr (4, [.int 0, .ref wa, .ref sa, .ref ma, .ref tl, .ref gx, .ref gy, .ref tx, .ref tz, .int ln, .ref kx, .ref ky, .int cn, .int ah])), (tl, .inl (cZ, 16, .inl (upd ft k.toNatClampNeg 1))), (gx, .inl (cJ, 16, .inr (.inl (vp_updL fgx k.toNatClampNeg x0)))), (gy, .inl (cJ, 16, .inr (.inl fgy))), (tx, .inl (cJ, 16, .inr (.inl ftx))), (tz, .inl (cJ, 16, .inr (.inl fty)))] H := hP
            have hD : va_D A [(o, .inr (4, [.int 0, .ref wa, .ref sa, .ref ma, .ref tl, .ref gx, .ref gy, .ref tx, .ref tz, .int ln, .ref kx, .ref ky, .int cn, .int ah])), (tl, .inl (cZ, 16, .inl (upd ft k.toNatClampNeg 1))), (gx, .inl (cJ, 16, .inr (.inl (vp_updL fgx k.toNatClampNeg x0)))), (gy, .inl (cJ, 16, .inr (.inl fgy))), (tx, .inl (cJ, 16, .inr (.inl ftx))), (tz, .inl (cJ, 16, .inr (.inl fty)))] := hD
            refine lv_aload_n hx hb dX4_line_88 rfl (lv_at hl 0 rfl) ?_
            refine va_get (D := D) (ci := 4) (v := .ref gy) (C := RX4) (T := TX4) (N := 14) hx hb hTB tb_X4 hown hK.1 hP 0 rfl rfl 6 (by decide) (hTB _ tb_3_19) (fun _ h9 => h9) rfl dX4_line_89 ?_
            refine lv_iload_n hx hb dX4_line_92 rfl (lv_at hl 1 rfl) ?_
            refine lv_lload hx hb dX4_line_93 (lv_at hl 3 rfl) ?_
            refine va_last (f := fgy) hx hb hK.1 hP hD hS 3 2 rfl rfl (vp_in_iff.mpr ⟨by omega, by omega⟩) dX4_line_95 (fun H locs hP hD hS => ?_)
            have hP : va_P D vwCl [(o, .inr (4, [.int 0, .ref wa, .ref sa, .ref ma, .ref tl, .ref gx, .ref gy, .ref tx, .ref tz, .int ln, .ref kx, .ref ky, .int cn, .int ah])), (tl, .inl (cZ, 16, .inl (upd ft k.toNatClampNeg 1))), (gx, .inl (cJ, 16, .inr (.inl (vp_updL fgx k.toNatClampNeg x0)))), (gy, .inl (cJ, 16, .inr (.inl (vp_updL fgy k.toNatClampNeg y0)))), (tx, .inl (cJ, 16, .inr (.inl ftx))), (tz, .inl (cJ, 16, .inr (.inl fty)))] H := hP
            have hD : va_D A [(o, .inr (4, [.int 0, .ref wa, .ref sa, .ref ma, .ref tl, .ref gx, .ref gy, .ref tx, .ref tz, .int ln, .ref kx, .ref ky, .int cn, .int ah])), (tl, .inl (cZ, 16, .inl (upd ft k.toNatClampNeg 1))), (gx, .inl (cJ, 16, .inr (.inl (vp_updL fgx k.toNatClampNeg x0)))), (gy, .inl (cJ, 16, .inr (.inl (vp_updL fgy k.toNatClampNeg y0)))), (tx, .inl (cJ, 16, .inr (.inl ftx))), (tz, .inl (cJ, 16, .inr (.inl fty)))] := hD
            refine lv_aload_n hx hb dX4_line_96 rfl (lv_at hl 0 rfl) ?_
            refine va_get (D := D) (ci := 4) (v := .ref tx) (C := RX4) (T := TX4) (N := 14) hx hb hTB tb_X4 hown hK.1 hP 0 rfl rfl 7 (by decide) (hTB _ tb_3_20) (fun _ h9 => h9) rfl dX4_line_97 ?_
            refine lv_iload_n hx hb dX4_line_100 rfl (lv_at hl 1 rfl) ?_
            refine lv_lload hx hb dX4_line_101 (lv_at hl 4 rfl) ?_
            refine va_last (f := ftx) hx hb hK.1 hP hD hS 4 2 rfl rfl (vp_in_iff.mpr ⟨by omega, by omega⟩) dX4_line_103 (fun H locs hP hD hS => ?_)
            have hP : va_P D vwCl [(o, .inr (4, [.int 0, .ref wa, .ref sa, .ref ma, .ref tl, .ref gx, .ref gy, .ref tx, .ref tz, .int ln, .ref kx, .ref ky, .int cn, .int ah])), (tl, .inl (cZ, 16, .inl (upd ft k.toNatClampNeg 1))), (gx, .inl (cJ, 16, .inr (.inl (vp_updL fgx k.toNatClampNeg x0)))), (gy, .inl (cJ, 16, .inr (.inl (vp_updL fgy k.toNatClampNeg y0)))), (tx, .inl (cJ, 16, .inr (.inl (vp_updL ftx k.toNatClampNeg x1)))), (tz, .inl (cJ, 16, .inr (.inl fty)))] H := hP
            have hD : va_D A [(o, .inr (4, [.int 0, .ref wa, .ref sa, .ref ma, .ref tl, .ref gx, .ref gy, .ref tx, .ref tz, .int ln, .ref kx, .ref ky, .int cn, .int ah])), (tl, .inl (cZ, 16, .inl (upd ft k.toNatClampNeg 1))), (gx, .inl (cJ, 16, .inr (.inl (vp_updL fgx k.toNatClampNeg x0)))), (gy, .inl (cJ, 16, .inr (.inl (vp_updL fgy k.toNatClampNeg y0)))), (tx, .inl (cJ, 16, .inr (.inl (vp_updL ftx k.toNatClampNeg x1)))), (tz, .inl (cJ, 16, .inr (.inl fty)))] := hD
            refine lv_aload_n hx hb dX4_line_104 rfl (lv_at hl 0 rfl) ?_
            refine va_get (D := D) (ci := 4) (v := .ref tz) (C := RX4) (T := TX4) (N := 14) hx hb hTB tb_X4 hown hK.1 hP 0 rfl rfl 8 (by decide) (hTB _ tb_3_21) (fun _ h9 => h9) rfl dX4_line_105 ?_
            refine lv_iload_n hx hb dX4_line_108 rfl (lv_at hl 1 rfl) ?_
            refine lv_lload hx hb dX4_line_109 (lv_at hl 5 rfl) ?_
            refine va_last (f := fty) hx hb hK.1 hP hD hS 5 2 rfl rfl (vp_in_iff.mpr ⟨by omega, by omega⟩) dX4_line_111 (fun H locs hP hD hS => ?_)
            have hP : va_P D vwCl [(o, .inr (4, [.int 0, .ref wa, .ref sa, .ref ma, .ref tl, .ref gx, .ref gy, .ref tx, .ref tz, .int ln, .ref kx, .ref ky, .int cn, .int ah])), (tl, .inl (cZ, 16, .inl (upd ft k.toNatClampNeg 1))), (gx, .inl (cJ, 16, .inr (.inl (vp_updL fgx k.toNatClampNeg x0)))), (gy, .inl (cJ, 16, .inr (.inl (vp_updL fgy k.toNatClampNeg y0)))), (tx, .inl (cJ, 16, .inr (.inl (vp_updL ftx k.toNatClampNeg x1)))), (tz, .inl (cJ, 16, .inr (.inl (vp_updL fty k.toNatClampNeg y1))))] H := hP
            have hD : va_D A [(o, .inr (4, [.int 0, .ref wa, .ref sa, .ref ma, .ref tl, .ref gx, .ref gy, .ref tx, .ref tz, .int ln, .ref kx, .ref ky, .int cn, .int ah])), (tl, .inl (cZ, 16, .inl (upd ft k.toNatClampNeg 1))), (gx, .inl (cJ, 16, .inr (.inl (vp_updL fgx k.toNatClampNeg x0)))), (gy, .inl (cJ, 16, .inr (.inl (vp_updL fgy k.toNatClampNeg y0)))), (tx, .inl (cJ, 16, .inr (.inl (vp_updL ftx k.toNatClampNeg x1)))), (tz, .inl (cJ, 16, .inr (.inl (vp_updL fty k.toNatClampNeg y1))))] := hD
            refine lv_iconst (v := 1) hx hb dX4_line_112 (by decide) ?_
            exact hret hP hD hS rfl (ln, upd ft k.toNatClampNeg 1, vp_updL fgx k.toNatClampNeg x0, vp_updL fgy k.toNatClampNeg y0, vp_updL ftx k.toNatClampNeg x1, vp_updL fty k.toNatClampNeg y1) (⟨bz_t ⟨c_9.1, c_9.2, c_18, c_28, by omega⟩, fun _ => by rw [if_neg c_55], fun q => absurd ⟨c_9.1, c_9.2, c_18, c_28, by omega⟩ q⟩) [0, 1, 2, 3, 4, 5] rfl (by decide) dX4_line_113 (Nat.le_of_ble_eq_true rfl) (Nat.le_of_ble_eq_true rfl)
        · have c_35 : x0.toInt = x1.toInt := lc_eq c_35
          refine lv_lload hx hb dX4_line_38 (lv_at hl 3 rfl) ?_
          refine lv_lload hx hb dX4_line_40 (lv_at hl 5 rfl) ?_
          refine W.lcmp hx hb dX4_line_42 ?_
          refine lv_if_ne (tgt := 48) hx hb dX4_line_43 (by decide) (fun c_43 => ?_) (fun c_43 => ?_)
          · have c_43 : y0.toInt ≠ y1.toInt := lc_ne c_43
            refine lv_aload_n hx hb dX4_line_48 rfl (lv_at hl 0 rfl) ?_
            refine lv_aload_n hx hb dX4_line_49 rfl (lv_at hl 0 rfl) ?_
            refine va_get (D := D) (ci := 4) (v := .ref tl) (C := RX4) (T := TX4) (N := 14) hx hb hTB tb_X4 hown hK.1 hP 0 rfl rfl 4 (by decide) (hTB _ tb_3_17) (fun _ h9 => h9) rfl dX4_line_50 ?_
            refine lv_iload_n hx hb dX4_line_53 rfl (lv_at hl 1 rfl) ?_
            refine va_zald (f := ft) hx hb hK.1 hP 1 0 rfl rfl (vp_in_iff.mpr ⟨by omega, by omega⟩) dX4_line_54 ?_
            refine lv_if_eq (tgt := 65) hx hb dX4_line_55 (by decide) (fun c_55 => ?_) (fun c_55 => ?_)
            · refine lv_aload_n hx hb dX4_line_65 rfl (lv_at hl 0 rfl) ?_
              refine va_get (D := D) (ci := 4) (v := .int ln) (C := RX4) (T := TX4) (N := 14) hx hb hTB tb_X4 hown hK.1 hP 0 rfl rfl 9 (by decide) (hTB _ tb_8_3) (fun _ h9 => h9) rfl dX4_line_66 ?_
              refine lv_iconst (v := 1) hx hb dX4_line_69 (by decide) ?_
              refine lv_iadd hx hb dX4_line_70 ?_
              refine va_put (D := D) (ci := 4) (v := .int (ln + 1)) (ty := .int) (C := RX4) (T := TX4) (N := 14) hx hb hTB tb_X4 tyX4 tyX4_ok nmX4 hown hK.1 hP hD hS 0 rfl rfl 9 (by decide) (hTB _ tb_8_3) (fun _ h9 => h9) rfl (by decide +kernel) rfl rfl (Nat.le_of_ble_eq_true rfl) dX4_line_71 (fun H locs hP hD hS => ?_)
              have hP : va_P D vwCl [(o, .inr (4, [.int 0, .ref wa, .ref sa, .ref ma, .ref tl, .ref gx, .ref gy, .ref tx, .ref tz, .int (ln + 1), .ref kx, .ref ky, .int cn, .int ah])), (tl, .inl (cZ, 16, .inl ft)), (gx, .inl (cJ, 16, .inr (.inl fgx))), (gy, .inl (cJ, 16, .inr (.inl fgy))), (tx, .inl (cJ, 16, .inr (.inl ftx))), (tz, .inl (cJ, 16, .inr (.inl fty)))] H := hP
              have hD : va_D A [(o, .inr (4, [.int 0, .ref wa, .ref sa, .ref ma, .ref tl, .ref gx, .ref gy, .ref tx, .ref tz, .int (ln + 1), .ref kx, .ref ky, .int cn, .int ah])), (tl, .inl (cZ, 16, .inl ft)), (gx, .inl (cJ, 16, .inr (.inl fgx))), (gy, .inl (cJ, 16, .inr (.inl fgy))), (tx, .inl (cJ, 16, .inr (.inl ftx))), (tz, .inl (cJ, 16, .inr (.inl fty)))] := hD
              refine lv_aload_n hx hb dX4_line_74 rfl (lv_at hl 0 rfl) ?_
              refine va_get (D := D) (ci := 4) (v := .ref tl) (C := RX4) (T := TX4) (N := 14) hx hb hTB tb_X4 hown hK.1 hP 0 rfl rfl 4 (by decide) (hTB _ tb_3_17) (fun _ h9 => h9) rfl dX4_line_75 ?_
              refine lv_iload_n hx hb dX4_line_78 rfl (lv_at hl 1 rfl) ?_
              refine lv_iconst (v := 1) hx hb dX4_line_79 (by decide) ?_
              refine va_zast (f := ft) hx hb hK.1 hP hD hS 1 0 rfl rfl (vp_in_iff.mpr ⟨by omega, by omega⟩) dX4_line_80 (fun H locs hP hD hS => ?_)
              have hP : va_P D vwCl [(o, .inr (4, [.int 0, .ref wa, .ref sa, .ref ma, .ref tl, .ref gx, .ref gy, .ref tx, .ref tz, .int (ln + 1), .ref kx, .ref ky, .int cn, .int ah])), (tl, .inl (cZ, 16, .inl (upd ft k.toNatClampNeg 1))), (gx, .inl (cJ, 16, .inr (.inl fgx))), (gy, .inl (cJ, 16, .inr (.inl fgy))), (tx, .inl (cJ, 16, .inr (.inl ftx))), (tz, .inl (cJ, 16, .inr (.inl fty)))] H := hP
              have hD : va_D A [(o, .inr (4, [.int 0, .ref wa, .ref sa, .ref ma, .ref tl, .ref gx, .ref gy, .ref tx, .ref tz, .int (ln + 1), .ref kx, .ref ky, .int cn, .int ah])), (tl, .inl (cZ, 16, .inl (upd ft k.toNatClampNeg 1))), (gx, .inl (cJ, 16, .inr (.inl fgx))), (gy, .inl (cJ, 16, .inr (.inl fgy))), (tx, .inl (cJ, 16, .inr (.inl ftx))), (tz, .inl (cJ, 16, .inr (.inl fty)))] := hD
              refine lv_aload_n hx hb dX4_line_81 rfl (lv_at hl 0 rfl) ?_
              refine va_get (D := D) (ci := 4) (v := .ref gx) (C := RX4) (T := TX4) (N := 14) hx hb hTB tb_X4 hown hK.1 hP 0 rfl rfl 5 (by decide) (hTB _ tb_3_18) (fun _ h9 => h9) rfl dX4_line_82 ?_
              refine lv_iload_n hx hb dX4_line_85 rfl (lv_at hl 1 rfl) ?_
              refine lv_lload_n hx hb dX4_line_86 rfl (lv_at hl 2 rfl) ?_
              refine va_last (f := fgx) hx hb hK.1 hP hD hS 2 2 rfl rfl (vp_in_iff.mpr ⟨by omega, by omega⟩) dX4_line_87 (fun H locs hP hD hS => ?_)
              have hP : va_P D vwCl [(o, .inr (4, [.int 0, .ref wa, .ref sa, .ref ma, .ref tl, .ref gx, .ref gy, .ref tx, .ref tz, .int (ln + 1), .ref kx, .ref ky, .int cn, .int ah])), (tl, .inl (cZ, 16, .inl (upd ft k.toNatClampNeg 1))), (gx, .inl (cJ, 16, .inr (.inl (vp_updL fgx k.toNatClampNeg x0)))), (gy, .inl (cJ, 16, .inr (.inl fgy))), (tx, .inl (cJ, 16, .inr (.inl ftx))), (tz, .inl (cJ, 16, .inr (.inl fty)))] H := hP
              have hD : va_D A [(o, .inr (4, [.int 0, .ref wa, .ref sa, .ref ma, .ref tl, .ref gx, .ref gy, .ref tx, .ref tz, .int (ln + 1), .ref kx, .ref ky, .int cn, .int ah])), (tl, .inl (cZ, 16, .inl (upd ft k.toNatClampNeg 1))), (gx, .inl (cJ, 16, .inr (.inl (vp_updL fgx k.toNatClampNeg x0)))), (gy, .inl (cJ, 16, .inr (.inl fgy))), (tx, .inl (cJ, 16, .inr (.inl ftx))), (tz, .inl (cJ, 16, .inr (.inl fty)))] := hD
              refine lv_aload_n hx hb dX4_line_88 rfl (lv_at hl 0 rfl) ?_
              refine va_get (D := D) (ci := 4) (v := .ref gy) (C := RX4) (T := TX4) (N := 14) hx hb hTB tb_X4 hown hK.1 hP 0 rfl rfl 6 (by decide) (hTB _ tb_3_19) (fun _ h9 => h9) rfl dX4_line_89 ?_
              refine lv_iload_n hx hb dX4_line_92 rfl (lv_at hl 1 rfl) ?_
              refine lv_lload hx hb dX4_line_93 (lv_at hl 3 rfl) ?_
              refine va_last (f := fgy) hx hb hK.1 hP hD hS 3 2 rfl rfl (vp_in_iff.mpr ⟨by omega, by omega⟩) dX4_line_95 (fun H locs hP hD hS => ?_)
              have hP : va_P D vwCl [(o, .inr (4, [.int 0, .ref wa, .ref sa, .ref ma, .ref tl, .ref gx, .ref gy, .ref tx, .ref tz, .int (ln + 1), .ref kx, .ref ky, .int cn, .int ah])), (tl, .inl (cZ, 16, .inl (upd ft k.toNatClampNeg 1))), (gx, .inl (cJ, 16, .inr (.inl (vp_updL fgx k.toNatClampNeg x0)))), (gy, .inl (cJ, 16, .inr (.inl (vp_updL fgy k.toNatClampNeg y0)))), (tx, .inl (cJ, 16, .inr (.inl ftx))), (tz, .inl (cJ, 16, .inr (.inl fty)))] H := hP
              have hD : va_D A [(o, .inr (4, [.int 0, .ref wa, .ref sa, .ref ma, .ref tl, .ref gx, .ref gy, .ref tx, .ref tz, .int (ln + 1), .ref kx, .ref ky, .int cn, .int ah])), (tl, .inl (cZ, 16, .inl (upd ft k.toNatClampNeg 1))), (gx, .inl (cJ, 16, .inr (.inl (vp_updL fgx k.toNatClampNeg x0)))), (gy, .inl (cJ, 16, .inr (.inl (vp_updL fgy k.toNatClampNeg y0)))), (tx, .inl (cJ, 16, .inr (.inl ftx))), (tz, .inl (cJ, 16, .inr (.inl fty)))] := hD
              refine lv_aload_n hx hb dX4_line_96 rfl (lv_at hl 0 rfl) ?_
              refine va_get (D := D) (ci := 4) (v := .ref tx) (C := RX4) (T := TX4) (N := 14) hx hb hTB tb_X4 hown hK.1 hP 0 rfl rfl 7 (by decide) (hTB _ tb_3_20) (fun _ h9 => h9) rfl dX4_line_97 ?_
              refine lv_iload_n hx hb dX4_line_100 rfl (lv_at hl 1 rfl) ?_
              refine lv_lload hx hb dX4_line_101 (lv_at hl 4 rfl) ?_
              refine va_last (f := ftx) hx hb hK.1 hP hD hS 4 2 rfl rfl (vp_in_iff.mpr ⟨by omega, by omega⟩) dX4_line_103 (fun H locs hP hD hS => ?_)
              have hP : va_P D vwCl [(o, .inr (4, [.int 0, .ref wa, .ref sa, .ref ma, .ref tl, .ref gx, .ref gy, .ref tx, .ref tz, .int (ln + 1), .ref kx, .ref ky, .int cn, .int ah])), (tl, .inl (cZ, 16, .inl (upd ft k.toNatClampNeg 1))), (gx, .inl (cJ, 16, .inr (.inl (vp_updL fgx k.toNatClampNeg x0)))), (gy, .inl (cJ, 16, .inr (.inl (vp_updL fgy k.toNatClampNeg y0)))), (tx, .inl (cJ, 16, .inr (.inl (vp_updL ftx k.toNatClampNeg x1)))), (tz, .inl (cJ, 16, .inr (.inl fty)))] H := hP
              have hD : va_D A [(o, .inr (4, [.int 0, .ref wa, .ref sa, .ref ma, .ref tl, .ref gx, .ref gy, .ref tx, .ref tz, .int (ln + 1), .ref kx, .ref ky, .int cn, .int ah])), (tl, .inl (cZ, 16, .inl (upd ft k.toNatClampNeg 1))), (gx, .inl (cJ, 16, .inr (.inl (vp_updL fgx k.toNatClampNeg x0)))), (gy, .inl (cJ, 16, .inr (.inl (vp_updL fgy k.toNatClampNeg y0)))), (tx, .inl (cJ, 16, .inr (.inl (vp_updL ftx k.toNatClampNeg x1)))), (tz, .inl (cJ, 16, .inr (.inl fty)))] := hD
              refine lv_aload_n hx hb dX4_line_104 rfl (lv_at hl 0 rfl) ?_
              refine va_get (D := D) (ci := 4) (v := .ref tz) (C := RX4) (T := TX4) (N := 14) hx hb hTB tb_X4 hown hK.1 hP 0 rfl rfl 8 (by decide) (hTB _ tb_3_21) (fun _ h9 => h9) rfl dX4_line_105 ?_
              refine lv_iload_n hx hb dX4_line_108 rfl (lv_at hl 1 rfl) ?_
              refine lv_lload hx hb dX4_line_109 (lv_at hl 5 rfl) ?_
              refine va_last (f := fty) hx hb hK.1 hP hD hS 5 2 rfl rfl (vp_in_iff.mpr ⟨by omega, by omega⟩) dX4_line_111 (fun H locs hP hD hS => ?_)
              have hP : va_P D vwCl [(o, .inr (4, [.int 0, .ref wa, .ref sa, .ref ma, .ref tl, .ref gx, .ref gy, .ref tx, .ref tz, .int (ln + 1), .ref kx, .ref ky, .int cn, .int ah])), (tl, .inl (cZ, 16, .inl (upd ft k.toNatClampNeg 1))), (gx, .inl (cJ, 16, .inr (.inl (vp_updL fgx k.toNatClampNeg x0)))), (gy, .inl (cJ, 16, .inr (.inl (vp_updL fgy k.toNatClampNeg y0)))), (tx, .inl (cJ, 16, .inr (.inl (vp_updL ftx k.toNatClampNeg x1)))), (tz, .inl (cJ, 16, .inr (.inl (vp_updL fty k.toNatClampNeg y1))))] H := hP
              have hD : va_D A [(o, .inr (4, [.int 0, .ref wa, .ref sa, .ref ma, .ref tl, .ref gx, .ref gy, .ref tx, .ref tz, .int (ln + 1), .ref kx, .ref ky, .int cn, .int ah])), (tl, .inl (cZ, 16, .inl (upd ft k.toNatClampNeg 1))), (gx, .inl (cJ, 16, .inr (.inl (vp_updL fgx k.toNatClampNeg x0)))), (gy, .inl (cJ, 16, .inr (.inl (vp_updL fgy k.toNatClampNeg y0)))), (tx, .inl (cJ, 16, .inr (.inl (vp_updL ftx k.toNatClampNeg x1)))), (tz, .inl (cJ, 16, .inr (.inl (vp_updL fty k.toNatClampNeg y1))))] := hD
              refine lv_iconst (v := 1) hx hb dX4_line_112 (by decide) ?_
              exact hret hP hD hS rfl (ln + 1, upd ft k.toNatClampNeg 1, vp_updL fgx k.toNatClampNeg x0, vp_updL fgy k.toNatClampNeg y0, vp_updL ftx k.toNatClampNeg x1, vp_updL fty k.toNatClampNeg y1) (⟨bz_t ⟨c_9.1, c_9.2, c_18, c_28, by omega⟩, fun _ => by rw [if_pos c_55], fun q => absurd ⟨c_9.1, c_9.2, c_18, c_28, by omega⟩ q⟩) [0, 1, 2, 3, 4, 5] rfl (by decide) dX4_line_113 (Nat.le_of_ble_eq_true rfl) (Nat.le_of_ble_eq_true rfl)
            · refine lv_aload_n hx hb dX4_line_58 rfl (lv_at hl 0 rfl) ?_
              refine va_get (D := D) (ci := 4) (v := .int ln) (C := RX4) (T := TX4) (N := 14) hx hb hTB tb_X4 hown hK.1 hP 0 rfl rfl 9 (by decide) (hTB _ tb_8_3) (fun _ h9 => h9) rfl dX4_line_59 ?_
              refine lv_goto (tgt := 71) hx hb dX4_line_62 (by decide) ?_
              refine va_put (D := D) (ci := 4) (v := .int ln) (ty := .int) (C := RX4) (T := TX4) (N := 14) hx hb hTB tb_X4 tyX4 tyX4_ok nmX4 hown hK.1 hP hD hS 0 rfl rfl 9 (by decide) (hTB _ tb_8_3) (fun _ h9 => h9) rfl (by decide +kernel) rfl rfl (Nat.le_of_ble_eq_true rfl) dX4_line_71 (fun H locs hP hD hS => ?_)
              have hP : va_P D vwCl [(o, .inr (4, [.int 0, .ref wa, .ref sa, .ref ma, .ref tl, .ref gx, .ref gy, .ref tx, .ref tz, .int ln, .ref kx, .ref ky, .int cn, .int ah])), (tl, .inl (cZ, 16, .inl ft)), (gx, .inl (cJ, 16, .inr (.inl fgx))), (gy, .inl (cJ, 16, .inr (.inl fgy))), (tx, .inl (cJ, 16, .inr (.inl ftx))), (tz, .inl (cJ, 16, .inr (.inl fty)))] H := hP
              have hD : va_D A [(o, .inr (4, [.int 0, .ref wa, .ref sa, .ref ma, .ref tl, .ref gx, .ref gy, .ref tx, .ref tz, .int ln, .ref kx, .ref ky, .int cn, .int ah])), (tl, .inl (cZ, 16, .inl ft)), (gx, .inl (cJ, 16, .inr (.inl fgx))), (gy, .inl (cJ, 16, .inr (.inl fgy))), (tx, .inl (cJ, 16, .inr (.inl ftx))), (tz, .inl (cJ, 16, .inr (.inl fty)))] := hD
              refine lv_aload_n hx hb dX4_line_74 rfl (lv_at hl 0 rfl) ?_
              refine va_get (D := D) (ci := 4) (v := .ref tl) (C := RX4) (T := TX4) (N := 14) hx hb hTB tb_X4 hown hK.1 hP 0 rfl rfl 4 (by decide) (hTB _ tb_3_17) (fun _ h9 => h9) rfl dX4_line_75 ?_
              refine lv_iload_n hx hb dX4_line_78 rfl (lv_at hl 1 rfl) ?_
              refine lv_iconst (v := 1) hx hb dX4_line_79 (by decide) ?_
              refine va_zast (f := ft) hx hb hK.1 hP hD hS 1 0 rfl rfl (vp_in_iff.mpr ⟨by omega, by omega⟩) dX4_line_80 (fun H locs hP hD hS => ?_)
              have hP : va_P D vwCl [(o, .inr (4, [.int 0, .ref wa, .ref sa, .ref ma, .ref tl, .ref gx, .ref gy, .ref tx, .ref tz, .int ln, .ref kx, .ref ky, .int cn, .int ah])), (tl, .inl (cZ, 16, .inl (upd ft k.toNatClampNeg 1))), (gx, .inl (cJ, 16, .inr (.inl fgx))), (gy, .inl (cJ, 16, .inr (.inl fgy))), (tx, .inl (cJ, 16, .inr (.inl ftx))), (tz, .inl (cJ, 16, .inr (.inl fty)))] H := hP
              have hD : va_D A [(o, .inr (4, [.int 0, .ref wa, .ref sa, .ref ma, .ref tl, .ref gx, .ref gy, .ref tx, .ref tz, .int ln, .ref kx, .ref ky, .int cn, .int ah])), (tl, .inl (cZ, 16, .inl (upd ft k.toNatClampNeg 1))), (gx, .inl (cJ, 16, .inr (.inl fgx))), (gy, .inl (cJ, 16, .inr (.inl fgy))), (tx, .inl (cJ, 16, .inr (.inl ftx))), (tz, .inl (cJ, 16, .inr (.inl fty)))] := hD
              refine lv_aload_n hx hb dX4_line_81 rfl (lv_at hl 0 rfl) ?_
              refine va_get (D := D) (ci := 4) (v := .ref gx) (C := RX4) (T := TX4) (N := 14) hx hb hTB tb_X4 hown hK.1 hP 0 rfl rfl 5 (by decide) (hTB _ tb_3_18) (fun _ h9 => h9) rfl dX4_line_82 ?_
              refine lv_iload_n hx hb dX4_line_85 rfl (lv_at hl 1 rfl) ?_
              refine lv_lload_n hx hb dX4_line_86 rfl (lv_at hl 2 rfl) ?_
              refine va_last (f := fgx) hx hb hK.1 hP hD hS 2 2 rfl rfl (vp_in_iff.mpr ⟨by omega, by omega⟩) dX4_line_87 (fun H locs hP hD hS => ?_)
              have hP : va_P D vwCl [(o, .inr (4, [.int 0, .ref wa, .ref sa, .ref ma, .ref tl, .ref gx, .ref gy, .ref tx, .ref tz, .int ln, .ref kx, .ref ky, .int cn, .int ah])), (tl, .inl (cZ, 16, .inl (upd ft k.toNatClampNeg 1))), (gx, .inl (cJ, 16, .inr (.inl (vp_updL fgx k.toNatClampNeg x0)))), (gy, .inl (cJ, 16, .inr (.inl fgy))), (tx, .inl (cJ, 16, .inr (.inl ftx))), (tz, .inl (cJ, 16, .inr (.inl fty)))] H := hP
              have hD : va_D A [(o, .inr (4, [.int 0, .ref wa, .ref sa, .ref ma, .ref tl, .ref gx, .ref gy, .ref tx, .ref tz, .int ln, .ref kx, .ref ky, .int cn, .int ah])), (tl, .inl (cZ, 16, .inl (upd ft k.toNatClampNeg 1))), (gx, .inl (cJ, 16, .inr (.inl (vp_updL fgx k.toNatClampNeg x0)))), (gy, .inl (cJ, 16, .inr (.inl fgy))), (tx, .inl (cJ, 16, .inr (.inl ftx))), (tz, .inl (cJ, 16, .inr (.inl fty)))] := hD
              refine lv_aload_n hx hb dX4_line_88 rfl (lv_at hl 0 rfl) ?_
              refine va_get (D := D) (ci := 4) (v := .ref gy) (C := RX4) (T := TX4) (N := 14) hx hb hTB tb_X4 hown hK.1 hP 0 rfl rfl 6 (by decide) (hTB _ tb_3_19) (fun _ h9 => h9) rfl dX4_line_89 ?_
              refine lv_iload_n hx hb dX4_line_92 rfl (lv_at hl 1 rfl) ?_
              refine lv_lload hx hb dX4_line_93 (lv_at hl 3 rfl) ?_
              refine va_last (f := fgy) hx hb hK.1 hP hD hS 3 2 rfl rfl (vp_in_iff.mpr ⟨by omega, by omega⟩) dX4_line_95 (fun H locs hP hD hS => ?_)
              have hP : va_P D vwCl [(o, .inr (4, [.int 0, .ref wa, .ref sa, .ref ma, .ref tl, .ref gx, .ref gy, .ref tx, .ref tz, .int ln, .ref kx, .ref ky, .int cn, .int ah])), (tl, .inl (cZ, 16, .inl (upd ft k.toNatClampNeg 1))), (gx, .inl (cJ, 16, .inr (.inl (vp_updL fgx k.toNatClampNeg x0)))), (gy, .inl (cJ, 16, .inr (.inl (vp_updL fgy k.toNatClampNeg y0)))), (tx, .inl (cJ, 16, .inr (.inl ftx))), (tz, .inl (cJ, 16, .inr (.inl fty)))] H := hP
              have hD : va_D A [(o, .inr (4, [.int 0, .ref wa, .ref sa, .ref ma, .ref tl, .ref gx, .ref gy, .ref tx, .ref tz, .int ln, .ref kx, .ref ky, .int cn, .int ah])), (tl, .inl (cZ, 16, .inl (upd ft k.toNatClampNeg 1))), (gx, .inl (cJ, 16, .inr (.inl (vp_updL fgx k.toNatClampNeg x0)))), (gy, .inl (cJ, 16, .inr (.inl (vp_updL fgy k.toNatClampNeg y0)))), (tx, .inl (cJ, 16, .inr (.inl ftx))), (tz, .inl (cJ, 16, .inr (.inl fty)))] := hD
              refine lv_aload_n hx hb dX4_line_96 rfl (lv_at hl 0 rfl) ?_
              refine va_get (D := D) (ci := 4) (v := .ref tx) (C := RX4) (T := TX4) (N := 14) hx hb hTB tb_X4 hown hK.1 hP 0 rfl rfl 7 (by decide) (hTB _ tb_3_20) (fun _ h9 => h9) rfl dX4_line_97 ?_
              refine lv_iload_n hx hb dX4_line_100 rfl (lv_at hl 1 rfl) ?_
              refine lv_lload hx hb dX4_line_101 (lv_at hl 4 rfl) ?_
              refine va_last (f := ftx) hx hb hK.1 hP hD hS 4 2 rfl rfl (vp_in_iff.mpr ⟨by omega, by omega⟩) dX4_line_103 (fun H locs hP hD hS => ?_)
              have hP : va_P D vwCl [(o, .inr (4, [.int 0, .ref wa, .ref sa, .ref ma, .ref tl, .ref gx, .ref gy, .ref tx, .ref tz, .int ln, .ref kx, .ref ky, .int cn, .int ah])), (tl, .inl (cZ, 16, .inl (upd ft k.toNatClampNeg 1))), (gx, .inl (cJ, 16, .inr (.inl (vp_updL fgx k.toNatClampNeg x0)))), (gy, .inl (cJ, 16, .inr (.inl (vp_updL fgy k.toNatClampNeg y0)))), (tx, .inl (cJ, 16, .inr (.inl (vp_updL ftx k.toNatClampNeg x1)))), (tz, .inl (cJ, 16, .inr (.inl fty)))] H := hP
              have hD : va_D A [(o, .inr (4, [.int 0, .ref wa, .ref sa, .ref ma, .ref tl, .ref gx, .ref gy, .ref tx, .ref tz, .int ln, .ref kx, .ref ky, .int cn, .int ah])), (tl, .inl (cZ, 16, .inl (upd ft k.toNatClampNeg 1))), (gx, .inl (cJ, 16, .inr (.inl (vp_updL fgx k.toNatClampNeg x0)))), (gy, .inl (cJ, 16, .inr (.inl (vp_updL fgy k.toNatClampNeg y0)))), (tx, .inl (cJ, 16, .inr (.inl (vp_updL ftx k.toNatClampNeg x1)))), (tz, .inl (cJ, 16, .inr (.inl fty)))] := hD
              refine lv_aload_n hx hb dX4_line_104 rfl (lv_at hl 0 rfl) ?_
              refine va_get (D := D) (ci := 4) (v := .ref tz) (C := RX4) (T := TX4) (N := 14) hx hb hTB tb_X4 hown hK.1 hP 0 rfl rfl 8 (by decide) (hTB _ tb_3_21) (fun _ h9 => h9) rfl dX4_line_105 ?_
              refine lv_iload_n hx hb dX4_line_108 rfl (lv_at hl 1 rfl) ?_
              refine lv_lload hx hb dX4_line_109 (lv_at hl 5 rfl) ?_
              refine va_last (f := fty) hx hb hK.1 hP hD hS 5 2 rfl rfl (vp_in_iff.mpr ⟨by omega, by omega⟩) dX4_line_111 (fun H locs hP hD hS => ?_)
              have hP : va_P D vwCl [(o, .inr (4, [.int 0, .ref wa, .ref sa, .ref ma, .ref tl, .ref gx, .ref gy, .ref tx, .ref tz, .int ln, .ref kx, .ref ky, .int cn, .int ah])), (tl, .inl (cZ, 16, .inl (upd ft k.toNatClampNeg 1))), (gx, .inl (cJ, 16, .inr (.inl (vp_updL fgx k.toNatClampNeg x0)))), (gy, .inl (cJ, 16, .inr (.inl (vp_updL fgy k.toNatClampNeg y0)))), (tx, .inl (cJ, 16, .inr (.inl (vp_updL ftx k.toNatClampNeg x1)))), (tz, .inl (cJ, 16, .inr (.inl (vp_updL fty k.toNatClampNeg y1))))] H := hP
              have hD : va_D A [(o, .inr (4, [.int 0, .ref wa, .ref sa, .ref ma, .ref tl, .ref gx, .ref gy, .ref tx, .ref tz, .int ln, .ref kx, .ref ky, .int cn, .int ah])), (tl, .inl (cZ, 16, .inl (upd ft k.toNatClampNeg 1))), (gx, .inl (cJ, 16, .inr (.inl (vp_updL fgx k.toNatClampNeg x0)))), (gy, .inl (cJ, 16, .inr (.inl (vp_updL fgy k.toNatClampNeg y0)))), (tx, .inl (cJ, 16, .inr (.inl (vp_updL ftx k.toNatClampNeg x1)))), (tz, .inl (cJ, 16, .inr (.inl (vp_updL fty k.toNatClampNeg y1))))] := hD
              refine lv_iconst (v := 1) hx hb dX4_line_112 (by decide) ?_
              exact hret hP hD hS rfl (ln, upd ft k.toNatClampNeg 1, vp_updL fgx k.toNatClampNeg x0, vp_updL fgy k.toNatClampNeg y0, vp_updL ftx k.toNatClampNeg x1, vp_updL fty k.toNatClampNeg y1) (⟨bz_t ⟨c_9.1, c_9.2, c_18, c_28, by omega⟩, fun _ => by rw [if_neg c_55], fun q => absurd ⟨c_9.1, c_9.2, c_18, c_28, by omega⟩ q⟩) [0, 1, 2, 3, 4, 5] rfl (by decide) dX4_line_113 (Nat.le_of_ble_eq_true rfl) (Nat.le_of_ble_eq_true rfl)
          · have c_43 : y0.toInt = y1.toInt := lc_eq c_43
            refine lv_iconst (v := 0) hx hb dX4_line_46 (by decide) ?_
            exact hret hP hD hS rfl (ln, ft, fgx, fgy, ftx, fty) (⟨bz_f (fun q => q.2.2.2.2 ⟨c_35, c_43⟩), fun q => absurd q (fun q => q.2.2.2.2 ⟨c_35, c_43⟩), fun _ => rfl⟩) [0, 1, 2, 3, 4, 5] rfl (by decide) dX4_line_47 (Nat.le_of_ble_eq_true rfl) (Nat.le_of_ble_eq_true rfl)

set_option maxHeartbeats 4000000 in
set_option maxRecDepth 100000 in
theorem c_X4_corner (l : Launch) (D : va_G) (cZ cI cJ : ClassId) (o wa sa ma tl gx gy tx tz kx ky : Nat) (cd ln ah : Int32) (n : Nat) (fkx fky : Nat → Int64) (x y : Int64) (hn9 : n ≤ 64) : Ci l D cZ cI cJ yX4_corner cX4_corner 5 (some .boolean) { frames := 1, cells := 0, slots := 0, locals := 23 } [.ref o, .long x, .long y] [(o, .inr (4, [.int cd, .ref wa, .ref sa, .ref ma, .ref tl, .ref gx, .ref gy, .ref tx, .ref tz, .int ln, .ref kx, .ref ky, .int (nI n), .int ah])), (kx, .inl (cJ, 64, .inr (.inl fkx))), (ky, .inl (cJ, 64, .inr (.inl fky)))] (S := Nat × (Nat → Int64) × (Nat → Int64)) (fun z u => z = bz (n < 64 ∧ ogr x y) ∧ (n < 64 ∧ ogr x y → u = (n + 1, vp_updL fkx n x, vp_updL fky n y)) ∧ (¬ (n < 64 ∧ ogr x y) → u = (n, fkx, fky))) (fun u => [(o, .inr (4, [.int 0, .ref wa, .ref sa, .ref ma, .ref tl, .ref gx, .ref gy, .ref tx, .ref tz, .int ln, .ref kx, .ref ky, .int (nI u.1), .int ah])), (kx, .inl (cJ, 64, .inr (.inl u.2.1))), (ky, .inl (cJ, 64, .inr (.inl u.2.2)))]) := by
  refine Ci.of (by decide) ?_
  intro p e s m args below meth c A Q hB hret hP hD hA
  obtain ⟨hx, hb, hr, hlocks, hml, hown, hnm, hTB, hK⟩ := hB
  have hown : s.vm.findClass RX4 = some m.cls := hown
  have hS : va_S A s.heap s.heap [] := va_S.rf
  have hl := lv_entry ([.ref o, .long x, .long y]) (n := 5) (Nat.le_of_ble_eq_true rfl)
  rw [lg_entry_eq]
  generalize (lg_sl ([.ref o, .long x, .long y]) ++ List.replicate (5 - (lg_sl ([.ref o, .long x, .long y])).length) Slot.unset).toArray = ls at hl ⊢
  have hl : lv_has ls 5 [(0, .ref o), (1, .long x), (3, .long y)] := hl
  refine lv_aload_n hx hb dX4_corner_0 rfl (lv_at hl 0 rfl) ?_
  refine lv_iconst (v := 0) hx hb dX4_corner_1 (by decide) ?_
  refine va_put (D := D) (ci := 4) (v := .int 0) (ty := .int) (C := RX4) (T := TX4) (N := 14) hx hb hTB tb_X4 tyX4 tyX4_ok nmX4 hown hK.1 hP hD hS 0 rfl rfl 0 (by decide) (hTB _ tb_6_4) (fun _ h9 => h9) rfl (by decide +kernel) rfl rfl (Nat.le_of_ble_eq_true rfl) dX4_corner_2 (fun H locs hP hD hS => ?_)
  have hP : va_P D vwCl [(o, .inr (4, [.int 0, .ref wa, .ref sa, .ref ma, .ref tl, .ref gx, .ref gy, .ref tx, .ref tz, .int ln, .ref kx, .ref ky, .int (nI n), .int ah])), (kx, .inl (cJ, 64, .inr (.inl fkx))), (ky, .inl (cJ, 64, .inr (.inl fky)))] H := hP
  have hD : va_D A [(o, .inr (4, [.int 0, .ref wa, .ref sa, .ref ma, .ref tl, .ref gx, .ref gy, .ref tx, .ref tz, .int ln, .ref kx, .ref ky, .int (nI n), .int ah])), (kx, .inl (cJ, 64, .inr (.inl fkx))), (ky, .inl (cJ, 64, .inr (.inl fky)))] := hD
  refine lv_lload_n hx hb dX4_corner_5 rfl (lv_at hl 1 rfl) ?_
  refine lv_lload_n hx hb dX4_corner_6 rfl (lv_at hl 2 rfl) ?_
  refine vp_callSi (va_runS (As := [.long x, .long y]) (rest := []) ⟨hx, hb, hml, hown, hTB⟩ (c_X4_isPlace l D cZ cI cJ x y) (cw_S hTB tb_6_7 tb_1_5 tb_6_5 tb_6_6 nd_X4_isPlace rfl rfl ⟨Nat.le_of_ble_eq_true rfl, Nat.le_of_ble_eq_true rfl⟩) (prr_S hK hP [] rfl) rfl rfl hl.1 rfl (lv_room (Nat.le_of_ble_eq_true rfl)) dX4_corner_7 ⟨Nat.le_of_ble_eq_true rfl, Nat.le_of_ble_eq_true rfl⟩).run (fun r7 hc7 => ?_)
  subst hc7
  refine lv_if_eq (tgt := 22) hx hb dX4_corner_10 (by decide) (fun c_10 => ?_) (fun c_10 => ?_)
  · have c_10 := bz_0 c_10
    refine lv_iconst (v := 0) hx hb dX4_corner_22 (by decide) ?_
    exact hret hP hD hS rfl (n, fkx, fky) (⟨bz_f (fun q => c_10 q.2), fun q => absurd q (fun q => c_10 q.2), fun _ => rfl⟩) [0, 1, 2] rfl (by decide) dX4_corner_23 (Nat.le_of_ble_eq_true rfl) (Nat.le_of_ble_eq_true rfl)
  · have c_10 := bz_1 c_10
    refine lv_aload_n hx hb dX4_corner_13 rfl (lv_at hl 0 rfl) ?_
    refine va_get (D := D) (ci := 4) (v := .int (nI n)) (C := RX4) (T := TX4) (N := 14) hx hb hTB tb_X4 hown hK.1 hP 0 rfl rfl 12 (by decide) (hTB _ tb_18_6) (fun _ h9 => h9) rfl dX4_corner_14 ?_
    refine lv_bipush (v := 64) hx hb dX4_corner_17 (by decide) ?_
    refine lv_icmp_ne (tgt := 24) hx hb dX4_corner_19 (by decide) (fun c_19 => ?_) (fun c_19 => ?_)
    · have hn : n < 64 := by
        rcases Nat.lt_or_ge n 64 with z | z
        · exact z
        · exact absurd (by rw [show n = 64 by omega]; rfl) c_19
      refine lv_aload_n hx hb dX4_corner_24 rfl (lv_at hl 0 rfl) ?_
      refine va_get (D := D) (ci := 4) (v := .ref kx) (C := RX4) (T := TX4) (N := 14) hx hb hTB tb_X4 hown hK.1 hP 0 rfl rfl 10 (by decide) (hTB _ tb_3_22) (fun _ h9 => h9) rfl dX4_corner_25 ?_
      refine lv_aload_n hx hb dX4_corner_28 rfl (lv_at hl 0 rfl) ?_
      refine va_get (D := D) (ci := 4) (v := .int (nI n)) (C := RX4) (T := TX4) (N := 14) hx hb hTB tb_X4 hown hK.1 hP 0 rfl rfl 12 (by decide) (hTB _ tb_18_6) (fun _ h9 => h9) rfl dX4_corner_29 ?_
      refine lv_lload_n hx hb dX4_corner_32 rfl (lv_at hl 1 rfl) ?_
      refine va_last (f := fkx) hx hb hK.1 hP hD hS 1 2 rfl rfl (vp_in_nI hn (by decide)) dX4_corner_33 (fun H locs hP hD hS => ?_)
      rw [show (nI n).toNatClampNeg = n from nI_clamp (by omega)] at hP hD
      have hP : va_P D vwCl [(o, .inr (4, [.int 0, .ref wa, .ref sa, .ref ma, .ref tl, .ref gx, .ref gy, .ref tx, .ref tz, .int ln, .ref kx, .ref ky, .int (nI n), .int ah])), (kx, .inl (cJ, 64, .inr (.inl (vp_updL fkx n x)))), (ky, .inl (cJ, 64, .inr (.inl fky)))] H := hP
      have hD : va_D A [(o, .inr (4, [.int 0, .ref wa, .ref sa, .ref ma, .ref tl, .ref gx, .ref gy, .ref tx, .ref tz, .int ln, .ref kx, .ref ky, .int (nI n), .int ah])), (kx, .inl (cJ, 64, .inr (.inl (vp_updL fkx n x)))), (ky, .inl (cJ, 64, .inr (.inl fky)))] := hD
      refine lv_aload_n hx hb dX4_corner_34 rfl (lv_at hl 0 rfl) ?_
      refine va_get (D := D) (ci := 4) (v := .ref ky) (C := RX4) (T := TX4) (N := 14) hx hb hTB tb_X4 hown hK.1 hP 0 rfl rfl 11 (by decide) (hTB _ tb_3_23) (fun _ h9 => h9) rfl dX4_corner_35 ?_
      refine lv_aload_n hx hb dX4_corner_38 rfl (lv_at hl 0 rfl) ?_
      refine va_get (D := D) (ci := 4) (v := .int (nI n)) (C := RX4) (T := TX4) (N := 14) hx hb hTB tb_X4 hown hK.1 hP 0 rfl rfl 12 (by decide) (hTB _ tb_18_6) (fun _ h9 => h9) rfl dX4_corner_39 ?_
      refine lv_lload_n hx hb dX4_corner_42 rfl (lv_at hl 2 rfl) ?_
      refine va_last (f := fky) hx hb hK.1 hP hD hS 2 2 rfl rfl (vp_in_nI hn (by decide)) dX4_corner_43 (fun H locs hP hD hS => ?_)
      rw [show (nI n).toNatClampNeg = n from nI_clamp (by omega)] at hP hD
      have hP : va_P D vwCl [(o, .inr (4, [.int 0, .ref wa, .ref sa, .ref ma, .ref tl, .ref gx, .ref gy, .ref tx, .ref tz, .int ln, .ref kx, .ref ky, .int (nI n), .int ah])), (kx, .inl (cJ, 64, .inr (.inl (vp_updL fkx n x)))), (ky, .inl (cJ, 64, .inr (.inl (vp_updL fky n y))))] H := hP
      have hD : va_D A [(o, .inr (4, [.int 0, .ref wa, .ref sa, .ref ma, .ref tl, .ref gx, .ref gy, .ref tx, .ref tz, .int ln, .ref kx, .ref ky, .int (nI n), .int ah])), (kx, .inl (cJ, 64, .inr (.inl (vp_updL fkx n x)))), (ky, .inl (cJ, 64, .inr (.inl (vp_updL fky n y))))] := hD
      refine lv_aload_n hx hb dX4_corner_44 rfl (lv_at hl 0 rfl) ?_
      refine lv_dup hx hb dX4_corner_45 rfl ?_
      refine va_get (D := D) (ci := 4) (v := .int (nI n)) (C := RX4) (T := TX4) (N := 14) hx hb hTB tb_X4 hown hK.1 hP 0 rfl rfl 12 (by decide) (hTB _ tb_18_6) (fun _ h9 => h9) rfl dX4_corner_46 ?_
      refine lv_iconst (v := 1) hx hb dX4_corner_49 (by decide) ?_
      refine lv_iadd hx hb dX4_corner_50 ?_
      rw [nI_1]
      refine va_put (D := D) (ci := 4) (v := .int (nI (n + 1))) (ty := .int) (C := RX4) (T := TX4) (N := 14) hx hb hTB tb_X4 tyX4 tyX4_ok nmX4 hown hK.1 hP hD hS 0 rfl rfl 12 (by decide) (hTB _ tb_18_6) (fun _ h9 => h9) rfl (by decide +kernel) rfl rfl (Nat.le_of_ble_eq_true rfl) dX4_corner_51 (fun H locs hP hD hS => ?_)
      have hP : va_P D vwCl [(o, .inr (4, [.int 0, .ref wa, .ref sa, .ref ma, .ref tl, .ref gx, .ref gy, .ref tx, .ref tz, .int ln, .ref kx, .ref ky, .int (nI (n + 1)), .int ah])), (kx, .inl (cJ, 64, .inr (.inl (vp_updL fkx n x)))), (ky, .inl (cJ, 64, .inr (.inl (vp_updL fky n y))))] H := hP
      have hD : va_D A [(o, .inr (4, [.int 0, .ref wa, .ref sa, .ref ma, .ref tl, .ref gx, .ref gy, .ref tx, .ref tz, .int ln, .ref kx, .ref ky, .int (nI (n + 1)), .int ah])), (kx, .inl (cJ, 64, .inr (.inl (vp_updL fkx n x)))), (ky, .inl (cJ, 64, .inr (.inl (vp_updL fky n y))))] := hD
      refine lv_iconst (v := 1) hx hb dX4_corner_54 (by decide) ?_
      exact hret hP hD hS rfl (n + 1, vp_updL fkx n x, vp_updL fky n y) (⟨bz_t ⟨hn, c_10⟩, fun _ => rfl, fun q => absurd ⟨hn, c_10⟩ q⟩) [0, 1, 2] rfl (by decide) dX4_corner_55 (Nat.le_of_ble_eq_true rfl) (Nat.le_of_ble_eq_true rfl)
    · refine lv_iconst (v := 0) hx hb dX4_corner_22 (by decide) ?_
      exact hret hP hD hS rfl (n, fkx, fky) (⟨bz_f (fun q => absurd q.1 (by have := nI_inj (a := n) (b := 64) (by omega) (by omega) c_19; omega)), fun q => absurd q (fun q => absurd q.1 (by have := nI_inj (a := n) (b := 64) (by omega) (by omega) c_19; omega)), fun _ => rfl⟩) [0, 1, 2] rfl (by decide) dX4_corner_23 (Nat.le_of_ble_eq_true rfl) (Nat.le_of_ble_eq_true rfl)

set_option maxHeartbeats 4000000 in
set_option maxRecDepth 100000 in
theorem c_X4_clear (l : Launch) (D : va_G) (cZ cI cJ : ClassId) (o wa sa ma tl gx gy tx tz kx ky : Nat) (cd ln cn ah : Int32) (ft : Nat → Int32) : Cv l D cZ cI cJ yX4_clear cX4_clear 2 { frames := 0, cells := 0, slots := 0, locals := 0 } [.ref o] [(o, .inr (4, [.int cd, .ref wa, .ref sa, .ref ma, .ref tl, .ref gx, .ref gy, .ref tx, .ref tz, .int ln, .ref kx, .ref ky, .int cn, .int ah])), (tl, .inl (cZ, 16, .inl ft))] (S := Nat → Int32) (fun u => ∀ j, j < 16 → u j = 0) (fun u => [(o, .inr (4, [.int 0, .ref wa, .ref sa, .ref ma, .ref tl, .ref gx, .ref gy, .ref tx, .ref tz, .int 0, .ref kx, .ref ky, .int 0, .int 0])), (tl, .inl (cZ, 16, .inl u))]) := by
  refine Cv.of (by decide) ?_
  intro p e s m args below meth c A Q hB hret hP hD hA
  obtain ⟨hx, hb, hr, hlocks, hml, hown, hnm, hTB, hK⟩ := hB
  have hown : s.vm.findClass RX4 = some m.cls := hown
  have hS : va_S A s.heap s.heap [] := va_S.rf
  have hl := lv_entry ([.ref o]) (n := 2) (Nat.le_of_ble_eq_true rfl)
  rw [lg_entry_eq]
  generalize (lg_sl ([.ref o]) ++ List.replicate (2 - (lg_sl ([.ref o])).length) Slot.unset).toArray = ls at hl ⊢
  have hl : lv_has ls 2 [(0, .ref o)] := hl
  refine lv_aload_n hx hb dX4_clear_0 rfl (lv_at hl 0 rfl) ?_
  refine lv_iconst (v := 0) hx hb dX4_clear_1 (by decide) ?_
  refine va_put (D := D) (ci := 4) (v := .int 0) (ty := .int) (C := RX4) (T := TX4) (N := 14) hx hb hTB tb_X4 tyX4 tyX4_ok nmX4 hown hK.1 hP hD hS 0 rfl rfl 0 (by decide) (hTB _ tb_6_4) (fun _ h9 => h9) rfl (by decide +kernel) rfl rfl (Nat.le_of_ble_eq_true rfl) dX4_clear_2 (fun H locs hP hD hS => ?_)
  have hP : va_P D vwCl [(o, .inr (4, [.int 0, .ref wa, .ref sa, .ref ma, .ref tl, .ref gx, .ref gy, .ref tx, .ref tz, .int ln, .ref kx, .ref ky, .int cn, .int ah])), (tl, .inl (cZ, 16, .inl ft))] H := hP
  have hD : va_D A [(o, .inr (4, [.int 0, .ref wa, .ref sa, .ref ma, .ref tl, .ref gx, .ref gy, .ref tx, .ref tz, .int ln, .ref kx, .ref ky, .int cn, .int ah])), (tl, .inl (cZ, 16, .inl ft))] := hD
  refine lv_iconst (v := 0) hx hb dX4_clear_5 (by decide) ?_
  refine lv_istore_n (lv' := [(1, .int 0), (0, .ref o)]) hx hb dX4_clear_6 rfl hl (by decide) rfl (fun ls hl => ?_)
  have L7 : ∀ (n7 : Nat) (k : Nat) (ft2 : Nat → Int32), (16 < k + n7 ∧ k ≤ 16) → (∀ j, j < k → ft2 j = 0) → ∀ (H : Heap) (locs : List Loc), va_P D vwCl [(o, .inr (4, [.int 0, .ref wa, .ref sa, .ref ma, .ref tl, .ref gx, .ref gy, .ref tx, .ref tz, .int ln, .ref kx, .ref ky, .int cn, .int ah])), (tl, .inl (cZ, 16, .inl ft2))] H → va_D A [(o, .inr (4, [.int 0, .ref wa, .ref sa, .ref ma, .ref tl, .ref gx, .ref gy, .ref tx, .ref tz, .int ln, .ref kx, .ref ky, .int cn, .int ah])), (tl, .inl (cZ, 16, .inl ft2))] → va_S A s.heap H locs → ∀ (ls : Array Slot), lv_has ls 2 [(0, .ref o), (1, .int (nI k))] → W p l e { frames := 0, cells := 0, slots := 0, locals := 0 } s m args below meth c H locs 0 0 Q (F0 m 7 ls []) := by
    intro n7
    induction n7 with
    | zero =>
      intro k ft2 g1 g2
      exfalso; omega
    | succ n7 ih7 =>
      intro k ft2 g1 g2 H locs hP hD hS ls hl
      refine lv_iload_n hx hb dX4_clear_7 rfl (lv_at hl 1 rfl) ?_
      refine lv_bipush (v := 16) hx hb dX4_clear_8 (by decide) ?_
      refine lv_icmp_ge (tgt := 26) hx hb dX4_clear_10 (by decide) (fun c_10 => ?_) (fun c_10 => ?_)
      · refine lv_aload_n hx hb dX4_clear_26 rfl (lv_at hl 0 rfl) ?_
        refine lv_iconst (v := 0) hx hb dX4_clear_27 (by decide) ?_
        refine va_put (D := D) (ci := 4) (v := .int 0) (ty := .int) (C := RX4) (T := TX4) (N := 14) hx hb hTB tb_X4 tyX4 tyX4_ok nmX4 hown hK.1 hP hD hS 0 rfl rfl 9 (by decide) (hTB _ tb_8_3) (fun _ h9 => h9) rfl (by decide +kernel) rfl rfl (Nat.le_of_ble_eq_true rfl) dX4_clear_28 (fun H locs hP hD hS => ?_)
        have hP : va_P D vwCl [(o, .inr (4, [.int 0, .ref wa, .ref sa, .ref ma, .ref tl, .ref gx, .ref gy, .ref tx, .ref tz, .int 0, .ref kx, .ref ky, .int cn, .int ah])), (tl, .inl (cZ, 16, .inl ft2))] H := hP
        have hD : va_D A [(o, .inr (4, [.int 0, .ref wa, .ref sa, .ref ma, .ref tl, .ref gx, .ref gy, .ref tx, .ref tz, .int 0, .ref kx, .ref ky, .int cn, .int ah])), (tl, .inl (cZ, 16, .inl ft2))] := hD
        refine lv_aload_n hx hb dX4_clear_31 rfl (lv_at hl 0 rfl) ?_
        refine lv_iconst (v := 0) hx hb dX4_clear_32 (by decide) ?_
        refine va_put (D := D) (ci := 4) (v := .int 0) (ty := .int) (C := RX4) (T := TX4) (N := 14) hx hb hTB tb_X4 tyX4 tyX4_ok nmX4 hown hK.1 hP hD hS 0 rfl rfl 12 (by decide) (hTB _ tb_18_6) (fun _ h9 => h9) rfl (by decide +kernel) rfl rfl (Nat.le_of_ble_eq_true rfl) dX4_clear_33 (fun H locs hP hD hS => ?_)
        have hP : va_P D vwCl [(o, .inr (4, [.int 0, .ref wa, .ref sa, .ref ma, .ref tl, .ref gx, .ref gy, .ref tx, .ref tz, .int 0, .ref kx, .ref ky, .int 0, .int ah])), (tl, .inl (cZ, 16, .inl ft2))] H := hP
        have hD : va_D A [(o, .inr (4, [.int 0, .ref wa, .ref sa, .ref ma, .ref tl, .ref gx, .ref gy, .ref tx, .ref tz, .int 0, .ref kx, .ref ky, .int 0, .int ah])), (tl, .inl (cZ, 16, .inl ft2))] := hD
        refine lv_aload_n hx hb dX4_clear_36 rfl (lv_at hl 0 rfl) ?_
        refine lv_iconst (v := 0) hx hb dX4_clear_37 (by decide) ?_
        refine va_put (D := D) (ci := 4) (v := .int 0) (ty := .boolean) (C := RX4) (T := TX4) (N := 14) hx hb hTB tb_X4 tyX4 tyX4_ok nmX4 hown hK.1 hP hD hS 0 rfl rfl 13 (by decide) (hTB _ tb_12_22) (fun _ h9 => h9) rfl (by decide +kernel) rfl rfl (Nat.le_of_ble_eq_true rfl) dX4_clear_38 (fun H locs hP hD hS => ?_)
        have hP : va_P D vwCl [(o, .inr (4, [.int 0, .ref wa, .ref sa, .ref ma, .ref tl, .ref gx, .ref gy, .ref tx, .ref tz, .int 0, .ref kx, .ref ky, .int 0, .int 0])), (tl, .inl (cZ, 16, .inl ft2))] H := hP
        have hD : va_D A [(o, .inr (4, [.int 0, .ref wa, .ref sa, .ref ma, .ref tl, .ref gx, .ref gy, .ref tx, .ref tz, .int 0, .ref kx, .ref ky, .int 0, .int 0])), (tl, .inl (cZ, 16, .inl ft2))] := hD
        exact hret hP hD hS ft2 (by have := (nI_leI (a := 16) (b := k) (by omega) (by omega)).mp c_10; exact fun j hj => g2 j (by omega)) [0, 1] rfl (by decide) dX4_clear_41 (Nat.le_of_ble_eq_true rfl) (Nat.le_of_ble_eq_true rfl)
      · have hk : k < 16 := Nat.not_le.mp (fun q => c_10 ((nI_leI (a := 16) (b := k) (by omega) (by omega)).mpr q))
        refine lv_aload_n hx hb dX4_clear_13 rfl (lv_at hl 0 rfl) ?_
        refine va_get (D := D) (ci := 4) (v := .ref tl) (C := RX4) (T := TX4) (N := 14) hx hb hTB tb_X4 hown hK.1 hP 0 rfl rfl 4 (by decide) (hTB _ tb_3_17) (fun _ h9 => h9) rfl dX4_clear_14 ?_
        refine lv_iload_n hx hb dX4_clear_17 rfl (lv_at hl 1 rfl) ?_
        refine lv_iconst (v := 0) hx hb dX4_clear_18 (by decide) ?_
        refine va_zast (f := ft2) hx hb hK.1 hP hD hS 1 0 rfl rfl (vp_in_nI hk (by decide)) dX4_clear_19 (fun H locs hP hD hS => ?_)
        rw [show (nI k).toNatClampNeg = k from nI_clamp (by omega)] at hP hD
        have hP : va_P D vwCl [(o, .inr (4, [.int 0, .ref wa, .ref sa, .ref ma, .ref tl, .ref gx, .ref gy, .ref tx, .ref tz, .int ln, .ref kx, .ref ky, .int cn, .int ah])), (tl, .inl (cZ, 16, .inl (upd ft2 k 0)))] H := hP
        have hD : va_D A [(o, .inr (4, [.int 0, .ref wa, .ref sa, .ref ma, .ref tl, .ref gx, .ref gy, .ref tx, .ref tz, .int ln, .ref kx, .ref ky, .int cn, .int ah])), (tl, .inl (cZ, 16, .inl (upd ft2 k 0)))] := hD
        obtain ⟨i1_1, ei1_1⟩ : ∃ y : Int32, y = (nI k) + 1 := ⟨_, rfl⟩
        refine lv_iinc (v := i1_1) (lv' := [(1, .int i1_1), (0, .ref o)]) hx hb dX4_clear_20 hl (k := 1) rfl (by rw [ei1_1]; rfl) (by decide) rfl (fun ls hl => ?_)
        refine lv_goto (tgt := 7) hx hb dX4_clear_23 (by decide) ?_
        have q9 : i1_1 = nI (k + 1) := by rw [ei1_1]; exact nI_1 k
        subst q9
        refine ih7 (k + 1) (upd ft2 k 0) ?_ ?_ _ _ hP hD hS _ (lv_sub hl [1, 0] rfl)
        · omega
        · intro j hj
          by_cases h : j = k
          · subst h; exact pk_us
          · rw [pk_un h]; exact g2 j (by omega)
  refine L7 17 0 ft ?_ ?_ _ _ hP hD hS _ (lv_sub hl [1, 0] rfl)
  · omega
  · intro j hj; omega

set_option maxHeartbeats 4000000 in
set_option maxRecDepth 100000 in
theorem c_X4_count (l : Launch) (D : va_G) (cZ cI cJ : ClassId) (o wa sa ma tl gx gy tx tz kx ky : Nat) (cd ln cn ah : Int32) (what : Int32) : Ci l D cZ cI cJ yX4_count cX4_count 2 (some .int) { frames := 0, cells := 0, slots := 0, locals := 0 } [.ref o, .int what] [(o, .inr (4, [.int cd, .ref wa, .ref sa, .ref ma, .ref tl, .ref gx, .ref gy, .ref tx, .ref tz, .int ln, .ref kx, .ref ky, .int cn, .int ah]))] (S := Unit) (fun z _ => z = if what = 0 then ln else if what = 1 then cn else if what = 2 then (if ah = 0 then 0 else 1) else -1) (fun _ => [(o, .inr (4, [.int 0, .ref wa, .ref sa, .ref ma, .ref tl, .ref gx, .ref gy, .ref tx, .ref tz, .int ln, .ref kx, .ref ky, .int cn, .int ah]))]) := by
  refine Ci.of (by decide) ?_
  intro p e s m args below meth c A Q hB hret hP hD hA
  obtain ⟨hx, hb, hr, hlocks, hml, hown, hnm, hTB, hK⟩ := hB
  have hown : s.vm.findClass RX4 = some m.cls := hown
  have hS : va_S A s.heap s.heap [] := va_S.rf
  have hl := lv_entry ([.ref o, .int what]) (n := 2) (Nat.le_of_ble_eq_true rfl)
  rw [lg_entry_eq]
  generalize (lg_sl ([.ref o, .int what]) ++ List.replicate (2 - (lg_sl ([.ref o, .int what])).length) Slot.unset).toArray = ls at hl ⊢
  have hl : lv_has ls 2 [(0, .ref o), (1, .int what)] := hl
  refine lv_aload_n hx hb dX4_count_0 rfl (lv_at hl 0 rfl) ?_
  refine lv_iconst (v := 0) hx hb dX4_count_1 (by decide) ?_
  refine va_put (D := D) (ci := 4) (v := .int 0) (ty := .int) (C := RX4) (T := TX4) (N := 14) hx hb hTB tb_X4 tyX4 tyX4_ok nmX4 hown hK.1 hP hD hS 0 rfl rfl 0 (by decide) (hTB _ tb_6_4) (fun _ h9 => h9) rfl (by decide +kernel) rfl rfl (Nat.le_of_ble_eq_true rfl) dX4_count_2 (fun H locs hP hD hS => ?_)
  have hP : va_P D vwCl [(o, .inr (4, [.int 0, .ref wa, .ref sa, .ref ma, .ref tl, .ref gx, .ref gy, .ref tx, .ref tz, .int ln, .ref kx, .ref ky, .int cn, .int ah]))] H := hP
  have hD : va_D A [(o, .inr (4, [.int 0, .ref wa, .ref sa, .ref ma, .ref tl, .ref gx, .ref gy, .ref tx, .ref tz, .int ln, .ref kx, .ref ky, .int cn, .int ah]))] := hD
  refine lv_iload_n hx hb dX4_count_5 rfl (lv_at hl 1 rfl) ?_
  refine lv_if_ne (tgt := 16) hx hb dX4_count_6 (by decide) (fun c_6 => ?_) (fun c_6 => ?_)
  · refine lv_iload_n hx hb dX4_count_16 rfl (lv_at hl 1 rfl) ?_
    refine lv_iconst (v := 1) hx hb dX4_count_17 (by decide) ?_
    refine lv_icmp_ne (tgt := 28) hx hb dX4_count_18 (by decide) (fun c_18 => ?_) (fun c_18 => ?_)
    · refine lv_iload_n hx hb dX4_count_28 rfl (lv_at hl 1 rfl) ?_
      refine lv_iconst (v := 2) hx hb dX4_count_29 (by decide) ?_
      refine lv_icmp_ne (tgt := 48) hx hb dX4_count_30 (by decide) (fun c_30 => ?_) (fun c_30 => ?_)
      · refine lv_iconst (v := (-1)) hx hb dX4_count_48 (by decide) ?_
        exact hret hP hD hS rfl () (by rw [if_neg c_6, if_neg c_18, if_neg c_30]) [0] rfl (by decide) dX4_count_49 (Nat.le_of_ble_eq_true rfl) (Nat.le_of_ble_eq_true rfl)
      · refine lv_aload_n hx hb dX4_count_33 rfl (lv_at hl 0 rfl) ?_
        refine va_get (D := D) (ci := 4) (v := .int ah) (C := RX4) (T := TX4) (N := 14) hx hb hTB tb_X4 hown hK.1 hP 0 rfl rfl 13 (by decide) (hTB _ tb_12_22) (fun _ h9 => h9) rfl dX4_count_34 ?_
        refine lv_if_eq (tgt := 44) hx hb dX4_count_37 (by decide) (fun c_37 => ?_) (fun c_37 => ?_)
        · refine lv_iconst (v := 0) hx hb dX4_count_44 (by decide) ?_
          refine lv_goto (tgt := 49) hx hb dX4_count_45 (by decide) ?_
          exact hret hP hD hS rfl () (by rw [if_neg c_6, if_neg c_18, if_pos c_30, if_pos c_37]) [0] rfl (by decide) dX4_count_49 (Nat.le_of_ble_eq_true rfl) (Nat.le_of_ble_eq_true rfl)
        · refine lv_iconst (v := 1) hx hb dX4_count_40 (by decide) ?_
          refine lv_goto (tgt := 49) hx hb dX4_count_41 (by decide) ?_
          exact hret hP hD hS rfl () (by rw [if_neg c_6, if_neg c_18, if_pos c_30, if_neg c_37]) [0] rfl (by decide) dX4_count_49 (Nat.le_of_ble_eq_true rfl) (Nat.le_of_ble_eq_true rfl)
    · refine lv_aload_n hx hb dX4_count_21 rfl (lv_at hl 0 rfl) ?_
      refine va_get (D := D) (ci := 4) (v := .int cn) (C := RX4) (T := TX4) (N := 14) hx hb hTB tb_X4 hown hK.1 hP 0 rfl rfl 12 (by decide) (hTB _ tb_18_6) (fun _ h9 => h9) rfl dX4_count_22 ?_
      refine lv_goto (tgt := 49) hx hb dX4_count_25 (by decide) ?_
      exact hret hP hD hS rfl () (by rw [if_neg c_6, if_pos c_18]) [0] rfl (by decide) dX4_count_49 (Nat.le_of_ble_eq_true rfl) (Nat.le_of_ble_eq_true rfl)
  · refine lv_aload_n hx hb dX4_count_9 rfl (lv_at hl 0 rfl) ?_
    refine va_get (D := D) (ci := 4) (v := .int ln) (C := RX4) (T := TX4) (N := 14) hx hb hTB tb_X4 hown hK.1 hP 0 rfl rfl 9 (by decide) (hTB _ tb_8_3) (fun _ h9 => h9) rfl dX4_count_10 ?_
    refine lv_goto (tgt := 49) hx hb dX4_count_13 (by decide) ?_
    exact hret hP hD hS rfl () (by rw [if_pos c_6]) [0] rfl (by decide) dX4_count_49 (Nat.le_of_ble_eq_true rfl) (Nat.le_of_ble_eq_true rfl)

set_option maxHeartbeats 4000000 in
set_option maxRecDepth 100000 in
theorem c_X4_thrown (l : Launch) (D : va_G) (cZ cI cJ : ClassId) (o wa sa ma tl gx gy tx tz kx ky : Nat) (cd ln cn ah : Int32) : Ri l D cZ cI cJ yX4_thrown cX4_thrown 1 (some .int) { frames := 0, cells := 0, slots := 0, locals := 0 } [.ref o] [(o, .inr (4, [.int cd, .ref wa, .ref sa, .ref ma, .ref tl, .ref gx, .ref gy, .ref tx, .ref tz, .int ln, .ref kx, .ref ky, .int cn, .int ah]))] (fun r => r = cd) := by
  refine Ri.of (by decide) ?_
  intro p e s m args below meth c Q hB hret hP
  obtain ⟨hx, hb, hr, hlocks, hml, hown, hnm, hTB, hK⟩ := hB
  have hown : s.vm.findClass RX4 = some m.cls := hown
  have hl := lv_entry ([.ref o]) (n := 1) (Nat.le_of_ble_eq_true rfl)
  rw [lg_entry_eq]
  generalize (lg_sl ([.ref o]) ++ List.replicate (1 - (lg_sl ([.ref o])).length) Slot.unset).toArray = ls at hl ⊢
  have hl : lv_has ls 1 [(0, .ref o)] := hl
  refine lv_aload_n hx hb dX4_thrown_0 rfl (lv_at hl 0 rfl) ?_
  refine va_get (D := D) (ci := 4) (v := .int cd) (C := RX4) (T := TX4) (N := 14) hx hb hTB tb_X4 hown hK.1 hP 0 rfl rfl 0 (by decide) (hTB _ tb_6_4) (fun _ h9 => h9) rfl dX4_thrown_1 ?_
  exact hret rfl rfl dX4_thrown_4

set_option maxHeartbeats 4000000 in
set_option maxRecDepth 100000 in
theorem c_X4_init (l : Launch) (D : va_G) (cZ cI cJ : ClassId) (o : Nat) : Cv l D cZ cI cJ yX4_init cX4_init 1 { frames := 1, cells := 10, slots := 332, locals := 12 } [.ref o] [(o, .inr (4, [.int 0, .null, .null, .null, .null, .null, .null, .null, .null, .int 0, .null, .null, .int 0, .int 0]))] (S := Nat × Nat × Nat × Nat × Nat × Nat × Nat × Nat × Nat × Nat) (fun u => True) (fun u => [(o, .inr (4, [.int 0, .ref u.1, .ref u.2.1, .ref u.2.2.1, .ref u.2.2.2.1, .ref u.2.2.2.2.1, .ref u.2.2.2.2.2.1, .ref u.2.2.2.2.2.2.1, .ref u.2.2.2.2.2.2.2.1, .int 0, .ref u.2.2.2.2.2.2.2.2.1, .ref u.2.2.2.2.2.2.2.2.2, .int 0, .int 0])), (u.1, .inl (cJ, 96, .inr (.inl (fun _ => 0)))), (u.2.1, .inl (cI, 16, .inl (fun _ => 0))), (u.2.2.1, .inl (cJ, 12, .inr (.inl (fun _ => 0)))), (u.2.2.2.1, .inl (cZ, 16, .inl (fun _ => 0))), (u.2.2.2.2.1, .inl (cJ, 16, .inr (.inl (fun _ => 0)))), (u.2.2.2.2.2.1, .inl (cJ, 16, .inr (.inl (fun _ => 0)))), (u.2.2.2.2.2.2.1, .inl (cJ, 16, .inr (.inl (fun _ => 0)))), (u.2.2.2.2.2.2.2.1, .inl (cJ, 16, .inr (.inl (fun _ => 0)))), (u.2.2.2.2.2.2.2.2.1, .inl (cJ, 64, .inr (.inl (fun _ => 0)))), (u.2.2.2.2.2.2.2.2.2, .inl (cJ, 64, .inr (.inl (fun _ => 0))))]) := by
  refine Cv.of (by decide) ?_
  intro p e s m args below meth c A Q hB hret hP hD hA
  obtain ⟨hx, hb, hr, hlocks, hml, hown, hnm, hTB, hK⟩ := hB
  have hown : s.vm.findClass RX4 = some m.cls := hown
  have hS : va_S A s.heap s.heap [] := va_S.rf
  have hl := lv_entry ([.ref o]) (n := 1) (Nat.le_of_ble_eq_true rfl)
  rw [lg_entry_eq]
  generalize (lg_sl ([.ref o]) ++ List.replicate (1 - (lg_sl ([.ref o])).length) Slot.unset).toArray = ls at hl ⊢
  have hl : lv_has ls 1 [(0, .ref o)] := hl
  refine lv_aload_n hx hb dX4_init_0 rfl (lv_at hl 0 rfl) ?_
  refine W.objInit hx hb hown (hTB _ tb_3_12) (hTB _ tb_1_12) (hTB _ tb_1_13) rfl (by rw [hml]; exact hl.1) rfl dX4_init_1 (Nat.le_of_ble_eq_true rfl) (Nat.le_of_ble_eq_true rfl) ?_
  refine W.eq (g2 := F0 m 4 ls []) rfl ?_
  refine lv_aload_n hx hb dX4_init_4 rfl (lv_at hl 0 rfl) ?_
  refine lv_bipush (v := 96) hx hb dX4_init_5 (by decide) ?_
  refine nw_J (N' := 96) hx hb (hTB _ tb_1_6) hK hP hD hS hA (by decide) (by decide) (by decide) (Nat.le_of_ble_eq_true rfl) (Nat.le_of_ble_eq_true rfl) dX4_init_7 (fun n7 H hP hD hS => ?_)
  have hP : va_P D vwCl [(o, .inr (4, [.int 0, .null, .null, .null, .null, .null, .null, .null, .null, .int 0, .null, .null, .int 0, .int 0])), (n7, .inl (cJ, 96, .inr (.inl (fun _ => 0))))] H := hP
  have hD : va_D A [(o, .inr (4, [.int 0, .null, .null, .null, .null, .null, .null, .null, .null, .int 0, .null, .null, .int 0, .int 0])), (n7, .inl (cJ, 96, .inr (.inl (fun _ => 0))))] := hD
  refine W.widen (k := 1) (n := 96) (by decide) (by decide) ?_
  refine va_putF (D := D) (ci := 4) (v := .ref n7) (ty := .array .long) (C := RX4) (T := TX4) (N := 14) hx hb hTB tb_X4 tyX4 tyX4_ok nmX4 hown hK.1 hP hD hS 0 rfl rfl 1 (by decide) (hTB _ tb_3_13) (fun _ h9 => h9) rfl hnm rfl (by decide +kernel) rfl rfl (Nat.le_of_ble_eq_true rfl) dX4_init_9 (fun H locs hP hD hS => ?_)
  have hP : va_P D vwCl [(o, .inr (4, [.int 0, .ref n7, .null, .null, .null, .null, .null, .null, .null, .int 0, .null, .null, .int 0, .int 0])), (n7, .inl (cJ, 96, .inr (.inl (fun _ => 0))))] H := hP
  have hD : va_D A [(o, .inr (4, [.int 0, .ref n7, .null, .null, .null, .null, .null, .null, .null, .int 0, .null, .null, .int 0, .int 0])), (n7, .inl (cJ, 96, .inr (.inl (fun _ => 0))))] := hD
  refine lv_aload_n hx hb dX4_init_12 rfl (lv_at hl 0 rfl) ?_
  refine lv_bipush (v := 16) hx hb dX4_init_13 (by decide) ?_
  refine nw_I (N' := 16) hx hb (hTB _ tb_3_14) hK hP hD hS hA (by decide) (by decide) (by decide) (Nat.le_of_ble_eq_true rfl) (Nat.le_of_ble_eq_true rfl) dX4_init_15 (fun n15 H hP hD hS => ?_)
  have hP : va_P D vwCl [(o, .inr (4, [.int 0, .ref n7, .null, .null, .null, .null, .null, .null, .null, .int 0, .null, .null, .int 0, .int 0])), (n7, .inl (cJ, 96, .inr (.inl (fun _ => 0)))), (n15, .inl (cI, 16, .inl (fun _ => 0)))] H := hP
  have hD : va_D A [(o, .inr (4, [.int 0, .ref n7, .null, .null, .null, .null, .null, .null, .null, .int 0, .null, .null, .int 0, .int 0])), (n7, .inl (cJ, 96, .inr (.inl (fun _ => 0)))), (n15, .inl (cI, 16, .inl (fun _ => 0)))] := hD
  refine W.widen (k := 2) (n := 112) (by decide) (by decide) ?_
  refine va_putF (D := D) (ci := 4) (v := .ref n15) (ty := .array .int) (C := RX4) (T := TX4) (N := 14) hx hb hTB tb_X4 tyX4 tyX4_ok nmX4 hown hK.1 hP hD hS 0 rfl rfl 2 (by decide) (hTB _ tb_3_15) (fun _ h9 => h9) rfl hnm rfl (by decide +kernel) rfl rfl (Nat.le_of_ble_eq_true rfl) dX4_init_17 (fun H locs hP hD hS => ?_)
  have hP : va_P D vwCl [(o, .inr (4, [.int 0, .ref n7, .ref n15, .null, .null, .null, .null, .null, .null, .int 0, .null, .null, .int 0, .int 0])), (n7, .inl (cJ, 96, .inr (.inl (fun _ => 0)))), (n15, .inl (cI, 16, .inl (fun _ => 0)))] H := hP
  have hD : va_D A [(o, .inr (4, [.int 0, .ref n7, .ref n15, .null, .null, .null, .null, .null, .null, .int 0, .null, .null, .int 0, .int 0])), (n7, .inl (cJ, 96, .inr (.inl (fun _ => 0)))), (n15, .inl (cI, 16, .inl (fun _ => 0)))] := hD
  refine lv_aload_n hx hb dX4_init_20 rfl (lv_at hl 0 rfl) ?_
  refine lv_bipush (v := 12) hx hb dX4_init_21 (by decide) ?_
  refine nw_J (N' := 12) hx hb (hTB _ tb_1_6) hK hP hD hS hA (by decide) (by decide) (by decide) (Nat.le_of_ble_eq_true rfl) (Nat.le_of_ble_eq_true rfl) dX4_init_23 (fun n23 H hP hD hS => ?_)
  have hP : va_P D vwCl [(o, .inr (4, [.int 0, .ref n7, .ref n15, .null, .null, .null, .null, .null, .null, .int 0, .null, .null, .int 0, .int 0])), (n7, .inl (cJ, 96, .inr (.inl (fun _ => 0)))), (n15, .inl (cI, 16, .inl (fun _ => 0))), (n23, .inl (cJ, 12, .inr (.inl (fun _ => 0))))] H := hP
  have hD : va_D A [(o, .inr (4, [.int 0, .ref n7, .ref n15, .null, .null, .null, .null, .null, .null, .int 0, .null, .null, .int 0, .int 0])), (n7, .inl (cJ, 96, .inr (.inl (fun _ => 0)))), (n15, .inl (cI, 16, .inl (fun _ => 0))), (n23, .inl (cJ, 12, .inr (.inl (fun _ => 0))))] := hD
  refine W.widen (k := 3) (n := 124) (by decide) (by decide) ?_
  refine va_putF (D := D) (ci := 4) (v := .ref n23) (ty := .array .long) (C := RX4) (T := TX4) (N := 14) hx hb hTB tb_X4 tyX4 tyX4_ok nmX4 hown hK.1 hP hD hS 0 rfl rfl 3 (by decide) (hTB _ tb_3_16) (fun _ h9 => h9) rfl hnm rfl (by decide +kernel) rfl rfl (Nat.le_of_ble_eq_true rfl) dX4_init_25 (fun H locs hP hD hS => ?_)
  have hP : va_P D vwCl [(o, .inr (4, [.int 0, .ref n7, .ref n15, .ref n23, .null, .null, .null, .null, .null, .int 0, .null, .null, .int 0, .int 0])), (n7, .inl (cJ, 96, .inr (.inl (fun _ => 0)))), (n15, .inl (cI, 16, .inl (fun _ => 0))), (n23, .inl (cJ, 12, .inr (.inl (fun _ => 0))))] H := hP
  have hD : va_D A [(o, .inr (4, [.int 0, .ref n7, .ref n15, .ref n23, .null, .null, .null, .null, .null, .int 0, .null, .null, .int 0, .int 0])), (n7, .inl (cJ, 96, .inr (.inl (fun _ => 0)))), (n15, .inl (cI, 16, .inl (fun _ => 0))), (n23, .inl (cJ, 12, .inr (.inl (fun _ => 0))))] := hD
  refine lv_aload_n hx hb dX4_init_28 rfl (lv_at hl 0 rfl) ?_
  refine lv_bipush (v := 16) hx hb dX4_init_29 (by decide) ?_
  refine nw_Z (N' := 16) hx hb (hTB _ tb_1_14) hK hP hD hS hA (by decide) (by decide) (by decide) (Nat.le_of_ble_eq_true rfl) (Nat.le_of_ble_eq_true rfl) dX4_init_31 (fun n31 H hP hD hS => ?_)
  have hP : va_P D vwCl [(o, .inr (4, [.int 0, .ref n7, .ref n15, .ref n23, .null, .null, .null, .null, .null, .int 0, .null, .null, .int 0, .int 0])), (n7, .inl (cJ, 96, .inr (.inl (fun _ => 0)))), (n15, .inl (cI, 16, .inl (fun _ => 0))), (n23, .inl (cJ, 12, .inr (.inl (fun _ => 0)))), (n31, .inl (cZ, 16, .inl (fun _ => 0)))] H := hP
  have hD : va_D A [(o, .inr (4, [.int 0, .ref n7, .ref n15, .ref n23, .null, .null, .null, .null, .null, .int 0, .null, .null, .int 0, .int 0])), (n7, .inl (cJ, 96, .inr (.inl (fun _ => 0)))), (n15, .inl (cI, 16, .inl (fun _ => 0))), (n23, .inl (cJ, 12, .inr (.inl (fun _ => 0)))), (n31, .inl (cZ, 16, .inl (fun _ => 0)))] := hD
  refine W.widen (k := 4) (n := 140) (by decide) (by decide) ?_
  refine va_putF (D := D) (ci := 4) (v := .ref n31) (ty := .array .boolean) (C := RX4) (T := TX4) (N := 14) hx hb hTB tb_X4 tyX4 tyX4_ok nmX4 hown hK.1 hP hD hS 0 rfl rfl 4 (by decide) (hTB _ tb_3_17) (fun _ h9 => h9) rfl hnm rfl (by decide +kernel) rfl rfl (Nat.le_of_ble_eq_true rfl) dX4_init_33 (fun H locs hP hD hS => ?_)
  have hP : va_P D vwCl [(o, .inr (4, [.int 0, .ref n7, .ref n15, .ref n23, .ref n31, .null, .null, .null, .null, .int 0, .null, .null, .int 0, .int 0])), (n7, .inl (cJ, 96, .inr (.inl (fun _ => 0)))), (n15, .inl (cI, 16, .inl (fun _ => 0))), (n23, .inl (cJ, 12, .inr (.inl (fun _ => 0)))), (n31, .inl (cZ, 16, .inl (fun _ => 0)))] H := hP
  have hD : va_D A [(o, .inr (4, [.int 0, .ref n7, .ref n15, .ref n23, .ref n31, .null, .null, .null, .null, .int 0, .null, .null, .int 0, .int 0])), (n7, .inl (cJ, 96, .inr (.inl (fun _ => 0)))), (n15, .inl (cI, 16, .inl (fun _ => 0))), (n23, .inl (cJ, 12, .inr (.inl (fun _ => 0)))), (n31, .inl (cZ, 16, .inl (fun _ => 0)))] := hD
  refine lv_aload_n hx hb dX4_init_36 rfl (lv_at hl 0 rfl) ?_
  refine lv_bipush (v := 16) hx hb dX4_init_37 (by decide) ?_
  refine nw_J (N' := 16) hx hb (hTB _ tb_1_6) hK hP hD hS hA (by decide) (by decide) (by decide) (Nat.le_of_ble_eq_true rfl) (Nat.le_of_ble_eq_true rfl) dX4_init_39 (fun n39 H hP hD hS => ?_)
  have hP : va_P D vwCl [(o, .inr (4, [.int 0, .ref n7, .ref n15, .ref n23, .ref n31, .null, .null, .null, .null, .int 0, .null, .null, .int 0, .int 0])), (n7, .inl (cJ, 96, .inr (.inl (fun _ => 0)))), (n15, .inl (cI, 16, .inl (fun _ => 0))), (n23, .inl (cJ, 12, .inr (.inl (fun _ => 0)))), (n31, .inl (cZ, 16, .inl (fun _ => 0))), (n39, .inl (cJ, 16, .inr (.inl (fun _ => 0))))] H := hP
  have hD : va_D A [(o, .inr (4, [.int 0, .ref n7, .ref n15, .ref n23, .ref n31, .null, .null, .null, .null, .int 0, .null, .null, .int 0, .int 0])), (n7, .inl (cJ, 96, .inr (.inl (fun _ => 0)))), (n15, .inl (cI, 16, .inl (fun _ => 0))), (n23, .inl (cJ, 12, .inr (.inl (fun _ => 0)))), (n31, .inl (cZ, 16, .inl (fun _ => 0))), (n39, .inl (cJ, 16, .inr (.inl (fun _ => 0))))] := hD
  refine W.widen (k := 5) (n := 156) (by decide) (by decide) ?_
  refine va_putF (D := D) (ci := 4) (v := .ref n39) (ty := .array .long) (C := RX4) (T := TX4) (N := 14) hx hb hTB tb_X4 tyX4 tyX4_ok nmX4 hown hK.1 hP hD hS 0 rfl rfl 5 (by decide) (hTB _ tb_3_18) (fun _ h9 => h9) rfl hnm rfl (by decide +kernel) rfl rfl (Nat.le_of_ble_eq_true rfl) dX4_init_41 (fun H locs hP hD hS => ?_)
  have hP : va_P D vwCl [(o, .inr (4, [.int 0, .ref n7, .ref n15, .ref n23, .ref n31, .ref n39, .null, .null, .null, .int 0, .null, .null, .int 0, .int 0])), (n7, .inl (cJ, 96, .inr (.inl (fun _ => 0)))), (n15, .inl (cI, 16, .inl (fun _ => 0))), (n23, .inl (cJ, 12, .inr (.inl (fun _ => 0)))), (n31, .inl (cZ, 16, .inl (fun _ => 0))), (n39, .inl (cJ, 16, .inr (.inl (fun _ => 0))))] H := hP
  have hD : va_D A [(o, .inr (4, [.int 0, .ref n7, .ref n15, .ref n23, .ref n31, .ref n39, .null, .null, .null, .int 0, .null, .null, .int 0, .int 0])), (n7, .inl (cJ, 96, .inr (.inl (fun _ => 0)))), (n15, .inl (cI, 16, .inl (fun _ => 0))), (n23, .inl (cJ, 12, .inr (.inl (fun _ => 0)))), (n31, .inl (cZ, 16, .inl (fun _ => 0))), (n39, .inl (cJ, 16, .inr (.inl (fun _ => 0))))] := hD
  refine lv_aload_n hx hb dX4_init_44 rfl (lv_at hl 0 rfl) ?_
  refine lv_bipush (v := 16) hx hb dX4_init_45 (by decide) ?_
  refine nw_J (N' := 16) hx hb (hTB _ tb_1_6) hK hP hD hS hA (by decide) (by decide) (by decide) (Nat.le_of_ble_eq_true rfl) (Nat.le_of_ble_eq_true rfl) dX4_init_47 (fun n47 H hP hD hS => ?_)
  have hP : va_P D vwCl [(o, .inr (4, [.int 0, .ref n7, .ref n15, .ref n23, .ref n31, .ref n39, .null, .null, .null, .int 0, .null, .null, .int 0, .int 0])), (n7, .inl (cJ, 96, .inr (.inl (fun _ => 0)))), (n15, .inl (cI, 16, .inl (fun _ => 0))), (n23, .inl (cJ, 12, .inr (.inl (fun _ => 0)))), (n31, .inl (cZ, 16, .inl (fun _ => 0))), (n39, .inl (cJ, 16, .inr (.inl (fun _ => 0)))), (n47, .inl (cJ, 16, .inr (.inl (fun _ => 0))))] H := hP
  have hD : va_D A [(o, .inr (4, [.int 0, .ref n7, .ref n15, .ref n23, .ref n31, .ref n39, .null, .null, .null, .int 0, .null, .null, .int 0, .int 0])), (n7, .inl (cJ, 96, .inr (.inl (fun _ => 0)))), (n15, .inl (cI, 16, .inl (fun _ => 0))), (n23, .inl (cJ, 12, .inr (.inl (fun _ => 0)))), (n31, .inl (cZ, 16, .inl (fun _ => 0))), (n39, .inl (cJ, 16, .inr (.inl (fun _ => 0)))), (n47, .inl (cJ, 16, .inr (.inl (fun _ => 0))))] := hD
  refine W.widen (k := 6) (n := 172) (by decide) (by decide) ?_
  refine va_putF (D := D) (ci := 4) (v := .ref n47) (ty := .array .long) (C := RX4) (T := TX4) (N := 14) hx hb hTB tb_X4 tyX4 tyX4_ok nmX4 hown hK.1 hP hD hS 0 rfl rfl 6 (by decide) (hTB _ tb_3_19) (fun _ h9 => h9) rfl hnm rfl (by decide +kernel) rfl rfl (Nat.le_of_ble_eq_true rfl) dX4_init_49 (fun H locs hP hD hS => ?_)
  have hP : va_P D vwCl [(o, .inr (4, [.int 0, .ref n7, .ref n15, .ref n23, .ref n31, .ref n39, .ref n47, .null, .null, .int 0, .null, .null, .int 0, .int 0])), (n7, .inl (cJ, 96, .inr (.inl (fun _ => 0)))), (n15, .inl (cI, 16, .inl (fun _ => 0))), (n23, .inl (cJ, 12, .inr (.inl (fun _ => 0)))), (n31, .inl (cZ, 16, .inl (fun _ => 0))), (n39, .inl (cJ, 16, .inr (.inl (fun _ => 0)))), (n47, .inl (cJ, 16, .inr (.inl (fun _ => 0))))] H := hP
  have hD : va_D A [(o, .inr (4, [.int 0, .ref n7, .ref n15, .ref n23, .ref n31, .ref n39, .ref n47, .null, .null, .int 0, .null, .null, .int 0, .int 0])), (n7, .inl (cJ, 96, .inr (.inl (fun _ => 0)))), (n15, .inl (cI, 16, .inl (fun _ => 0))), (n23, .inl (cJ, 12, .inr (.inl (fun _ => 0)))), (n31, .inl (cZ, 16, .inl (fun _ => 0))), (n39, .inl (cJ, 16, .inr (.inl (fun _ => 0)))), (n47, .inl (cJ, 16, .inr (.inl (fun _ => 0))))] := hD
  refine lv_aload_n hx hb dX4_init_52 rfl (lv_at hl 0 rfl) ?_
  refine lv_bipush (v := 16) hx hb dX4_init_53 (by decide) ?_
  refine nw_J (N' := 16) hx hb (hTB _ tb_1_6) hK hP hD hS hA (by decide) (by decide) (by decide) (Nat.le_of_ble_eq_true rfl) (Nat.le_of_ble_eq_true rfl) dX4_init_55 (fun n55 H hP hD hS => ?_)
  have hP : va_P D vwCl [(o, .inr (4, [.int 0, .ref n7, .ref n15, .ref n23, .ref n31, .ref n39, .ref n47, .null, .null, .int 0, .null, .null, .int 0, .int 0])), (n7, .inl (cJ, 96, .inr (.inl (fun _ => 0)))), (n15, .inl (cI, 16, .inl (fun _ => 0))), (n23, .inl (cJ, 12, .inr (.inl (fun _ => 0)))), (n31, .inl (cZ, 16, .inl (fun _ => 0))), (n39, .inl (cJ, 16, .inr (.inl (fun _ => 0)))), (n47, .inl (cJ, 16, .inr (.inl (fun _ => 0)))), (n55, .inl (cJ, 16, .inr (.inl (fun _ => 0))))] H := hP
  have hD : va_D A [(o, .inr (4, [.int 0, .ref n7, .ref n15, .ref n23, .ref n31, .ref n39, .ref n47, .null, .null, .int 0, .null, .null, .int 0, .int 0])), (n7, .inl (cJ, 96, .inr (.inl (fun _ => 0)))), (n15, .inl (cI, 16, .inl (fun _ => 0))), (n23, .inl (cJ, 12, .inr (.inl (fun _ => 0)))), (n31, .inl (cZ, 16, .inl (fun _ => 0))), (n39, .inl (cJ, 16, .inr (.inl (fun _ => 0)))), (n47, .inl (cJ, 16, .inr (.inl (fun _ => 0)))), (n55, .inl (cJ, 16, .inr (.inl (fun _ => 0))))] := hD
  refine W.widen (k := 7) (n := 188) (by decide) (by decide) ?_
  refine va_putF (D := D) (ci := 4) (v := .ref n55) (ty := .array .long) (C := RX4) (T := TX4) (N := 14) hx hb hTB tb_X4 tyX4 tyX4_ok nmX4 hown hK.1 hP hD hS 0 rfl rfl 7 (by decide) (hTB _ tb_3_20) (fun _ h9 => h9) rfl hnm rfl (by decide +kernel) rfl rfl (Nat.le_of_ble_eq_true rfl) dX4_init_57 (fun H locs hP hD hS => ?_)
  have hP : va_P D vwCl [(o, .inr (4, [.int 0, .ref n7, .ref n15, .ref n23, .ref n31, .ref n39, .ref n47, .ref n55, .null, .int 0, .null, .null, .int 0, .int 0])), (n7, .inl (cJ, 96, .inr (.inl (fun _ => 0)))), (n15, .inl (cI, 16, .inl (fun _ => 0))), (n23, .inl (cJ, 12, .inr (.inl (fun _ => 0)))), (n31, .inl (cZ, 16, .inl (fun _ => 0))), (n39, .inl (cJ, 16, .inr (.inl (fun _ => 0)))), (n47, .inl (cJ, 16, .inr (.inl (fun _ => 0)))), (n55, .inl (cJ, 16, .inr (.inl (fun _ => 0))))] H := hP
  have hD : va_D A [(o, .inr (4, [.int 0, .ref n7, .ref n15, .ref n23, .ref n31, .ref n39, .ref n47, .ref n55, .null, .int 0, .null, .null, .int 0, .int 0])), (n7, .inl (cJ, 96, .inr (.inl (fun _ => 0)))), (n15, .inl (cI, 16, .inl (fun _ => 0))), (n23, .inl (cJ, 12, .inr (.inl (fun _ => 0)))), (n31, .inl (cZ, 16, .inl (fun _ => 0))), (n39, .inl (cJ, 16, .inr (.inl (fun _ => 0)))), (n47, .inl (cJ, 16, .inr (.inl (fun _ => 0)))), (n55, .inl (cJ, 16, .inr (.inl (fun _ => 0))))] := hD
  refine lv_aload_n hx hb dX4_init_60 rfl (lv_at hl 0 rfl) ?_
  refine lv_bipush (v := 16) hx hb dX4_init_61 (by decide) ?_
  refine nw_J (N' := 16) hx hb (hTB _ tb_1_6) hK hP hD hS hA (by decide) (by decide) (by decide) (Nat.le_of_ble_eq_true rfl) (Nat.le_of_ble_eq_true rfl) dX4_init_63 (fun n63 H hP hD hS => ?_)
  have hP : va_P D vwCl [(o, .inr (4, [.int 0, .ref n7, .ref n15, .ref n23, .ref n31, .ref n39, .ref n47, .ref n55, .null, .int 0, .null, .null, .int 0, .int 0])), (n7, .inl (cJ, 96, .inr (.inl (fun _ => 0)))), (n15, .inl (cI, 16, .inl (fun _ => 0))), (n23, .inl (cJ, 12, .inr (.inl (fun _ => 0)))), (n31, .inl (cZ, 16, .inl (fun _ => 0))), (n39, .inl (cJ, 16, .inr (.inl (fun _ => 0)))), (n47, .inl (cJ, 16, .inr (.inl (fun _ => 0)))), (n55, .inl (cJ, 16, .inr (.inl (fun _ => 0)))), (n63, .inl (cJ, 16, .inr (.inl (fun _ => 0))))] H := hP
  have hD : va_D A [(o, .inr (4, [.int 0, .ref n7, .ref n15, .ref n23, .ref n31, .ref n39, .ref n47, .ref n55, .null, .int 0, .null, .null, .int 0, .int 0])), (n7, .inl (cJ, 96, .inr (.inl (fun _ => 0)))), (n15, .inl (cI, 16, .inl (fun _ => 0))), (n23, .inl (cJ, 12, .inr (.inl (fun _ => 0)))), (n31, .inl (cZ, 16, .inl (fun _ => 0))), (n39, .inl (cJ, 16, .inr (.inl (fun _ => 0)))), (n47, .inl (cJ, 16, .inr (.inl (fun _ => 0)))), (n55, .inl (cJ, 16, .inr (.inl (fun _ => 0)))), (n63, .inl (cJ, 16, .inr (.inl (fun _ => 0))))] := hD
  refine W.widen (k := 8) (n := 204) (by decide) (by decide) ?_
  refine va_putF (D := D) (ci := 4) (v := .ref n63) (ty := .array .long) (C := RX4) (T := TX4) (N := 14) hx hb hTB tb_X4 tyX4 tyX4_ok nmX4 hown hK.1 hP hD hS 0 rfl rfl 8 (by decide) (hTB _ tb_3_21) (fun _ h9 => h9) rfl hnm rfl (by decide +kernel) rfl rfl (Nat.le_of_ble_eq_true rfl) dX4_init_65 (fun H locs hP hD hS => ?_)
  have hP : va_P D vwCl [(o, .inr (4, [.int 0, .ref n7, .ref n15, .ref n23, .ref n31, .ref n39, .ref n47, .ref n55, .ref n63, .int 0, .null, .null, .int 0, .int 0])), (n7, .inl (cJ, 96, .inr (.inl (fun _ => 0)))), (n15, .inl (cI, 16, .inl (fun _ => 0))), (n23, .inl (cJ, 12, .inr (.inl (fun _ => 0)))), (n31, .inl (cZ, 16, .inl (fun _ => 0))), (n39, .inl (cJ, 16, .inr (.inl (fun _ => 0)))), (n47, .inl (cJ, 16, .inr (.inl (fun _ => 0)))), (n55, .inl (cJ, 16, .inr (.inl (fun _ => 0)))), (n63, .inl (cJ, 16, .inr (.inl (fun _ => 0))))] H := hP
  have hD : va_D A [(o, .inr (4, [.int 0, .ref n7, .ref n15, .ref n23, .ref n31, .ref n39, .ref n47, .ref n55, .ref n63, .int 0, .null, .null, .int 0, .int 0])), (n7, .inl (cJ, 96, .inr (.inl (fun _ => 0)))), (n15, .inl (cI, 16, .inl (fun _ => 0))), (n23, .inl (cJ, 12, .inr (.inl (fun _ => 0)))), (n31, .inl (cZ, 16, .inl (fun _ => 0))), (n39, .inl (cJ, 16, .inr (.inl (fun _ => 0)))), (n47, .inl (cJ, 16, .inr (.inl (fun _ => 0)))), (n55, .inl (cJ, 16, .inr (.inl (fun _ => 0)))), (n63, .inl (cJ, 16, .inr (.inl (fun _ => 0))))] := hD
  refine lv_aload_n hx hb dX4_init_68 rfl (lv_at hl 0 rfl) ?_
  refine lv_bipush (v := 64) hx hb dX4_init_69 (by decide) ?_
  refine nw_J (N' := 64) hx hb (hTB _ tb_1_6) hK hP hD hS hA (by decide) (by decide) (by decide) (Nat.le_of_ble_eq_true rfl) (Nat.le_of_ble_eq_true rfl) dX4_init_71 (fun n71 H hP hD hS => ?_)
  have hP : va_P D vwCl [(o, .inr (4, [.int 0, .ref n7, .ref n15, .ref n23, .ref n31, .ref n39, .ref n47, .ref n55, .ref n63, .int 0, .null, .null, .int 0, .int 0])), (n7, .inl (cJ, 96, .inr (.inl (fun _ => 0)))), (n15, .inl (cI, 16, .inl (fun _ => 0))), (n23, .inl (cJ, 12, .inr (.inl (fun _ => 0)))), (n31, .inl (cZ, 16, .inl (fun _ => 0))), (n39, .inl (cJ, 16, .inr (.inl (fun _ => 0)))), (n47, .inl (cJ, 16, .inr (.inl (fun _ => 0)))), (n55, .inl (cJ, 16, .inr (.inl (fun _ => 0)))), (n63, .inl (cJ, 16, .inr (.inl (fun _ => 0)))), (n71, .inl (cJ, 64, .inr (.inl (fun _ => 0))))] H := hP
  have hD : va_D A [(o, .inr (4, [.int 0, .ref n7, .ref n15, .ref n23, .ref n31, .ref n39, .ref n47, .ref n55, .ref n63, .int 0, .null, .null, .int 0, .int 0])), (n7, .inl (cJ, 96, .inr (.inl (fun _ => 0)))), (n15, .inl (cI, 16, .inl (fun _ => 0))), (n23, .inl (cJ, 12, .inr (.inl (fun _ => 0)))), (n31, .inl (cZ, 16, .inl (fun _ => 0))), (n39, .inl (cJ, 16, .inr (.inl (fun _ => 0)))), (n47, .inl (cJ, 16, .inr (.inl (fun _ => 0)))), (n55, .inl (cJ, 16, .inr (.inl (fun _ => 0)))), (n63, .inl (cJ, 16, .inr (.inl (fun _ => 0)))), (n71, .inl (cJ, 64, .inr (.inl (fun _ => 0))))] := hD
  refine W.widen (k := 9) (n := 268) (by decide) (by decide) ?_
  refine va_putF (D := D) (ci := 4) (v := .ref n71) (ty := .array .long) (C := RX4) (T := TX4) (N := 14) hx hb hTB tb_X4 tyX4 tyX4_ok nmX4 hown hK.1 hP hD hS 0 rfl rfl 10 (by decide) (hTB _ tb_3_22) (fun _ h9 => h9) rfl hnm rfl (by decide +kernel) rfl rfl (Nat.le_of_ble_eq_true rfl) dX4_init_73 (fun H locs hP hD hS => ?_)
  have hP : va_P D vwCl [(o, .inr (4, [.int 0, .ref n7, .ref n15, .ref n23, .ref n31, .ref n39, .ref n47, .ref n55, .ref n63, .int 0, .ref n71, .null, .int 0, .int 0])), (n7, .inl (cJ, 96, .inr (.inl (fun _ => 0)))), (n15, .inl (cI, 16, .inl (fun _ => 0))), (n23, .inl (cJ, 12, .inr (.inl (fun _ => 0)))), (n31, .inl (cZ, 16, .inl (fun _ => 0))), (n39, .inl (cJ, 16, .inr (.inl (fun _ => 0)))), (n47, .inl (cJ, 16, .inr (.inl (fun _ => 0)))), (n55, .inl (cJ, 16, .inr (.inl (fun _ => 0)))), (n63, .inl (cJ, 16, .inr (.inl (fun _ => 0)))), (n71, .inl (cJ, 64, .inr (.inl (fun _ => 0))))] H := hP
  have hD : va_D A [(o, .inr (4, [.int 0, .ref n7, .ref n15, .ref n23, .ref n31, .ref n39, .ref n47, .ref n55, .ref n63, .int 0, .ref n71, .null, .int 0, .int 0])), (n7, .inl (cJ, 96, .inr (.inl (fun _ => 0)))), (n15, .inl (cI, 16, .inl (fun _ => 0))), (n23, .inl (cJ, 12, .inr (.inl (fun _ => 0)))), (n31, .inl (cZ, 16, .inl (fun _ => 0))), (n39, .inl (cJ, 16, .inr (.inl (fun _ => 0)))), (n47, .inl (cJ, 16, .inr (.inl (fun _ => 0)))), (n55, .inl (cJ, 16, .inr (.inl (fun _ => 0)))), (n63, .inl (cJ, 16, .inr (.inl (fun _ => 0)))), (n71, .inl (cJ, 64, .inr (.inl (fun _ => 0))))] := hD
  refine lv_aload_n hx hb dX4_init_76 rfl (lv_at hl 0 rfl) ?_
  refine lv_bipush (v := 64) hx hb dX4_init_77 (by decide) ?_
  refine nw_J (N' := 64) hx hb (hTB _ tb_1_6) hK hP hD hS hA (by decide) (by decide) (by decide) (Nat.le_of_ble_eq_true rfl) (Nat.le_of_ble_eq_true rfl) dX4_init_79 (fun n79 H hP hD hS => ?_)
  have hP : va_P D vwCl [(o, .inr (4, [.int 0, .ref n7, .ref n15, .ref n23, .ref n31, .ref n39, .ref n47, .ref n55, .ref n63, .int 0, .ref n71, .null, .int 0, .int 0])), (n7, .inl (cJ, 96, .inr (.inl (fun _ => 0)))), (n15, .inl (cI, 16, .inl (fun _ => 0))), (n23, .inl (cJ, 12, .inr (.inl (fun _ => 0)))), (n31, .inl (cZ, 16, .inl (fun _ => 0))), (n39, .inl (cJ, 16, .inr (.inl (fun _ => 0)))), (n47, .inl (cJ, 16, .inr (.inl (fun _ => 0)))), (n55, .inl (cJ, 16, .inr (.inl (fun _ => 0)))), (n63, .inl (cJ, 16, .inr (.inl (fun _ => 0)))), (n71, .inl (cJ, 64, .inr (.inl (fun _ => 0)))), (n79, .inl (cJ, 64, .inr (.inl (fun _ => 0))))] H := hP
  have hD : va_D A [(o, .inr (4, [.int 0, .ref n7, .ref n15, .ref n23, .ref n31, .ref n39, .ref n47, .ref n55, .ref n63, .int 0, .ref n71, .null, .int 0, .int 0])), (n7, .inl (cJ, 96, .inr (.inl (fun _ => 0)))), (n15, .inl (cI, 16, .inl (fun _ => 0))), (n23, .inl (cJ, 12, .inr (.inl (fun _ => 0)))), (n31, .inl (cZ, 16, .inl (fun _ => 0))), (n39, .inl (cJ, 16, .inr (.inl (fun _ => 0)))), (n47, .inl (cJ, 16, .inr (.inl (fun _ => 0)))), (n55, .inl (cJ, 16, .inr (.inl (fun _ => 0)))), (n63, .inl (cJ, 16, .inr (.inl (fun _ => 0)))), (n71, .inl (cJ, 64, .inr (.inl (fun _ => 0)))), (n79, .inl (cJ, 64, .inr (.inl (fun _ => 0))))] := hD
  refine W.widen (k := 10) (n := 332) (by decide) (by decide) ?_
  refine va_putF (D := D) (ci := 4) (v := .ref n79) (ty := .array .long) (C := RX4) (T := TX4) (N := 14) hx hb hTB tb_X4 tyX4 tyX4_ok nmX4 hown hK.1 hP hD hS 0 rfl rfl 11 (by decide) (hTB _ tb_3_23) (fun _ h9 => h9) rfl hnm rfl (by decide +kernel) rfl rfl (Nat.le_of_ble_eq_true rfl) dX4_init_81 (fun H locs hP hD hS => ?_)
  have hP : va_P D vwCl [(o, .inr (4, [.int 0, .ref n7, .ref n15, .ref n23, .ref n31, .ref n39, .ref n47, .ref n55, .ref n63, .int 0, .ref n71, .ref n79, .int 0, .int 0])), (n7, .inl (cJ, 96, .inr (.inl (fun _ => 0)))), (n15, .inl (cI, 16, .inl (fun _ => 0))), (n23, .inl (cJ, 12, .inr (.inl (fun _ => 0)))), (n31, .inl (cZ, 16, .inl (fun _ => 0))), (n39, .inl (cJ, 16, .inr (.inl (fun _ => 0)))), (n47, .inl (cJ, 16, .inr (.inl (fun _ => 0)))), (n55, .inl (cJ, 16, .inr (.inl (fun _ => 0)))), (n63, .inl (cJ, 16, .inr (.inl (fun _ => 0)))), (n71, .inl (cJ, 64, .inr (.inl (fun _ => 0)))), (n79, .inl (cJ, 64, .inr (.inl (fun _ => 0))))] H := hP
  have hD : va_D A [(o, .inr (4, [.int 0, .ref n7, .ref n15, .ref n23, .ref n31, .ref n39, .ref n47, .ref n55, .ref n63, .int 0, .ref n71, .ref n79, .int 0, .int 0])), (n7, .inl (cJ, 96, .inr (.inl (fun _ => 0)))), (n15, .inl (cI, 16, .inl (fun _ => 0))), (n23, .inl (cJ, 12, .inr (.inl (fun _ => 0)))), (n31, .inl (cZ, 16, .inl (fun _ => 0))), (n39, .inl (cJ, 16, .inr (.inl (fun _ => 0)))), (n47, .inl (cJ, 16, .inr (.inl (fun _ => 0)))), (n55, .inl (cJ, 16, .inr (.inl (fun _ => 0)))), (n63, .inl (cJ, 16, .inr (.inl (fun _ => 0)))), (n71, .inl (cJ, 64, .inr (.inl (fun _ => 0)))), (n79, .inl (cJ, 64, .inr (.inl (fun _ => 0))))] := hD
  exact hret hP hD hS (n7, n15, n23, n31, n39, n47, n55, n63, n71, n79) trivial [0, 1, 2, 3, 4, 5, 6, 7, 8, 9, 10] rfl (by decide) dX4_init_84 (Nat.le_of_ble_eq_true rfl) (Nat.le_of_ble_eq_true rfl)
