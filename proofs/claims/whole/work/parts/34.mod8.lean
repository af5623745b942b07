set_option maxHeartbeats 4000000 in
set_option maxRecDepth 100000 in
theorem c_X4_inside (l : Launch) (D : va_G) (cZ cI cJ : ClassId) (o wa sa ma tl gx gy tx tz kx ky : Nat) (cd ln ah : Int32) (fw : Nat → Int64) (fs : Nat → Int32) (fm : Nat → Int64) (n : Nat) (fkx fky : Nat → Int64) (x y : Int64) (hlim : lim fw) (hn64 : n ≤ 64) (hkb : ∀ k, k < n → ogr (fkx k) (fky k)) : Ci l D cZ cI cJ yX4_inside cX4_inside 21 (some .int) { frames := 4, cells := 0, slots := 0, locals := 115 } [.ref o, .long x, .long y] [(o, .inr (4, [.int cd, .ref wa, .ref sa, .ref ma, .ref tl, .ref gx, .ref gy, .ref tx, .ref tz, .int ln, .ref kx, .ref ky, .int (nI n), .int ah])), (wa, .inl (cJ, 96, .inr (.inl fw))), (sa, .inl (cI, 16, .inl fs)), (ma, .inl (cJ, 12, .inr (.inl fm))), (kx, .inl (cJ, 64, .inr (.inl fkx))), (ky, .inl (cJ, 64, .inr (.inl fky)))] (S := (Nat → Int64) × (Nat → Int32) × (Nat → Int64)) (fun z u => z = insv n fkx fky x y ∧ kept fw fs u.1 u.2.1) (fun u => [(o, .inr (4, [.int 0, .ref wa, .ref sa, .ref ma, .ref tl, .ref gx, .ref gy, .ref tx, .ref tz, .int ln, .ref kx, .ref ky, .int (nI n), .int ah])), (wa, .inl (cJ, 96, .inr (.inl u.1))), (sa, .inl (cI, 16, .inl u.2.1)), (ma, .inl (cJ, 12, .inr (.inl u.2.2))), (kx, .inl (cJ, 64, .inr (.inl fkx))), (ky, .inl (cJ, 64, .inr (.inl fky)))]) := by
  refine Ci.of (by decide) ?_
  intro p e s m args below meth c A Q hB hret hP hD hA
  obtain ⟨hx, hb, hr, hlocks, hml, hown, hnm, hTB, hK⟩ := hB
  have hown : s.vm.findClass RX4 = some m.cls := hown
  have hS : va_S A s.heap s.heap [] := va_S.rf
  have hl := lv_entry ([.ref o, .long x, .long y]) (n := 21) (Nat.le_of_ble_eq_true rfl)
  rw [lg_entry_eq]
  generalize (lg_sl ([.ref o, .long x, .long y]) ++ List.replicate (21 - (lg_sl ([.ref o, .long x, .long y])).length) Slot.unset).toArray = ls at hl ⊢
  have hl : lv_has ls 21 [(0, .ref o), (1, .long x), (3, .long y)] := hl
  refine lv_aload_n hx hb dX4_inside_0 rfl (lv_at hl 0 rfl) ?_
  refine lv_iconst (v := 0) hx hb dX4_inside_1 (by decide) ?_
  refine va_put (D := D) (ci := 4) (v := .int 0) (ty := .int) (C := RX4) (T := TX4) (N := 14) hx hb hTB tb_X4 tyX4 tyX4_ok nmX4 hown hK.1 hP hD hS 0 rfl rfl 0 (by decide) (hTB _ tb_6_4) (fun _ h9 => h9) rfl (by decide +kernel) rfl rfl (Nat.le_of_ble_eq_true rfl) dX4_inside_2 (fun H locs hP hD hS => ?_)
  have hP : va_P D vwCl [(o, .inr (4, [.int 0, .ref wa, .ref sa, .ref ma, .ref tl, .ref gx, .ref gy, .ref tx, .ref tz, .int ln, .ref kx, .ref ky, .int (nI n), .int ah])), (wa, .inl (cJ, 96, .inr (.inl fw))), (sa, .inl (cI, 16, .inl fs)), (ma, .inl (cJ, 12, .inr (.inl fm))), (kx, .inl (cJ, 64, .inr (.inl fkx))), (ky, .inl (cJ, 64, .inr (.inl fky)))] H := hP
  have hD : va_D A [(o, .inr (4, [.int 0, .ref wa, .ref sa, .ref ma, .ref tl, .ref gx, .ref gy, .ref tx, .ref tz, .int ln, .ref kx, .ref ky, .int (nI n), .int ah])), (wa, .inl (cJ, 96, .inr (.inl fw))), (sa, .inl (cI, 16, .inl fs)), (ma, .inl (cJ, 12, .inr (.inl fm))), (kx, .inl (cJ, 64, .inr (.inl fkx))), (ky, .inl (cJ, 64, .inr (.inl fky)))] := hD
  refine lv_lload_n hx hb dX4_inside_5 rfl (lv_at hl 1 rfl) ?_
  refine lv_lload_n hx hb dX4_inside_6 rfl (lv_at hl 2 rfl) ?_
  refine vp_callSi (va_runS (As := [.long x, .long y]) (rest := []) ⟨hx, hb, hml, hown, hTB⟩ (c_X4_isPlace l D cZ cI cJ x y) (cw_S hTB tb_6_7 tb_1_5 tb_6_5 tb_6_6 nd_X4_isPlace rfl rfl ⟨Nat.le_of_ble_eq_true rfl, Nat.le_of_ble_eq_true rfl⟩) (prr_S hK hP [] rfl) rfl rfl hl.1 rfl (lv_room (Nat.le_of_ble_eq_true rfl)) dX4_inside_7 ⟨Nat.le_of_ble_eq_true rfl, Nat.le_of_ble_eq_true rfl⟩).run (fun r7 hc7 => ?_)
  subst hc7
  refine lv_if_eq (tgt := 21) hx hb dX4_inside_10 (by decide) (fun c_10 => ?_) (fun c_10 => ?_)
  · have c_10 := bz_0 c_10
    refine lv_bipush (v := (-2)) hx hb dX4_inside_21 (by decide) ?_
    exact hret hP hD hS rfl (fw, fs, fm) (⟨by unfold insv; rw [if_pos (Or.inr c_10)], kept.rf hlim⟩) [0, 1, 2, 3, 4, 5] rfl (by decide) dX4_inside_23 (Nat.le_of_ble_eq_true rfl) (Nat.le_of_ble_eq_true rfl)
  · have c_10 := bz_1 c_10
    refine lv_aload_n hx hb dX4_inside_13 rfl (lv_at hl 0 rfl) ?_
    refine va_get (D := D) (ci := 4) (v := .int (nI n)) (C := RX4) (T := TX4) (N := 14) hx hb hTB tb_X4 hown hK.1 hP 0 rfl rfl 12 (by decide) (hTB _ tb_18_6) (fun _ h9 => h9) rfl dX4_inside_14 ?_
    refine lv_iconst (v := 3) hx hb dX4_inside_17 (by decide) ?_
    refine lv_icmp_ge (tgt := 24) hx hb dX4_inside_18 (by decide) (fun c_18 => ?_) (fun c_18 => ?_)
    · refine lv_iconst (v := 0) hx hb dX4_inside_24 (by decide) ?_
      refine lv_istore (lv' := [(5, .int 0), (0, .ref o), (1, .long x), (3, .long y)]) hx hb dX4_inside_25 hl (by decide) rfl (fun ls hl => ?_)
      refine lv_iconst (v := 0) hx hb dX4_inside_27 (by decide) ?_
      refine lv_istore (lv' := [(6, .int 0), (5, .int 0), (0, .ref o), (1, .long x), (3, .long y)]) hx hb dX4_inside_28 hl (by decide) rfl (fun ls hl => ?_)
      refine lv_iconst (v := 0) hx hb dX4_inside_30 (by decide) ?_
      refine lv_istore (lv' := [(7, .int 0), (6, .int 0), (5, .int 0), (0, .ref o), (1, .long x), (3, .long y)]) hx hb dX4_inside_31 hl (by decide) rfl (fun ls hl => ?_)
      have L33 : ∀ (n33 : Nat) (i : Nat) (x5 x6 : Int32) (g : Nat → Int64) (s9 : Nat → Int32) (m9 : Nat → Int64), (n < i + n33 ∧ i ≤ n) → (x6 = bz (onB (eOn fkx fky n x y) i = true)) → (x5 = bz (pab (eCr fkx fky n x y) i = true)) → (kept fw fs g s9) → ∀ (H : Heap) (locs : List Loc), va_P D vwCl [(o, .inr (4, [.int 0, .ref wa, .ref sa, .ref ma, .ref tl, .ref gx, .ref gy, .ref tx, .ref tz, .int ln, .ref kx, .ref ky, .int (nI n), .int ah])), (wa, .inl (cJ, 96, .inr (.inl g))), (sa, .inl (cI, 16, .inl s9)), (ma, .inl (cJ, 12, .inr (.inl m9))), (kx, .inl (cJ, 64, .inr (.inl fkx))), (ky, .inl (cJ, 64, .inr (.inl fky)))] H → va_D A [(o, .inr (4, [.int 0, .ref wa, .ref sa, .ref ma, .ref tl, .ref gx, .ref gy, .ref tx, .ref tz, .int ln, .ref kx, .ref ky, .int (nI n), .int ah])), (wa, .inl (cJ, 96, .inr (.inl g))), (sa, .inl (cI, 16, .inl s9)), (ma, .inl (cJ, 12, .inr (.inl m9))), (kx, .inl (cJ, 64, .inr (.inl fkx))), (ky, .inl (cJ, 64, .inr (.inl fky)))] → va_S A s.heap H locs → ∀ (ls : Array Slot), lv_has ls 21 [(0, .ref o), (1, .long x), (3, .long y), (5, .int x5), (6, .int x6), (7, .int (nI i))] → W p l e { frames := 4, cells := 0, slots := 0, locals := 115 } s m args below meth c H locs 0 0 Q (F0 m 33 ls []) := by
        intro n33
        induction n33 with
        | zero =>
          intro i x5 x6 g s9 m9 g1 g2 g3 g4
          exfalso; omega
        | succ n33 ih33 =>
          intro i x5 x6 g s9 m9 g1 g2 g3 g4 H locs hP hD hS ls hl
          subst g2
          subst g3
          refine lv_iload hx hb dX4_inside_33 (lv_at hl 5 rfl) ?_
          refine lv_aload_n hx hb dX4_inside_35 rfl (lv_at hl 0 rfl) ?_
          refine va_get (D := D) (ci := 4) (v := .int (nI n)) (C := RX4) (T := TX4) (N := 14) hx hb hTB tb_X4 hown hK.1 hP 0 rfl rfl 12 (by decide) (hTB _ tb_18_6) (fun _ h9 => h9) rfl dX4_inside_36 ?_
          refine lv_icmp_ge (tgt := 273) hx hb dX4_inside_39 (by decide) (fun c_39 => ?_) (fun c_39 => ?_)
          · refine lv_iload hx hb dX4_inside_273 (lv_at hl 4 rfl) ?_
            refine lv_if_eq (tgt := 282) hx hb dX4_inside_275 (by decide) (fun c_275 => ?_) (fun c_275 => ?_)
            · have c_275 := bz_0 c_275
              refine lv_iload hx hb dX4_inside_282 (lv_at hl 3 rfl) ?_
              refine lv_if_eq (tgt := 291) hx hb dX4_inside_284 (by decide) (fun c_284 => ?_) (fun c_284 => ?_)
              · have c_284 := bz_0 c_284
                refine lv_iconst (v := (-1)) hx hb dX4_inside_291 (by decide) ?_
                have hin : i = n := (by have := (nI_leI (a := n) (b := i) (by omega) (by omega)).mp c_39; omega)
                subst hin
                have h3 : ¬ (i < 3 ∨ ¬ ogr x y) := fun q => q.elim (fun z => by have := (nI_leI (a := 3) (b := i) (by omega) (by omega)).mp c_18; omega) (fun z => z c_10)
                exact hret hP hD hS rfl (g, s9, m9) (⟨by unfold insv; rw [if_neg h3, if_neg c_275, if_neg c_284], g4⟩) [0, 1, 2, 3, 4, 5] rfl (by decide) dX4_inside_292 (Nat.le_of_ble_eq_true rfl) (Nat.le_of_ble_eq_true rfl)
              · have c_284 := bz_1 c_284
                refine lv_iconst (v := 1) hx hb dX4_inside_287 (by decide) ?_
                refine lv_goto (tgt := 292) hx hb dX4_inside_288 (by decide) ?_
                have hin : i = n := (by have := (nI_leI (a := n) (b := i) (by omega) (by omega)).mp c_39; omega)
                subst hin
                have h3 : ¬ (i < 3 ∨ ¬ ogr x y) := fun q => q.elim (fun z => by have := (nI_leI (a := 3) (b := i) (by omega) (by omega)).mp c_18; omega) (fun z => z c_10)
                exact hret hP hD hS rfl (g, s9, m9) (⟨by unfold insv; rw [if_neg h3, if_neg c_275, if_pos c_284], g4⟩) [0, 1, 2, 3, 4, 5] rfl (by decide) dX4_inside_292 (Nat.le_of_ble_eq_true rfl) (Nat.le_of_ble_eq_true rfl)
            · have c_275 := bz_1 c_275
              refine lv_iconst (v := 0) hx hb dX4_inside_278 (by decide) ?_
              refine lv_goto (tgt := 292) hx hb dX4_inside_279 (by decide) ?_
              have hin : i = n := (by have := (nI_leI (a := n) (b := i) (by omega) (by omega)).mp c_39; omega)
              subst hin
              have h3 : ¬ (i < 3 ∨ ¬ ogr x y) := fun q => q.elim (fun z => by have := (nI_leI (a := 3) (b := i) (by omega) (by omega)).mp c_18; omega) (fun z => z c_10)
              exact hret hP hD hS rfl (g, s9, m9) (⟨by unfold insv; rw [if_neg h3, if_pos c_275], g4⟩) [0, 1, 2, 3, 4, 5] rfl (by decide) dX4_inside_292 (Nat.le_of_ble_eq_true rfl) (Nat.le_of_ble_eq_true rfl)
          · have hi : i < n := Nat.not_le.mp (fun q => c_39 ((nI_leI (by omega) (by omega)).mpr q))
            have hj := nxt_lt hi
            have og1 := hkb _ hi
            have og2 := hkb _ hj
            refine lv_iload hx hb dX4_inside_42 (lv_at hl 5 rfl) ?_
            refine lv_iconst (v := 1) hx hb dX4_inside_44 (by decide) ?_
            refine lv_iadd hx hb dX4_inside_45 ?_
            refine lv_aload_n hx hb dX4_inside_46 rfl (lv_at hl 0 rfl) ?_
            refine va_get (D := D) (ci := 4) (v := .int (nI n)) (C := RX4) (T := TX4) (N := 14) hx hb hTB tb_X4 hown hK.1 hP 0 rfl rfl 12 (by decide) (hTB _ tb_18_6) (fun _ h9 => h9) rfl dX4_inside_47 ?_
            refine lv_irem hx hb dX4_inside_50 (nI_ne0 (by omega) (by omega)) ?_
            rw [rem_nxt n (by omega) i hi]
            refine lv_istore (lv' := [(8, .int (nI (nxt i n))), (0, .ref o), (1, .long x), (3, .long y), (5, .int (bz (pab (eCr fkx fky n x y) i = true))), (6, .int (bz (onB (eOn fkx fky n x y) i = true))), (7, .int (nI i))]) hx hb dX4_inside_51 hl (by decide) rfl (fun ls hl => ?_)
            refine lv_aload_n hx hb dX4_inside_53 rfl (lv_at hl 1 rfl) ?_
            refine va_get (D := D) (ci := 4) (v := .ref kx) (C := RX4) (T := TX4) (N := 14) hx hb hTB tb_X4 hown hK.1 hP 0 rfl rfl 10 (by decide) (hTB _ tb_3_22) (fun _ h9 => h9) rfl dX4_inside_54 ?_
            refine lv_iload hx hb dX4_inside_57 (lv_at hl 6 rfl) ?_
            refine va_lald (f := fkx) hx hb hK.1 hP 4 2 rfl rfl (vp_in_nI (show i < 64 by omega) (by decide)) dX4_inside_59 ?_
            rw [show (nI i).toNatClampNeg = i from nI_clamp (by omega)]
            refine lv_lstore (lv' := [(9, .long (fkx i)), (8, .int (nI (nxt i n))), (0, .ref o), (1, .long x), (3, .long y), (5, .int (bz (pab (eCr fkx fky n x y) i = true))), (6, .int (bz (onB (eOn fkx fky n x y) i = true))), (7, .int (nI i))]) hx hb dX4_inside_60 hl (by decide) rfl (fun ls hl => ?_)
            refine lv_aload_n hx hb dX4_inside_62 rfl (lv_at hl 2 rfl) ?_
            refine va_get (D := D) (ci := 4) (v := .ref ky) (C := RX4) (T := TX4) (N := 14) hx hb hTB tb_X4 hown hK.1 hP 0 rfl rfl 11 (by decide) (hTB _ tb_3_23) (fun _ h9 => h9) rfl dX4_inside_63 ?_
            refine lv_iload hx hb dX4_inside_66 (lv_at hl 7 rfl) ?_
            refine va_lald (f := fky) hx hb hK.1 hP 5 2 rfl rfl (vp_in_nI (show i < 64 by omega) (by decide)) dX4_inside_68 ?_
            rw [show (nI i).toNatClampNeg = i from nI_clamp (by omega)]
            refine lv_lstore (lv' := [(11, .long (fky i)), (9, .long (fkx i)), (8, .int (nI (nxt i n))), (0, .ref o), (1, .long x), (3, .long y), (5, .int (bz (pab (eCr fkx fky n x y) i = true))), (6, .int (bz (onB (eOn fkx fky n x y) i = true))), (7, .int (nI i))]) hx hb dX4_inside_69 hl (by decide) rfl (fun ls hl => ?_)
            refine lv_aload_n hx hb dX4_inside_71 rfl (lv_at hl 3 rfl) ?_
            refine va_get (D := D) (ci := 4) (v := .ref kx) (C := RX4) (T := TX4) (N := 14) hx hb hTB tb_X4 hown hK.1 hP 0 rfl rfl 10 (by decide) (hTB _ tb_3_22) (fun _ h9 => h9) rfl dX4_inside_72 ?_
            refine lv_iload hx hb dX4_inside_75 (lv_at hl 2 rfl) ?_
            refine va_lald (f := fkx) hx hb hK.1 hP 4 2 rfl rfl (vp_in_nI (show nxt i n < 64 by omega) (by decide)) dX4_inside_77 ?_
            rw [show (nI (nxt i n)).toNatClampNeg = nxt i n from nI_clamp (by omega)]
            refine lv_lstore (lv' := [(13, .long (fkx (nxt i n))), (11, .long (fky i)), (9, .long (fkx i)), (8, .int (nI (nxt i n))), (0, .ref o), (1, .long x), (3, .long y), (5, .int (bz (pab (eCr fkx fky n x y) i = true))), (6, .int (bz (onB (eOn fkx fky n x y) i = true))), (7, .int (nI i))]) hx hb dX4_inside_78 hl (by decide) rfl (fun ls hl => ?_)
            refine lv_aload_n hx hb dX4_inside_80 rfl (lv_at hl 4 rfl) ?_
            refine va_get (D := D) (ci := 4) (v := .ref ky) (C := RX4) (T := TX4) (N := 14) hx hb hTB tb_X4 hown hK.1 hP 0 rfl rfl 11 (by decide) (hTB _ tb_3_23) (fun _ h9 => h9) rfl dX4_inside_81 ?_
            refine lv_iload hx hb dX4_inside_84 (lv_at hl 3 rfl) ?_
            refine va_lald (f := fky) hx hb hK.1 hP 5 2 rfl rfl (vp_in_nI (show nxt i n < 64 by omega) (by decide)) dX4_inside_86 ?_
            rw [show (nI (nxt i n)).toNatClampNeg = nxt i n from nI_clamp (by omega)]
            refine lv_lstore (lv' := [(15, .long (fky (nxt i n))), (13, .long (fkx (nxt i n))), (11, .long (fky i)), (9, .long (fkx i)), (8, .int (nI (nxt i n))), (0, .ref o), (1, .long x), (3, .long y), (5, .int (bz (pab (eCr fkx fky n x y) i = true))), (6, .int (bz (onB (eOn fkx fky n x y) i = true))), (7, .int (nI i))]) hx hb dX4_inside_87 hl (by decide) rfl (fun ls hl => ?_)
            refine lv_aload_n hx hb dX4_inside_89 rfl (lv_at hl 5 rfl) ?_
            refine lv_lload hx hb dX4_inside_90 (lv_at hl 3 rfl) ?_
            refine lv_lload hx hb dX4_inside_92 (lv_at hl 2 rfl) ?_
            refine lv_lload hx hb dX4_inside_94 (lv_at hl 1 rfl) ?_
            refine lv_lload hx hb dX4_inside_96 (lv_at hl 0 rfl) ?_
            refine lv_lload_n hx hb dX4_inside_98 rfl (lv_at hl 6 rfl) ?_
            refine lv_lload_n hx hb dX4_inside_99 rfl (lv_at hl 7 rfl) ?_
            refine fin_i (wr := [(kx, .inl (cJ, 64, .inr (.inl fkx))), (ky, .inl (cJ, 64, .inr (.inl fky)))]) (va_runV (As := [.long (fkx i), .long (fky i), .long (fkx (nxt i n)), .long (fky (nxt i n)), .long x, .long y]) (rest := []) ⟨hx, hb, hml, hown, hTB⟩ (c_X4_turned l D cZ cI cJ o wa sa ma tl gx gy tx tz kx ky 0 ln (nI n) ah g s9 m9 (fkx i) (fky i) (fkx (nxt i n)) (fky (nxt i n)) x y g4.1 og1 og2 c_10 _) (cw_V hTB tb_6_13 tb_1_5 tb_6_10 tb_6_11 tb_6_12 nd_X4_turned rfl rfl ⟨Nat.le_of_ble_eq_true rfl, Nat.le_of_ble_eq_true rfl⟩) (pre_V (q0 := 0) hK hP hD [0, 1, 2, 3] rfl rfl rfl rfl) rfl rfl hl.1 rfl (lv_room (Nat.le_of_ble_eq_true rfl)) dX4_inside_100 ⟨Nat.le_of_ble_eq_true rfl, Nat.le_of_ble_eq_true rfl⟩) hP hD hS hA [0, 1, 2, 3] [4, 5] rfl rfl rfl (by decide) (fun r100 u100 H locs hc100 hP hD hS => ?_)
            obtain ⟨g100, s100, m100⟩ := u100
            dsimp only at hc100
            obtain ⟨hz100, kp100⟩ := hc100
            have hP : va_P D vwCl [(kx, .inl (cJ, 64, .inr (.inl fkx))), (ky, .inl (cJ, 64, .inr (.inl fky))), (o, .inr (4, [.int 0, .ref wa, .ref sa, .ref ma, .ref tl, .ref gx, .ref gy, .ref tx, .ref tz, .int ln, .ref kx, .ref ky, .int (nI n), .int ah])), (wa, .inl (cJ, 96, .inr (.inl g100))), (sa, .inl (cI, 16, .inl s100)), (ma, .inl (cJ, 12, .inr (.inl m100)))] H := hP
            have hD : va_D A [(kx, .inl (cJ, 64, .inr (.inl fkx))), (ky, .inl (cJ, 64, .inr (.inl fky))), (o, .inr (4, [.int 0, .ref wa, .ref sa, .ref ma, .ref tl, .ref gx, .ref gy, .ref tx, .ref tz, .int ln, .ref kx, .ref ky, .int (nI n), .int ah])), (wa, .inl (cJ, 96, .inr (.inl g100))), (sa, .inl (cI, 16, .inl s100)), (ma, .inl (cJ, 12, .inr (.inl m100)))] := hD
            subst hz100
            refine lv_istore (lv' := [(17, .int (sg (det (fkx i).toInt (fky i).toInt (fkx (nxt i n)).toInt (fky (nxt i n)).toInt x.toInt y.toInt))), (15, .long (fky (nxt i n))), (13, .long (fkx (nxt i n))), (11, .long (fky i)), (9, .long (fkx i)), (8, .int (nI (nxt i n))), (0, .ref o), (1, .long x), (3, .long y), (5, .int (bz (pab (eCr fkx fky n x y) i = true))), (6, .int (bz (onB (eOn fkx fky n x y) i = true))), (7, .int (nI i))]) hx hb dX4_inside_103 hl (by decide) rfl (fun ls hl => ?_)
            have J228 : ∀ (dn : Int32), (dn = bz ((fky (nxt i n)).toInt ≤ y.toInt ∧ y.toInt < (fky i).toInt)) → ∀ (H : Heap) (locs : List Loc), va_P D vwCl [(kx, .inl (cJ, 64, .inr (.inl fkx))), (ky, .inl (cJ, 64, .inr (.inl fky))), (o, .inr (4, [.int 0, .ref wa, .ref sa, .ref ma, .ref tl, .ref gx, .ref gy, .ref tx, .ref tz, .int ln, .ref kx, .ref ky, .int (nI n), .int ah])), (wa, .inl (cJ, 96, .inr (.inl g100))), (sa, .inl (cI, 16, .inl s100)), (ma, .inl (cJ, 12, .inr (.inl m100)))] H → va_D A [(kx, .inl (cJ, 64, .inr (.inl fkx))), (ky, .inl (cJ, 64, .inr (.inl fky))), (o, .inr (4, [.int 0, .ref wa, .ref sa, .ref ma, .ref tl, .ref gx, .ref gy, .ref tx, .ref tz, .int ln, .ref kx, .ref ky, .int (nI n), .int ah])), (wa, .inl (cJ, 96, .inr (.inl g100))), (sa, .inl (cI, 16, .inl s100)), (ma, .inl (cJ, 12, .inr (.inl m100)))] → va_S A s.heap H locs → ∀ (ls : Array Slot), lv_has ls 21 [(0, .ref o), (1, .long x), (3, .long y), (5, .int (bz (pab (eCr fkx fky n x y) i = true))), (6, .int (bz (onB (eOn fkx fky n x y) (i + 1) = true))), (7, .int (nI i)), (8, .int (nI (nxt i n))), (9, .long (fkx i)), (11, .long (fky i)), (13, .long (fkx (nxt i n))), (15, .long (fky (nxt i n))), (17, .int (sg (det (fkx i).toInt (fky i).toInt (fkx (nxt i n)).toInt (fky (nxt i n)).toInt x.toInt y.toInt))), (19, .int (bz ((fky i).toInt ≤ y.toInt ∧ y.toInt < (fky (nxt i n)).toInt)))] → W p l e { frames := 4, cells := 0, slots := 0, locals := 115 } s m args below meth c H locs 0 0 Q (F0 m 228 ls [.int dn]) := by
              intro dn y4 H locs hP hD hS ls hl
              subst y4
              refine lv_istore (lv' := [(20, .int (bz ((fky (nxt i n)).toInt ≤ y.toInt ∧ y.toInt < (fky i).toInt))), (0, .ref o), (1, .long x), (3, .long y), (5, .int (bz (pab (eCr fkx fky n x y) i = true))), (6, .int (bz (onB (eOn fkx fky n x y) (i + 1) = true))), (7, .int (nI i)), (8, .int (nI (nxt i n))), (9, .long (fkx i)), (11, .long (fky i)), (13, .long (fkx (nxt i n))), (15, .long (fky (nxt i n))), (17, .int (sg (det (fkx i).toInt (fky i).toInt (fkx (nxt i n)).toInt (fky (nxt i n)).toInt x.toInt y.toInt))), (19, .int (bz ((fky i).toInt ≤ y.toInt ∧ y.toInt < (fky (nxt i n)).toInt)))]) hx hb dX4_inside_228 hl (by decide) rfl (fun ls hl => ?_)
              refine lv_iload hx hb dX4_inside_230 (lv_at hl 13 rfl) ?_
              refine lv_if_eq (tgt := 240) hx hb dX4_inside_232 (by decide) (fun c_232 => ?_) (fun c_232 => ?_)
              · have c_232 := bz_0 c_232
                refine lv_iload hx hb dX4_inside_240 (lv_at hl 0 rfl) ?_
                refine lv_if_eq (tgt := 263) hx hb dX4_inside_242 (by decide) (fun c_242 => ?_) (fun c_242 => ?_)
                · have c_242 := bz_0 c_242
                  refine lv_iload hx hb dX4_inside_263 (lv_at hl 4 rfl) ?_
                  refine lv_istore (lv' := [(5, .int (bz (pab (eCr fkx fky n x y) i = true))), (20, .int (bz ((fky (nxt i n)).toInt ≤ y.toInt ∧ y.toInt < (fky i).toInt))), (0, .ref o), (1, .long x), (3, .long y), (6, .int (bz (onB (eOn fkx fky n x y) (i + 1) = true))), (7, .int (nI i)), (8, .int (nI (nxt i n))), (9, .long (fkx i)), (11, .long (fky i)), (13, .long (fkx (nxt i n))), (15, .long (fky (nxt i n))), (17, .int (sg (det (fkx i).toInt (fky i).toInt (fkx (nxt i n)).toInt (fky (nxt i n)).toInt x.toInt y.toInt))), (19, .int (bz ((fky i).toInt ≤ y.toInt ∧ y.toInt < (fky (nxt i n)).toInt)))]) hx hb dX4_inside_265 hl (by decide) rfl (fun ls hl => ?_)
                  obtain ⟨i7_1, ei7_1⟩ : ∃ y : Int32, y = (nI i) + 1 := ⟨_, rfl⟩
                  refine lv_iinc (v := i7_1) (lv' := [(7, .int i7_1), (5, .int (bz (pab (eCr fkx fky n x y) i = true))), (20, .int (bz ((fky (nxt i n)).toInt ≤ y.toInt ∧ y.toInt < (fky i).toInt))), (0, .ref o), (1, .long x), (3, .long y), (6, .int (bz (onB (eOn fkx fky n x y) (i + 1) = true))), (8, .int (nI (nxt i n))), (9, .long (fkx i)), (11, .long (fky i)), (13, .long (fkx (nxt i n))), (15, .long (fky (nxt i n))), (17, .int (sg (det (fkx i).toInt (fky i).toInt (fkx (nxt i n)).toInt (fky (nxt i n)).toInt x.toInt y.toInt))), (19, .int (bz ((fky i).toInt ≤ y.toInt ∧ y.toInt < (fky (nxt i n)).toInt)))]) hx hb dX4_inside_267 hl (k := 6) rfl (by rw [ei7_1]; rfl) (by decide) rfl (fun ls hl => ?_)
                  refine lv_goto (tgt := 33) hx hb dX4_inside_270 (by decide) ?_
                  have q7 : i7_1 = nI (i + 1) := by rw [ei7_1]; exact nI_1 i
                  subst q7
                  refine ih33 (i + 1) (bz (pab (eCr fkx fky n x y) i = true)) (bz (onB (eOn fkx fky n x y) (i + 1) = true)) g100 s100 m100 ?_ ?_ ?_ ?_ _ _ (hP.sub [2, 3, 4, 5, 0, 1] rfl) (hD.sub [2, 3, 4, 5, 0, 1] (by decide) rfl) hS _ (lv_sub hl [3, 4, 5, 1, 6, 0] rfl)
                  · omega
                  · rfl
                  · refine bz_c ?_
                    show pab (eCr fkx fky n x y) i = true ↔ (pab (eCr fkx fky n x y) i ^^ eCr fkx fky n x y i) = true
                    rw [show eCr fkx fky n x y i = false from decide_eq_false (fun q => by
                      rcases q with ⟨q1, q2, q3⟩ | ⟨q1, q2, q3⟩
                      · have := sgp q3; omega
                      · have := sgm q3; omega), Bool.xor_false]
                  · exact g4.tr kp100
                · have c_242 := bz_1 c_242
                  refine lv_iload hx hb dX4_inside_245 (lv_at hl 12 rfl) ?_
                  refine lv_if_ge (tgt := 263) hx hb dX4_inside_247 (by decide) (fun c_247 => ?_) (fun c_247 => ?_)
                  · have c_247 := sg_get c_247
                    refine lv_iload hx hb dX4_inside_263 (lv_at hl 4 rfl) ?_
                    refine lv_istore (lv' := [(5, .int (bz (pab (eCr fkx fky n x y) i = true))), (20, .int (bz ((fky (nxt i n)).toInt ≤ y.toInt ∧ y.toInt < (fky i).toInt))), (0, .ref o), (1, .long x), (3, .long y), (6, .int (bz (onB (eOn fkx fky n x y) (i + 1) = true))), (7, .int (nI i)), (8, .int (nI (nxt i n))), (9, .long (fkx i)), (11, .long (fky i)), (13, .long (fkx (nxt i n))), (15, .long (fky (nxt i n))), (17, .int (sg (det (fkx i).toInt (fky i).toInt (fkx (nxt i n)).toInt (fky (nxt i n)).toInt x.toInt y.toInt))), (19, .int (bz ((fky i).toInt ≤ y.toInt ∧ y.toInt < (fky (nxt i n)).toInt)))]) hx hb dX4_inside_265 hl (by decide) rfl (fun ls hl => ?_)
                    obtain ⟨i7_2, ei7_2⟩ : ∃ y : Int32, y = (nI i) + 1 := ⟨_, rfl⟩
                    refine lv_iinc (v := i7_2) (lv' := [(7, .int i7_2), (5, .int (bz (pab (eCr fkx fky n x y) i = true))), (20, .int (bz ((fky (nxt i n)).toInt ≤ y.toInt ∧ y.toInt < (fky i).toInt))), (0, .ref o), (1, .long x), (3, .long y), (6, .int (bz (onB (eOn fkx fky n x y) (i + 1) = true))), (8, .int (nI (nxt i n))), (9, .long (fkx i)), (11, .long (fky i)), (13, .long (fkx (nxt i n))), (15, .long (fky (nxt i n))), (17, .int (sg (det (fkx i).toInt (fky i).toInt (fkx (nxt i n)).toInt (fky (nxt i n)).toInt x.toInt y.toInt))), (19, .int (bz ((fky i).toInt ≤ y.toInt ∧ y.toInt < (fky (nxt i n)).toInt)))]) hx hb dX4_inside_267 hl (k := 6) rfl (by rw [ei7_2]; rfl) (by decide) rfl (fun ls hl => ?_)
                    refine lv_goto (tgt := 33) hx hb dX4_inside_270 (by decide) ?_
                    have q7 : i7_2 = nI (i + 1) := by rw [ei7_2]; exact nI_1 i
                    subst q7
                    refine ih33 (i + 1) (bz (pab (eCr fkx fky n x y) i = true)) (bz (onB (eOn fkx fky n x y) (i + 1) = true)) g100 s100 m100 ?_ ?_ ?_ ?_ _ _ (hP.sub [2, 3, 4, 5, 0, 1] rfl) (hD.sub [2, 3, 4, 5, 0, 1] (by decide) rfl) hS _ (lv_sub hl [3, 4, 5, 1, 6, 0] rfl)
                    · omega
                    · rfl
                    · refine bz_c ?_
                      show pab (eCr fkx fky n x y) i = true ↔ (pab (eCr fkx fky n x y) i ^^ eCr fkx fky n x y i) = true
                      rw [show eCr fkx fky n x y i = false from decide_eq_false (fun q => by
                        rcases q with ⟨q1, q2, q3⟩ | ⟨q1, q2, q3⟩
                        · have := sgp q3; omega
                        · have := sgm q3; omega), Bool.xor_false]
                    · exact g4.tr kp100
                  · have c_247 := sg_gef c_247
                    refine lv_iload hx hb dX4_inside_250 (lv_at hl 4 rfl) ?_
                    refine lv_if_ne (tgt := 259) hx hb dX4_inside_252 (by decide) (fun c_252 => ?_) (fun c_252 => ?_)
                    · have c_252 := bz_1 c_252
                      refine lv_iconst (v := 0) hx hb dX4_inside_259 (by decide) ?_
                      refine lv_goto (tgt := 265) hx hb dX4_inside_260 (by decide) ?_
                      refine lv_istore (lv' := [(5, .int 0), (20, .int (bz ((fky (nxt i n)).toInt ≤ y.toInt ∧ y.toInt < (fky i).toInt))), (0, .ref o), (1, .long x), (3, .long y), (6, .int (bz (onB (eOn fkx fky n x y) (i + 1) = true))), (7, .int (nI i)), (8, .int (nI (nxt i n))), (9, .long (fkx i)), (11, .long (fky i)), (13, .long (fkx (nxt i n))), (15, .long (fky (nxt i n))), (17, .int (sg (det (fkx i).toInt (fky i).toInt (fkx (nxt i n)).toInt (fky (nxt i n)).toInt x.toInt y.toInt))), (19, .int (bz ((fky i).toInt ≤ y.toInt ∧ y.toInt < (fky (nxt i n)).toInt)))]) hx hb dX4_inside_265 hl (by decide) rfl (fun ls hl => ?_)
                      obtain ⟨i7_3, ei7_3⟩ : ∃ y : Int32, y = (nI i) + 1 := ⟨_, rfl⟩
                      refine lv_iinc (v := i7_3) (lv' := [(7, .int i7_3), (5, .int 0), (20, .int (bz ((fky (nxt i n)).toInt ≤ y.toInt ∧ y.toInt < (fky i).toInt))), (0, .ref o), (1, .long x), (3, .long y), (6, .int (bz (onB (eOn fkx fky n x y) (i + 1) = true))), (8, .int (nI (nxt i n))), (9, .long (fkx i)), (11, .long (fky i)), (13, .long (fkx (nxt i n))), (15, .long (fky (nxt i n))), (17, .int (sg (det (fkx i).toInt (fky i).toInt (fkx (nxt i n)).toInt (fky (nxt i n)).toInt x.toInt y.toInt))), (19, .int (bz ((fky i).toInt ≤ y.toInt ∧ y.toInt < (fky (nxt i n)).toInt)))]) hx hb dX4_inside_267 hl (k := 6) rfl (by rw [ei7_3]; rfl) (by decide) rfl (fun ls hl => ?_)
                      refine lv_goto (tgt := 33) hx hb dX4_inside_270 (by decide) ?_
                      have q7 : i7_3 = nI (i + 1) := by rw [ei7_3]; exact nI_1 i
                      subst q7
                      refine ih33 (i + 1) 0 (bz (onB (eOn fkx fky n x y) (i + 1) = true)) g100 s100 m100 ?_ ?_ ?_ ?_ _ _ (hP.sub [2, 3, 4, 5, 0, 1] rfl) (hD.sub [2, 3, 4, 5, 0, 1] (by decide) rfl) hS _ (lv_sub hl [3, 4, 5, 1, 6, 0] rfl)
                      · omega
                      · rfl
                      · refine bz_f ?_
                        show ¬ (pab (eCr fkx fky n x y) i ^^ eCr fkx fky n x y i) = true
                        rw [c_252, show eCr fkx fky n x y i = true from decide_eq_true (Or.inr ⟨c_242.1, c_242.2, by rw [sg_neg c_247]; decide⟩)]; decide
                      · exact g4.tr kp100
                    · have c_252 := bz_0 c_252
                      refine lv_iconst (v := 1) hx hb dX4_inside_255 (by decide) ?_
                      refine lv_goto (tgt := 265) hx hb dX4_inside_256 (by decide) ?_
                      refine lv_istore (lv' := [(5, .int 1), (20, .int (bz ((fky (nxt i n)).toInt ≤ y.toInt ∧ y.toInt < (fky i).toInt))), (0, .ref o), (1, .long x), (3, .long y), (6, .int (bz (onB (eOn fkx fky n x y) (i + 1) = true))), (7, .int (nI i)), (8, .int (nI (nxt i n))), (9, .long (fkx i)), (11, .long (fky i)), (13, .long (fkx (nxt i n))), (15, .long (fky (nxt i n))), (17, .int (sg (det (fkx i).toInt (fky i).toInt (fkx (nxt i n)).toInt (fky (nxt i n)).toInt x.toInt y.toInt))), (19, .int (bz ((fky i).toInt ≤ y.toInt ∧ y.toInt < (fky (nxt i n)).toInt)))]) hx hb dX4_inside_265 hl (by decide) rfl (fun ls hl => ?_)
                      obtain ⟨i7_4, ei7_4⟩ : ∃ y : Int32, y = (nI i) + 1 := ⟨_, rfl⟩
                      refine lv_iinc (v := i7_4) (lv' := [(7, .int i7_4), (5, .int 1), (20, .int (bz ((fky (nxt i n)).toInt ≤ y.toInt ∧ y.toInt < (fky i).toInt))), (0, .ref o), (1, .long x), (3, .long y), (6, .int (bz (onB (eOn fkx fky n x y) (i + 1) = true))), (8, .int (nI (nxt i n))), (9, .long (fkx i)), (11, .long (fky i)), (13, .long (fkx (nxt i n))), (15, .long (fky (nxt i n))), (17, .int (sg (det (fkx i).toInt (fky i).toInt (fkx (nxt i n)).toInt (fky (nxt i n)).toInt x.toInt y.toInt))), (19, .int (bz ((fky i).toInt ≤ y.toInt ∧ y.toInt < (fky (nxt i n)).toInt)))]) hx hb dX4_inside_267 hl (k := 6) rfl (by rw [ei7_4]; rfl) (by decide) rfl (fun ls hl => ?_)
                      refine lv_goto (tgt := 33) hx hb dX4_inside_270 (by decide) ?_
                      have q7 : i7_4 = nI (i + 1) := by rw [ei7_4]; exact nI_1 i
                      subst q7
                      refine ih33 (i + 1) 1 (bz (onB (eOn fkx fky n x y) (i + 1) = true)) g100 s100 m100 ?_ ?_ ?_ ?_ _ _ (hP.sub [2, 3, 4, 5, 0, 1] rfl) (hD.sub [2, 3, 4, 5, 0, 1] (by decide) rfl) hS _ (lv_sub hl [3, 4, 5, 1, 6, 0] rfl)
                      · omega
                      · rfl
                      · refine bz_t ?_
                        show (pab (eCr fkx fky n x y) i ^^ eCr fkx fky n x y i) = true
                        rw [Bool.eq_false_iff.mpr c_252, show eCr fkx fky n x y i = true from decide_eq_true (Or.inr ⟨c_242.1, c_242.2, by rw [sg_neg c_247]; decide⟩)]; rfl
                      · exact g4.tr kp100
              · have c_232 := bz_1 c_232
                refine lv_iload hx hb dX4_inside_235 (lv_at hl 12 rfl) ?_
                refine lv_if_gt (tgt := 250) hx hb dX4_inside_237 (by decide) (fun c_237 => ?_) (fun c_237 => ?_)
                · have c_237 := sg_gtt c_237
                  refine lv_iload hx hb dX4_inside_250 (lv_at hl 4 rfl) ?_
                  refine lv_if_ne (tgt := 259) hx hb dX4_inside_252 (by decide) (fun c_252 => ?_) (fun c_252 => ?_)
                  · have c_252 := bz_1 c_252
                    refine lv_iconst (v := 0) hx hb dX4_inside_259 (by decide) ?_
                    refine lv_goto (tgt := 265) hx hb dX4_inside_260 (by decide) ?_
                    refine lv_istore (lv' := [(5, .int 0), (20, .int (bz ((fky (nxt i n)).toInt ≤ y.toInt ∧ y.toInt < (fky i).toInt))), (0, .ref o), (1, .long x), (3, .long y), (6, .int (bz (onB (eOn fkx fky n x y) (i + 1) = true))), (7, .int (nI i)), (8, .int (nI (nxt i n))), (9, .long (fkx i)), (11, .long (fky i)), (13, .long (fkx (nxt i n))), (15, .long (fky (nxt i n))), (17, .int (sg (det (fkx i).toInt (fky i).toInt (fkx (nxt i n)).toInt (fky (nxt i n)).toInt x.toInt y.toInt))), (19, .int (bz ((fky i).toInt ≤ y.toInt ∧ y.toInt < (fky (nxt i n)).toInt)))]) hx hb dX4_inside_265 hl (by decide) rfl (fun ls hl => ?_)
                    obtain ⟨i7_5, ei7_5⟩ : ∃ y : Int32, y = (nI i) + 1 := ⟨_, rfl⟩
                    refine lv_iinc (v := i7_5) (lv' := [(7, .int i7_5), (5, .int 0), (20, .int (bz ((fky (nxt i n)).toInt ≤ y.toInt ∧ y.toInt < (fky i).toInt))), (0, .ref o), (1, .long x), (3, .long y), (6, .int (bz (onB (eOn fkx fky n x y) (i + 1) = true))), (8, .int (nI (nxt i n))), (9, .long (fkx i)), (11, .long (fky i)), (13, .long (fkx (nxt i n))), (15, .long (fky (nxt i n))), (17, .int (sg (det (fkx i).toInt (fky i).toInt (fkx (nxt i n)).toInt (fky (nxt i n)).toInt x.toInt y.toInt))), (19, .int (bz ((fky i).toInt ≤ y.toInt ∧ y.toInt < (fky (nxt i n)).toInt)))]) hx hb dX4_inside_267 hl (k := 6) rfl (by rw [ei7_5]; rfl) (by decide) rfl (fun ls hl => ?_)
                    refine lv_goto (tgt := 33) hx hb dX4_inside_270 (by decide) ?_
                    have q7 : i7_5 = nI (i + 1) := by rw [ei7_5]; exact nI_1 i
                    subst q7
                    refine ih33 (i + 1) 0 (bz (onB (eOn fkx fky n x y) (i + 1) = true)) g100 s100 m100 ?_ ?_ ?_ ?_ _ _ (hP.sub [2, 3, 4, 5, 0, 1] rfl) (hD.sub [2, 3, 4, 5, 0, 1] (by decide) rfl) hS _ (lv_sub hl [3, 4, 5, 1, 6, 0] rfl)
                    · omega
                    · rfl
                    · refine bz_f ?_
                      show ¬ (pab (eCr fkx fky n x y) i ^^ eCr fkx fky n x y i) = true
                      rw [c_252, show eCr fkx fky n x y i = true from decide_eq_true (Or.inl ⟨c_232.1, c_232.2, by rw [sg_pos c_237]; decide⟩)]; decide
                    · exact g4.tr kp100
                  · have c_252 := bz_0 c_252
                    refine lv_iconst (v := 1) hx hb dX4_inside_255 (by decide) ?_
                    refine lv_goto (tgt := 265) hx hb dX4_inside_256 (by decide) ?_
                    refine lv_istore (lv' := [(5, .int 1), (20, .int (bz ((fky (nxt i n)).toInt ≤ y.toInt ∧ y.toInt < (fky i).toInt))), (0, .ref o), (1, .long x), (3, .long y), (6, .int (bz (onB (eOn fkx fky n x y) (i + 1) = true))), (7, .int (nI i)), (8, .int (nI (nxt i n))), (9, .long (fkx i)), (11, .long (fky i)), (13, .long (fkx (nxt i n))), (15, .long (fky (nxt i n))), (17, .int (sg (det (fkx i).toInt (fky i).toInt (fkx (nxt i n)).toInt (fky (nxt i n)).toInt x.toInt y.toInt))), (19, .int (bz ((fky i).toInt ≤ y.toInt ∧ y.toInt < (fky (nxt i n)).toInt)))]) hx hb dX4_inside_265 hl (by decide) rfl (fun ls hl => ?_)
                    obtain ⟨i7_6, ei7_6⟩ : ∃ y : Int32, y = (nI i) + 1 := ⟨_, rfl⟩
                    refine lv_iinc (v := i7_6) (lv' := [(7, .int i7_6), (5, .int 1), (20, .int (bz ((fky (nxt i n)).toInt ≤ y.toInt ∧ y.toInt < (fky i).toInt))), (0, .ref o), (1, .long x), (3, .long y), (6, .int (bz (onB (eOn fkx fky n x y) (i + 1) = true))), (8, .int (nI (nxt i n))), (9, .long (fkx i)), (11, .long (fky i)), (13, .long (fkx (nxt i n))), (15, .long (fky (nxt i n))), (17, .int (sg (det (fkx i).toInt (fky i).toInt (fkx (nxt i n)).toInt (fky (nxt i n)).toInt x.toInt y.toInt))), (19, .int (bz ((fky i).toInt ≤ y.toInt ∧ y.toInt < (fky (nxt i n)).toInt)))]) hx hb dX4_inside_267 hl (k := 6) rfl (by rw [ei7_6]; rfl) (by decide) rfl (fun ls hl => ?_)
                    refine lv_goto (tgt := 33) hx hb dX4_inside_270 (by decide) ?_
                    have q7 : i7_6 = nI (i + 1) := by rw [ei7_6]; exact nI_1 i
                    subst q7
                    refine ih33 (i + 1) 1 (bz (onB (eOn fkx fky n x y) (i + 1) = true)) g100 s100 m100 ?_ ?_ ?_ ?_ _ _ (hP.sub [2, 3, 4, 5, 0, 1] rfl) (hD.sub [2, 3, 4, 5, 0, 1] (by decide) rfl) hS _ (lv_sub hl [3, 4, 5, 1, 6, 0] rfl)
                    · omega
                    · rfl
                    · refine bz_t ?_
                      show (pab (eCr fkx fky n x y) i ^^ eCr fkx fky n x y i) = true
                      rw [Bool.eq_false_iff.mpr c_252, show eCr fkx fky n x y i = true from decide_eq_true (Or.inl ⟨c_232.1, c_232.2, by rw [sg_pos c_237]; decide⟩)]; rfl
                    · exact g4.tr kp100
                · have c_237 := sg_gtf c_237
                  refine lv_iload hx hb dX4_inside_240 (lv_at hl 0 rfl) ?_
                  refine lv_if_eq (tgt := 263) hx hb dX4_inside_242 (by decide) (fun c_242 => ?_) (fun c_242 => ?_)
                  · have c_242 := bz_0 c_242
                    refine lv_iload hx hb dX4_inside_263 (lv_at hl 4 rfl) ?_
                    refine lv_istore (lv' := [(5, .int (bz (pab (eCr fkx fky n x y) i = true))), (20, .int (bz ((fky (nxt i n)).toInt ≤ y.toInt ∧ y.toInt < (fky i).toInt))), (0, .ref o), (1, .long x), (3, .long y), (6, .int (bz (onB (eOn fkx fky n x y) (i + 1) = true))), (7, .int (nI i)), (8, .int (nI (nxt i n))), (9, .long (fkx i)), (11, .long (fky i)), (13, .long (fkx (nxt i n))), (15, .long (fky (nxt i n))), (17, .int (sg (det (fkx i).toInt (fky i).toInt (fkx (nxt i n)).toInt (fky (nxt i n)).toInt x.toInt y.toInt))), (19, .int (bz ((fky i).toInt ≤ y.toInt ∧ y.toInt < (fky (nxt i n)).toInt)))]) hx hb dX4_inside_265 hl (by decide) rfl (fun ls hl => ?_)
                    obtain ⟨i7_7, ei7_7⟩ : ∃ y : Int32, y = (nI i) + 1 := ⟨_, rfl⟩
                    refine lv_iinc (v := i7_7) (lv' := [(7, .int i7_7), (5, .int (bz (pab (eCr fkx fky n x y) i = true))), (20, .int (bz ((fky (nxt i n)).toInt ≤ y.toInt ∧ y.toInt < (fky i).toInt))), (0, .ref o), (1, .long x), (3, .long y), (6, .int (bz (onB (eOn fkx fky n x y) (i + 1) = true))), (8, .int (nI (nxt i n))), (9, .long (fkx i)), (11, .long (fky i)), (13, .long (fkx (nxt i n))), (15, .long (fky (nxt i n))), (17, .int (sg (det (fkx i).toInt (fky i).toInt (fkx (nxt i n)).toInt (fky (nxt i n)).toInt x.toInt y.toInt))), (19, .int (bz ((fky i).toInt ≤ y.toInt ∧ y.toInt < (fky (nxt i n)).toInt)))]) hx hb dX4_inside_267 hl (k := 6) rfl (by rw [ei7_7]; rfl) (by decide) rfl (fun ls hl => ?_)
                    refine lv_goto (tgt := 33) hx hb dX4_inside_270 (by decide) ?_
                    have q7 : i7_7 = nI (i + 1) := by rw [ei7_7]; exact nI_1 i
                    subst q7
                    refine ih33 (i + 1) (bz (pab (eCr fkx fky n x y) i = true)) (bz (onB (eOn fkx fky n x y) (i + 1) = true)) g100 s100 m100 ?_ ?_ ?_ ?_ _ _ (hP.sub [2, 3, 4, 5, 0, 1] rfl) (hD.sub [2, 3, 4, 5, 0, 1] (by decide) rfl) hS _ (lv_sub hl [3, 4, 5, 1, 6, 0] rfl)
                    · omega
                    · rfl
                    · refine bz_c ?_
                      show pab (eCr fkx fky n x y) i = true ↔ (pab (eCr fkx fky n x y) i ^^ eCr fkx fky n x y i) = true
                      rw [show eCr fkx fky n x y i = false from decide_eq_false (fun q => by
                        rcases q with ⟨q1, q2, q3⟩ | ⟨q1, q2, q3⟩
                        · have := sgp q3; omega
                        · have := sgm q3; omega), Bool.xor_false]
                    · exact g4.tr kp100
                  · have c_242 := bz_1 c_242
                    refine lv_iload hx hb dX4_inside_245 (lv_at hl 12 rfl) ?_
                    refine lv_if_ge (tgt := 263) hx hb dX4_inside_247 (by decide) (fun c_247 => ?_) (fun c_247 => ?_)
                    · have c_247 := sg_get c_247
                      refine lv_iload hx hb dX4_inside_263 (lv_at hl 4 rfl) ?_
                      refine lv_istore (lv' := [(5, .int (bz (pab (eCr fkx fky n x y) i = true))), (20, .int (bz ((fky (nxt i n)).toInt ≤ y.toInt ∧ y.toInt < (fky i).toInt))), (0, .ref o), (1, .long x), (3, .long y), (6, .int (bz (onB (eOn fkx fky n x y) (i + 1) = true))), (7, .int (nI i)), (8, .int (nI (nxt i n))), (9, .long (fkx i)), (11, .long (fky i)), (13, .long (fkx (nxt i n))), (15, .long (fky (nxt i n))), (17, .int (sg (det (fkx i).toInt (fky i).toInt (fkx (nxt i n)).toInt (fky (nxt i n)).toInt x.toInt y.toInt))), (19, .int (bz ((fky i).toInt ≤ y.toInt ∧ y.toInt < (fky (nxt i n)).toInt)))]) hx hb dX4_inside_265 hl (by decide) rfl (fun ls hl => ?_)
                      obtain ⟨i7_8, ei7_8⟩ : ∃ y : Int32, y = (nI i) + 1 := ⟨_, rfl⟩
                      refine lv_iinc (v := i7_8) (lv' := [(7, .int i7_8), (5, .int (bz (pab (eCr fkx fky n x y) i = true))), (20, .int (bz ((fky (nxt i n)).toInt ≤ y.toInt ∧ y.toInt < (fky i).toInt))), (0, .ref o), (1, .long x), (3, .long y), (6, .int (bz (onB (eOn fkx fky n x y) (i + 1) = true))), (8, .int (nI (nxt i n))), (9, .long (fkx i)), (11, .long (fky i)), (13, .long (fkx (nxt i n))), (15, .long (fky (nxt i n))), (17, .int (sg (det (fkx i).toInt (fky i).toInt (fkx (nxt i n)).toInt (fky (nxt i n)).toInt x.toInt y.toInt))), (19, .int (bz ((fky i).toInt ≤ y.toInt ∧ y.toInt < (fky (nxt i n)).toInt)))]) hx hb dX4_inside_267 hl (k := 6) rfl (by rw [ei7_8]; rfl) (by decide) rfl (fun ls hl => ?_)
                      refine lv_goto (tgt := 33) hx hb dX4_inside_270 (by decide) ?_
                      have q7 : i7_8 = nI (i + 1) := by rw [ei7_8]; exact nI_1 i
                      subst q7
                      refine ih33 (i + 1) (bz (pab (eCr fkx fky n x y) i = true)) (bz (onB (eOn fkx fky n x y) (i + 1) = true)) g100 s100 m100 ?_ ?_ ?_ ?_ _ _ (hP.sub [2, 3, 4, 5, 0, 1] rfl) (hD.sub [2, 3, 4, 5, 0, 1] (by decide) rfl) hS _ (lv_sub hl [3, 4, 5, 1, 6, 0] rfl)
                      · omega
                      · rfl
                      · refine bz_c ?_
                        show pab (eCr fkx fky n x y) i = true ↔ (pab (eCr fkx fky n x y) i ^^ eCr fkx fky n x y i) = true
                        rw [show eCr fkx fky n x y i = false from decide_eq_false (fun q => by
                          rcases q with ⟨q1, q2, q3⟩ | ⟨q1, q2, q3⟩
                          · have := sgp q3; omega
                          · have := sgm q3; omega), Bool.xor_false]
                      · exact g4.tr kp100
                    · have c_247 := sg_gef c_247
                      refine lv_iload hx hb dX4_inside_250 (lv_at hl 4 rfl) ?_
                      refine lv_if_ne (tgt := 259) hx hb dX4_inside_252 (by decide) (fun c_252 => ?_) (fun c_252 => ?_)
                      · have c_252 := bz_1 c_252
                        refine lv_iconst (v := 0) hx hb dX4_inside_259 (by decide) ?_
                        refine lv_goto (tgt := 265) hx hb dX4_inside_260 (by decide) ?_
                        refine lv_istore (lv' := [(5, .int 0), (20, .int (bz ((fky (nxt i n)).toInt ≤ y.toInt ∧ y.toInt < (fky i).toInt))), (0, .ref o), (1, .long x), (3, .long y), (6, .int (bz (onB (eOn fkx fky n x y) (i + 1) = true))), (7, .int (nI i)), (8, .int (nI (nxt i n))), (9, .long (fkx i)), (11, .long (fky i)), (13, .long (fkx (nxt i n))), (15, .long (fky (nxt i n))), (17, .int (sg (det (fkx i).toInt (fky i).toInt (fkx (nxt i n)).toInt (fky (nxt i n)).toInt x.toInt y.toInt))), (19, .int (bz ((fky i).toInt ≤ y.toInt ∧ y.toInt < (fky (nxt i n)).toInt)))]) hx hb dX4_inside_265 hl (by decide) rfl (fun ls hl => ?_)
                        obtain ⟨i7_9, ei7_9⟩ : ∃ y : Int32, y = (nI i) + 1 := ⟨_, rfl⟩
                        refine lv_iinc (v := i7_9) (lv' := [(7, .int i7_9), (5, .int 0), (20, .int (bz ((fky (nxt i n)).toInt ≤ y.toInt ∧ y.toInt < (fky i).toInt))), (0, .ref o), (1, .long x), (3, .long y), (6, .int (bz (onB (eOn fkx fky n x y) (i + 1) = true))), (8, .int (nI (nxt i n))), (9, .long (fkx i)), (11, .long (fky i)), (13, .long (fkx (nxt i n))), (15, .long (fky (nxt i n))), (17, .int (sg (det (fkx i).toInt (fky i).toInt (fkx (nxt i n)).toInt (fky (nxt i n)).toInt x.toInt y.toInt))), (19, .int (bz ((fky i).toInt ≤ y.toInt ∧ y.toInt < (fky (nxt i n)).toInt)))]) hx hb dX4_inside_267 hl (k := 6) rfl (by rw [ei7_9]; rfl) (by decide) rfl (fun ls hl => ?_)
                        refine lv_goto (tgt := 33) hx hb dX4_inside_270 (by decide) ?_
                        have q7 : i7_9 = nI (i + 1) := by rw [ei7_9]; exact nI_1 i
                        subst q7
                        refine ih33 (i + 1) 0 (bz (onB (eOn fkx fky n x y) (i + 1) = true)) g100 s100 m100 ?_ ?_ ?_ ?_ _ _ (hP.sub [2, 3, 4, 5, 0, 1] rfl) (hD.sub [2, 3, 4, 5, 0, 1] (by decide) rfl) hS _ (lv_sub hl [3, 4, 5, 1, 6, 0] rfl)
                        · omega
                        · rfl
                        · refine bz_f ?_
                          show ¬ (pab (eCr fkx fky n x y) i ^^ eCr fkx fky n x y i) = true
                          rw [c_252, show eCr fkx fky n x y i = true from decide_eq_true (Or.inr ⟨c_242.1, c_242.2, by rw [sg_neg c_247]; decide⟩)]; decide
                        · exact g4.tr kp100
                      · have c_252 := bz_0 c_252
                        refine lv_iconst (v := 1) hx hb dX4_inside_255 (by decide) ?_
                        refine lv_goto (tgt := 265) hx hb dX4_inside_256 (by decide) ?_
                        refine lv_istore (lv' := [(5, .int 1), (20, .int (bz ((fky (nxt i n)).toInt ≤ y.toInt ∧ y.toInt < (fky i).toInt))), (0, .ref o), (1, .long x), (3, .long y), (6, .int (bz (onB (eOn fkx fky n x y) (i + 1) = true))), (7, .int (nI i)), (8, .int (nI (nxt i n))), (9, .long (fkx i)), (11, .long (fky i)), (13, .long (fkx (nxt i n))), (15, .long (fky (nxt i n))), (17, .int (sg (det (fkx i).toInt (fky i).toInt (fkx (nxt i n)).toInt (fky (nxt i n)).toInt x.toInt y.toInt))), (19, .int (bz ((fky i).toInt ≤ y.toInt ∧ y.toInt < (fky (nxt i n)).toInt)))]) hx hb dX4_inside_265 hl (by decide) rfl (fun ls hl => ?_)
                        obtain ⟨i7_10, ei7_10⟩ : ∃ y : Int32, y = (nI i) + 1 := ⟨_, rfl⟩
                        refine lv_iinc (v := i7_10) (lv' := [(7, .int i7_10), (5, .int 1), (20, .int (bz ((fky (nxt i n)).toInt ≤ y.toInt ∧ y.toInt < (fky i).toInt))), (0, .ref o), (1, .long x), (3, .long y), (6, .int (bz (onB (eOn fkx fky n x y) (i + 1) = true))), (8, .int (nI (nxt i n))), (9, .long (fkx i)), (11, .long (fky i)), (13, .long (fkx (nxt i n))), (15, .long (fky (nxt i n))), (17, .int (sg (det (fkx i).toInt (fky i).toInt (fkx (nxt i n)).toInt (fky (nxt i n)).toInt x.toInt y.toInt))), (19, .int (bz ((fky i).toInt ≤ y.toInt ∧ y.toInt < (fky (nxt i n)).toInt)))]) hx hb dX4_inside_267 hl (k := 6) rfl (by rw [ei7_10]; rfl) (by decide) rfl (fun ls hl => ?_)
                        refine lv_goto (tgt := 33) hx hb dX4_inside_270 (by decide) ?_
                        have q7 : i7_10 = nI (i + 1) := by rw [ei7_10]; exact nI_1 i
                        subst q7
                        refine ih33 (i + 1) 1 (bz (onB (eOn fkx fky n x y) (i + 1) = true)) g100 s100 m100 ?_ ?_ ?_ ?_ _ _ (hP.sub [2, 3, 4, 5, 0, 1] rfl) (hD.sub [2, 3, 4, 5, 0, 1] (by decide) rfl) hS _ (lv_sub hl [3, 4, 5, 1, 6, 0] rfl)
                        · omega
                        · rfl
                        · refine bz_t ?_
                          show (pab (eCr fkx fky n x y) i ^^ eCr fkx fky n x y i) = true
                          rw [Bool.eq_false_iff.mpr c_252, show eCr fkx fky n x y i = true from decide_eq_true (Or.inr ⟨c_242.1, c_242.2, by rw [sg_neg c_247]; decide⟩)]; rfl
                        · exact g4.tr kp100
            have J207 : ∀ (up : Int32), (up = bz ((fky i).toInt ≤ y.toInt ∧ y.toInt < (fky (nxt i n)).toInt)) → ∀ (H : Heap) (locs : List Loc), va_P D vwCl [(kx, .inl (cJ, 64, .inr (.inl fkx))), (ky, .inl (cJ, 64, .inr (.inl fky))), (o, .inr (4, [.int 0, .ref wa, .ref sa, .ref ma, .ref tl, .ref gx, .ref gy, .ref tx, .ref tz, .int ln, .ref kx, .ref ky, .int (nI n), .int ah])), (wa, .inl (cJ, 96, .inr (.inl g100))), (sa, .inl (cI, 16, .inl s100)), (ma, .inl (cJ, 12, .inr (.inl m100)))] H → va_D A [(kx, .inl (cJ, 64, .inr (.inl fkx))), (ky, .inl (cJ, 64, .inr (.inl fky))), (o, .inr (4, [.int 0, .ref wa, .ref sa, .ref ma, .ref tl, .ref gx, .ref gy, .ref tx, .ref tz, .int ln, .ref kx, .ref ky, .int (nI n), .int ah])), (wa, .inl (cJ, 96, .inr (.inl g100))), (sa, .inl (cI, 16, .inl s100)), (ma, .inl (cJ, 12, .inr (.inl m100)))] → va_S A s.heap H locs → ∀ (ls : Array Slot), lv_has ls 21 [(0, .ref o), (1, .long x), (3, .long y), (5, .int (bz (pab (eCr fkx fky n x y) i = true))), (6, .int (bz (onB (eOn fkx fky n x y) (i + 1) = true))), (7, .int (nI i)), (8, .int (nI (nxt i n))), (9, .long (fkx i)), (11, .long (fky i)), (13, .long (fkx (nxt i n))), (15, .long (fky (nxt i n))), (17, .int (sg (det (fkx i).toInt (fky i).toInt (fkx (nxt i n)).toInt (fky (nxt i n)).toInt x.toInt y.toInt)))] → W p l e { frames := 4, cells := 0, slots := 0, locals := 115 } s m args below meth c H locs 0 0 Q (F0 m 207 ls [.int up]) := by
              intro up y3 H locs hP hD hS ls hl
              subst y3
              refine lv_istore (lv' := [(19, .int (bz ((fky i).toInt ≤ y.toInt ∧ y.toInt < (fky (nxt i n)).toInt))), (0, .ref o), (1, .long x), (3, .long y), (5, .int (bz (pab (eCr fkx fky n x y) i = true))), (6, .int (bz (onB (eOn fkx fky n x y) (i + 1) = true))), (7, .int (nI i)), (8, .int (nI (nxt i n))), (9, .long (fkx i)), (11, .long (fky i)), (13, .long (fkx (nxt i n))), (15, .long (fky (nxt i n))), (17, .int (sg (det (fkx i).toInt (fky i).toInt (fkx (nxt i n)).toInt (fky (nxt i n)).toInt x.toInt y.toInt)))]) hx hb dX4_inside_207 hl (by decide) rfl (fun ls hl => ?_)
              refine lv_lload hx hb dX4_inside_209 (lv_at hl 11 rfl) ?_
              refine lv_lload_n hx hb dX4_inside_211 rfl (lv_at hl 3 rfl) ?_
              refine W.lcmp hx hb dX4_inside_212 ?_
              refine lv_if_gt (tgt := 227) hx hb dX4_inside_213 (by decide) (fun c_213 => ?_) (fun c_213 => ?_)
              · have c_213 : y.toInt < (fky (nxt i n)).toInt := lc_gt c_213
                refine lv_iconst (v := 0) hx hb dX4_inside_227 (by decide) ?_
                refine J228 0 ?_ _ _ hP hD hS _ (lv_sub hl [1, 2, 3, 4, 5, 6, 7, 8, 9, 10, 11, 12, 0] rfl)
                · exact bz_f (by omega)
              · have c_213 : (fky (nxt i n)).toInt ≤ y.toInt := lc_ngt c_213
                refine lv_lload hx hb dX4_inside_216 (lv_at hl 9 rfl) ?_
                refine lv_lload_n hx hb dX4_inside_218 rfl (lv_at hl 3 rfl) ?_
                refine W.lcmp hx hb dX4_inside_219 ?_
                refine lv_if_le (tgt := 227) hx hb dX4_inside_220 (by decide) (fun c_220 => ?_) (fun c_220 => ?_)
                · have c_220 : (fky i).toInt ≤ y.toInt := lc_le c_220
                  refine lv_iconst (v := 0) hx hb dX4_inside_227 (by decide) ?_
                  refine J228 0 ?_ _ _ hP hD hS _ (lv_sub hl [1, 2, 3, 4, 5, 6, 7, 8, 9, 10, 11, 12, 0] rfl)
                  · exact bz_f (by omega)
                · have c_220 : y.toInt < (fky i).toInt := lc_nle c_220
                  refine lv_iconst (v := 1) hx hb dX4_inside_223 (by decide) ?_
                  refine lv_goto (tgt := 228) hx hb dX4_inside_224 (by decide) ?_
                  refine J228 1 ?_ _ _ hP hD hS _ (lv_sub hl [1, 2, 3, 4, 5, 6, 7, 8, 9, 10, 11, 12, 0] rfl)
                  · exact bz_t (by omega)
            have J186 : ∀ (on : Int32), (on = bz (onB (eOn fkx fky n x y) (i + 1) = true)) → ∀ (H : Heap) (locs : List Loc), va_P D vwCl [(kx, .inl (cJ, 64, .inr (.inl fkx))), (ky, .inl (cJ, 64, .inr (.inl fky))), (o, .inr (4, [.int 0, .ref wa, .ref sa, .ref ma, .ref tl, .ref gx, .ref gy, .ref tx, .ref tz, .int ln, .ref kx, .ref ky, .int (nI n), .int ah])), (wa, .inl (cJ, 96, .inr (.inl g100))), (sa, .inl (cI, 16, .inl s100)), (ma, .inl (cJ, 12, .inr (.inl m100)))] H → va_D A [(kx, .inl (cJ, 64, .inr (.inl fkx))), (ky, .inl (cJ, 64, .inr (.inl fky))), (o, .inr (4, [.int 0, .ref wa, .ref sa, .ref ma, .ref tl, .ref gx, .ref gy, .ref tx, .ref tz, .int ln, .ref kx, .ref ky, .int (nI n), .int ah])), (wa, .inl (cJ, 96, .inr (.inl g100))), (sa, .inl (cI, 16, .inl s100)), (ma, .inl (cJ, 12, .inr (.inl m100)))] → va_S A s.heap H locs → ∀ (ls : Array Slot), lv_has ls 21 [(0, .ref o), (1, .long x), (3, .long y), (5, .int (bz (pab (eCr fkx fky n x y) i = true))), (6, .int (bz (onB (eOn fkx fky n x y) i = true))), (7, .int (nI i)), (8, .int (nI (nxt i n))), (9, .long (fkx i)), (11, .long (fky i)), (13, .long (fkx (nxt i n))), (15, .long (fky (nxt i n))), (17, .int (sg (det (fkx i).toInt (fky i).toInt (fkx (nxt i n)).toInt (fky (nxt i n)).toInt x.toInt y.toInt)))] → W p l e { frames := 4, cells := 0, slots := 0, locals := 115 } s m args below meth c H locs 0 0 Q (F0 m 186 ls [.int on]) := by
              intro on y2 H locs hP hD hS ls hl
              subst y2
              refine lv_istore (lv' := [(6, .int (bz (onB (eOn fkx fky n x y) (i + 1) = true))), (0, .ref o), (1, .long x), (3, .long y), (5, .int (bz (pab (eCr fkx fky n x y) i = true))), (7, .int (nI i)), (8, .int (nI (nxt i n))), (9, .long (fkx i)), (11, .long (fky i)), (13, .long (fkx (nxt i n))), (15, .long (fky (nxt i n))), (17, .int (sg (det (fkx i).toInt (fky i).toInt (fkx (nxt i n)).toInt (fky (nxt i n)).toInt x.toInt y.toInt)))]) hx hb dX4_inside_186 hl (by decide) rfl (fun ls hl => ?_)
              refine lv_lload hx hb dX4_inside_188 (lv_at hl 8 rfl) ?_
              refine lv_lload_n hx hb dX4_inside_190 rfl (lv_at hl 3 rfl) ?_
              refine W.lcmp hx hb dX4_inside_191 ?_
              refine lv_if_gt (tgt := 206) hx hb dX4_inside_192 (by decide) (fun c_192 => ?_) (fun c_192 => ?_)
              · have c_192 : y.toInt < (fky i).toInt := lc_gt c_192
                refine lv_iconst (v := 0) hx hb dX4_inside_206 (by decide) ?_
                refine J207 0 ?_ _ _ hP hD hS _ (lv_sub hl [1, 2, 3, 4, 0, 5, 6, 7, 8, 9, 10, 11] rfl)
                · exact bz_f (by omega)
              · have c_192 : (fky i).toInt ≤ y.toInt := lc_ngt c_192
                refine lv_lload hx hb dX4_inside_195 (lv_at hl 10 rfl) ?_
                refine lv_lload_n hx hb dX4_inside_197 rfl (lv_at hl 3 rfl) ?_
                refine W.lcmp hx hb dX4_inside_198 ?_
                refine lv_if_le (tgt := 206) hx hb dX4_inside_199 (by decide) (fun c_199 => ?_) (fun c_199 => ?_)
                · have c_199 : (fky (nxt i n)).toInt ≤ y.toInt := lc_le c_199
                  refine lv_iconst (v := 0) hx hb dX4_inside_206 (by decide) ?_
                  refine J207 0 ?_ _ _ hP hD hS _ (lv_sub hl [1, 2, 3, 4, 0, 5, 6, 7, 8, 9, 10, 11] rfl)
                  · exact bz_f (by omega)
                · have c_199 : y.toInt < (fky (nxt i n)).toInt := lc_nle c_199
                  refine lv_iconst (v := 1) hx hb dX4_inside_202 (by decide) ?_
                  refine lv_goto (tgt := 207) hx hb dX4_inside_203 (by decide) ?_
                  refine J207 1 ?_ _ _ hP hD hS _ (lv_sub hl [1, 2, 3, 4, 0, 5, 6, 7, 8, 9, 10, 11] rfl)
                  · exact bz_t (by omega)
            have J164 : ∀ (bt : Int32), (bt = bz (btw (fkx i) x (fkx (nxt i n)) ∧ btw (fky i) y (fky (nxt i n)))) → ∀ (H : Heap) (locs : List Loc), va_P D vwCl [(kx, .inl (cJ, 64, .inr (.inl fkx))), (ky, .inl (cJ, 64, .inr (.inl fky))), (o, .inr (4, [.int 0, .ref wa, .ref sa, .ref ma, .ref tl, .ref gx, .ref gy, .ref tx, .ref tz, .int ln, .ref kx, .ref ky, .int (nI n), .int ah])), (wa, .inl (cJ, 96, .inr (.inl g100))), (sa, .inl (cI, 16, .inl s100)), (ma, .inl (cJ, 12, .inr (.inl m100)))] H → va_D A [(kx, .inl (cJ, 64, .inr (.inl fkx))), (ky, .inl (cJ, 64, .inr (.inl fky))), (o, .inr (4, [.int 0, .ref wa, .ref sa, .ref ma, .ref tl, .ref gx, .ref gy, .ref tx, .ref tz, .int ln, .ref kx, .ref ky, .int (nI n), .int ah])), (wa, .inl (cJ, 96, .inr (.inl g100))), (sa, .inl (cI, 16, .inl s100)), (ma, .inl (cJ, 12, .inr (.inl m100)))] → va_S A s.heap H locs → ∀ (ls : Array Slot), lv_has ls 21 [(0, .ref o), (1, .long x), (3, .long y), (5, .int (bz (pab (eCr fkx fky n x y) i = true))), (6, .int (bz (onB (eOn fkx fky n x y) i = true))), (7, .int (nI i)), (8, .int (nI (nxt i n))), (9, .long (fkx i)), (11, .long (fky i)), (13, .long (fkx (nxt i n))), (15, .long (fky (nxt i n))), (17, .int (sg (det (fkx i).toInt (fky i).toInt (fkx (nxt i n)).toInt (fky (nxt i n)).toInt x.toInt y.toInt)))] → W p l e { frames := 4, cells := 0, slots := 0, locals := 115 } s m args below meth c H locs 0 0 Q (F0 m 164 ls [.int bt]) := by
              intro bt y1 H locs hP hD hS ls hl
              subst y1
              refine lv_istore (lv' := [(18, .int (bz (btw (fkx i) x (fkx (nxt i n)) ∧ btw (fky i) y (fky (nxt i n))))), (0, .ref o), (1, .long x), (3, .long y), (5, .int (bz (pab (eCr fkx fky n x y) i = true))), (6, .int (bz (onB (eOn fkx fky n x y) i = true))), (7, .int (nI i)), (8, .int (nI (nxt i n))), (9, .long (fkx i)), (11, .long (fky i)), (13, .long (fkx (nxt i n))), (15, .long (fky (nxt i n))), (17, .int (sg (det (fkx i).toInt (fky i).toInt (fkx (nxt i n)).toInt (fky (nxt i n)).toInt x.toInt y.toInt)))]) hx hb dX4_inside_164 hl (by decide) rfl (fun ls hl => ?_)
              refine lv_iload hx hb dX4_inside_166 (lv_at hl 5 rfl) ?_
              refine lv_if_ne (tgt := 181) hx hb dX4_inside_168 (by decide) (fun c_168 => ?_) (fun c_168 => ?_)
              · have c_168 := bz_1 c_168
                refine lv_iconst (v := 1) hx hb dX4_inside_181 (by decide) ?_
                refine lv_goto (tgt := 186) hx hb dX4_inside_182 (by decide) ?_
                refine J186 1 ?_ _ _ hP hD hS _ (lv_sub hl [1, 2, 3, 4, 5, 6, 7, 8, 9, 10, 11, 12] rfl)
                · refine bz_t ?_
                  show (onB (eOn fkx fky n x y) i || eOn fkx fky n x y i) = true
                  rw [c_168]; rfl
              · have c_168 := bz_0 c_168
                refine lv_iload hx hb dX4_inside_171 (lv_at hl 12 rfl) ?_
                refine lv_if_ne (tgt := 185) hx hb dX4_inside_173 (by decide) (fun c_173 => ?_) (fun c_173 => ?_)
                · have c_173 := sg_net c_173
                  refine lv_iconst (v := 0) hx hb dX4_inside_185 (by decide) ?_
                  refine J186 0 ?_ _ _ hP hD hS _ (lv_sub hl [1, 2, 3, 4, 5, 6, 7, 8, 9, 10, 11, 12] rfl)
                  · refine bz_f ?_
                    show ¬ (onB (eOn fkx fky n x y) i || eOn fkx fky n x y i) = true
                    rw [Bool.eq_false_iff.mpr c_168, show eOn fkx fky n x y i = false from decide_eq_false (fun q => c_173 q.1)]; decide
                · have c_173 := sg_nef c_173
                  refine lv_iload hx hb dX4_inside_176 (lv_at hl 0 rfl) ?_
                  refine lv_if_eq (tgt := 185) hx hb dX4_inside_178 (by decide) (fun c_178 => ?_) (fun c_178 => ?_)
                  · have c_178 := bz_0 c_178
                    refine lv_iconst (v := 0) hx hb dX4_inside_185 (by decide) ?_
                    refine J186 0 ?_ _ _ hP hD hS _ (lv_sub hl [1, 2, 3, 4, 5, 6, 7, 8, 9, 10, 11, 12] rfl)
                    · refine bz_f ?_
                      show ¬ (onB (eOn fkx fky n x y) i || eOn fkx fky n x y i) = true
                      rw [Bool.eq_false_iff.mpr c_168, show eOn fkx fky n x y i = false from decide_eq_false (fun q => c_178 q.2)]; decide
                  · have c_178 := bz_1 c_178
                    refine lv_iconst (v := 1) hx hb dX4_inside_181 (by decide) ?_
                    refine lv_goto (tgt := 186) hx hb dX4_inside_182 (by decide) ?_
                    refine J186 1 ?_ _ _ hP hD hS _ (lv_sub hl [1, 2, 3, 4, 5, 6, 7, 8, 9, 10, 11, 12] rfl)
                    · refine bz_t ?_
                      show (onB (eOn fkx fky n x y) i || eOn fkx fky n x y i) = true
                      rw [show eOn fkx fky n x y i = true from decide_eq_true ⟨c_173, c_178.1, c_178.2⟩, Bool.or_true]
            refine lv_lload hx hb dX4_inside_105 (lv_at hl 4 rfl) ?_
            refine lv_lload hx hb dX4_inside_107 (lv_at hl 2 rfl) ?_
            refine vp_callSl (va_runS (As := [.long (fkx i), .long (fkx (nxt i n))]) (rest := []) ⟨hx, hb, hml, hown, hTB⟩ (c_X4_less l D cZ cI cJ (fkx i) (fkx (nxt i n))) (cw_S hTB tb_13_9 tb_1_5 tb_13_7 tb_13_8 nd_X4_less rfl rfl ⟨Nat.le_of_ble_eq_true rfl, Nat.le_of_ble_eq_true rfl⟩) (prr_S hK hP [] rfl) rfl rfl hl.1 rfl (lv_room (Nat.le_of_ble_eq_true rfl)) dX4_inside_109 ⟨Nat.le_of_ble_eq_true rfl, Nat.le_of_ble_eq_true rfl⟩).run (fun r109 hc109 => ?_)
            refine lv_lload_n hx hb dX4_inside_112 rfl (lv_at hl 7 rfl) ?_
            refine W.lcmp hx hb dX4_inside_113 ?_
            refine lv_if_gt (tgt := 163) hx hb dX4_inside_114 (by decide) (fun c_114 => ?_) (fun c_114 => ?_)
            · have c_114 : x.toInt < r109.toInt := lc_gt c_114
              refine lv_iconst (v := 0) hx hb dX4_inside_163 (by decide) ?_
              refine J164 0 ?_ _ _ hP hD hS _ (lv_sub hl [6, 7, 8, 9, 10, 11, 5, 4, 3, 2, 1, 0] rfl)
              · exact bz_f (fun q => by have := btw_i.mp q.1; rw [hc109] at c_114; omega)
            · have c_114 : r109.toInt ≤ x.toInt := lc_ngt c_114
              refine lv_lload_n hx hb dX4_inside_117 rfl (lv_at hl 7 rfl) ?_
              refine lv_lload hx hb dX4_inside_118 (lv_at hl 4 rfl) ?_
              refine lv_lneg hx hb dX4_inside_120 ?_
              refine lv_lload hx hb dX4_inside_121 (lv_at hl 2 rfl) ?_
              refine lv_lneg hx hb dX4_inside_123 ?_
              refine vp_callSl (va_runS (As := [.long (-(fkx i)), .long (-(fkx (nxt i n)))]) (rest := [.long x]) ⟨hx, hb, hml, hown, hTB⟩ (c_X4_less l D cZ cI cJ (-(fkx i)) (-(fkx (nxt i n)))) (cw_S hTB tb_13_9 tb_1_5 tb_13_7 tb_13_8 nd_X4_less rfl rfl ⟨Nat.le_of_ble_eq_true rfl, Nat.le_of_ble_eq_true rfl⟩) (prr_S hK hP [] rfl) rfl rfl hl.1 rfl (lv_room (Nat.le_of_ble_eq_true rfl)) dX4_inside_124 ⟨Nat.le_of_ble_eq_true rfl, Nat.le_of_ble_eq_true rfl⟩).run (fun r124 hc124 => ?_)
              refine lv_lneg hx hb dX4_inside_127 ?_
              refine W.lcmp hx hb dX4_inside_128 ?_
              refine lv_if_gt (tgt := 163) hx hb dX4_inside_129 (by decide) (fun c_129 => ?_) (fun c_129 => ?_)
              · have c_129 : (-r124).toInt < x.toInt := lc_gt c_129
                refine lv_iconst (v := 0) hx hb dX4_inside_163 (by decide) ?_
                refine J164 0 ?_ _ _ hP hD hS _ (lv_sub hl [6, 7, 8, 9, 10, 11, 5, 4, 3, 2, 1, 0] rfl)
                · exact bz_f (fun q => by have := btw_i.mp q.1; rw [ngmx hc124 (by omega) (by omega)] at c_129; omega)
              · have c_129 : x.toInt ≤ (-r124).toInt := lc_ngt c_129
                refine lv_lload hx hb dX4_inside_132 (lv_at hl 3 rfl) ?_
                refine lv_lload hx hb dX4_inside_134 (lv_at hl 1 rfl) ?_
                refine vp_callSl (va_runS (As := [.long (fky i), .long (fky (nxt i n))]) (rest := []) ⟨hx, hb, hml, hown, hTB⟩ (c_X4_less l D cZ cI cJ (fky i) (fky (nxt i n))) (cw_S hTB tb_13_9 tb_1_5 tb_13_7 tb_13_8 nd_X4_less rfl rfl ⟨Nat.le_of_ble_eq_true rfl, Nat.le_of_ble_eq_true rfl⟩) (prr_S hK hP [] rfl) rfl rfl hl.1 rfl (lv_room (Nat.le_of_ble_eq_true rfl)) dX4_inside_136 ⟨Nat.le_of_ble_eq_true rfl, Nat.le_of_ble_eq_true rfl⟩).run (fun r136 hc136 => ?_)
                refine lv_lload_n hx hb dX4_inside_139 rfl (lv_at hl 8 rfl) ?_
                refine W.lcmp hx hb dX4_inside_140 ?_
                refine lv_if_gt (tgt := 163) hx hb dX4_inside_141 (by decide) (fun c_141 => ?_) (fun c_141 => ?_)
                · have c_141 : y.toInt < r136.toInt := lc_gt c_141
                  refine lv_iconst (v := 0) hx hb dX4_inside_163 (by decide) ?_
                  refine J164 0 ?_ _ _ hP hD hS _ (lv_sub hl [6, 7, 8, 9, 10, 11, 5, 4, 3, 2, 1, 0] rfl)
                  · exact bz_f (fun q => by have := btw_i.mp q.2; rw [hc136] at c_141; omega)
                · have c_141 : r136.toInt ≤ y.toInt := lc_ngt c_141
                  refine lv_lload_n hx hb dX4_inside_144 rfl (lv_at hl 8 rfl) ?_
                  refine lv_lload hx hb dX4_inside_145 (lv_at hl 3 rfl) ?_
                  refine lv_lneg hx hb dX4_inside_147 ?_
                  refine lv_lload hx hb dX4_inside_148 (lv_at hl 1 rfl) ?_
                  refine lv_lneg hx hb dX4_inside_150 ?_
                  refine vp_callSl (va_runS (As := [.long (-(fky i)), .long (-(fky (nxt i n)))]) (rest := [.long y]) ⟨hx, hb, hml, hown, hTB⟩ (c_X4_less l D cZ cI cJ (-(fky i)) (-(fky (nxt i n)))) (cw_S hTB tb_13_9 tb_1_5 tb_13_7 tb_13_8 nd_X4_less rfl rfl ⟨Nat.le_of_ble_eq_true rfl, Nat.le_of_ble_eq_true rfl⟩) (prr_S hK hP [] rfl) rfl rfl hl.1 rfl (lv_room (Nat.le_of_ble_eq_true rfl)) dX4_inside_151 ⟨Nat.le_of_ble_eq_true rfl, Nat.le_of_ble_eq_true rfl⟩).run (fun r151 hc151 => ?_)
                  refine lv_lneg hx hb dX4_inside_154 ?_
                  refine W.lcmp hx hb dX4_inside_155 ?_
                  refine lv_if_gt (tgt := 163) hx hb dX4_inside_156 (by decide) (fun c_156 => ?_) (fun c_156 => ?_)
                  · have c_156 : (-r151).toInt < y.toInt := lc_gt c_156
                    refine lv_iconst (v := 0) hx hb dX4_inside_163 (by decide) ?_
                    refine J164 0 ?_ _ _ hP hD hS _ (lv_sub hl [6, 7, 8, 9, 10, 11, 5, 4, 3, 2, 1, 0] rfl)
                    · exact bz_f (fun q => by have := btw_i.mp q.2; rw [ngmx hc151 (by omega) (by omega)] at c_156; omega)
                  · have c_156 : y.toInt ≤ (-r151).toInt := lc_ngt c_156
                    refine lv_iconst (v := 1) hx hb dX4_inside_159 (by decide) ?_
                    refine lv_goto (tgt := 164) hx hb dX4_inside_160 (by decide) ?_
                    refine J164 1 ?_ _ _ hP hD hS _ (lv_sub hl [6, 7, 8, 9, 10, 11, 5, 4, 3, 2, 1, 0] rfl)
                    · rw [hc109] at c_114
                      rw [ngmx hc124 (by omega) (by omega)] at c_129
                      rw [hc136] at c_141
                      rw [ngmx hc151 (by omega) (by omega)] at c_156
                      exact bz_t ⟨btw_i.mpr ⟨c_114, c_129⟩, btw_i.mpr ⟨c_141, c_156⟩⟩
      refine L33 (n + 1) 0 0 0 fw fs fm ?_ ?_ ?_ ?_ _ _ hP hD hS _ (lv_sub hl [3, 4, 5, 2, 1, 0] rfl)
      · omega
      · rfl
      · rfl
      · exact kept.rf hlim
    · refine lv_bipush (v := (-2)) hx hb dX4_inside_21 (by decide) ?_
      exact hret hP hD hS rfl (fw, fs, fm) (⟨by unfold insv; rw [if_pos (Or.inl (Nat.not_le.mp (fun q => c_18 ((nI_leI (a := 3) (b := n) (by omega) (by omega)).mpr q))))], kept.rf hlim⟩) [0, 1, 2, 3, 4, 5] rfl (by decide) dX4_inside_23 (Nat.le_of_ble_eq_true rfl) (Nat.le_of_ble_eq_true rfl)

set_option maxHeartbeats 4000000 in
set_option maxRecDepth 100000 in
theorem c_X4_quotient (l : Launch) (D : va_G) (cZ cI cJ : ClassId) (o wa sa ma tl gx gy tx tz kx ky : Nat) (cd ln cn ah : Int32) (fw : Nat → Int64) (rule : Int32) (ng : Bool) (hlim : lim fw) (hR : 2 * num fw 10 < 6277101735386680763835789423207666416102355444464034512896) (hM : 0 < num fw 1) (hrok : rok rule) : Cl l D cZ cI cJ yX4_quotient cX4_quotient 9 (some .long) { frames := 2, cells := 0, slots := 0, locals := 50 } [.ref o, .int rule, .int (bz (ng = true))] [(o, .inr (4, [.int cd, .ref wa, .ref sa, .ref ma, .ref tl, .ref gx, .ref gy, .ref tx, .ref tz, .int ln, .ref kx, .ref ky, .int cn, .int ah])), (wa, .inl (cJ, 96, .inr (.inl fw)))] (S := Nat → Int64) (fun z u => z = (if ng = true then -(if (mO rule ng (num fw 9) (num fw 10) (num fw 1) = true) then lN (num fw 9) + 1 else lN (num fw 9)) else (if (mO rule ng (num fw 9) (num fw 10) (num fw 1) = true) then lN (num fw 9) + 1 else lN (num fw 9))) ∧ upn fw u 10 (2 * num fw 10)) (fun u => [(o, .inr (4, [.int cd, .ref wa, .ref sa, .ref ma, .ref tl, .ref gx, .ref gy, .ref tx, .ref tz, .int ln, .ref kx, .ref ky, .int cn, .int ah])), (wa, .inl (cJ, 96, .inr (.inl u)))]) := by
  refine Cl.of (by decide) ?_
  intro p e s m args below meth c A Q hB hret hP hD hA
  obtain ⟨hx, hb, hr, hlocks, hml, hown, hnm, hTB, hK⟩ := hB
  have hown : s.vm.findClass RX4 = some m.cls := hown
  have hS : va_S A s.heap s.heap [] := va_S.rf
  have hl := lv_entry ([.ref o, .int rule, .int (bz (ng = true))]) (n := 9) (Nat.le_of_ble_eq_true rfl)
  rw [lg_entry_eq]
  generalize (lg_sl ([.ref o, .int rule, .int (bz (ng = true))]) ++ List.replicate (9 - (lg_sl ([.ref o, .int rule, .int (bz (ng = true))])).length) Slot.unset).toArray = ls at hl ⊢
  have hl : lv_has ls 9 [(0, .ref o), (1, .int rule), (2, .int (bz (ng = true)))] := hl
  refine lv_aload_n hx hb dX4_quotient_0 rfl (lv_at hl 0 rfl) ?_
  refine lv_bipush (v := 10) hx hb dX4_quotient_1 (by decide) ?_
  refine vp_callSi (va_runV (As := [.int 10]) (rest := []) ⟨hx, hb, hml, hown, hTB⟩ (c_X4_isNothing l D cZ cI cJ o wa sa ma tl gx gy tx tz kx ky cd ln cn ah fw 10 (by decide)) (cw_V hTB tb_7_18 tb_1_5 tb_7_15 tb_7_16 tb_7_17 nd_X4_isNothing rfl rfl ⟨Nat.le_of_ble_eq_true rfl, Nat.le_of_ble_eq_true rfl⟩) (prr_V (q0 := 0) hK hP [0, 1] rfl rfl rfl) rfl rfl hl.1 rfl (lv_room (Nat.le_of_ble_eq_true rfl)) dX4_quotient_3 ⟨Nat.le_of_ble_eq_true rfl, Nat.le_of_ble_eq_true rfl⟩).run (fun r3 hc3 => ?_)
  subst hc3
  have J14 : ∀ (so : Int32), (so = bz (num fw 10 ≠ 0)) → ∀ (H : Heap) (locs : List Loc), va_P D vwCl [(o, .inr (4, [.int cd, .ref wa, .ref sa, .ref ma, .ref tl, .ref gx, .ref gy, .ref tx, .ref tz, .int ln, .ref kx, .ref ky, .int cn, .int ah])), (wa, .inl (cJ, 96, .inr (.inl fw)))] H → va_D A [(o, .inr (4, [.int cd, .ref wa, .ref sa, .ref ma, .ref tl, .ref gx, .ref gy, .ref tx, .ref tz, .int ln, .ref kx, .ref ky, .int cn, .int ah])), (wa, .inl (cJ, 96, .inr (.inl fw)))] → va_S A s.heap H locs → ∀ (ls : Array Slot), lv_has ls 9 [(0, .ref o), (1, .int rule), (2, .int (bz (ng = true)))] → W p l e { frames := 2, cells := 0, slots := 0, locals := 50 } s m args below meth c H locs 0 0 Q (F0 m 14 ls [.int so]) := by
    intro so y1 H locs hP hD hS ls hl
    subst y1
    refine lv_istore_n (lv' := [(3, .int (bz (num fw 10 ≠ 0))), (0, .ref o), (1, .int rule), (2, .int (bz (ng = true)))]) hx hb dX4_quotient_14 rfl hl (by decide) rfl (fun ls hl => ?_)
    refine lv_aload_n hx hb dX4_quotient_15 rfl (lv_at hl 1 rfl) ?_
    refine lv_bipush (v := 10) hx hb dX4_quotient_16 (by decide) ?_
    refine fin_v (wr := []) (va_runV (As := [.int 10]) (rest := []) ⟨hx, hb, hml, hown, hTB⟩ (c_X4_twice l D cZ cI cJ o wa sa ma tl gx gy tx tz kx ky cd ln cn ah fw 10 hlim (by decide) hR _) (cw_V hTB tb_14_13 tb_1_5 tb_14_10 tb_14_11 tb_14_12 nd_X4_twice rfl rfl ⟨Nat.le_of_ble_eq_true rfl, Nat.le_of_ble_eq_true rfl⟩) (pre_V (q0 := 0) hK hP hD [0, 1] rfl rfl rfl rfl) rfl rfl hl.1 rfl (lv_room (Nat.le_of_ble_eq_true rfl)) dX4_quotient_18 ⟨Nat.le_of_ble_eq_true rfl, Nat.le_of_ble_eq_true rfl⟩) hP hD hS hA [0, 1] [] rfl rfl rfl (by decide) (fun u18 H locs hc18 hP hD hS => ?_)
    have hP : va_P D vwCl [(o, .inr (4, [.int cd, .ref wa, .ref sa, .ref ma, .ref tl, .ref gx, .ref gy, .ref tx, .ref tz, .int ln, .ref kx, .ref ky, .int cn, .int ah])), (wa, .inl (cJ, 96, .inr (.inl u18)))] H := hP
    have hD : va_D A [(o, .inr (4, [.int cd, .ref wa, .ref sa, .ref ma, .ref tl, .ref gx, .ref gy, .ref tx, .ref tz, .int ln, .ref kx, .ref ky, .int cn, .int ah])), (wa, .inl (cJ, 96, .inr (.inl u18)))] := hD
    refine lv_aload_n hx hb dX4_quotient_21 rfl (lv_at hl 1 rfl) ?_
    refine lv_bipush (v := 10) hx hb dX4_quotient_22 (by decide) ?_
    refine lv_iconst (v := 1) hx hb dX4_quotient_24 (by decide) ?_
    refine vp_callSi (va_runV (As := [.int 10, .int 1]) (rest := []) ⟨hx, hb, hml, hown, hTB⟩ (c_X4_compare l D cZ cI cJ o wa sa ma tl gx gy tx tz kx ky cd ln cn ah u18 10 1 hc18.1 (by decide) (by decide)) (cw_V hTB tb_7_14 tb_1_5 tb_7_11 tb_7_12 tb_7_13 nd_X4_compare rfl rfl ⟨Nat.le_of_ble_eq_true rfl, Nat.le_of_ble_eq_true rfl⟩) (prr_V (q0 := 0) hK hP [0, 1] rfl rfl rfl) rfl rfl hl.1 rfl (lv_room (Nat.le_of_ble_eq_true rfl)) dX4_quotient_25 ⟨Nat.le_of_ble_eq_true rfl, Nat.le_of_ble_eq_true rfl⟩).run (fun r25 hc25 => ?_)
    subst hc25
    refine lv_istore (lv' := [(4, .int (cm (num u18 10) (num u18 1))), (3, .int (bz (num fw 10 ≠ 0))), (0, .ref o), (1, .int rule), (2, .int (bz (ng = true)))]) hx hb dX4_quotient_28 hl (by decide) rfl (fun ls hl => ?_)
    refine lv_aload_n hx hb dX4_quotient_30 rfl (lv_at hl 2 rfl) ?_
    refine lv_bipush (v := 9) hx hb dX4_quotient_31 (by decide) ?_
    refine vp_callSi (va_runV (As := [.int 9]) (rest := []) ⟨hx, hb, hml, hown, hTB⟩ (c_X4_isEven l D cZ cI cJ o wa sa ma tl gx gy tx tz kx ky cd ln cn ah u18 9 (by decide)) (cw_V hTB tb_14_5 tb_1_5 tb_14_2 tb_14_3 tb_14_4 nd_X4_isEven rfl rfl ⟨Nat.le_of_ble_eq_true rfl, Nat.le_of_ble_eq_true rfl⟩) (prr_V (q0 := 0) hK hP [0, 1] rfl rfl rfl) rfl rfl hl.1 rfl (lv_room (Nat.le_of_ble_eq_true rfl)) dX4_quotient_33 ⟨Nat.le_of_ble_eq_true rfl, Nat.le_of_ble_eq_true rfl⟩).run (fun r33 hc33 => ?_)
    subst hc33
    have J44 : ∀ (od : Int32), (od = bz (num fw 9 % 2 = 1)) → ∀ (H : Heap) (locs : List Loc), va_P D vwCl [(o, .inr (4, [.int cd, .ref wa, .ref sa, .ref ma, .ref tl, .ref gx, .ref gy, .ref tx, .ref tz, .int ln, .ref kx, .ref ky, .int cn, .int ah])), (wa, .inl (cJ, 96, .inr (.inl u18)))] H → va_D A [(o, .inr (4, [.int cd, .ref wa, .ref sa, .ref ma, .ref tl, .ref gx, .ref gy, .ref tx, .ref tz, .int ln, .ref kx, .ref ky, .int cn, .int ah])), (wa, .inl (cJ, 96, .inr (.inl u18)))] → va_S A s.heap H locs → ∀ (ls : Array Slot), lv_has ls 9 [(0, .ref o), (1, .int rule), (2, .int (bz (ng = true))), (3, .int (bz (num fw 10 ≠ 0))), (4, .int (cm (num u18 10) (num u18 1)))] → W p l e { frames := 2, cells := 0, slots := 0, locals := 50 } s m args below meth c H locs 0 0 Q (F0 m 44 ls [.int od]) := by
      intro od y2 H locs hP hD hS ls hl
      subst y2
      refine lv_istore (lv' := [(5, .int (bz (num fw 9 % 2 = 1))), (0, .ref o), (1, .int rule), (2, .int (bz (ng = true))), (3, .int (bz (num fw 10 ≠ 0))), (4, .int (cm (num u18 10) (num u18 1)))]) hx hb dX4_quotient_44 hl (by decide) rfl (fun ls hl => ?_)
      have J141 : ∀ (m2 : Int32), (m2 = bz (mO rule ng (num fw 9) (num fw 10) (num fw 1) = true)) → ∀ (H : Heap) (locs : List Loc), va_P D vwCl [(o, .inr (4, [.int cd, .ref wa, .ref sa, .ref ma, .ref tl, .ref gx, .ref gy, .ref tx, .ref tz, .int ln, .ref kx, .ref ky, .int cn, .int ah])), (wa, .inl (cJ, 96, .inr (.inl u18)))] H → va_D A [(o, .inr (4, [.int cd, .ref wa, .ref sa, .ref ma, .ref tl, .ref gx, .ref gy, .ref tx, .ref tz, .int ln, .ref kx, .ref ky, .int cn, .int ah])), (wa, .inl (cJ, 96, .inr (.inl u18)))] → va_S A s.heap H locs → ∀ (ls : Array Slot), lv_has ls 9 [(0, .ref o), (1, .int rule), (2, .int (bz (ng = true))), (3, .int (bz (num fw 10 ≠ 0))), (4, .int (cm (num u18 10) (num u18 1))), (5, .int (bz (num fw 9 % 2 = 1))), (6, .int m2)] → W p l e { frames := 2, cells := 0, slots := 0, locals := 50 } s m args below meth c H locs 0 0 Q (F0 m 141 ls []) := by
        intro m2 y6 H locs hP hD hS ls hl
        subst y6
        refine lv_aload_n hx hb dX4_quotient_141 rfl (lv_at hl 0 rfl) ?_
        refine lv_bipush (v := 9) hx hb dX4_quotient_142 (by decide) ?_
        refine lv_iconst (v := 0) hx hb dX4_quotient_144 (by decide) ?_
        refine vp_callSl (va_runV (As := [.int 9, .int 0]) (rest := []) ⟨hx, hb, hml, hown, hTB⟩ (c_X4_bits l D cZ cI cJ o wa sa ma tl gx gy tx tz kx ky cd ln cn ah u18 9 0 hc18.1 (by decide)) (cw_V hTB tb_15_23 tb_1_5 tb_15_20 tb_15_21 tb_15_22 nd_X4_bits rfl rfl ⟨Nat.le_of_ble_eq_true rfl, Nat.le_of_ble_eq_true rfl⟩) (prr_V (q0 := 0) hK hP [0, 1] rfl rfl rfl) rfl rfl hl.1 rfl (lv_room (Nat.le_of_ble_eq_true rfl)) dX4_quotient_145 ⟨Nat.le_of_ble_eq_true rfl, Nat.le_of_ble_eq_true rfl⟩).run (fun r145 hc145 => ?_)
        rw [if_pos rfl, hc18.other (by decide)] at hc145
        subst hc145
        refine lv_lstore (lv' := [(7, .long (lN (num fw 9))), (0, .ref o), (1, .int rule), (2, .int (bz (ng = true))), (3, .int (bz (num fw 10 ≠ 0))), (4, .int (cm (num u18 10) (num u18 1))), (5, .int (bz (num fw 9 % 2 = 1))), (6, .int (bz (mO rule ng (num fw 9) (num fw 10) (num fw 1) = true)))]) hx hb dX4_quotient_148 hl (by decide) rfl (fun ls hl => ?_)
        refine lv_iload hx hb dX4_quotient_150 (lv_at hl 7 rfl) ?_
        refine lv_if_eq (tgt := 162) hx hb dX4_quotient_152 (by decide) (fun c_152 => ?_) (fun c_152 => ?_)
        · have c_152 := bz_0 c_152
          refine lv_lload hx hb dX4_quotient_162 (lv_at hl 0 rfl) ?_
          refine lv_lstore (lv' := [(7, .long (lN (num fw 9))), (0, .ref o), (1, .int rule), (2, .int (bz (ng = true))), (3, .int (bz (num fw 10 ≠ 0))), (4, .int (cm (num u18 10) (num u18 1))), (5, .int (bz (num fw 9 % 2 = 1))), (6, .int (bz (mO rule ng (num fw 9) (num fw 10) (num fw 1) = true)))]) hx hb dX4_quotient_164 hl (by decide) rfl (fun ls hl => ?_)
          refine lv_iload_n hx hb dX4_quotient_166 rfl (lv_at hl 3 rfl) ?_
          refine lv_if_eq (tgt := 176) hx hb dX4_quotient_167 (by decide) (fun c_167 => ?_) (fun c_167 => ?_)
          · have c_167 := bz_0 c_167
            refine lv_lload hx hb dX4_quotient_176 (lv_at hl 0 rfl) ?_
            exact hret hP hD hS u18 (⟨by rw [if_neg c_167, if_neg c_152], hc18⟩) [0, 1] rfl (by decide) dX4_quotient_178 (Nat.le_of_ble_eq_true rfl) (Nat.le_of_ble_eq_true rfl)
          · have c_167 := bz_1 c_167
            refine lv_lload hx hb dX4_quotient_170 (lv_at hl 0 rfl) ?_
            refine lv_lneg hx hb dX4_quotient_172 ?_
            refine lv_goto (tgt := 178) hx hb dX4_quotient_173 (by decide) ?_
            exact hret hP hD hS u18 (⟨by rw [if_pos c_167, if_neg c_152], hc18⟩) [0, 1] rfl (by decide) dX4_quotient_178 (Nat.le_of_ble_eq_true rfl) (Nat.le_of_ble_eq_true rfl)
        · have c_152 := bz_1 c_152
          refine lv_lload hx hb dX4_quotient_155 (lv_at hl 0 rfl) ?_
          refine lv_lconst (v := 1) hx hb dX4_quotient_157 (by decide) ?_
          refine lv_ladd hx hb dX4_quotient_158 ?_
          refine lv_goto (tgt := 164) hx hb dX4_quotient_159 (by decide) ?_
          refine lv_lstore (lv' := [(7, .long ((lN (num fw 9)) + 1)), (0, .ref o), (1, .int rule), (2, .int (bz (ng = true))), (3, .int (bz (num fw 10 ≠ 0))), (4, .int (cm (num u18 10) (num u18 1))), (5, .int (bz (num fw 9 % 2 = 1))), (6, .int (bz (mO rule ng (num fw 9) (num fw 10) (num fw 1) = true)))]) hx hb dX4_quotient_164 hl (by decide) rfl (fun ls hl => ?_)
          refine lv_iload_n hx hb dX4_quotient_166 rfl (lv_at hl 3 rfl) ?_
          refine lv_if_eq (tgt := 176) hx hb dX4_quotient_167 (by decide) (fun c_167 => ?_) (fun c_167 => ?_)
          · have c_167 := bz_0 c_167
            refine lv_lload hx hb dX4_quotient_176 (lv_at hl 0 rfl) ?_
            exact hret hP hD hS u18 (⟨by rw [if_neg c_167, if_pos c_152], hc18⟩) [0, 1] rfl (by decide) dX4_quotient_178 (Nat.le_of_ble_eq_true rfl) (Nat.le_of_ble_eq_true rfl)
          · have c_167 := bz_1 c_167
            refine lv_lload hx hb dX4_quotient_170 (lv_at hl 0 rfl) ?_
            refine lv_lneg hx hb dX4_quotient_172 ?_
            refine lv_goto (tgt := 178) hx hb dX4_quotient_173 (by decide) ?_
            exact hret hP hD hS u18 (⟨by rw [if_pos c_167, if_pos c_152], hc18⟩) [0, 1] rfl (by decide) dX4_quotient_178 (Nat.le_of_ble_eq_true rfl) (Nat.le_of_ble_eq_true rfl)
      have J101 : ∀ (mm : Int32), (rule.toInt ≤ 3 → mm = bz (mO rule ng (num fw 9) (num fw 10) (num fw 1) = true)) → ∀ (H : Heap) (locs : List Loc), va_P D vwCl [(o, .inr (4, [.int cd, .ref wa, .ref sa, .ref ma, .ref tl, .ref gx, .ref gy, .ref tx, .ref tz, .int ln, .ref kx, .ref ky, .int cn, .int ah])), (wa, .inl (cJ, 96, .inr (.inl u18)))] H → va_D A [(o, .inr (4, [.int cd, .ref wa, .ref sa, .ref ma, .ref tl, .ref gx, .ref gy, .ref tx, .ref tz, .int ln, .ref kx, .ref ky, .int cn, .int ah])), (wa, .inl (cJ, 96, .inr (.inl u18)))] → va_S A s.heap H locs → ∀ (ls : Array Slot), lv_has ls 9 [(0, .ref o), (1, .int rule), (2, .int (bz (ng = true))), (3, .int (bz (num fw 10 ≠ 0))), (4, .int (cm (num u18 10) (num u18 1))), (5, .int (bz (num fw 9 % 2 = 1)))] → W p l e { frames := 2, cells := 0, slots := 0, locals := 50 } s m args below meth c H locs 0 0 Q (F0 m 101 ls [.int mm]) := by
        intro mm y5 H locs hP hD hS ls hl
        refine lv_istore (lv' := [(6, .int mm), (0, .ref o), (1, .int rule), (2, .int (bz (ng = true))), (3, .int (bz (num fw 10 ≠ 0))), (4, .int (cm (num u18 10) (num u18 1))), (5, .int (bz (num fw 9 % 2 = 1)))]) hx hb dX4_quotient_101 hl (by decide) rfl (fun ls hl => ?_)
        refine lv_iload_n hx hb dX4_quotient_103 rfl (lv_at hl 2 rfl) ?_
        refine lv_iconst (v := 3) hx hb dX4_quotient_104 (by decide) ?_
        refine lv_icmp_le (tgt := 141) hx hb dX4_quotient_105 (by decide) (fun c_105 => ?_) (fun c_105 => ?_)
        · have c_105 : rule.toInt ≤ (3 : Int) := ic_le c_105
          refine J141 mm ?_ _ _ hP hD hS _ (lv_sub hl [1, 2, 3, 4, 5, 6, 0] rfl)
          · exact y5 c_105
        · have c_105 : (3 : Int) < rule.toInt := ic_nle c_105
          refine lv_iload hx hb dX4_quotient_108 (lv_at hl 5 rfl) ?_
          refine lv_if_gt (tgt := 134) hx hb dX4_quotient_110 (by decide) (fun c_110 => ?_) (fun c_110 => ?_)
          · have c_110 := cm_gtt c_110
            refine lv_iconst (v := 1) hx hb dX4_quotient_134 (by decide) ?_
            refine lv_goto (tgt := 139) hx hb dX4_quotient_135 (by decide) ?_
            refine lv_istore (lv' := [(6, .int 1), (0, .ref o), (1, .int rule), (2, .int (bz (ng = true))), (3, .int (bz (num fw 10 ≠ 0))), (4, .int (cm (num u18 10) (num u18 1))), (5, .int (bz (num fw 9 % 2 = 1)))]) hx hb dX4_quotient_139 hl (by decide) rfl (fun ls hl => ?_)
            refine J141 1 ?_ _ _ hP hD hS _ (lv_sub hl [1, 2, 3, 4, 5, 6, 0] rfl)
            · have m10 := hc18.2.1
              have m1 := hc18.other (e := 1) (by decide)
              rw [mO_big c_105 hM]
              exact bz_t (mN_iff.mpr (Or.inl (by omega)))
          · have c_110 := cm_gtf c_110
            refine lv_iload hx hb dX4_quotient_113 (lv_at hl 5 rfl) ?_
            refine lv_if_ne (tgt := 138) hx hb dX4_quotient_115 (by decide) (fun c_115 => ?_) (fun c_115 => ?_)
            · have c_115 := cm_net c_115
              refine lv_iconst (v := 0) hx hb dX4_quotient_138 (by decide) ?_
              refine lv_istore (lv' := [(6, .int 0), (0, .ref o), (1, .int rule), (2, .int (bz (ng = true))), (3, .int (bz (num fw 10 ≠ 0))), (4, .int (cm (num u18 10) (num u18 1))), (5, .int (bz (num fw 9 % 2 = 1)))]) hx hb dX4_quotient_139 hl (by decide) rfl (fun ls hl => ?_)
              refine J141 0 ?_ _ _ hP hD hS _ (lv_sub hl [1, 2, 3, 4, 5, 6, 0] rfl)
              · have m10 := hc18.2.1
                have m1 := hc18.other (e := 1) (by decide)
                rw [mO_big c_105 hM]
                refine bz_f (fun q => ?_)
                rcases mN_iff.mp q with z | ⟨z, z2⟩
                · omega
                · omega
            · have c_115 := cm_nef c_115
              refine lv_iload_n hx hb dX4_quotient_118 rfl (lv_at hl 2 rfl) ?_
              refine lv_iconst (v := 4) hx hb dX4_quotient_119 (by decide) ?_
              refine lv_icmp_eq (tgt := 134) hx hb dX4_quotient_120 (by decide) (fun c_120 => ?_) (fun c_120 => ?_)
              · have c_120 : rule.toInt = (4 : Int) := ic_eq c_120
                refine lv_iconst (v := 1) hx hb dX4_quotient_134 (by decide) ?_
                refine lv_goto (tgt := 139) hx hb dX4_quotient_135 (by decide) ?_
                refine lv_istore (lv' := [(6, .int 1), (0, .ref o), (1, .int rule), (2, .int (bz (ng = true))), (3, .int (bz (num fw 10 ≠ 0))), (4, .int (cm (num u18 10) (num u18 1))), (5, .int (bz (num fw 9 % 2 = 1)))]) hx hb dX4_quotient_139 hl (by decide) rfl (fun ls hl => ?_)
                refine J141 1 ?_ _ _ hP hD hS _ (lv_sub hl [1, 2, 3, 4, 5, 6, 0] rfl)
                · have m10 := hc18.2.1
                  have m1 := hc18.other (e := 1) (by decide)
                  rw [mO_big c_105 hM]
                  exact bz_t (mN_iff.mpr (Or.inr ⟨by omega, Or.inl (i32_of (k := 4) c_120)⟩))
              · have c_120 : rule.toInt ≠ (4 : Int) := ic_ne c_120
                refine lv_iload_n hx hb dX4_quotient_123 rfl (lv_at hl 2 rfl) ?_
                refine lv_bipush (v := 6) hx hb dX4_quotient_124 (by decide) ?_
                refine lv_icmp_ne (tgt := 138) hx hb dX4_quotient_126 (by decide) (fun c_126 => ?_) (fun c_126 => ?_)
                · have c_126 : rule.toInt ≠ (6 : Int) := ic_ne c_126
                  refine lv_iconst (v := 0) hx hb dX4_quotient_138 (by decide) ?_
                  refine lv_istore (lv' := [(6, .int 0), (0, .ref o), (1, .int rule), (2, .int (bz (ng = true))), (3, .int (bz (num fw 10 ≠ 0))), (4, .int (cm (num u18 10) (num u18 1))), (5, .int (bz (num fw 9 % 2 = 1)))]) hx hb dX4_quotient_139 hl (by decide) rfl (fun ls hl => ?_)
                  refine J141 0 ?_ _ _ hP hD hS _ (lv_sub hl [1, 2, 3, 4, 5, 6, 0] rfl)
                  · have m10 := hc18.2.1
                    have m1 := hc18.other (e := 1) (by decide)
                    rw [mO_big c_105 hM]
                    refine bz_f (fun q => ?_)
                    rcases mN_iff.mp q with z | ⟨z, z2 | z2⟩
                    · omega
                    · rw [z2] at c_120; exact c_120 rfl
                    · rw [z2.1] at c_126; exact c_126 rfl
                · have c_126 : rule.toInt = (6 : Int) := ic_eq c_126
                  refine lv_iload hx hb dX4_quotient_129 (lv_at hl 6 rfl) ?_
                  refine lv_if_eq (tgt := 138) hx hb dX4_quotient_131 (by decide) (fun c_131 => ?_) (fun c_131 => ?_)
                  · have c_131 := bz_0 c_131
                    refine lv_iconst (v := 0) hx hb dX4_quotient_138 (by decide) ?_
                    refine lv_istore (lv' := [(6, .int 0), (0, .ref o), (1, .int rule), (2, .int (bz (ng = true))), (3, .int (bz (num fw 10 ≠ 0))), (4, .int (cm (num u18 10) (num u18 1))), (5, .int (bz (num fw 9 % 2 = 1)))]) hx hb dX4_quotient_139 hl (by decide) rfl (fun ls hl => ?_)
                    refine J141 0 ?_ _ _ hP hD hS _ (lv_sub hl [1, 2, 3, 4, 5, 6, 0] rfl)
                    · have m10 := hc18.2.1
                      have m1 := hc18.other (e := 1) (by decide)
                      rw [mO_big c_105 hM]
                      refine bz_f (fun q => ?_)
                      rcases mN_iff.mp q with z | ⟨z, z2 | z2⟩
                      · omega
                      · rw [z2] at c_120; exact c_120 rfl
                      · exact c_131 z2.2
                  · have c_131 := bz_1 c_131
                    refine lv_iconst (v := 1) hx hb dX4_quotient_134 (by decide) ?_
                    refine lv_goto (tgt := 139) hx hb dX4_quotient_135 (by decide) ?_
                    refine lv_istore (lv' := [(6, .int 1), (0, .ref o), (1, .int rule), (2, .int (bz (ng = true))), (3, .int (bz (num fw 10 ≠ 0))), (4, .int (cm (num u18 10) (num u18 1))), (5, .int (bz (num fw 9 % 2 = 1)))]) hx hb dX4_quotient_139 hl (by decide) rfl (fun ls hl => ?_)
                    refine J141 1 ?_ _ _ hP hD hS _ (lv_sub hl [1, 2, 3, 4, 5, 6, 0] rfl)
                    · have m10 := hc18.2.1
                      have m1 := hc18.other (e := 1) (by decide)
                      rw [mO_big c_105 hM]
                      exact bz_t (mN_iff.mpr (Or.inr ⟨by omega, Or.inr ⟨i32_of (k := 6) c_126, c_131⟩⟩))
      refine lv_iload_n hx hb dX4_quotient_46 rfl (lv_at hl 2 rfl) ?_
      refine lv_if_ne (tgt := 66) hx hb dX4_quotient_47 (by decide) (fun c_47 => ?_) (fun c_47 => ?_)
      · have c_47 : rule.toInt ≠ (0 : Int) := ic_ne c_47
        refine lv_iload_n hx hb dX4_quotient_66 rfl (lv_at hl 2 rfl) ?_
        refine lv_iconst (v := 1) hx hb dX4_quotient_67 (by decide) ?_
        refine lv_icmp_ne (tgt := 87) hx hb dX4_quotient_68 (by decide) (fun c_68 => ?_) (fun c_68 => ?_)
        · have c_68 : rule.toInt ≠ (1 : Int) := ic_ne c_68
          refine lv_iload_n hx hb dX4_quotient_87 rfl (lv_at hl 2 rfl) ?_
          refine lv_iconst (v := 3) hx hb dX4_quotient_88 (by decide) ?_
          refine lv_icmp_ne (tgt := 100) hx hb dX4_quotient_89 (by decide) (fun c_89 => ?_) (fun c_89 => ?_)
          · have c_89 : rule.toInt ≠ (3 : Int) := ic_ne c_89
            refine lv_iconst (v := 0) hx hb dX4_quotient_100 (by decide) ?_
            refine J101 0 ?_ _ _ hP hD hS _ (lv_sub hl [1, 2, 3, 4, 5, 0] rfl)
            · intro h3
              have er := i32_of (x := rule) (k := 2) (by show rule.toInt = 2; omega)
              subst er
              exact bz_f mO_r2
          · have c_89 : rule.toInt = (3 : Int) := ic_eq c_89
            refine lv_iload_n hx hb dX4_quotient_92 rfl (lv_at hl 4 rfl) ?_
            refine lv_if_eq (tgt := 100) hx hb dX4_quotient_93 (by decide) (fun c_93 => ?_) (fun c_93 => ?_)
            · have c_93 := bz_0 c_93
              refine lv_iconst (v := 0) hx hb dX4_quotient_100 (by decide) ?_
              refine J101 0 ?_ _ _ hP hD hS _ (lv_sub hl [1, 2, 3, 4, 5, 0] rfl)
              · intro h3
                have er := i32_of (k := 3) c_89
                subst er
                exact bz_f (fun q => c_93 (mO_r3.mp q))
            · have c_93 := bz_1 c_93
              refine lv_iconst (v := 1) hx hb dX4_quotient_96 (by decide) ?_
              refine lv_goto (tgt := 101) hx hb dX4_quotient_97 (by decide) ?_
              refine J101 1 ?_ _ _ hP hD hS _ (lv_sub hl [1, 2, 3, 4, 5, 0] rfl)
              · intro h3
                have er := i32_of (k := 3) c_89
                subst er
                exact bz_t (mO_r3.mpr c_93)
        · have c_68 : rule.toInt = (1 : Int) := ic_eq c_68
          refine lv_iload_n hx hb dX4_quotient_71 rfl (lv_at hl 3 rfl) ?_
          refine lv_if_ne (tgt := 83) hx hb dX4_quotient_72 (by decide) (fun c_72 => ?_) (fun c_72 => ?_)
          · have c_72 := bz_1 c_72
            refine lv_iconst (v := 0) hx hb dX4_quotient_83 (by decide) ?_
            refine lv_goto (tgt := 101) hx hb dX4_quotient_84 (by decide) ?_
            refine J101 0 ?_ _ _ hP hD hS _ (lv_sub hl [1, 2, 3, 4, 5, 0] rfl)
            · intro h3
              have er := i32_of (k := 1) c_68
              subst er
              exact bz_f (fun q => (mO_r1.mp q).1 c_72)
          · have c_72 := bz_0 c_72
            refine lv_iload_n hx hb dX4_quotient_75 rfl (lv_at hl 4 rfl) ?_
            refine lv_if_eq (tgt := 83) hx hb dX4_quotient_76 (by decide) (fun c_76 => ?_) (fun c_76 => ?_)
            · have c_76 := bz_0 c_76
              refine lv_iconst (v := 0) hx hb dX4_quotient_83 (by decide) ?_
              refine lv_goto (tgt := 101) hx hb dX4_quotient_84 (by decide) ?_
              refine J101 0 ?_ _ _ hP hD hS _ (lv_sub hl [1, 2, 3, 4, 5, 0] rfl)
              · intro h3
                have er := i32_of (k := 1) c_68
                subst er
                exact bz_f (fun q => c_76 (mO_r1.mp q).2)
            · have c_76 := bz_1 c_76
              refine lv_iconst (v := 1) hx hb dX4_quotient_79 (by decide) ?_
              refine lv_goto (tgt := 101) hx hb dX4_quotient_80 (by decide) ?_
              refine J101 1 ?_ _ _ hP hD hS _ (lv_sub hl [1, 2, 3, 4, 5, 0] rfl)
              · intro h3
                have er := i32_of (k := 1) c_68
                subst er
                exact bz_t (mO_r1.mpr ⟨c_72, c_76⟩)
      · have c_47 : rule.toInt = (0 : Int) := ic_eq c_47
        refine lv_iload_n hx hb dX4_quotient_50 rfl (lv_at hl 3 rfl) ?_
        refine lv_if_eq (tgt := 62) hx hb dX4_quotient_51 (by decide) (fun c_51 => ?_) (fun c_51 => ?_)
        · have c_51 := bz_0 c_51
          refine lv_iconst (v := 0) hx hb dX4_quotient_62 (by decide) ?_
          refine lv_goto (tgt := 101) hx hb dX4_quotient_63 (by decide) ?_
          refine J101 0 ?_ _ _ hP hD hS _ (lv_sub hl [1, 2, 3, 4, 5, 0] rfl)
          · intro h3
            have er := i32_of (k := 0) c_47
            subst er
            exact bz_f (fun q => c_51 (mO_r0.mp q).1)
        · have c_51 := bz_1 c_51
          refine lv_iload_n hx hb dX4_quotient_54 rfl (lv_at hl 4 rfl) ?_
          refine lv_if_eq (tgt := 62) hx hb dX4_quotient_55 (by decide) (fun c_55 => ?_) (fun c_55 => ?_)
          · have c_55 := bz_0 c_55
            refine lv_iconst (v := 0) hx hb dX4_quotient_62 (by decide) ?_
            refine lv_goto (tgt := 101) hx hb dX4_quotient_63 (by decide) ?_
            refine J101 0 ?_ _ _ hP hD hS _ (lv_sub hl [1, 2, 3, 4, 5, 0] rfl)
            · intro h3
              have er := i32_of (k := 0) c_47
              subst er
              exact bz_f (fun q => c_55 (mO_r0.mp q).2)
          · have c_55 := bz_1 c_55
            refine lv_iconst (v := 1) hx hb dX4_quotient_58 (by decide) ?_
            refine lv_goto (tgt := 101) hx hb dX4_quotient_59 (by decide) ?_
            refine J101 1 ?_ _ _ hP hD hS _ (lv_sub hl [1, 2, 3, 4, 5, 0] rfl)
            · intro h3
              have er := i32_of (k := 0) c_47
              subst er
              exact bz_t (mO_r0.mpr ⟨c_51, c_55⟩)
    refine lv_if_ne (tgt := 43) hx hb dX4_quotient_36 (by decide) (fun c_36 => ?_) (fun c_36 => ?_)
    · have c_36 := bz_1 c_36
      refine lv_iconst (v := 0) hx hb dX4_quotient_43 (by decide) ?_
      refine J44 0 ?_ _ _ hP hD hS _ (lv_sub hl [2, 3, 4, 1, 0] rfl)
      · rw [hc18.other (by decide)] at c_36; exact bz_f (by omega)
    · have c_36 := bz_0 c_36
      refine lv_iconst (v := 1) hx hb dX4_quotient_39 (by decide) ?_
      refine lv_goto (tgt := 44) hx hb dX4_quotient_40 (by decide) ?_
      refine J44 1 ?_ _ _ hP hD hS _ (lv_sub hl [2, 3, 4, 1, 0] rfl)
      · rw [hc18.other (by decide)] at c_36; exact bz_t (by omega)
  refine lv_if_ne (tgt := 13) hx hb dX4_quotient_6 (by decide) (fun c_6 => ?_) (fun c_6 => ?_)
  · have c_6 := bz_1 c_6
    refine lv_iconst (v := 0) hx hb dX4_quotient_13 (by decide) ?_
    refine J14 0 ?_ _ _ hP hD hS _ (lv_sub hl [0, 1, 2] rfl)
    · exact bz_f (fun q => q c_6)
  · have c_6 := bz_0 c_6
    refine lv_iconst (v := 1) hx hb dX4_quotient_9 (by decide) ?_
    refine lv_goto (tgt := 14) hx hb dX4_quotient_10 (by decide) ?_
    refine J14 1 ?_ _ _ hP hD hS _ (lv_sub hl [0, 1, 2] rfl)
    · exact bz_t c_6

set_option maxHeartbeats 4000000 in
set_option maxRecDepth 100000 in
theorem c_X4_ratioOf (l : Launch) (D : va_G) (cZ cI cJ : ClassId) (o wa sa ma tl gx gy tx tz kx ky : Nat) (cd ln cn ah : Int32) (fw : Nat → Int64) (fs : Nat → Int32) (fm : Nat → Int64) (a b c9 : Int64) (rule : Int32) (hlim : lim fw) (hc0 : c9.toInt ≠ 0) (hrok : rok rule) : Cl l D cZ cI cJ yX4_ratioOf cX4_ratioOf 9 (some .long) { frames := 3, cells := 0, slots := 0, locals := 78 } [.ref o, .long a, .long b, .long c9, .int rule] [(o, .inr (4, [.int cd, .ref wa, .ref sa, .ref ma, .ref tl, .ref gx, .ref gy, .ref tx, .ref tz, .int ln, .ref kx, .ref ky, .int cn, .int ah])), (wa, .inl (cJ, 96, .inr (.inl fw))), (sa, .inl (cI, 16, .inl fs)), (ma, .inl (cJ, 12, .inr (.inl fm)))] (S := (Nat → Int64) × (Nat → Int32) × (Nat → Int64)) (fun z u => z = rdv rule (a.toInt * b.toInt) c9.toInt ∧ kept fw fs u.1 u.2.1) (fun u => [(o, .inr (4, [.int cd, .ref wa, .ref sa, .ref ma, .ref tl, .ref gx, .ref gy, .ref tx, .ref tz, .int ln, .ref kx, .ref ky, .int cn, .int ah])), (wa, .inl (cJ, 96, .inr (.inl u.1))), (sa, .inl (cI, 16, .inl u.2.1)), (ma, .inl (cJ, 12, .inr (.inl u.2.2)))]) := by
  refine Cl.of (by decide) ?_
  intro p e s m args below meth c A Q hB hret hP hD hA
  obtain ⟨hx, hb, hr, hlocks, hml, hown, hnm, hTB, hK⟩ := hB
  have hown : s.vm.findClass RX4 = some m.cls := hown
  have hS : va_S A s.heap s.heap [] := va_S.rf
  have hp := p63 (x := a) (y := b)
  have hcr := sI_rng c9
  have hl := lv_entry ([.ref o, .long a, .long b, .long c9, .int rule]) (n := 9) (Nat.le_of_ble_eq_true rfl)
  rw [lg_entry_eq]
  generalize (lg_sl ([.ref o, .long a, .long b, .long c9, .int rule]) ++ List.replicate (9 - (lg_sl ([.ref o, .long a, .long b, .long c9, .int rule])).length) Slot.unset).toArray = ls at hl ⊢
  have hl : lv_has ls 9 [(0, .ref o), (1, .long a), (3, .long b), (5, .long c9), (7, .int rule)] := hl
  refine lv_aload_n hx hb dX4_ratioOf_0 rfl (lv_at hl 0 rfl) ?_
  refine lv_iconst (v := 0) hx hb dX4_ratioOf_1 (by decide) ?_
  refine lv_lload_n hx hb dX4_ratioOf_2 rfl (lv_at hl 1 rfl) ?_
  refine fin_v (wr := [(ma, .inl (cJ, 12, .inr (.inl fm)))]) (va_runV (As := [.int 0, .long a]) (rest := []) ⟨hx, hb, hml, hown, hTB⟩ (c_X4_put l D cZ cI cJ o wa sa ma tl gx gy tx tz kx ky cd ln cn ah fw fs 0 a hlim (by decide) _) (cw_V hTB tb_6_21 tb_1_5 tb_6_18 tb_6_19 tb_6_20 nd_X4_put rfl rfl ⟨Nat.le_of_ble_eq_true rfl, Nat.le_of_ble_eq_true rfl⟩) (pre_V (q0 := 0) hK hP hD [0, 1, 2] rfl rfl rfl rfl) rfl rfl hl.1 rfl (lv_room (Nat.le_of_ble_eq_true rfl)) dX4_ratioOf_3 ⟨Nat.le_of_ble_eq_true rfl, Nat.le_of_ble_eq_true rfl⟩) hP hD hS hA [0, 1, 2] [3] rfl rfl rfl (by decide) (fun u3 H locs hc3 hP hD hS => ?_)
  obtain ⟨g3, s3⟩ := u3
  dsimp only at hc3
  obtain ⟨up3, rfl⟩ := hc3
  have hP : va_P D vwCl [(ma, .inl (cJ, 12, .inr (.inl fm))), (o, .inr (4, [.int cd, .ref wa, .ref sa, .ref ma, .ref tl, .ref gx, .ref gy, .ref tx, .ref tz, .int ln, .ref kx, .ref ky, .int cn, .int ah])), (wa, .inl (cJ, 96, .inr (.inl g3))), (sa, .inl (cI, 16, .inl (upd fs 0 (sg (a.toInt)))))] H := hP
  have hD : va_D A [(ma, .inl (cJ, 12, .inr (.inl fm))), (o, .inr (4, [.int cd, .ref wa, .ref sa, .ref ma, .ref tl, .ref gx, .ref gy, .ref tx, .ref tz, .int ln, .ref kx, .ref ky, .int cn, .int ah])), (wa, .inl (cJ, 96, .inr (.inl g3))), (sa, .inl (cI, 16, .inl (upd fs 0 (sg (a.toInt)))))] := hD
  refine lv_aload_n hx hb dX4_ratioOf_6 rfl (lv_at hl 0 rfl) ?_
  refine lv_iconst (v := 1) hx hb dX4_ratioOf_7 (by decide) ?_
  refine lv_lload_n hx hb dX4_ratioOf_8 rfl (lv_at hl 2 rfl) ?_
  refine fin_v (wr := [(ma, .inl (cJ, 12, .inr (.inl fm)))]) (va_runV (As := [.int 1, .long b]) (rest := []) ⟨hx, hb, hml, hown, hTB⟩ (c_X4_put l D cZ cI cJ o wa sa ma tl gx gy tx tz kx ky cd ln cn ah g3 (upd fs 0 (sg (a.toInt))) 1 b up3.1 (by decide) _) (cw_V hTB tb_6_21 tb_1_5 tb_6_18 tb_6_19 tb_6_20 nd_X4_put rfl rfl ⟨Nat.le_of_ble_eq_true rfl, Nat.le_of_ble_eq_true rfl⟩) (pre_V (q0 := 1) hK hP hD [1, 2, 3] rfl rfl rfl rfl) rfl rfl hl.1 rfl (lv_room (Nat.le_of_ble_eq_true rfl)) dX4_ratioOf_9 ⟨Nat.le_of_ble_eq_true rfl, Nat.le_of_ble_eq_true rfl⟩) hP hD hS hA [1, 2, 3] [0] rfl rfl rfl (by decide) (fun u9 H locs hc9 hP hD hS => ?_)
  obtain ⟨g9, s9⟩ := u9
  dsimp only at hc9
  obtain ⟨up9, rfl⟩ := hc9
  have hP : va_P D vwCl [(ma, .inl (cJ, 12, .inr (.inl fm))), (o, .inr (4, [.int cd, .ref wa, .ref sa, .ref ma, .ref tl, .ref gx, .ref gy, .ref tx, .ref tz, .int ln, .ref kx, .ref ky, .int cn, .int ah])), (wa, .inl (cJ, 96, .inr (.inl g9))), (sa, .inl (cI, 16, .inl (upd (upd fs 0 (sg (a.toInt))) 1 (sg (b.toInt)))))] H := hP
  have hD : va_D A [(ma, .inl (cJ, 12, .inr (.inl fm))), (o, .inr (4, [.int cd, .ref wa, .ref sa, .ref ma, .ref tl, .ref gx, .ref gy, .ref tx, .ref tz, .int ln, .ref kx, .ref ky, .int cn, .int ah])), (wa, .inl (cJ, 96, .inr (.inl g9))), (sa, .inl (cI, 16, .inl (upd (upd fs 0 (sg (a.toInt))) 1 (sg (b.toInt)))))] := hD
  refine lv_aload_n hx hb dX4_ratioOf_12 rfl (lv_at hl 0 rfl) ?_
  refine lv_iconst (v := 2) hx hb dX4_ratioOf_13 (by decide) ?_
  refine lv_iconst (v := 0) hx hb dX4_ratioOf_14 (by decide) ?_
  refine lv_iconst (v := 1) hx hb dX4_ratioOf_15 (by decide) ?_
  refine fin_v (wr := []) (va_runV (As := [.int 2, .int 0, .int 1]) (rest := []) ⟨hx, hb, hml, hown, hTB⟩ (c_X4_times l D cZ cI cJ o wa sa ma tl gx gy tx tz kx ky cd ln cn ah g9 (upd (upd fs 0 (sg (a.toInt))) 1 (sg (b.toInt))) fm 2 0 1 a.toInt b.toInt up9.1 (by decide) (by decide) (by decide) ((hz.new up3).keep up9 (by decide)) (hz.new up9) (by omega) _) (cw_V hTB tb_7_2 tb_1_5 tb_6_23 tb_7_0 tb_7_1 nd_X4_times rfl rfl ⟨Nat.le_of_ble_eq_true rfl, Nat.le_of_ble_eq_true rfl⟩) (pre_V (q0 := 1) hK hP hD [1, 2, 3, 0] rfl rfl rfl rfl) rfl rfl hl.1 rfl (lv_room (Nat.le_of_ble_eq_true rfl)) dX4_ratioOf_16 ⟨Nat.le_of_ble_eq_true rfl, Nat.le_of_ble_eq_true rfl⟩) hP hD hS hA [1, 2, 3, 0] [] rfl rfl rfl (by decide) (fun u16 H locs hc16 hP hD hS => ?_)
  obtain ⟨g16, s16, m16⟩ := u16
  dsimp only at hc16
  obtain ⟨up16, rfl⟩ := hc16
  have hP : va_P D vwCl [(o, .inr (4, [.int cd, .ref wa, .ref sa, .ref ma, .ref tl, .ref gx, .ref gy, .ref tx, .ref tz, .int ln, .ref kx, .ref ky, .int cn, .int ah])), (wa, .inl (cJ, 96, .inr (.inl g16))), (sa, .inl (cI, 16, .inl (upd (upd (upd fs 0 (sg (a.toInt))) 1 (sg (b.toInt))) 2 (sg (a.toInt * b.toInt))))), (ma, .inl (cJ, 12, .inr (.inl m16)))] H := hP
  have hD : va_D A [(o, .inr (4, [.int cd, .ref wa, .ref sa, .ref ma, .ref tl, .ref gx, .ref gy, .ref tx, .ref tz, .int ln, .ref kx, .ref ky, .int cn, .int ah])), (wa, .inl (cJ, 96, .inr (.inl g16))), (sa, .inl (cI, 16, .inl (upd (upd (upd fs 0 (sg (a.toInt))) 1 (sg (b.toInt))) 2 (sg (a.toInt * b.toInt))))), (ma, .inl (cJ, 12, .inr (.inl m16)))] := hD
  refine lv_aload_n hx hb dX4_ratioOf_19 rfl (lv_at hl 0 rfl) ?_
  refine lv_iconst (v := 1) hx hb dX4_ratioOf_20 (by decide) ?_
  refine lv_lload hx hb dX4_ratioOf_21 (lv_at hl 3 rfl) ?_
  refine fin_v (wr := [(ma, .inl (cJ, 12, .inr (.inl m16)))]) (va_runV (As := [.int 1, .long c9]) (rest := []) ⟨hx, hb, hml, hown, hTB⟩ (c_X4_put l D cZ cI cJ o wa sa ma tl gx gy tx tz kx ky cd ln cn ah g16 (upd (upd (upd fs 0 (sg (a.toInt))) 1 (sg (b.toInt))) 2 (sg (a.toInt * b.toInt))) 1 c9 up16.1 (by decide) _) (cw_V hTB tb_6_21 tb_1_5 tb_6_18 tb_6_19 tb_6_20 nd_X4_put rfl rfl ⟨Nat.le_of_ble_eq_true rfl, Nat.le_of_ble_eq_true rfl⟩) (pre_V (q0 := 0) hK hP hD [0, 1, 2] rfl rfl rfl rfl) rfl rfl hl.1 rfl (lv_room (Nat.le_of_ble_eq_true rfl)) dX4_ratioOf_23 ⟨Nat.le_of_ble_eq_true rfl, Nat.le_of_ble_eq_true rfl⟩) hP hD hS hA [0, 1, 2] [3] rfl rfl rfl (by decide) (fun u23 H locs hc23 hP hD hS => ?_)
  obtain ⟨g23, s23⟩ := u23
  dsimp only at hc23
  obtain ⟨up23, rfl⟩ := hc23
  have hP : va_P D vwCl [(ma, .inl (cJ, 12, .inr (.inl m16))), (o, .inr (4, [.int cd, .ref wa, .ref sa, .ref ma, .ref tl, .ref gx, .ref gy, .ref tx, .ref tz, .int ln, .ref kx, .ref ky, .int cn, .int ah])), (wa, .inl (cJ, 96, .inr (.inl g23))), (sa, .inl (cI, 16, .inl (upd (upd (upd (upd fs 0 (sg (a.toInt))) 1 (sg (b.toInt))) 2 (sg (a.toInt * b.toInt))) 1 (sg (c9.toInt)))))] H := hP
  have hD : va_D A [(ma, .inl (cJ, 12, .inr (.inl m16))), (o, .inr (4, [.int cd, .ref wa, .ref sa, .ref ma, .ref tl, .ref gx, .ref gy, .ref tx, .ref tz, .int ln, .ref kx, .ref ky, .int cn, .int ah])), (wa, .inl (cJ, 96, .inr (.inl g23))), (sa, .inl (cI, 16, .inl (upd (upd (upd (upd fs 0 (sg (a.toInt))) 1 (sg (b.toInt))) 2 (sg (a.toInt * b.toInt))) 1 (sg (c9.toInt)))))] := hD
  refine lv_aload_n hx hb dX4_ratioOf_26 rfl (lv_at hl 0 rfl) ?_
  refine va_get (D := D) (ci := 4) (v := .ref sa) (C := RX4) (T := TX4) (N := 14) hx hb hTB tb_X4 hown hK.1 hP 1 rfl rfl 2 (by decide) (hTB _ tb_3_15) (fun _ h9 => h9) rfl dX4_ratioOf_27 ?_
  refine lv_iconst (v := 2) hx hb dX4_ratioOf_30 (by decide) ?_
  refine va_iald (f := (upd (upd (upd (upd fs 0 (sg (a.toInt))) 1 (sg (b.toInt))) 2 (sg (a.toInt * b.toInt))) 1 (sg (c9.toInt)))) hx hb hK.1 hP 3 1 rfl rfl (vp_in_nI (n := 2) (by decide) (by decide)) dX4_ratioOf_31 ?_
  rw [show (2 : Int32).toNatClampNeg = 2 from rfl]
  refine lv_aload_n hx hb dX4_ratioOf_32 rfl (lv_at hl 0 rfl) ?_
  refine va_get (D := D) (ci := 4) (v := .ref sa) (C := RX4) (T := TX4) (N := 14) hx hb hTB tb_X4 hown hK.1 hP 1 rfl rfl 2 (by decide) (hTB _ tb_3_15) (fun _ h9 => h9) rfl dX4_ratioOf_33 ?_
  refine lv_iconst (v := 1) hx hb dX4_ratioOf_36 (by decide) ?_
  refine va_iald (f := (upd (upd (upd (upd fs 0 (sg (a.toInt))) 1 (sg (b.toInt))) 2 (sg (a.toInt * b.toInt))) 1 (sg (c9.toInt)))) hx hb hK.1 hP 3 1 rfl rfl (vp_in_nI (n := 1) (by decide) (by decide)) dX4_ratioOf_37 ?_
  rw [show (1 : Int32).toNatClampNeg = 1 from rfl]
  refine lv_imul hx hb dX4_ratioOf_38 ?_
  have J47 : ∀ (bl : Int32), (bl = bz (ngv (a.toInt * b.toInt) c9.toInt = true)) → ∀ (H : Heap) (locs : List Loc), va_P D vwCl [(ma, .inl (cJ, 12, .inr (.inl m16))), (o, .inr (4, [.int cd, .ref wa, .ref sa, .ref ma, .ref tl, .ref gx, .ref gy, .ref tx, .ref tz, .int ln, .ref kx, .ref ky, .int cn, .int ah])), (wa, .inl (cJ, 96, .inr (.inl g23))), (sa, .inl (cI, 16, .inl (upd (upd (upd (upd fs 0 (sg (a.toInt))) 1 (sg (b.toInt))) 2 (sg (a.toInt * b.toInt))) 1 (sg (c9.toInt)))))] H → va_D A [(ma, .inl (cJ, 12, .inr (.inl m16))), (o, .inr (4, [.int cd, .ref wa, .ref sa, .ref ma, .ref tl, .ref gx, .ref gy, .ref tx, .ref tz, .int ln, .ref kx, .ref ky, .int cn, .int ah])), (wa, .inl (cJ, 96, .inr (.inl g23))), (sa, .inl (cI, 16, .inl (upd (upd (upd (upd fs 0 (sg (a.toInt))) 1 (sg (b.toInt))) 2 (sg (a.toInt * b.toInt))) 1 (sg (c9.toInt)))))] → va_S A s.heap H locs → ∀ (ls : Array Slot), lv_has ls 9 [(0, .ref o), (1, .long a), (3, .long b), (5, .long c9), (7, .int rule)] → W p l e { frames := 3, cells := 0, slots := 0, locals := 78 } s m args below meth c H locs 0 0 Q (F0 m 47 ls [.int bl]) := by
    intro bl y1 H locs hP hD hS ls hl
    subst y1
    refine lv_istore (lv' := [(8, .int (bz (ngv (a.toInt * b.toInt) c9.toInt = true))), (0, .ref o), (1, .long a), (3, .long b), (5, .long c9), (7, .int rule)]) hx hb dX4_ratioOf_47 hl (by decide) rfl (fun ls hl => ?_)
    refine lv_aload_n hx hb dX4_ratioOf_49 rfl (lv_at hl 1 rfl) ?_
    refine lv_iconst (v := 2) hx hb dX4_ratioOf_50 (by decide) ?_
    refine lv_iconst (v := 1) hx hb dX4_ratioOf_51 (by decide) ?_
    refine fin_v (wr := [(ma, .inl (cJ, 12, .inr (.inl m16)))]) (va_runV (As := [.int 2, .int 1]) (rest := []) ⟨hx, hb, hml, hown, hTB⟩ (c_X4_divide l D cZ cI cJ o wa sa ma tl gx gy tx tz kx ky cd ln cn ah g23 (upd (upd (upd (upd fs 0 (sg (a.toInt))) 1 (sg (b.toInt))) 2 (sg (a.toInt * b.toInt))) 1 (sg (c9.toInt))) 2 1 up23.1 (by decide) (by decide) (by decide) (by decide) (by decide) (by decide) (by rw [up23.2.1]; omega) (by rw [up23.2.1]; omega) _) (cw_V hTB tb_14_17 tb_1_5 tb_14_14 tb_14_15 tb_14_16 nd_X4_divide rfl rfl ⟨Nat.le_of_ble_eq_true rfl, Nat.le_of_ble_eq_true rfl⟩) (pre_V (q0 := 1) hK hP hD [1, 2, 3] rfl rfl rfl rfl) rfl rfl hl.1 rfl (lv_room (Nat.le_of_ble_eq_true rfl)) dX4_ratioOf_52 ⟨Nat.le_of_ble_eq_true rfl, Nat.le_of_ble_eq_true rfl⟩) hP hD hS hA [1, 2, 3] [0] rfl rfl rfl (by decide) (fun u52 H locs hc52 hP hD hS => ?_)
    obtain ⟨g52, s52⟩ := u52
    dsimp only at hc52
    obtain ⟨lm52, nq52, nr52, fr52, rfl⟩ := hc52
    have hP : va_P D vwCl [(ma, .inl (cJ, 12, .inr (.inl m16))), (o, .inr (4, [.int cd, .ref wa, .ref sa, .ref ma, .ref tl, .ref gx, .ref gy, .ref tx, .ref tz, .int ln, .ref kx, .ref ky, .int cn, .int ah])), (wa, .inl (cJ, 96, .inr (.inl g52))), (sa, .inl (cI, 16, .inl (upd (upd (upd (upd (upd (upd fs 0 (sg (a.toInt))) 1 (sg (b.toInt))) 2 (sg (a.toInt * b.toInt))) 1 (sg (c9.toInt))) 9 0) 10 0)))] H := hP
    have hD : va_D A [(ma, .inl (cJ, 12, .inr (.inl m16))), (o, .inr (4, [.int cd, .ref wa, .ref sa, .ref ma, .ref tl, .ref gx, .ref gy, .ref tx, .ref tz, .int ln, .ref kx, .ref ky, .int cn, .int ah])), (wa, .inl (cJ, 96, .inr (.inl g52))), (sa, .inl (cI, 16, .inl (upd (upd (upd (upd (upd (upd fs 0 (sg (a.toInt))) 1 (sg (b.toInt))) 2 (sg (a.toInt * b.toInt))) 1 (sg (c9.toInt))) 9 0) 10 0)))] := hD
    have n9 : num g52 9 = (a.toInt * b.toInt).natAbs / c9.toInt.natAbs := by rw [nq52, up23.2.1, up23.other (by decide), up16.2.1]
    have n10 : num g52 10 = (a.toInt * b.toInt).natAbs % c9.toInt.natAbs := by rw [nr52, up23.2.1, up23.other (by decide), up16.2.1]
    have n1 : num g52 1 = c9.toInt.natAbs := by rw [fr52 1 (by decide) (by decide) (by decide), up23.2.1]
    refine lv_aload_n hx hb dX4_ratioOf_55 rfl (lv_at hl 1 rfl) ?_
    refine lv_iload hx hb dX4_ratioOf_56 (lv_at hl 5 rfl) ?_
    refine lv_iload hx hb dX4_ratioOf_58 (lv_at hl 0 rfl) ?_
    refine fin_l (wr := [(ma, .inl (cJ, 12, .inr (.inl m16))), (sa, .inl (cI, 16, .inl (upd (upd (upd (upd (upd (upd fs 0 (sg (a.toInt))) 1 (sg (b.toInt))) 2 (sg (a.toInt * b.toInt))) 1 (sg (c9.toInt))) 9 0) 10 0)))]) (va_runV (As := [.int rule, .int (bz (ngv (a.toInt * b.toInt) c9.toInt = true))]) (rest := []) ⟨hx, hb, hml, hown, hTB⟩ (c_X4_quotient l D cZ cI cJ o wa sa ma tl gx gy tx tz kx ky cd ln cn ah g52 rule (ngv (a.toInt * b.toInt) c9.toInt) lm52 (by rw [n10]; have := Nat.mod_le (a.toInt * b.toInt).natAbs c9.toInt.natAbs; omega) (by rw [n1]; omega) hrok _) (cw_V hTB tb_20_16 tb_1_5 tb_20_13 tb_20_14 tb_20_15 nd_X4_quotient rfl rfl ⟨Nat.le_of_ble_eq_true rfl, Nat.le_of_ble_eq_true rfl⟩) (pre_V (q0 := 1) hK hP hD [1, 2] rfl rfl rfl rfl) rfl rfl hl.1 rfl (lv_room (Nat.le_of_ble_eq_true rfl)) dX4_ratioOf_60 ⟨Nat.le_of_ble_eq_true rfl, Nat.le_of_ble_eq_true rfl⟩) hP hD hS hA [1, 2] [0, 3] rfl rfl rfl (by decide) (fun r60 u60 H locs hc60 hP hD hS => ?_)
    have hP : va_P D vwCl [(ma, .inl (cJ, 12, .inr (.inl m16))), (sa, .inl (cI, 16, .inl (upd (upd (upd (upd (upd (upd fs 0 (sg (a.toInt))) 1 (sg (b.toInt))) 2 (sg (a.toInt * b.toInt))) 1 (sg (c9.toInt))) 9 0) 10 0))), (o, .inr (4, [.int cd, .ref wa, .ref sa, .ref ma, .ref tl, .ref gx, .ref gy, .ref tx, .ref tz, .int ln, .ref kx, .ref ky, .int cn, .int ah])), (wa, .inl (cJ, 96, .inr (.inl u60)))] H := hP
    have hD : va_D A [(ma, .inl (cJ, 12, .inr (.inl m16))), (sa, .inl (cI, 16, .inl (upd (upd (upd (upd (upd (upd fs 0 (sg (a.toInt))) 1 (sg (b.toInt))) 2 (sg (a.toInt * b.toInt))) 1 (sg (c9.toInt))) 9 0) 10 0))), (o, .inr (4, [.int cd, .ref wa, .ref sa, .ref ma, .ref tl, .ref gx, .ref gy, .ref tx, .ref tz, .int ln, .ref kx, .ref ky, .int cn, .int ah])), (wa, .inl (cJ, 96, .inr (.inl u60)))] := hD
    exact hret hP hD hS (u60, upd (upd (upd (upd (upd (upd fs 0 (sg (a.toInt))) 1 (sg (b.toInt))) 2 (sg (a.toInt * b.toInt))) 1 (sg (c9.toInt))) 9 0) 10 0, m16) (⟨by rw [hc60.1, n9, n10, n1]; rfl, ((((((kept.rf hlim).up up3 (by decide)).up up9 (by decide)).up up16 (by decide)).up up23 (by decide)).fr lm52 fr52).upw hc60.2 (by decide)⟩) [2, 3, 1, 0] rfl (by decide) dX4_ratioOf_63 (Nat.le_of_ble_eq_true rfl) (Nat.le_of_ble_eq_true rfl)
  refine lv_if_ge (tgt := 46) hx hb dX4_ratioOf_39 (by decide) (fun c_39 => ?_) (fun c_39 => ?_)
  · rw [show (upd (upd (upd (upd fs 0 (sg (a.toInt))) 1 (sg (b.toInt))) 2 (sg (a.toInt * b.toInt))) 1 (sg (c9.toInt))) 2 = sg (a.toInt * b.toInt) from by rw [pk_un (by decide), pk_us], show (upd (upd (upd (upd fs 0 (sg (a.toInt))) 1 (sg (b.toInt))) 2 (sg (a.toInt * b.toInt))) 1 (sg (c9.toInt))) 1 = sg c9.toInt from pk_us] at c_39
    refine lv_iconst (v := 0) hx hb dX4_ratioOf_46 (by decide) ?_
    refine J47 0 ?_ _ _ hP hD hS _ (lv_sub hl [0, 1, 2, 3, 4] rfl)
    · exact bz_f (ng_f c_39)
  · rw [show (upd (upd (upd (upd fs 0 (sg (a.toInt))) 1 (sg (b.toInt))) 2 (sg (a.toInt * b.toInt))) 1 (sg (c9.toInt))) 2 = sg (a.toInt * b.toInt) from by rw [pk_un (by decide), pk_us], show (upd (upd (upd (upd fs 0 (sg (a.toInt))) 1 (sg (b.toInt))) 2 (sg (a.toInt * b.toInt))) 1 (sg (c9.toInt))) 1 = sg c9.toInt from pk_us] at c_39
    refine lv_iconst (v := 1) hx hb dX4_ratioOf_42 (by decide) ?_
    refine lv_goto (tgt := 47) hx hb dX4_ratioOf_43 (by decide) ?_
    refine J47 1 ?_ _ _ hP hD hS _ (lv_sub hl [0, 1, 2, 3, 4] rfl)
    · exact bz_t (ng_t c_39)

set_option maxHeartbeats 4000000 in
set_option maxRecDepth 100000 in
theorem c_X4_over (l : Launch) (D : va_G) (cZ cI cJ : ClassId) (o wa sa ma tl gx gy tx tz kx ky : Nat) (cd ln cn ah : Int32) (fw : Nat → Int64) (fs : Nat → Int32) (fm : Nat → Int64) (a b : Int64) (rule : Int32) (hlim : lim fw) : Cl l D cZ cI cJ yX4_over cX4_over 7 (some .long) { frames := 4, cells := 0, slots := 0, locals := 106 } [.ref o, .long a, .long b, .int rule] [(o, .inr (4, [.int cd, .ref wa, .ref sa, .ref ma, .ref tl, .ref gx, .ref gy, .ref tx, .ref tz, .int ln, .ref kx, .ref ky, .int cn, .int ah])), (wa, .inl (cJ, 96, .inr (.inl fw))), (sa, .inl (cI, 16, .inl fs)), (ma, .inl (cJ, 12, .inr (.inl fm)))] (S := Int32 × (Nat → Int64) × (Nat → Int32) × (Nat → Int64)) (fun z u => (¬ rok rule → u.1 = 0 ∧ z = -4611686018427387904) ∧ (rok rule → (b.toInt = 0 → u.1 = 1) ∧ (b.toInt ≠ 0 → u.1 = 0 ∧ z = rdv rule (a.toInt * (1 : Int64).toInt) b.toInt)) ∧ kept fw fs u.2.1 u.2.2.1) (fun u => [(o, .inr (4, [.int u.1, .ref wa, .ref sa, .ref ma, .ref tl, .ref gx, .ref gy, .ref tx, .ref tz, .int ln, .ref kx, .ref ky, .int cn, .int ah])), (wa, .inl (cJ, 96, .inr (.inl u.2.1))), (sa, .inl (cI, 16, .inl u.2.2.1)), (ma, .inl (cJ, 12, .inr (.inl u.2.2.2)))]) := by
  refine Cl.of (by decide) ?_
  intro p e s m args below meth c A Q hB hret hP hD hA
  obtain ⟨hx, hb, hr, hlocks, hml, hown, hnm, hTB, hK⟩ := hB
  have hown : s.vm.findClass RX4 = some m.cls := hown
  have hS : va_S A s.heap s.heap [] := va_S.rf
  have hl := lv_entry ([.ref o, .long a, .long b, .int rule]) (n := 7) (Nat.le_of_ble_eq_true rfl)
  rw [lg_entry_eq]
  generalize (lg_sl ([.ref o, .long a, .long b, .int rule]) ++ List.replicate (7 - (lg_sl ([.ref o, .long a, .long b, .int rule])).length) Slot.unset).toArray = ls at hl ⊢
  have hl : lv_has ls 7 [(0, .ref o), (1, .long a), (3, .long b), (5, .int rule)] := hl
  refine lv_iload hx hb dX4_over_0 (lv_at hl 3 rfl) ?_
  refine lv_if_lt (tgt := 16) hx hb dX4_over_2 (by decide) (fun c_2 => ?_) (fun c_2 => ?_)
  · have c_2 : rule.toInt < (0 : Int) := ic_lt c_2
    refine lv_iconst (v := 0) hx hb dX4_over_16 (by decide) ?_
    refine lv_istore (lv' := [(6, .int 0), (0, .ref o), (1, .long a), (3, .long b), (5, .int rule)]) hx hb dX4_over_17 hl (by decide) rfl (fun ls hl => ?_)
    refine lv_aload_n hx hb dX4_over_19 rfl (lv_at hl 1 rfl) ?_
    refine lv_iload hx hb dX4_over_20 (lv_at hl 0 rfl) ?_
    refine lv_if_eq (tgt := 35) hx hb dX4_over_22 (by decide) (fun c_22 => ?_) (fun c_22 => absurd c_22 (by decide))
    refine lv_iconst (v := 0) hx hb dX4_over_35 (by decide) ?_
    refine va_put (D := D) (ci := 4) (v := .int 0) (ty := .int) (C := RX4) (T := TX4) (N := 14) hx hb hTB tb_X4 tyX4 tyX4_ok nmX4 hown hK.1 hP hD hS 0 rfl rfl 0 (by decide) (hTB _ tb_6_4) (fun _ h9 => h9) rfl (by decide +kernel) rfl rfl (Nat.le_of_ble_eq_true rfl) dX4_over_36 (fun H locs hP hD hS => ?_)
    have hP : va_P D vwCl [(o, .inr (4, [.int 0, .ref wa, .ref sa, .ref ma, .ref tl, .ref gx, .ref gy, .ref tx, .ref tz, .int ln, .ref kx, .ref ky, .int cn, .int ah])), (wa, .inl (cJ, 96, .inr (.inl fw))), (sa, .inl (cI, 16, .inl fs)), (ma, .inl (cJ, 12, .inr (.inl fm)))] H := hP
    have hD : va_D A [(o, .inr (4, [.int 0, .ref wa, .ref sa, .ref ma, .ref tl, .ref gx, .ref gy, .ref tx, .ref tz, .int ln, .ref kx, .ref ky, .int cn, .int ah])), (wa, .inl (cJ, 96, .inr (.inl fw))), (sa, .inl (cI, 16, .inl fs)), (ma, .inl (cJ, 12, .inr (.inl fm)))] := hD
    refine lv_iload hx hb dX4_over_39 (lv_at hl 0 rfl) ?_
    refine lv_if_ne (tgt := 50) hx hb dX4_over_41 (by decide) (fun c_41 => absurd c_41 (by decide)) (fun c_41 => ?_)
    refine lv_ldc2 (v := (-4611686018427387904)) hx hb hown (hTB _ tb_15_19) dX4_over_44 ?_
    refine lv_goto (tgt := 70) hx hb dX4_over_47 (by decide) ?_
    exact hret hP hD hS (0, fw, fs, fm) (⟨fun _ => ⟨rfl, rfl⟩, fun q => absurd q (by omega), kept.rf hlim⟩) [0, 1, 2, 3] rfl (by decide) dX4_over_70 (Nat.le_of_ble_eq_true rfl) (Nat.le_of_ble_eq_true rfl)
  · have c_2 : (0 : Int) ≤ rule.toInt := ic_nlt c_2
    refine lv_iload hx hb dX4_over_5 (lv_at hl 3 rfl) ?_
    refine lv_bipush (v := 6) hx hb dX4_over_7 (by decide) ?_
    refine lv_icmp_gt (tgt := 16) hx hb dX4_over_9 (by decide) (fun c_9 => ?_) (fun c_9 => ?_)
    · have c_9 : (6 : Int) < rule.toInt := ic_lt c_9
      refine lv_iconst (v := 0) hx hb dX4_over_16 (by decide) ?_
      refine lv_istore (lv' := [(6, .int 0), (0, .ref o), (1, .long a), (3, .long b), (5, .int rule)]) hx hb dX4_over_17 hl (by decide) rfl (fun ls hl => ?_)
      refine lv_aload_n hx hb dX4_over_19 rfl (lv_at hl 1 rfl) ?_
      refine lv_iload hx hb dX4_over_20 (lv_at hl 0 rfl) ?_
      refine lv_if_eq (tgt := 35) hx hb dX4_over_22 (by decide) (fun c_22 => ?_) (fun c_22 => absurd c_22 (by decide))
      refine lv_iconst (v := 0) hx hb dX4_over_35 (by decide) ?_
      refine va_put (D := D) (ci := 4) (v := .int 0) (ty := .int) (C := RX4) (T := TX4) (N := 14) hx hb hTB tb_X4 tyX4 tyX4_ok nmX4 hown hK.1 hP hD hS 0 rfl rfl 0 (by decide) (hTB _ tb_6_4) (fun _ h9 => h9) rfl (by decide +kernel) rfl rfl (Nat.le_of_ble_eq_true rfl) dX4_over_36 (fun H locs hP hD hS => ?_)
      have hP : va_P D vwCl [(o, .inr (4, [.int 0, .ref wa, .ref sa, .ref ma, .ref tl, .ref gx, .ref gy, .ref tx, .ref tz, .int ln, .ref kx, .ref ky, .int cn, .int ah])), (wa, .inl (cJ, 96, .inr (.inl fw))), (sa, .inl (cI, 16, .inl fs)), (ma, .inl (cJ, 12, .inr (.inl fm)))] H := hP
      have hD : va_D A [(o, .inr (4, [.int 0, .ref wa, .ref sa, .ref ma, .ref tl, .ref gx, .ref gy, .ref tx, .ref tz, .int ln, .ref kx, .ref ky, .int cn, .int ah])), (wa, .inl (cJ, 96, .inr (.inl fw))), (sa, .inl (cI, 16, .inl fs)), (ma, .inl (cJ, 12, .inr (.inl fm)))] := hD
      refine lv_iload hx hb dX4_over_39 (lv_at hl 0 rfl) ?_
      refine lv_if_ne (tgt := 50) hx hb dX4_over_41 (by decide) (fun c_41 => absurd c_41 (by decide)) (fun c_41 => ?_)
      refine lv_ldc2 (v := (-4611686018427387904)) hx hb hown (hTB _ tb_15_19) dX4_over_44 ?_
      refine lv_goto (tgt := 70) hx hb dX4_over_47 (by decide) ?_
      exact hret hP hD hS (0, fw, fs, fm) (⟨fun _ => ⟨rfl, rfl⟩, fun q => absurd q (by omega), kept.rf hlim⟩) [0, 1, 2, 3] rfl (by decide) dX4_over_70 (Nat.le_of_ble_eq_true rfl) (Nat.le_of_ble_eq_true rfl)
    · have c_9 : rule.toInt ≤ (6 : Int) := ic_nlt c_9
      refine lv_iconst (v := 1) hx hb dX4_over_12 (by decide) ?_
      refine lv_goto (tgt := 17) hx hb dX4_over_13 (by decide) ?_
      refine lv_istore (lv' := [(6, .int 1), (0, .ref o), (1, .long a), (3, .long b), (5, .int rule)]) hx hb dX4_over_17 hl (by decide) rfl (fun ls hl => ?_)
      refine lv_aload_n hx hb dX4_over_19 rfl (lv_at hl 1 rfl) ?_
      refine lv_iload hx hb dX4_over_20 (lv_at hl 0 rfl) ?_
      refine lv_if_eq (tgt := 35) hx hb dX4_over_22 (by decide) (fun c_22 => absurd c_22 (by decide)) (fun c_22 => ?_)
      refine lv_lload_n hx hb dX4_over_25 rfl (lv_at hl 3 rfl) ?_
      refine lv_lconst (v := 0) hx hb dX4_over_26 (by decide) ?_
      refine W.lcmp hx hb dX4_over_27 ?_
      refine lv_if_ne (tgt := 35) hx hb dX4_over_28 (by decide) (fun c_28 => ?_) (fun c_28 => ?_)
      · have c_28 : b.toInt ≠ (0 : Int) := lc_ne c_28
        refine lv_iconst (v := 0) hx hb dX4_over_35 (by decide) ?_
        refine va_put (D := D) (ci := 4) (v := .int 0) (ty := .int) (C := RX4) (T := TX4) (N := 14) hx hb hTB tb_X4 tyX4 tyX4_ok nmX4 hown hK.1 hP hD hS 0 rfl rfl 0 (by decide) (hTB _ tb_6_4) (fun _ h9 => h9) rfl (by decide +kernel) rfl rfl (Nat.le_of_ble_eq_true rfl) dX4_over_36 (fun H locs hP hD hS => ?_)
        have hP : va_P D vwCl [(o, .inr (4, [.int 0, .ref wa, .ref sa, .ref ma, .ref tl, .ref gx, .ref gy, .ref tx, .ref tz, .int ln, .ref kx, .ref ky, .int cn, .int ah])), (wa, .inl (cJ, 96, .inr (.inl fw))), (sa, .inl (cI, 16, .inl fs)), (ma, .inl (cJ, 12, .inr (.inl fm)))] H := hP
        have hD : va_D A [(o, .inr (4, [.int 0, .ref wa, .ref sa, .ref ma, .ref tl, .ref gx, .ref gy, .ref tx, .ref tz, .int ln, .ref kx, .ref ky, .int cn, .int ah])), (wa, .inl (cJ, 96, .inr (.inl fw))), (sa, .inl (cI, 16, .inl fs)), (ma, .inl (cJ, 12, .inr (.inl fm)))] := hD
        refine lv_iload hx hb dX4_over_39 (lv_at hl 0 rfl) ?_
        refine lv_if_ne (tgt := 50) hx hb dX4_over_41 (by decide) (fun c_41 => ?_) (fun c_41 => absurd c_41 (by decide))
        refine lv_aload_n hx hb dX4_over_50 rfl (lv_at hl 1 rfl) ?_
        refine va_get (D := D) (ci := 4) (v := .int 0) (C := RX4) (T := TX4) (N := 14) hx hb hTB tb_X4 hown hK.1 hP 0 rfl rfl 0 (by decide) (hTB _ tb_6_4) (fun _ h9 => h9) rfl dX4_over_51 ?_
        refine lv_if_le (tgt := 61) hx hb dX4_over_54 (by decide) (fun c_54 => ?_) (fun c_54 => absurd c_54 (by decide))
        refine lv_aload_n hx hb dX4_over_61 rfl (lv_at hl 1 rfl) ?_
        refine lv_lload_n hx hb dX4_over_62 rfl (lv_at hl 2 rfl) ?_
        refine lv_lconst (v := 1) hx hb dX4_over_63 (by decide) ?_
        refine lv_lload_n hx hb dX4_over_64 rfl (lv_at hl 3 rfl) ?_
        refine lv_iload hx hb dX4_over_65 (lv_at hl 4 rfl) ?_
        refine fin_l (wr := []) (va_runV (As := [.long a, .long 1, .long b, .int rule]) (rest := []) ⟨hx, hb, hml, hown, hTB⟩ (c_X4_ratioOf l D cZ cI cJ o wa sa ma tl gx gy tx tz kx ky 0 ln cn ah fw fs fm a 1 b rule hlim c_28 (⟨c_2, c_9⟩) _) (cw_V hTB tb_20_12 tb_1_5 tb_20_9 tb_20_10 tb_20_11 nd_X4_ratioOf rfl rfl ⟨Nat.le_of_ble_eq_true rfl, Nat.le_of_ble_eq_true rfl⟩) (pre_V (q0 := 0) hK hP hD [0, 1, 2, 3] rfl rfl rfl rfl) rfl rfl hl.1 rfl (lv_room (Nat.le_of_ble_eq_true rfl)) dX4_over_67 ⟨Nat.le_of_ble_eq_true rfl, Nat.le_of_ble_eq_true rfl⟩) hP hD hS hA [0, 1, 2, 3] [] rfl rfl rfl (by decide) (fun r67 u67 H locs hc67 hP hD hS => ?_)
        obtain ⟨g67, s67, m67⟩ := u67
        dsimp only at hc67
        have hP : va_P D vwCl [(o, .inr (4, [.int 0, .ref wa, .ref sa, .ref ma, .ref tl, .ref gx, .ref gy, .ref tx, .ref tz, .int ln, .ref kx, .ref ky, .int cn, .int ah])), (wa, .inl (cJ, 96, .inr (.inl g67))), (sa, .inl (cI, 16, .inl s67)), (ma, .inl (cJ, 12, .inr (.inl m67)))] H := hP
        have hD : va_D A [(o, .inr (4, [.int 0, .ref wa, .ref sa, .ref ma, .ref tl, .ref gx, .ref gy, .ref tx, .ref tz, .int ln, .ref kx, .ref ky, .int cn, .int ah])), (wa, .inl (cJ, 96, .inr (.inl g67))), (sa, .inl (cI, 16, .inl s67)), (ma, .inl (cJ, 12, .inr (.inl m67)))] := hD
        exact hret hP hD hS (0, g67, s67, m67) (⟨fun q => absurd (show rok rule from ⟨c_2, c_9⟩) q, fun _ => ⟨fun q => absurd q c_28, fun _ => ⟨rfl, hc67.1⟩⟩, hc67.2⟩) [0, 1, 2, 3] rfl (by decide) dX4_over_70 (Nat.le_of_ble_eq_true rfl) (Nat.le_of_ble_eq_true rfl)
      · have c_28 : b.toInt = (0 : Int) := lc_eq c_28
        refine lv_iconst (v := 1) hx hb dX4_over_31 (by decide) ?_
        refine lv_goto (tgt := 36) hx hb dX4_over_32 (by decide) ?_
        refine va_put (D := D) (ci := 4) (v := .int 1) (ty := .int) (C := RX4) (T := TX4) (N := 14) hx hb hTB tb_X4 tyX4 tyX4_ok nmX4 hown hK.1 hP hD hS 0 rfl rfl 0 (by decide) (hTB _ tb_6_4) (fun _ h9 => h9) rfl (by decide +kernel) rfl rfl (Nat.le_of_ble_eq_true rfl) dX4_over_36 (fun H locs hP hD hS => ?_)
        have hP : va_P D vwCl [(o, .inr (4, [.int 1, .ref wa, .ref sa, .ref ma, .ref tl, .ref gx, .ref gy, .ref tx, .ref tz, .int ln, .ref kx, .ref ky, .int cn, .int ah])), (wa, .inl (cJ, 96, .inr (.inl fw))), (sa, .inl (cI, 16, .inl fs)), (ma, .inl (cJ, 12, .inr (.inl fm)))] H := hP
        have hD : va_D A [(o, .inr (4, [.int 1, .ref wa, .ref sa, .ref ma, .ref tl, .ref gx, .ref gy, .ref tx, .ref tz, .int ln, .ref kx, .ref ky, .int cn, .int ah])), (wa, .inl (cJ, 96, .inr (.inl fw))), (sa, .inl (cI, 16, .inl fs)), (ma, .inl (cJ, 12, .inr (.inl fm)))] := hD
        refine lv_iload hx hb dX4_over_39 (lv_at hl 0 rfl) ?_
        refine lv_if_ne (tgt := 50) hx hb dX4_over_41 (by decide) (fun c_41 => ?_) (fun c_41 => absurd c_41 (by decide))
        refine lv_aload_n hx hb dX4_over_50 rfl (lv_at hl 1 rfl) ?_
        refine va_get (D := D) (ci := 4) (v := .int 1) (C := RX4) (T := TX4) (N := 14) hx hb hTB tb_X4 hown hK.1 hP 0 rfl rfl 0 (by decide) (hTB _ tb_6_4) (fun _ h9 => h9) rfl dX4_over_51 ?_
        refine lv_if_le (tgt := 61) hx hb dX4_over_54 (by decide) (fun c_54 => absurd c_54 (by decide)) (fun c_54 => ?_)
        refine lv_lconst (v := 0) hx hb dX4_over_57 (by decide) ?_
        refine lv_goto (tgt := 70) hx hb dX4_over_58 (by decide) ?_
        exact hret hP hD hS (1, fw, fs, fm) (⟨fun q => absurd (show rok rule from ⟨c_2, c_9⟩) q, fun _ => ⟨fun _ => rfl, fun q => absurd c_28 q⟩, kept.rf hlim⟩) [0, 1, 2, 3] rfl (by decide) dX4_over_70 (Nat.le_of_ble_eq_true rfl) (Nat.le_of_ble_eq_true rfl)

set_option maxHeartbeats 4000000 in
set_option maxRecDepth 100000 in
theorem c_X4_ratio (l : Launch) (D : va_G) (cZ cI cJ : ClassId) (o wa sa ma tl gx gy tx tz kx ky : Nat) (cd ln cn ah : Int32) (fw : Nat → Int64) (fs : Nat → Int32) (fm : Nat → Int64) (a b c9 : Int64) (rule : Int32) (hlim : lim fw) : Cl l D cZ cI cJ yX4_ratio cX4_ratio 9 (some .long) { frames := 4, cells := 0, slots := 0, locals := 106 } [.ref o, .long a, .long b, .long c9, .int rule] [(o, .inr (4, [.int cd, .ref wa, .ref sa, .ref ma, .ref tl, .ref gx, .ref gy, .ref tx, .ref tz, .int ln, .ref kx, .ref ky, .int cn, .int ah])), (wa, .inl (cJ, 96, .inr (.inl fw))), (sa, .inl (cI, 16, .inl fs)), (ma, .inl (cJ, 12, .inr (.inl fm)))] (S := Int32 × (Nat → Int64) × (Nat → Int32) × (Nat → Int64)) (fun z u => (¬ rok rule → u.1 = 0 ∧ z = -4611686018427387904) ∧ (rok rule → (c9.toInt = 0 → u.1 = 1) ∧ (c9.toInt ≠ 0 → u.1 = 0 ∧ z = rdv rule (a.toInt * b.toInt) c9.toInt)) ∧ kept fw fs u.2.1 u.2.2.1) (fun u => [(o, .inr (4, [.int u.1, .ref wa, .ref sa, .ref ma, .ref tl, .ref gx, .ref gy, .ref tx, .ref tz, .int ln, .ref kx, .ref ky, .int cn, .int ah])), (wa, .inl (cJ, 96, .inr (.inl u.2.1))), (sa, .inl (cI, 16, .inl u.2.2.1)), (ma, .inl (cJ, 12, .inr (.inl u.2.2.2)))]) := by
  refine Cl.of (by decide) ?_
  intro p e s m args below meth c A Q hB hret hP hD hA
  obtain ⟨hx, hb, hr, hlocks, hml, hown, hnm, hTB, hK⟩ := hB
  have hown : s.vm.findClass RX4 = some m.cls := hown
  have hS : va_S A s.heap s.heap [] := va_S.rf
  have hl := lv_entry ([.ref o, .long a, .long b, .long c9, .int rule]) (n := 9) (Nat.le_of_ble_eq_true rfl)
  rw [lg_entry_eq]
  generalize (lg_sl ([.ref o, .long a, .long b, .long c9, .int rule]) ++ List.replicate (9 - (lg_sl ([.ref o, .long a, .long b, .long c9, .int rule])).length) Slot.unset).toArray = ls at hl ⊢
  have hl : lv_has ls 9 [(0, .ref o), (1, .long a), (3, .long b), (5, .long c9), (7, .int rule)] := hl
  refine lv_iload hx hb dX4_ratio_0 (lv_at hl 4 rfl) ?_
  refine lv_if_lt (tgt := 16) hx hb dX4_ratio_2 (by decide) (fun c_2 => ?_) (fun c_2 => ?_)
  · have c_2 : rule.toInt < (0 : Int) := ic_lt c_2
    refine lv_iconst (v := 0) hx hb dX4_ratio_16 (by decide) ?_
    refine lv_istore (lv' := [(8, .int 0), (0, .ref o), (1, .long a), (3, .long b), (5, .long c9), (7, .int rule)]) hx hb dX4_ratio_17 hl (by decide) rfl (fun ls hl => ?_)
    refine lv_aload_n hx hb dX4_ratio_19 rfl (lv_at hl 1 rfl) ?_
    refine lv_iload hx hb dX4_ratio_20 (lv_at hl 0 rfl) ?_
    refine lv_if_eq (tgt := 36) hx hb dX4_ratio_22 (by decide) (fun c_22 => ?_) (fun c_22 => absurd c_22 (by decide))
    refine lv_iconst (v := 0) hx hb dX4_ratio_36 (by decide) ?_
    refine va_put (D := D) (ci := 4) (v := .int 0) (ty := .int) (C := RX4) (T := TX4) (N := 14) hx hb hTB tb_X4 tyX4 tyX4_ok nmX4 hown hK.1 hP hD hS 0 rfl rfl 0 (by decide) (hTB _ tb_6_4) (fun _ h9 => h9) rfl (by decide +kernel) rfl rfl (Nat.le_of_ble_eq_true rfl) dX4_ratio_37 (fun H locs hP hD hS => ?_)
    have hP : va_P D vwCl [(o, .inr (4, [.int 0, .ref wa, .ref sa, .ref ma, .ref tl, .ref gx, .ref gy, .ref tx, .ref tz, .int ln, .ref kx, .ref ky, .int cn, .int ah])), (wa, .inl (cJ, 96, .inr (.inl fw))), (sa, .inl (cI, 16, .inl fs)), (ma, .inl (cJ, 12, .inr (.inl fm)))] H := hP
    have hD : va_D A [(o, .inr (4, [.int 0, .ref wa, .ref sa, .ref ma, .ref tl, .ref gx, .ref gy, .ref tx, .ref tz, .int ln, .ref kx, .ref ky, .int cn, .int ah])), (wa, .inl (cJ, 96, .inr (.inl fw))), (sa, .inl (cI, 16, .inl fs)), (ma, .inl (cJ, 12, .inr (.inl fm)))] := hD
    refine lv_iload hx hb dX4_ratio_40 (lv_at hl 0 rfl) ?_
    refine lv_if_ne (tgt := 51) hx hb dX4_ratio_42 (by decide) (fun c_42 => absurd c_42 (by decide)) (fun c_42 => ?_)
    refine lv_ldc2 (v := (-4611686018427387904)) hx hb hown (hTB _ tb_15_19) dX4_ratio_45 ?_
    refine lv_goto (tgt := 72) hx hb dX4_ratio_48 (by decide) ?_
    exact hret hP hD hS (0, fw, fs, fm) (⟨fun _ => ⟨rfl, rfl⟩, fun q => absurd q (by omega), kept.rf hlim⟩) [0, 1, 2, 3] rfl (by decide) dX4_ratio_72 (Nat.le_of_ble_eq_true rfl) (Nat.le_of_ble_eq_true rfl)
  · have c_2 : (0 : Int) ≤ rule.toInt := ic_nlt c_2
    refine lv_iload hx hb dX4_ratio_5 (lv_at hl 4 rfl) ?_
    refine lv_bipush (v := 6) hx hb dX4_ratio_7 (by decide) ?_
    refine lv_icmp_gt (tgt := 16) hx hb dX4_ratio_9 (by decide) (fun c_9 => ?_) (fun c_9 => ?_)
    · have c_9 : (6 : Int) < rule.toInt := ic_lt c_9
      refine lv_iconst (v := 0) hx hb dX4_ratio_16 (by decide) ?_
      refine lv_istore (lv' := [(8, .int 0), (0, .ref o), (1, .long a), (3, .long b), (5, .long c9), (7, .int rule)]) hx hb dX4_ratio_17 hl (by decide) rfl (fun ls hl => ?_)
      refine lv_aload_n hx hb dX4_ratio_19 rfl (lv_at hl 1 rfl) ?_
      refine lv_iload hx hb dX4_ratio_20 (lv_at hl 0 rfl) ?_
      refine lv_if_eq (tgt := 36) hx hb dX4_ratio_22 (by decide) (fun c_22 => ?_) (fun c_22 => absurd c_22 (by decide))
      refine lv_iconst (v := 0) hx hb dX4_ratio_36 (by decide) ?_
      refine va_put (D := D) (ci := 4) (v := .int 0) (ty := .int) (C := RX4) (T := TX4) (N := 14) hx hb hTB tb_X4 tyX4 tyX4_ok nmX4 hown hK.1 hP hD hS 0 rfl rfl 0 (by decide) (hTB _ tb_6_4) (fun _ h9 => h9) rfl (by decide +kernel) rfl rfl (Nat.le_of_ble_eq_true rfl) dX4_ratio_37 (fun H locs hP hD hS => ?_)
      have hP : va_P D vwCl [(o, .inr (4, [.int 0, .ref wa, .ref sa, .ref ma, .ref tl, .ref gx, .ref gy, .ref tx, .ref tz, .int ln, .ref kx, .ref ky, .int cn, .int ah])), (wa, .inl (cJ, 96, .inr (.inl fw))), (sa, .inl (cI, 16, .inl fs)), (ma, .inl (cJ, 12, .inr (.inl fm)))] H := hP
      have hD : va_D A [(o, .inr (4, [.int 0, .ref wa, .ref sa, .ref ma, .ref tl, .ref gx, .ref gy, .ref tx, .ref tz, .int ln, .ref kx, .ref ky, .int cn, .int ah])), (wa, .inl (cJ, 96, .inr (.inl fw))), (sa, .inl (cI, 16, .inl fs)), (ma, .inl (cJ, 12, .inr (.inl fm)))] := hD
      refine lv_iload hx hb dX4_ratio_40 (lv_at hl 0 rfl) ?_
      refine lv_if_ne (tgt := 51) hx hb dX4_ratio_42 (by decide) (fun c_42 => absurd c_42 (by decide)) (fun c_42 => ?_)
      refine lv_ldc2 (v := (-4611686018427387904)) hx hb hown (hTB _ tb_15_19) dX4_ratio_45 ?_
      refine lv_goto (tgt := 72) hx hb dX4_ratio_48 (by decide) ?_
      exact hret hP hD hS (0, fw, fs, fm) (⟨fun _ => ⟨rfl, rfl⟩, fun q => absurd q (by omega), kept.rf hlim⟩) [0, 1, 2, 3] rfl (by decide) dX4_ratio_72 (Nat.le_of_ble_eq_true rfl) (Nat.le_of_ble_eq_true rfl)
    · have c_9 : rule.toInt ≤ (6 : Int) := ic_nlt c_9
      refine lv_iconst (v := 1) hx hb dX4_ratio_12 (by decide) ?_
      refine lv_goto (tgt := 17) hx hb dX4_ratio_13 (by decide) ?_
      refine lv_istore (lv' := [(8, .int 1), (0, .ref o), (1, .long a), (3, .long b), (5, .long c9), (7, .int rule)]) hx hb dX4_ratio_17 hl (by decide) rfl (fun ls hl => ?_)
      refine lv_aload_n hx hb dX4_ratio_19 rfl (lv_at hl 1 rfl) ?_
      refine lv_iload hx hb dX4_ratio_20 (lv_at hl 0 rfl) ?_
      refine lv_if_eq (tgt := 36) hx hb dX4_ratio_22 (by decide) (fun c_22 => absurd c_22 (by decide)) (fun c_22 => ?_)
      refine lv_lload hx hb dX4_ratio_25 (lv_at hl 4 rfl) ?_
      refine lv_lconst (v := 0) hx hb dX4_ratio_27 (by decide) ?_
      refine W.lcmp hx hb dX4_ratio_28 ?_
      refine lv_if_ne (tgt := 36) hx hb dX4_ratio_29 (by decide) (fun c_29 => ?_) (fun c_29 => ?_)
      · have c_29 : c9.toInt ≠ (0 : Int) := lc_ne c_29
        refine lv_iconst (v := 0) hx hb dX4_ratio_36 (by decide) ?_
        refine va_put (D := D) (ci := 4) (v := .int 0) (ty := .int) (C := RX4) (T := TX4) (N := 14) hx hb hTB tb_X4 tyX4 tyX4_ok nmX4 hown hK.1 hP hD hS 0 rfl rfl 0 (by decide) (hTB _ tb_6_4) (fun _ h9 => h9) rfl (by decide +kernel) rfl rfl (Nat.le_of_ble_eq_true rfl) dX4_ratio_37 (fun H locs hP hD hS => ?_)
        have hP : va_P D vwCl [(o, .inr (4, [.int 0, .ref wa, .ref sa, .ref ma, .ref tl, .ref gx, .ref gy, .ref tx, .ref tz, .int ln, .ref kx, .ref ky, .int cn, .int ah])), (wa, .inl (cJ, 96, .inr (.inl fw))), (sa, .inl (cI, 16, .inl fs)), (ma, .inl (cJ, 12, .inr (.inl fm)))] H := hP
        have hD : va_D A [(o, .inr (4, [.int 0, .ref wa, .ref sa, .ref ma, .ref tl, .ref gx, .ref gy, .ref tx, .ref tz, .int ln, .ref kx, .ref ky, .int cn, .int ah])), (wa, .inl (cJ, 96, .inr (.inl fw))), (sa, .inl (cI, 16, .inl fs)), (ma, .inl (cJ, 12, .inr (.inl fm)))] := hD
        refine lv_iload hx hb dX4_ratio_40 (lv_at hl 0 rfl) ?_
        refine lv_if_ne (tgt := 51) hx hb dX4_ratio_42 (by decide) (fun c_42 => ?_) (fun c_42 => absurd c_42 (by decide))
        refine lv_aload_n hx hb dX4_ratio_51 rfl (lv_at hl 1 rfl) ?_
        refine va_get (D := D) (ci := 4) (v := .int 0) (C := RX4) (T := TX4) (N := 14) hx hb hTB tb_X4 hown hK.1 hP 0 rfl rfl 0 (by decide) (hTB _ tb_6_4) (fun _ h9 => h9) rfl dX4_ratio_52 ?_
        refine lv_if_le (tgt := 62) hx hb dX4_ratio_55 (by decide) (fun c_55 => ?_) (fun c_55 => absurd c_55 (by decide))
        refine lv_aload_n hx hb dX4_ratio_62 rfl (lv_at hl 1 rfl) ?_
        refine lv_lload_n hx hb dX4_ratio_63 rfl (lv_at hl 2 rfl) ?_
        refine lv_lload_n hx hb dX4_ratio_64 rfl (lv_at hl 3 rfl) ?_
        refine lv_lload hx hb dX4_ratio_65 (lv_at hl 4 rfl) ?_
        refine lv_iload hx hb dX4_ratio_67 (lv_at hl 5 rfl) ?_
        refine fin_l (wr := []) (va_runV (As := [.long a, .long b, .long c9, .int rule]) (rest := []) ⟨hx, hb, hml, hown, hTB⟩ (c_X4_ratioOf l D cZ cI cJ o wa sa ma tl gx gy tx tz kx ky 0 ln cn ah fw fs fm a b c9 rule hlim c_29 (⟨c_2, c_9⟩) _) (cw_V hTB tb_20_12 tb_1_5 tb_20_9 tb_20_10 tb_20_11 nd_X4_ratioOf rfl rfl ⟨Nat.le_of_ble_eq_true rfl, Nat.le_of_ble_eq_true rfl⟩) (pre_V (q0 := 0) hK hP hD [0, 1, 2, 3] rfl rfl rfl rfl) rfl rfl hl.1 rfl (lv_room (Nat.le_of_ble_eq_true rfl)) dX4_ratio_69 ⟨Nat.le_of_ble_eq_true rfl, Nat.le_of_ble_eq_true rfl⟩) hP hD hS hA [0, 1, 2, 3] [] rfl rfl rfl (by decide) (fun r69 u69 H locs hc69 hP hD hS => ?_)
        obtain ⟨g69, s69, m69⟩ := u69
        dsimp only at hc69
        have hP : va_P D vwCl [(o, .inr (4, [.int 0, .ref wa, .ref sa, .ref ma, .ref tl, .ref gx, .ref gy, .ref tx, .ref tz, .int ln, .ref kx, .ref ky, .int cn, .int ah])), (wa, .inl (cJ, 96, .inr (.inl g69))), (sa, .inl (cI, 16, .inl s69)), (ma, .inl (cJ, 12, .inr (.inl m69)))] H := hP
        have hD : va_D A [(o, .inr (4, [.int 0, .ref wa, .ref sa, .ref ma, .ref tl, .ref gx, .ref gy, .ref tx, .ref tz, .int ln, .ref kx, .ref ky, .int cn, .int ah])), (wa, .inl (cJ, 96, .inr (.inl g69))), (sa, .inl (cI, 16, .inl s69)), (ma, .inl (cJ, 12, .inr (.inl m69)))] := hD
        exact hret hP hD hS (0, g69, s69, m69) (⟨fun q => absurd (show rok rule from ⟨c_2, c_9⟩) q, fun _ => ⟨fun q => absurd q c_29, fun _ => ⟨rfl, hc69.1⟩⟩, hc69.2⟩) [0, 1, 2, 3] rfl (by decide) dX4_ratio_72 (Nat.le_of_ble_eq_true rfl) (Nat.le_of_ble_eq_true rfl)
      · have c_29 : c9.toInt = (0 : Int) := lc_eq c_29
        refine lv_iconst (v := 1) hx hb dX4_ratio_32 (by decide) ?_
        refine lv_goto (tgt := 37) hx hb dX4_ratio_33 (by decide) ?_
        refine va_put (D := D) (ci := 4) (v := .int 1) (ty := .int) (C := RX4) (T := TX4) (N := 14) hx hb hTB tb_X4 tyX4 tyX4_ok nmX4 hown hK.1 hP hD hS 0 rfl rfl 0 (by decide) (hTB _ tb_6_4) (fun _ h9 => h9) rfl (by decide +kernel) rfl rfl (Nat.le_of_ble_eq_true rfl) dX4_ratio_37 (fun H locs hP hD hS => ?_)
        have hP : va_P D vwCl [(o, .inr (4, [.int 1, .ref wa, .ref sa, .ref ma, .ref tl, .ref gx, .ref gy, .ref tx, .ref tz, .int ln, .ref kx, .ref ky, .int cn, .int ah])), (wa, .inl (cJ, 96, .inr (.inl fw))), (sa, .inl (cI, 16, .inl fs)), (ma, .inl (cJ, 12, .inr (.inl fm)))] H := hP
        have hD : va_D A [(o, .inr (4, [.int 1, .ref wa, .ref sa, .ref ma, .ref tl, .ref gx, .ref gy, .ref tx, .ref tz, .int ln, .ref kx, .ref ky, .int cn, .int ah])), (wa, .inl (cJ, 96, .inr (.inl fw))), (sa, .inl (cI, 16, .inl fs)), (ma, .inl (cJ, 12, .inr (.inl fm)))] := hD
        refine lv_iload hx hb dX4_ratio_40 (lv_at hl 0 rfl) ?_
        refine lv_if_ne (tgt := 51) hx hb dX4_ratio_42 (by decide) (fun c_42 => ?_) (fun c_42 => absurd c_42 (by decide))
        refine lv_aload_n hx hb dX4_ratio_51 rfl (lv_at hl 1 rfl) ?_
        refine va_get (D := D) (ci := 4) (v := .int 1) (C := RX4) (T := TX4) (N := 14) hx hb hTB tb_X4 hown hK.1 hP 0 rfl rfl 0 (by decide) (hTB _ tb_6_4) (fun _ h9 => h9) rfl dX4_ratio_52 ?_
        refine lv_if_le (tgt := 62) hx hb dX4_ratio_55 (by decide) (fun c_55 => absurd c_55 (by decide)) (fun c_55 => ?_)
        refine lv_lconst (v := 0) hx hb dX4_ratio_58 (by decide) ?_
        refine lv_goto (tgt := 72) hx hb dX4_ratio_59 (by decide) ?_
        exact hret hP hD hS (1, fw, fs, fm) (⟨fun q => absurd (show rok rule from ⟨c_2, c_9⟩) q, fun _ => ⟨fun _ => rfl, fun q => absurd c_29 q⟩, kept.rf hlim⟩) [0, 1, 2, 3] rfl (by decide) dX4_ratio_72 (Nat.le_of_ble_eq_true rfl) (Nat.le_of_ble_eq_true rfl)

set_option maxHeartbeats 4000000 in
set_option maxRecDepth 100000 in
theorem c_X4_product (l : Launch) (D : va_G) (cZ cI cJ : ClassId) (o wa sa ma tl gx gy tx tz kx ky : Nat) (cd ln cn ah : Int32) (fw : Nat → Int64) (fs : Nat → Int32) (fm : Nat → Int64) (a b : Int64) (limb : Int32) (hlim : lim fw) : Cl l D cZ cI cJ yX4_product cX4_product 6 (some .long) { frames := 2, cells := 0, slots := 0, locals := 44 } [.ref o, .long a, .long b, .int limb] [(o, .inr (4, [.int cd, .ref wa, .ref sa, .ref ma, .ref tl, .ref gx, .ref gy, .ref tx, .ref tz, .int ln, .ref kx, .ref ky, .int cn, .int ah])), (wa, .inl (cJ, 96, .inr (.inl fw))), (sa, .inl (cI, 16, .inl fs)), (ma, .inl (cJ, 12, .inr (.inl fm)))] (S := Int32 × (Nat → Int64) × (Nat → Int32) × (Nat → Int64)) (fun z u => ((lbad (a.toInt * b.toInt) limb → u.1 = 1) ∧ (¬ lbad (a.toInt * b.toInt) limb → u.1 = 0 ∧ z = lval (a.toInt * b.toInt) limb)) ∧ kept fw fs u.2.1 u.2.2.1) (fun u => [(o, .inr (4, [.int u.1, .ref wa, .ref sa, .ref ma, .ref tl, .ref gx, .ref gy, .ref tx, .ref tz, .int ln, .ref kx, .ref ky, .int cn, .int ah])), (wa, .inl (cJ, 96, .inr (.inl u.2.1))), (sa, .inl (cI, 16, .inl u.2.2.1)), (ma, .inl (cJ, 12, .inr (.inl u.2.2.2)))]) := by
  refine Cl.of (by decide) ?_
  intro p e s m args below meth c A Q hB hret hP hD hA
  obtain ⟨hx, hb, hr, hlocks, hml, hown, hnm, hTB, hK⟩ := hB
  have hown : s.vm.findClass RX4 = some m.cls := hown
  have hS : va_S A s.heap s.heap [] := va_S.rf
  have hp := p63 (x := a) (y := b)
  have hl := lv_entry ([.ref o, .long a, .long b, .int limb]) (n := 6) (Nat.le_of_ble_eq_true rfl)
  rw [lg_entry_eq]
  generalize (lg_sl ([.ref o, .long a, .long b, .int limb]) ++ List.replicate (6 - (lg_sl ([.ref o, .long a, .long b, .int limb])).length) Slot.unset).toArray = ls at hl ⊢
  have hl : lv_has ls 6 [(0, .ref o), (1, .long a), (3, .long b), (5, .int limb)] := hl
  refine lv_aload_n hx hb dX4_product_0 rfl (lv_at hl 0 rfl) ?_
  refine lv_iconst (v := 0) hx hb dX4_product_1 (by decide) ?_
  refine lv_lload_n hx hb dX4_product_2 rfl (lv_at hl 1 rfl) ?_
  refine fin_v (wr := [(ma, .inl (cJ, 12, .inr (.inl fm)))]) (va_runV (As := [.int 0, .long a]) (rest := []) ⟨hx, hb, hml, hown, hTB⟩ (c_X4_put l D cZ cI cJ o wa sa ma tl gx gy tx tz kx ky cd ln cn ah fw fs 0 a hlim (by decide) _) (cw_V hTB tb_6_21 tb_1_5 tb_6_18 tb_6_19 tb_6_20 nd_X4_put rfl rfl ⟨Nat.le_of_ble_eq_true rfl, Nat.le_of_ble_eq_true rfl⟩) (pre_V (q0 := 0) hK hP hD [0, 1, 2] rfl rfl rfl rfl) rfl rfl hl.1 rfl (lv_room (Nat.le_of_ble_eq_true rfl)) dX4_product_3 ⟨Nat.le_of_ble_eq_true rfl, Nat.le_of_ble_eq_true rfl⟩) hP hD hS hA [0, 1, 2] [3] rfl rfl rfl (by decide) (fun u3 H locs hc3 hP hD hS => ?_)
  obtain ⟨g3, s3⟩ := u3
  dsimp only at hc3
  obtain ⟨up3, rfl⟩ := hc3
  have hP : va_P D vwCl [(ma, .inl (cJ, 12, .inr (.inl fm))), (o, .inr (4, [.int cd, .ref wa, .ref sa, .ref ma, .ref tl, .ref gx, .ref gy, .ref tx, .ref tz, .int ln, .ref kx, .ref ky, .int cn, .int ah])), (wa, .inl (cJ, 96, .inr (.inl g3))), (sa, .inl (cI, 16, .inl (upd fs 0 (sg (a.toInt)))))] H := hP
  have hD : va_D A [(ma, .inl (cJ, 12, .inr (.inl fm))), (o, .inr (4, [.int cd, .ref wa, .ref sa, .ref ma, .ref tl, .ref gx, .ref gy, .ref tx, .ref tz, .int ln, .ref kx, .ref ky, .int cn, .int ah])), (wa, .inl (cJ, 96, .inr (.inl g3))), (sa, .inl (cI, 16, .inl (upd fs 0 (sg (a.toInt)))))] := hD
  refine lv_aload_n hx hb dX4_product_6 rfl (lv_at hl 0 rfl) ?_
  refine lv_iconst (v := 1) hx hb dX4_product_7 (by decide) ?_
  refine lv_lload_n hx hb dX4_product_8 rfl (lv_at hl 2 rfl) ?_
  refine fin_v (wr := [(ma, .inl (cJ, 12, .inr (.inl fm)))]) (va_runV (As := [.int 1, .long b]) (rest := []) ⟨hx, hb, hml, hown, hTB⟩ (c_X4_put l D cZ cI cJ o wa sa ma tl gx gy tx tz kx ky cd ln cn ah g3 (upd fs 0 (sg (a.toInt))) 1 b up3.1 (by decide) _) (cw_V hTB tb_6_21 tb_1_5 tb_6_18 tb_6_19 tb_6_20 nd_X4_put rfl rfl ⟨Nat.le_of_ble_eq_true rfl, Nat.le_of_ble_eq_true rfl⟩) (pre_V (q0 := 1) hK hP hD [1, 2, 3] rfl rfl rfl rfl) rfl rfl hl.1 rfl (lv_room (Nat.le_of_ble_eq_true rfl)) dX4_product_9 ⟨Nat.le_of_ble_eq_true rfl, Nat.le_of_ble_eq_true rfl⟩) hP hD hS hA [1, 2, 3] [0] rfl rfl rfl (by decide) (fun u9 H locs hc9 hP hD hS => ?_)
  obtain ⟨g9, s9⟩ := u9
  dsimp only at hc9
  obtain ⟨up9, rfl⟩ := hc9
  have hP : va_P D vwCl [(ma, .inl (cJ, 12, .inr (.inl fm))), (o, .inr (4, [.int cd, .ref wa, .ref sa, .ref ma, .ref tl, .ref gx, .ref gy, .ref tx, .ref tz, .int ln, .ref kx, .ref ky, .int cn, .int ah])), (wa, .inl (cJ, 96, .inr (.inl g9))), (sa, .inl (cI, 16, .inl (upd (upd fs 0 (sg (a.toInt))) 1 (sg (b.toInt)))))] H := hP
  have hD : va_D A [(ma, .inl (cJ, 12, .inr (.inl fm))), (o, .inr (4, [.int cd, .ref wa, .ref sa, .ref ma, .ref tl, .ref gx, .ref gy, .ref tx, .ref tz, .int ln, .ref kx, .ref ky, .int cn, .int ah])), (wa, .inl (cJ, 96, .inr (.inl g9))), (sa, .inl (cI, 16, .inl (upd (upd fs 0 (sg (a.toInt))) 1 (sg (b.toInt)))))] := hD
  refine lv_aload_n hx hb dX4_product_12 rfl (lv_at hl 0 rfl) ?_
  refine lv_iconst (v := 2) hx hb dX4_product_13 (by decide) ?_
  refine lv_iconst (v := 0) hx hb dX4_product_14 (by decide) ?_
  refine lv_iconst (v := 1) hx hb dX4_product_15 (by decide) ?_
  refine fin_v (wr := []) (va_runV (As := [.int 2, .int 0, .int 1]) (rest := []) ⟨hx, hb, hml, hown, hTB⟩ (c_X4_times l D cZ cI cJ o wa sa ma tl gx gy tx tz kx ky cd ln cn ah g9 (upd (upd fs 0 (sg (a.toInt))) 1 (sg (b.toInt))) fm 2 0 1 a.toInt b.toInt up9.1 (by decide) (by decide) (by decide) ((hz.new up3).keep up9 (by decide)) (hz.new up9) (by omega) _) (cw_V hTB tb_7_2 tb_1_5 tb_6_23 tb_7_0 tb_7_1 nd_X4_times rfl rfl ⟨Nat.le_of_ble_eq_true rfl, Nat.le_of_ble_eq_true rfl⟩) (pre_V (q0 := 1) hK hP hD [1, 2, 3, 0] rfl rfl rfl rfl) rfl rfl hl.1 rfl (lv_room (Nat.le_of_ble_eq_true rfl)) dX4_product_16 ⟨Nat.le_of_ble_eq_true rfl, Nat.le_of_ble_eq_true rfl⟩) hP hD hS hA [1, 2, 3, 0] [] rfl rfl rfl (by decide) (fun u16 H locs hc16 hP hD hS => ?_)
  obtain ⟨g16, s16, m16⟩ := u16
  dsimp only at hc16
  obtain ⟨up16, rfl⟩ := hc16
  have hP : va_P D vwCl [(o, .inr (4, [.int cd, .ref wa, .ref sa, .ref ma, .ref tl, .ref gx, .ref gy, .ref tx, .ref tz, .int ln, .ref kx, .ref ky, .int cn, .int ah])), (wa, .inl (cJ, 96, .inr (.inl g16))), (sa, .inl (cI, 16, .inl (upd (upd (upd fs 0 (sg (a.toInt))) 1 (sg (b.toInt))) 2 (sg (a.toInt * b.toInt))))), (ma, .inl (cJ, 12, .inr (.inl m16)))] H := hP
  have hD : va_D A [(o, .inr (4, [.int cd, .ref wa, .ref sa, .ref ma, .ref tl, .ref gx, .ref gy, .ref tx, .ref tz, .int ln, .ref kx, .ref ky, .int cn, .int ah])), (wa, .inl (cJ, 96, .inr (.inl g16))), (sa, .inl (cI, 16, .inl (upd (upd (upd fs 0 (sg (a.toInt))) 1 (sg (b.toInt))) 2 (sg (a.toInt * b.toInt))))), (ma, .inl (cJ, 12, .inr (.inl m16)))] := hD
  refine lv_aload_n hx hb dX4_product_19 rfl (lv_at hl 0 rfl) ?_
  refine lv_iconst (v := 2) hx hb dX4_product_20 (by decide) ?_
  refine lv_iload hx hb dX4_product_21 (lv_at hl 3 rfl) ?_
  refine fin_l (wr := [(ma, .inl (cJ, 12, .inr (.inl m16)))]) (va_runV (As := [.int 2, .int limb]) (rest := []) ⟨hx, hb, hml, hown, hTB⟩ (c_X4_limbOf l D cZ cI cJ o wa sa ma tl gx gy tx tz kx ky cd ln cn ah g16 (upd (upd (upd fs 0 (sg (a.toInt))) 1 (sg (b.toInt))) 2 (sg (a.toInt * b.toInt))) 2 limb (a.toInt * b.toInt) up16.1 (by decide) (hz.new up16) (by omega) _) (cw_V hTB tb_17_13 tb_1_5 tb_17_10 tb_17_11 tb_17_12 nd_X4_limbOf rfl rfl ⟨Nat.le_of_ble_eq_true rfl, Nat.le_of_ble_eq_true rfl⟩) (pre_V (q0 := 0) hK hP hD [0, 1, 2] rfl rfl rfl rfl) rfl rfl hl.1 rfl (lv_room (Nat.le_of_ble_eq_true rfl)) dX4_product_23 ⟨Nat.le_of_ble_eq_true rfl, Nat.le_of_ble_eq_true rfl⟩) hP hD hS hA [0, 1, 2] [3] rfl rfl rfl (by decide) (fun r23 u23 H locs hc23 hP hD hS => ?_)
  have hP : va_P D vwCl [(ma, .inl (cJ, 12, .inr (.inl m16))), (o, .inr (4, [.int u23, .ref wa, .ref sa, .ref ma, .ref tl, .ref gx, .ref gy, .ref tx, .ref tz, .int ln, .ref kx, .ref ky, .int cn, .int ah])), (wa, .inl (cJ, 96, .inr (.inl g16))), (sa, .inl (cI, 16, .inl (upd (upd (upd fs 0 (sg (a.toInt))) 1 (sg (b.toInt))) 2 (sg (a.toInt * b.toInt)))))] H := hP
  have hD : va_D A [(ma, .inl (cJ, 12, .inr (.inl m16))), (o, .inr (4, [.int u23, .ref wa, .ref sa, .ref ma, .ref tl, .ref gx, .ref gy, .ref tx, .ref tz, .int ln, .ref kx, .ref ky, .int cn, .int ah])), (wa, .inl (cJ, 96, .inr (.inl g16))), (sa, .inl (cI, 16, .inl (upd (upd (upd fs 0 (sg (a.toInt))) 1 (sg (b.toInt))) 2 (sg (a.toInt * b.toInt)))))] := hD
  exact hret hP hD hS (u23, g16, upd (upd (upd fs 0 (sg (a.toInt))) 1 (sg (b.toInt))) 2 (sg (a.toInt * b.toInt)), m16) (⟨hc23, (((kept.rf hlim).up up3 (by decide)).up up9 (by decide)).up up16 (by decide)⟩) [1, 2, 3, 0] rfl (by decide) dX4_product_26 (Nat.le_of_ble_eq_true rfl) (Nat.le_of_ble_eq_true rfl)
