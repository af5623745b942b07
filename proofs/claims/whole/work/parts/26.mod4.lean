set_option maxHeartbeats 4000000 in
set_option maxRecDepth 100000 in
theorem c_X4_divisor (l : Launch) (D : va_G) (cZ cI cJ : ClassId) (o wa sa ma tl gx gy tx tz kx ky : Nat) (cd ln cn ah : Int32) (fw : Nat → Int64) (fs : Nat → Int32) (a b : Nat) (hlim : lim fw) (ha : a < 16) (hb9 : b < 16) (ha7 : a ≠ 7) (hb7 : b ≠ 7) (hb8 : b ≠ 8) (hA0 : 0 < num fw a) (hB0 : 0 < num fw b) : Cv l D cZ cI cJ yX4_divisor cX4_divisor 5 { frames := 2, cells := 0, slots := 0, locals := 50 } [.ref o, .int (nI a), .int (nI b)] [(o, .inr (4, [.int cd, .ref wa, .ref sa, .ref ma, .ref tl, .ref gx, .ref gy, .ref tx, .ref tz, .int ln, .ref kx, .ref ky, .int cn, .int ah])), (wa, .inl (cJ, 96, .inr (.inl fw))), (sa, .inl (cI, 16, .inl fs))] (S := (Nat → Int64) × (Nat → Int32)) (fun u => lim u.1 ∧ num u.1 7 = Nat.gcd (num fw a) (num fw b) ∧ (∀ e9, e9 < 16 → e9 ≠ 0 → e9 ≠ 7 → e9 ≠ 8 → num u.1 e9 = num fw e9 ∧ u.2 e9 = fs e9)) (fun u => [(o, .inr (4, [.int cd, .ref wa, .ref sa, .ref ma, .ref tl, .ref gx, .ref gy, .ref tx, .ref tz, .int ln, .ref kx, .ref ky, .int cn, .int ah])), (wa, .inl (cJ, 96, .inr (.inl u.1))), (sa, .inl (cI, 16, .inl u.2))]) := by
  refine Cv.of (by decide) ?_
  intro p e s m args below meth c A Q hB hret hP hD hA
  obtain ⟨hx, hb, hr, hlocks, hml, hown, hnm, hTB, hK⟩ := hB
  have hown : s.vm.findClass RX4 = some m.cls := hown
  have hS : va_S A s.heap s.heap [] := va_S.rf
  have hl := lv_entry ([.ref o, .int (nI a), .int (nI b)]) (n := 5) (Nat.le_of_ble_eq_true rfl)
  rw [lg_entry_eq]
  generalize (lg_sl ([.ref o, .int (nI a), .int (nI b)]) ++ List.replicate (5 - (lg_sl ([.ref o, .int (nI a), .int (nI b)])).length) Slot.unset).toArray = ls at hl ⊢
  have hl : lv_has ls 5 [(0, .ref o), (1, .int (nI a)), (2, .int (nI b))] := hl
  refine lv_aload_n hx hb dX4_divisor_0 rfl (lv_at hl 0 rfl) ?_
  refine lv_bipush (v := 7) hx hb dX4_divisor_1 (by decide) ?_
  refine lv_iload_n hx hb dX4_divisor_3 rfl (lv_at hl 1 rfl) ?_
  refine fin_v (wr := []) (va_runV (As := [.int 7, .int (nI a)]) (rest := []) ⟨hx, hb, hml, hown, hTB⟩ (c_X4_copy l D cZ cI cJ o wa sa ma tl gx gy tx tz kx ky cd ln cn ah fw fs 7 a hlim (by decide) ha ha7.symm _) (cw_V hTB tb_13_17 tb_1_5 tb_13_14 tb_13_15 tb_13_16 nd_X4_copy rfl rfl ⟨Nat.le_of_ble_eq_true rfl, Nat.le_of_ble_eq_true rfl⟩) (pre_V (q0 := 0) hK hP hD [0, 1, 2] rfl rfl rfl rfl) rfl rfl hl.1 rfl (lv_room (Nat.le_of_ble_eq_true rfl)) dX4_divisor_4 ⟨Nat.le_of_ble_eq_true rfl, Nat.le_of_ble_eq_true rfl⟩) hP hD hS hA [0, 1, 2] [] rfl rfl rfl (by decide) (fun u4 H locs hc4 hP hD hS => ?_)
  obtain ⟨g4, s4⟩ := u4
  dsimp only at hc4
  obtain ⟨up4, rfl⟩ := hc4
  have hP : va_P D vwCl [(o, .inr (4, [.int cd, .ref wa, .ref sa, .ref ma, .ref tl, .ref gx, .ref gy, .ref tx, .ref tz, .int ln, .ref kx, .ref ky, .int cn, .int ah])), (wa, .inl (cJ, 96, .inr (.inl g4))), (sa, .inl (cI, 16, .inl (upd fs 7 (fs a))))] H := hP
  have hD : va_D A [(o, .inr (4, [.int cd, .ref wa, .ref sa, .ref ma, .ref tl, .ref gx, .ref gy, .ref tx, .ref tz, .int ln, .ref kx, .ref ky, .int cn, .int ah])), (wa, .inl (cJ, 96, .inr (.inl g4))), (sa, .inl (cI, 16, .inl (upd fs 7 (fs a))))] := hD
  refine lv_aload_n hx hb dX4_divisor_7 rfl (lv_at hl 0 rfl) ?_
  refine lv_bipush (v := 8) hx hb dX4_divisor_8 (by decide) ?_
  refine lv_iload_n hx hb dX4_divisor_10 rfl (lv_at hl 2 rfl) ?_
  refine fin_v (wr := []) (va_runV (As := [.int 8, .int (nI b)]) (rest := []) ⟨hx, hb, hml, hown, hTB⟩ (c_X4_copy l D cZ cI cJ o wa sa ma tl gx gy tx tz kx ky cd ln cn ah g4 (upd fs 7 (fs a)) 8 b up4.1 (by decide) hb9 hb8.symm _) (cw_V hTB tb_13_17 tb_1_5 tb_13_14 tb_13_15 tb_13_16 nd_X4_copy rfl rfl ⟨Nat.le_of_ble_eq_true rfl, Nat.le_of_ble_eq_true rfl⟩) (pre_V (q0 := 0) hK hP hD [0, 1, 2] rfl rfl rfl rfl) rfl rfl hl.1 rfl (lv_room (Nat.le_of_ble_eq_true rfl)) dX4_divisor_11 ⟨Nat.le_of_ble_eq_true rfl, Nat.le_of_ble_eq_true rfl⟩) hP hD hS hA [0, 1, 2] [] rfl rfl rfl (by decide) (fun u11 H locs hc11 hP hD hS => ?_)
  obtain ⟨g11, s11⟩ := u11
  dsimp only at hc11
  obtain ⟨up11, rfl⟩ := hc11
  have hP : va_P D vwCl [(o, .inr (4, [.int cd, .ref wa, .ref sa, .ref ma, .ref tl, .ref gx, .ref gy, .ref tx, .ref tz, .int ln, .ref kx, .ref ky, .int cn, .int ah])), (wa, .inl (cJ, 96, .inr (.inl g11))), (sa, .inl (cI, 16, .inl (upd (upd fs 7 (fs a)) 8 ((upd fs 7 (fs a)) b))))] H := hP
  have hD : va_D A [(o, .inr (4, [.int cd, .ref wa, .ref sa, .ref ma, .ref tl, .ref gx, .ref gy, .ref tx, .ref tz, .int ln, .ref kx, .ref ky, .int cn, .int ah])), (wa, .inl (cJ, 96, .inr (.inl g11))), (sa, .inl (cI, 16, .inl (upd (upd fs 7 (fs a)) 8 ((upd fs 7 (fs a)) b))))] := hD
  refine lv_iconst (v := 0) hx hb dX4_divisor_14 (by decide) ?_
  refine lv_istore_n (lv' := [(3, .int 0), (0, .ref o), (1, .int (nI a)), (2, .int (nI b))]) hx hb dX4_divisor_15 rfl hl (by decide) rfl (fun ls hl => ?_)
  have L52 : ∀ (n52 : Nat) (t L O : Nat) (g : Nat → Int64), (L < n52) → (0 < O) → (L % 2 = 1 ∨ O % 2 = 1) → (num g 7 = L) → (num g 8 = O) → (0 < L) → (Nat.gcd L O * 2 ^ t = Nat.gcd (num fw a) (num fw b)) → (lim g) → (∀ e9, e9 < 16 → e9 ≠ 0 → e9 ≠ 7 → e9 ≠ 8 → num g e9 = num fw e9 ∧ (upd (upd fs 7 (fs a)) 8 ((upd fs 7 (fs a)) b)) e9 = fs e9) → (2 ^ t * L ≤ num fw a) → ∀ (H : Heap) (locs : List Loc), va_P D vwCl [(o, .inr (4, [.int cd, .ref wa, .ref sa, .ref ma, .ref tl, .ref gx, .ref gy, .ref tx, .ref tz, .int ln, .ref kx, .ref ky, .int cn, .int ah])), (wa, .inl (cJ, 96, .inr (.inl g))), (sa, .inl (cI, 16, .inl (upd (upd fs 7 (fs a)) 8 ((upd fs 7 (fs a)) b))))] H → va_D A [(o, .inr (4, [.int cd, .ref wa, .ref sa, .ref ma, .ref tl, .ref gx, .ref gy, .ref tx, .ref tz, .int ln, .ref kx, .ref ky, .int cn, .int ah])), (wa, .inl (cJ, 96, .inr (.inl g))), (sa, .inl (cI, 16, .inl (upd (upd fs 7 (fs a)) 8 ((upd fs 7 (fs a)) b))))] → va_S A s.heap H locs → ∀ (ls : Array Slot), lv_has ls 5 [(0, .ref o), (1, .int (nI a)), (2, .int (nI b)), (3, .int (nI t))] → W p l e { frames := 2, cells := 0, slots := 0, locals := 50 } s m args below meth c H locs 0 0 Q (F0 m 52 ls []) := by
    intro n52
    induction n52 with
    | zero =>
      intro t L O g k1 k5 k0 k2 k3 k4 k6 k7 k8 k9
      exfalso; omega
    | succ n52 ih52 =>
      intro t L O g k1 k5 k0 k2 k3 k4 k6 k7 k8 k9 H locs hP hD hS ls hl
      refine lv_aload_n hx hb dX4_divisor_52 rfl (lv_at hl 0 rfl) ?_
      refine lv_bipush (v := 7) hx hb dX4_divisor_53 (by decide) ?_
      refine vp_callSi (va_runV (As := [.int 7]) (rest := []) ⟨hx, hb, hml, hown, hTB⟩ (c_X4_isEven l D cZ cI cJ o wa sa ma tl gx gy tx tz kx ky cd ln cn ah g 7 (by decide)) (cw_V hTB tb_14_5 tb_1_5 tb_14_2 tb_14_3 tb_14_4 nd_X4_isEven rfl rfl ⟨Nat.le_of_ble_eq_true rfl, Nat.le_of_ble_eq_true rfl⟩) (prr_V (q0 := 0) hK hP [0, 1] rfl rfl rfl) rfl rfl hl.1 rfl (lv_room (Nat.le_of_ble_eq_true rfl)) dX4_divisor_55 ⟨Nat.le_of_ble_eq_true rfl, Nat.le_of_ble_eq_true rfl⟩).run (fun r55 hc55 => ?_)
      subst hc55
      refine lv_if_eq (tgt := 70) hx hb dX4_divisor_58 (by decide) (fun c_58 => ?_) (fun c_58 => ?_)
      · have c_58 := bz_0 c_58
        have ht : t < 192 := by
          have h1 : 2 ^ t * 1 ≤ 2 ^ t * L := Nat.mul_le_mul_left _ k4
          have h2 := num_lt hlim ha
          rcases Nat.lt_or_ge t 192 with z | z
          · exact z
          · have h3 : 2 ^ 192 ≤ 2 ^ t := Nat.pow_le_pow_right (by decide) z
            have h4 : (2 : Nat) ^ 192 = 6277101735386680763835789423207666416102355444464034512896 := rfl
            omega
        have L70 : ∀ (n70 : Nat) (L O : Nat) (g : Nat → Int64) (sx : Nat → Int32), (L + O < n70) → (num g 7 = L) → (num g 8 = O) → (0 < L ∧ L % 2 = 1) → (Nat.gcd L O * 2 ^ t = Nat.gcd (num fw a) (num fw b)) → (lim g) → (∀ e9, e9 < 16 → e9 ≠ 0 → e9 ≠ 7 → e9 ≠ 8 → num g e9 = num fw e9 ∧ sx e9 = fs e9) → ∀ (H : Heap) (locs : List Loc), va_P D vwCl [(o, .inr (4, [.int cd, .ref wa, .ref sa, .ref ma, .ref tl, .ref gx, .ref gy, .ref tx, .ref tz, .int ln, .ref kx, .ref ky, .int cn, .int ah])), (wa, .inl (cJ, 96, .inr (.inl g))), (sa, .inl (cI, 16, .inl sx))] H → va_D A [(o, .inr (4, [.int cd, .ref wa, .ref sa, .ref ma, .ref tl, .ref gx, .ref gy, .ref tx, .ref tz, .int ln, .ref kx, .ref ky, .int cn, .int ah])), (wa, .inl (cJ, 96, .inr (.inl g))), (sa, .inl (cI, 16, .inl sx))] → va_S A s.heap H locs → ∀ (ls : Array Slot), lv_has ls 5 [(0, .ref o), (1, .int (nI a)), (2, .int (nI b)), (3, .int (nI t))] → W p l e { frames := 2, cells := 0, slots := 0, locals := 50 } s m args below meth c H locs 0 0 Q (F0 m 70 ls []) := by
          intro n70
          induction n70 with
          | zero =>
            intro L O g sx k1 k2 k3 k4 k6 k7 k8
            exfalso; omega
          | succ n70 ih70 =>
            intro L O g sx k1 k2 k3 k4 k6 k7 k8 H locs hP hD hS ls hl
            refine lv_aload_n hx hb dX4_divisor_70 rfl (lv_at hl 0 rfl) ?_
            refine lv_bipush (v := 8) hx hb dX4_divisor_71 (by decide) ?_
            refine vp_callSi (va_runV (As := [.int 8]) (rest := []) ⟨hx, hb, hml, hown, hTB⟩ (c_X4_isNothing l D cZ cI cJ o wa sa ma tl gx gy tx tz kx ky cd ln cn ah g 8 (by decide)) (cw_V hTB tb_7_18 tb_1_5 tb_7_15 tb_7_16 tb_7_17 nd_X4_isNothing rfl rfl ⟨Nat.le_of_ble_eq_true rfl, Nat.le_of_ble_eq_true rfl⟩) (prr_V (q0 := 0) hK hP [0, 1] rfl rfl rfl) rfl rfl hl.1 rfl (lv_room (Nat.le_of_ble_eq_true rfl)) dX4_divisor_73 ⟨Nat.le_of_ble_eq_true rfl, Nat.le_of_ble_eq_true rfl⟩).run (fun r73 hc73 => ?_)
            subst hc73
            refine lv_if_ne (tgt := 144) hx hb dX4_divisor_76 (by decide) (fun c_76 => ?_) (fun c_76 => ?_)
            · have c_76 := bz_1 c_76
              rw [k3] at c_76
              have g9 : L * 2 ^ t = Nat.gcd (num fw a) (num fw b) := by rw [c_76, Nat.gcd_zero_right] at k6; exact k6
              have g8 : Nat.gcd (num fw a) (num fw b) ≤ num fw a := Nat.gcd_le_left _ hA0
              have h0 := num_lt hlim ha
              refine lv_iconst (v := 0) hx hb dX4_divisor_144 (by decide) ?_
              refine lv_istore (lv' := [(4, .int 0), (0, .ref o), (1, .int (nI a)), (2, .int (nI b)), (3, .int (nI t))]) hx hb dX4_divisor_145 hl (by decide) rfl (fun ls hl => ?_)
              have L147 : ∀ (n147 : Nat) (j : Nat) (g : Nat → Int64), (t < j + n147 ∧ j ≤ t) → (num g 7 = L * 2 ^ j) → (lim g) → (∀ e9, e9 < 16 → e9 ≠ 0 → e9 ≠ 7 → e9 ≠ 8 → num g e9 = num fw e9 ∧ sx e9 = fs e9) → ∀ (H : Heap) (locs : List Loc), va_P D vwCl [(o, .inr (4, [.int cd, .ref wa, .ref sa, .ref ma, .ref tl, .ref gx, .ref gy, .ref tx, .ref tz, .int ln, .ref kx, .ref ky, .int cn, .int ah])), (wa, .inl (cJ, 96, .inr (.inl g))), (sa, .inl (cI, 16, .inl sx))] H → va_D A [(o, .inr (4, [.int cd, .ref wa, .ref sa, .ref ma, .ref tl, .ref gx, .ref gy, .ref tx, .ref tz, .int ln, .ref kx, .ref ky, .int cn, .int ah])), (wa, .inl (cJ, 96, .inr (.inl g))), (sa, .inl (cI, 16, .inl sx))] → va_S A s.heap H locs → ∀ (ls : Array Slot), lv_has ls 5 [(0, .ref o), (1, .int (nI a)), (2, .int (nI b)), (3, .int (nI t)), (4, .int (nI j))] → W p l e { frames := 2, cells := 0, slots := 0, locals := 50 } s m args below meth c H locs 0 0 Q (F0 m 147 ls []) := by
                intro n147
                induction n147 with
                | zero =>
                  intro j g y1 y2 y7 y8
                  exfalso; omega
                | succ n147 ih147 =>
                  intro j g y1 y2 y7 y8 H locs hP hD hS ls hl
                  refine lv_iload hx hb dX4_divisor_147 (lv_at hl 4 rfl) ?_
                  refine lv_iload_n hx hb dX4_divisor_149 rfl (lv_at hl 3 rfl) ?_
                  refine lv_icmp_ge (tgt := 165) hx hb dX4_divisor_150 (by decide) (fun c_150 => ?_) (fun c_150 => ?_)
                  · exact hret hP hD hS (g, sx) (by have hjt : j = t := (by have := (nI_leI (a := t) (b := j) (by omega) (by omega)).mp c_150; omega); subst hjt; exact ⟨y7, (by rw [y2]; exact g9), y8⟩) [0, 1, 2] rfl (by decide) dX4_divisor_165 (Nat.le_of_ble_eq_true rfl) (Nat.le_of_ble_eq_true rfl)
                  · refine lv_aload_n hx hb dX4_divisor_153 rfl (lv_at hl 0 rfl) ?_
                    refine lv_bipush (v := 7) hx hb dX4_divisor_154 (by decide) ?_
                    refine fin_v (wr := [(sa, .inl (cI, 16, .inl sx))]) (va_runV (As := [.int 7]) (rest := []) ⟨hx, hb, hml, hown, hTB⟩ (c_X4_twice l D cZ cI cJ o wa sa ma tl gx gy tx tz kx ky cd ln cn ah g 7 y7 (by decide) (by rw [y2]; have h5 : ¬ t ≤ j := (fun q => c_150 ((nI_leI (by omega) (by omega)).mpr q)); have h6 : L * 2 ^ (j + 1) ≤ L * 2 ^ t := Nat.mul_le_mul_left _ (Nat.pow_le_pow_right (by decide) (by omega)); have h7 := pw_s L j; omega) _) (cw_V hTB tb_14_13 tb_1_5 tb_14_10 tb_14_11 tb_14_12 nd_X4_twice rfl rfl ⟨Nat.le_of_ble_eq_true rfl, Nat.le_of_ble_eq_true rfl⟩) (pre_V (q0 := 0) hK hP hD [0, 1] rfl rfl rfl rfl) rfl rfl hl.1 rfl (lv_room (Nat.le_of_ble_eq_true rfl)) dX4_divisor_156 ⟨Nat.le_of_ble_eq_true rfl, Nat.le_of_ble_eq_true rfl⟩) hP hD hS hA [0, 1] [2] rfl rfl rfl (by decide) (fun u156 H locs hc156 hP hD hS => ?_)
                    have hP : va_P D vwCl [(sa, .inl (cI, 16, .inl sx)), (o, .inr (4, [.int cd, .ref wa, .ref sa, .ref ma, .ref tl, .ref gx, .ref gy, .ref tx, .ref tz, .int ln, .ref kx, .ref ky, .int cn, .int ah])), (wa, .inl (cJ, 96, .inr (.inl u156)))] H := hP
                    have hD : va_D A [(sa, .inl (cI, 16, .inl sx)), (o, .inr (4, [.int cd, .ref wa, .ref sa, .ref ma, .ref tl, .ref gx, .ref gy, .ref tx, .ref tz, .int ln, .ref kx, .ref ky, .int cn, .int ah])), (wa, .inl (cJ, 96, .inr (.inl u156)))] := hD
                    obtain ⟨i4_1, ei4_1⟩ : ∃ y : Int32, y = (nI j) + 1 := ⟨_, rfl⟩
                    refine lv_iinc (v := i4_1) (lv' := [(4, .int i4_1), (0, .ref o), (1, .int (nI a)), (2, .int (nI b)), (3, .int (nI t))]) hx hb dX4_divisor_159 hl (k := 4) rfl (by rw [ei4_1]; rfl) (by decide) rfl (fun ls hl => ?_)
                    refine lv_goto (tgt := 147) hx hb dX4_divisor_162 (by decide) ?_
                    have q4 : i4_1 = nI (j + 1) := by rw [ei4_1]; exact nI_1 j
                    subst q4
                    refine ih147 (j + 1) u156 ?_ ?_ ?_ ?_ _ _ (hP.sub [1, 2, 0] rfl) (hD.sub [1, 2, 0] (by decide) rfl) hS _ (lv_sub hl [1, 2, 3, 4, 0] rfl)
                    · have : ¬ t ≤ j := fun q => c_150 ((nI_leI (by omega) (by omega)).mpr q)
                      omega
                    · rw [hc156.2.1, y2, pw_s]
                    · exact hc156.1
                    · intro e9 h1 h2 h3 h4
                      exact ⟨by rw [hc156.other h3]; exact (y8 e9 h1 h2 h3 h4).1, (y8 e9 h1 h2 h3 h4).2⟩
              refine L147 (t + 1) 0 g ?_ ?_ ?_ ?_ _ _ hP hD hS _ (lv_sub hl [1, 2, 3, 4, 0] rfl)
              · omega
              · rw [Nat.pow_zero, Nat.mul_one]; exact k2
              · exact k7
              · exact k8
            · have c_76 := bz_0 c_76
              have L79 : ∀ (n79 : Nat) (O : Nat) (g : Nat → Int64), (O < n79 ∧ L + O < n70 + 1) → (0 < O) → (num g 7 = L) → (num g 8 = O) → (0 < L ∧ L % 2 = 1) → (Nat.gcd L O * 2 ^ t = Nat.gcd (num fw a) (num fw b)) → (lim g) → (∀ e9, e9 < 16 → e9 ≠ 0 → e9 ≠ 7 → e9 ≠ 8 → num g e9 = num fw e9 ∧ sx e9 = fs e9) → ∀ (H : Heap) (locs : List Loc), va_P D vwCl [(o, .inr (4, [.int cd, .ref wa, .ref sa, .ref ma, .ref tl, .ref gx, .ref gy, .ref tx, .ref tz, .int ln, .ref kx, .ref ky, .int cn, .int ah])), (wa, .inl (cJ, 96, .inr (.inl g))), (sa, .inl (cI, 16, .inl sx))] H → va_D A [(o, .inr (4, [.int cd, .ref wa, .ref sa, .ref ma, .ref tl, .ref gx, .ref gy, .ref tx, .ref tz, .int ln, .ref kx, .ref ky, .int cn, .int ah])), (wa, .inl (cJ, 96, .inr (.inl g))), (sa, .inl (cI, 16, .inl sx))] → va_S A s.heap H locs → ∀ (ls : Array Slot), lv_has ls 5 [(0, .ref o), (1, .int (nI a)), (2, .int (nI b)), (3, .int (nI t))] → W p l e { frames := 2, cells := 0, slots := 0, locals := 50 } s m args below meth c H locs 0 0 Q (F0 m 79 ls []) := by
                intro n79
                induction n79 with
                | zero =>
                  intro O g k1 k5 k2 k3 k4 k6 k7 k8
                  exfalso; omega
                | succ n79 ih79 =>
                  intro O g k1 k5 k2 k3 k4 k6 k7 k8 H locs hP hD hS ls hl
                  refine lv_aload_n hx hb dX4_divisor_79 rfl (lv_at hl 0 rfl) ?_
                  refine lv_bipush (v := 8) hx hb dX4_divisor_80 (by decide) ?_
                  refine vp_callSi (va_runV (As := [.int 8]) (rest := []) ⟨hx, hb, hml, hown, hTB⟩ (c_X4_isEven l D cZ cI cJ o wa sa ma tl gx gy tx tz kx ky cd ln cn ah g 8 (by decide)) (cw_V hTB tb_14_5 tb_1_5 tb_14_2 tb_14_3 tb_14_4 nd_X4_isEven rfl rfl ⟨Nat.le_of_ble_eq_true rfl, Nat.le_of_ble_eq_true rfl⟩) (prr_V (q0 := 0) hK hP [0, 1] rfl rfl rfl) rfl rfl hl.1 rfl (lv_room (Nat.le_of_ble_eq_true rfl)) dX4_divisor_82 ⟨Nat.le_of_ble_eq_true rfl, Nat.le_of_ble_eq_true rfl⟩).run (fun r82 hc82 => ?_)
                  subst hc82
                  refine lv_if_eq (tgt := 97) hx hb dX4_divisor_85 (by decide) (fun c_85 => ?_) (fun c_85 => ?_)
                  · have c_85 := bz_0 c_85
                    refine lv_aload_n hx hb dX4_divisor_97 rfl (lv_at hl 0 rfl) ?_
                    refine lv_bipush (v := 7) hx hb dX4_divisor_98 (by decide) ?_
                    refine lv_bipush (v := 8) hx hb dX4_divisor_100 (by decide) ?_
                    refine vp_callSi (va_runV (As := [.int 7, .int 8]) (rest := []) ⟨hx, hb, hml, hown, hTB⟩ (c_X4_compare l D cZ cI cJ o wa sa ma tl gx gy tx tz kx ky cd ln cn ah g 7 8 k7 (by decide) (by decide)) (cw_V hTB tb_7_14 tb_1_5 tb_7_11 tb_7_12 tb_7_13 nd_X4_compare rfl rfl ⟨Nat.le_of_ble_eq_true rfl, Nat.le_of_ble_eq_true rfl⟩) (prr_V (q0 := 0) hK hP [0, 1] rfl rfl rfl) rfl rfl hl.1 rfl (lv_room (Nat.le_of_ble_eq_true rfl)) dX4_divisor_102 ⟨Nat.le_of_ble_eq_true rfl, Nat.le_of_ble_eq_true rfl⟩).run (fun r102 hc102 => ?_)
                    subst hc102
                    refine lv_if_le (tgt := 130) hx hb dX4_divisor_105 (by decide) (fun c_105 => ?_) (fun c_105 => ?_)
                    · have c_105 := cm_let c_105
                      refine lv_aload_n hx hb dX4_divisor_130 rfl (lv_at hl 0 rfl) ?_
                      refine lv_bipush (v := 8) hx hb dX4_divisor_131 (by decide) ?_
                      refine lv_bipush (v := 8) hx hb dX4_divisor_133 (by decide) ?_
                      refine lv_bipush (v := 7) hx hb dX4_divisor_135 (by decide) ?_
                      refine lv_iconst (v := 0) hx hb dX4_divisor_137 (by decide) ?_
                      refine fin_v (wr := [(sa, .inl (cI, 16, .inl sx))]) (va_runV (As := [.int 8, .int 8, .int 7, .int 0]) (rest := []) ⟨hx, hb, hml, hown, hTB⟩ (c_X4_change_m l D cZ cI cJ o wa sa ma tl gx gy tx tz kx ky cd ln cn ah g (8) (8) (7) k7 (by decide) (by decide) (by decide) (by rw [k2, k3] at c_105; rw [k2, k3]; omega) _) (cw_V hTB tb_7_10 tb_1_5 tb_7_7 tb_7_8 tb_7_9 nd_X4_change rfl rfl ⟨Nat.le_of_ble_eq_true rfl, Nat.le_of_ble_eq_true rfl⟩) (pre_V (q0 := 0) hK hP hD [0, 1] rfl rfl rfl rfl) rfl rfl hl.1 rfl (lv_room (Nat.le_of_ble_eq_true rfl)) dX4_divisor_138 ⟨Nat.le_of_ble_eq_true rfl, Nat.le_of_ble_eq_true rfl⟩) hP hD hS hA [0, 1] [2] rfl rfl rfl (by decide) (fun u138 H locs hc138 hP hD hS => ?_)
                      have hP : va_P D vwCl [(sa, .inl (cI, 16, .inl sx)), (o, .inr (4, [.int cd, .ref wa, .ref sa, .ref ma, .ref tl, .ref gx, .ref gy, .ref tx, .ref tz, .int ln, .ref kx, .ref ky, .int cn, .int ah])), (wa, .inl (cJ, 96, .inr (.inl u138)))] H := hP
                      have hD : va_D A [(sa, .inl (cI, 16, .inl sx)), (o, .inr (4, [.int cd, .ref wa, .ref sa, .ref ma, .ref tl, .ref gx, .ref gy, .ref tx, .ref tz, .int ln, .ref kx, .ref ky, .int cn, .int ah])), (wa, .inl (cJ, 96, .inr (.inl u138)))] := hD
                      refine lv_goto (tgt := 70) hx hb dX4_divisor_141 (by decide) ?_
                      refine ih70 L (O - L) u138 (sx) ?_ ?_ ?_ ?_ ?_ ?_ ?_ _ _ (hP.sub [1, 2, 0] rfl) (hD.sub [1, 2, 0] (by decide) rfl) hS _ (lv_sub hl [0, 1, 2, 3] rfl)
                      · rw [k2, k3] at c_105
                        omega
                      · rw [hc138.other (by decide), k2]
                      · rw [hc138.2.1, k2, k3]
                      · exact k4
                      · rw [k2, k3] at c_105
                        rw [Nat.gcd_sub_self_right (by omega)]; exact k6
                      · exact hc138.1
                      · intro e9 h1 h2 h3 h4
                        exact ⟨by rw [hc138.other (by omega)]; exact (k8 e9 h1 h2 h3 h4).1, (k8 e9 h1 h2 h3 h4).2⟩
                    · have c_105 := cm_lef c_105
                      refine lv_aload_n hx hb dX4_divisor_108 rfl (lv_at hl 0 rfl) ?_
                      refine lv_iconst (v := 0) hx hb dX4_divisor_109 (by decide) ?_
                      refine lv_bipush (v := 7) hx hb dX4_divisor_110 (by decide) ?_
                      refine fin_v (wr := []) (va_runV (As := [.int 0, .int 7]) (rest := []) ⟨hx, hb, hml, hown, hTB⟩ (c_X4_copy l D cZ cI cJ o wa sa ma tl gx gy tx tz kx ky cd ln cn ah g sx 0 7 k7 (by decide) (by decide) (by decide) _) (cw_V hTB tb_13_17 tb_1_5 tb_13_14 tb_13_15 tb_13_16 nd_X4_copy rfl rfl ⟨Nat.le_of_ble_eq_true rfl, Nat.le_of_ble_eq_true rfl⟩) (pre_V (q0 := 0) hK hP hD [0, 1, 2] rfl rfl rfl rfl) rfl rfl hl.1 rfl (lv_room (Nat.le_of_ble_eq_true rfl)) dX4_divisor_112 ⟨Nat.le_of_ble_eq_true rfl, Nat.le_of_ble_eq_true rfl⟩) hP hD hS hA [0, 1, 2] [] rfl rfl rfl (by decide) (fun u112 H locs hc112 hP hD hS => ?_)
                      obtain ⟨g112, s112⟩ := u112
                      dsimp only at hc112
                      obtain ⟨up112, rfl⟩ := hc112
                      have hP : va_P D vwCl [(o, .inr (4, [.int cd, .ref wa, .ref sa, .ref ma, .ref tl, .ref gx, .ref gy, .ref tx, .ref tz, .int ln, .ref kx, .ref ky, .int cn, .int ah])), (wa, .inl (cJ, 96, .inr (.inl g112))), (sa, .inl (cI, 16, .inl (upd sx 0 (sx 7))))] H := hP
                      have hD : va_D A [(o, .inr (4, [.int cd, .ref wa, .ref sa, .ref ma, .ref tl, .ref gx, .ref gy, .ref tx, .ref tz, .int ln, .ref kx, .ref ky, .int cn, .int ah])), (wa, .inl (cJ, 96, .inr (.inl g112))), (sa, .inl (cI, 16, .inl (upd sx 0 (sx 7))))] := hD
                      refine lv_aload_n hx hb dX4_divisor_115 rfl (lv_at hl 0 rfl) ?_
                      refine lv_bipush (v := 7) hx hb dX4_divisor_116 (by decide) ?_
                      refine lv_bipush (v := 8) hx hb dX4_divisor_118 (by decide) ?_
                      refine fin_v (wr := []) (va_runV (As := [.int 7, .int 8]) (rest := []) ⟨hx, hb, hml, hown, hTB⟩ (c_X4_copy l D cZ cI cJ o wa sa ma tl gx gy tx tz kx ky cd ln cn ah g112 (upd sx 0 (sx 7)) 7 8 up112.1 (by decide) (by decide) (by decide) _) (cw_V hTB tb_13_17 tb_1_5 tb_13_14 tb_13_15 tb_13_16 nd_X4_copy rfl rfl ⟨Nat.le_of_ble_eq_true rfl, Nat.le_of_ble_eq_true rfl⟩) (pre_V (q0 := 0) hK hP hD [0, 1, 2] rfl rfl rfl rfl) rfl rfl hl.1 rfl (lv_room (Nat.le_of_ble_eq_true rfl)) dX4_divisor_120 ⟨Nat.le_of_ble_eq_true rfl, Nat.le_of_ble_eq_true rfl⟩) hP hD hS hA [0, 1, 2] [] rfl rfl rfl (by decide) (fun u120 H locs hc120 hP hD hS => ?_)
                      obtain ⟨g120, s120⟩ := u120
                      dsimp only at hc120
                      obtain ⟨up120, rfl⟩ := hc120
                      have hP : va_P D vwCl [(o, .inr (4, [.int cd, .ref wa, .ref sa, .ref ma, .ref tl, .ref gx, .ref gy, .ref tx, .ref tz, .int ln, .ref kx, .ref ky, .int cn, .int ah])), (wa, .inl (cJ, 96, .inr (.inl g120))), (sa, .inl (cI, 16, .inl (upd (upd sx 0 (sx 7)) 7 ((upd sx 0 (sx 7)) 8))))] H := hP
                      have hD : va_D A [(o, .inr (4, [.int cd, .ref wa, .ref sa, .ref ma, .ref tl, .ref gx, .ref gy, .ref tx, .ref tz, .int ln, .ref kx, .ref ky, .int cn, .int ah])), (wa, .inl (cJ, 96, .inr (.inl g120))), (sa, .inl (cI, 16, .inl (upd (upd sx 0 (sx 7)) 7 ((upd sx 0 (sx 7)) 8))))] := hD
                      refine lv_aload_n hx hb dX4_divisor_123 rfl (lv_at hl 0 rfl) ?_
                      refine lv_bipush (v := 8) hx hb dX4_divisor_124 (by decide) ?_
                      refine lv_iconst (v := 0) hx hb dX4_divisor_126 (by decide) ?_
                      refine fin_v (wr := []) (va_runV (As := [.int 8, .int 0]) (rest := []) ⟨hx, hb, hml, hown, hTB⟩ (c_X4_copy l D cZ cI cJ o wa sa ma tl gx gy tx tz kx ky cd ln cn ah g120 (upd (upd sx 0 (sx 7)) 7 ((upd sx 0 (sx 7)) 8)) 8 0 up120.1 (by decide) (by decide) (by decide) _) (cw_V hTB tb_13_17 tb_1_5 tb_13_14 tb_13_15 tb_13_16 nd_X4_copy rfl rfl ⟨Nat.le_of_ble_eq_true rfl, Nat.le_of_ble_eq_true rfl⟩) (pre_V (q0 := 0) hK hP hD [0, 1, 2] rfl rfl rfl rfl) rfl rfl hl.1 rfl (lv_room (Nat.le_of_ble_eq_true rfl)) dX4_divisor_127 ⟨Nat.le_of_ble_eq_true rfl, Nat.le_of_ble_eq_true rfl⟩) hP hD hS hA [0, 1, 2] [] rfl rfl rfl (by decide) (fun u127 H locs hc127 hP hD hS => ?_)
                      obtain ⟨g127, s127⟩ := u127
                      dsimp only at hc127
                      obtain ⟨up127, rfl⟩ := hc127
                      have hP : va_P D vwCl [(o, .inr (4, [.int cd, .ref wa, .ref sa, .ref ma, .ref tl, .ref gx, .ref gy, .ref tx, .ref tz, .int ln, .ref kx, .ref ky, .int cn, .int ah])), (wa, .inl (cJ, 96, .inr (.inl g127))), (sa, .inl (cI, 16, .inl (upd (upd (upd sx 0 (sx 7)) 7 ((upd sx 0 (sx 7)) 8)) 8 ((upd (upd sx 0 (sx 7)) 7 ((upd sx 0 (sx 7)) 8)) 0))))] H := hP
                      have hD : va_D A [(o, .inr (4, [.int cd, .ref wa, .ref sa, .ref ma, .ref tl, .ref gx, .ref gy, .ref tx, .ref tz, .int ln, .ref kx, .ref ky, .int cn, .int ah])), (wa, .inl (cJ, 96, .inr (.inl g127))), (sa, .inl (cI, 16, .inl (upd (upd (upd sx 0 (sx 7)) 7 ((upd sx 0 (sx 7)) 8)) 8 ((upd (upd sx 0 (sx 7)) 7 ((upd sx 0 (sx 7)) 8)) 0))))] := hD
                      refine lv_aload_n hx hb dX4_divisor_130 rfl (lv_at hl 0 rfl) ?_
                      refine lv_bipush (v := 8) hx hb dX4_divisor_131 (by decide) ?_
                      refine lv_bipush (v := 8) hx hb dX4_divisor_133 (by decide) ?_
                      refine lv_bipush (v := 7) hx hb dX4_divisor_135 (by decide) ?_
                      refine lv_iconst (v := 0) hx hb dX4_divisor_137 (by decide) ?_
                      refine fin_v (wr := [(sa, .inl (cI, 16, .inl (upd (upd (upd sx 0 (sx 7)) 7 ((upd sx 0 (sx 7)) 8)) 8 ((upd (upd sx 0 (sx 7)) 7 ((upd sx 0 (sx 7)) 8)) 0))))]) (va_runV (As := [.int 8, .int 8, .int 7, .int 0]) (rest := []) ⟨hx, hb, hml, hown, hTB⟩ (c_X4_change_m l D cZ cI cJ o wa sa ma tl gx gy tx tz kx ky cd ln cn ah g127 (8) (8) (7) up127.1 (by decide) (by decide) (by decide) (by rw [k2, k3] at c_105; rw [up127.other (by decide), up120.2.1, up112.other (by decide), k3, up127.2.1, up120.other (by decide), up112.2.1, k2]; omega) _) (cw_V hTB tb_7_10 tb_1_5 tb_7_7 tb_7_8 tb_7_9 nd_X4_change rfl rfl ⟨Nat.le_of_ble_eq_true rfl, Nat.le_of_ble_eq_true rfl⟩) (pre_V (q0 := 0) hK hP hD [0, 1] rfl rfl rfl rfl) rfl rfl hl.1 rfl (lv_room (Nat.le_of_ble_eq_true rfl)) dX4_divisor_138 ⟨Nat.le_of_ble_eq_true rfl, Nat.le_of_ble_eq_true rfl⟩) hP hD hS hA [0, 1] [2] rfl rfl rfl (by decide) (fun u138 H locs hc138 hP hD hS => ?_)
                      have hP : va_P D vwCl [(sa, .inl (cI, 16, .inl (upd (upd (upd sx 0 (sx 7)) 7 ((upd sx 0 (sx 7)) 8)) 8 ((upd (upd sx 0 (sx 7)) 7 ((upd sx 0 (sx 7)) 8)) 0)))), (o, .inr (4, [.int cd, .ref wa, .ref sa, .ref ma, .ref tl, .ref gx, .ref gy, .ref tx, .ref tz, .int ln, .ref kx, .ref ky, .int cn, .int ah])), (wa, .inl (cJ, 96, .inr (.inl u138)))] H := hP
                      have hD : va_D A [(sa, .inl (cI, 16, .inl (upd (upd (upd sx 0 (sx 7)) 7 ((upd sx 0 (sx 7)) 8)) 8 ((upd (upd sx 0 (sx 7)) 7 ((upd sx 0 (sx 7)) 8)) 0)))), (o, .inr (4, [.int cd, .ref wa, .ref sa, .ref ma, .ref tl, .ref gx, .ref gy, .ref tx, .ref tz, .int ln, .ref kx, .ref ky, .int cn, .int ah])), (wa, .inl (cJ, 96, .inr (.inl u138)))] := hD
                      refine lv_goto (tgt := 70) hx hb dX4_divisor_141 (by decide) ?_
                      refine ih70 O (L - O) u138 (upd (upd (upd sx 0 (sx 7)) 7 ((upd sx 0 (sx 7)) 8)) 8 ((upd (upd sx 0 (sx 7)) 7 ((upd sx 0 (sx 7)) 8)) 0)) ?_ ?_ ?_ ?_ ?_ ?_ ?_ _ _ (hP.sub [1, 2, 0] rfl) (hD.sub [1, 2, 0] (by decide) rfl) hS _ (lv_sub hl [0, 1, 2, 3] rfl)
                      · rw [k2, k3] at c_105
                        omega
                      · have n7 : num g120 7 = O := by rw [up120.2.1, up112.other (by decide), k3]
                        have n8 : num g127 8 = L := by rw [up127.2.1, up120.other (by decide), up112.2.1, k2]
                        have n77 : num g127 7 = O := by rw [up127.other (by decide), n7]
                        rw [hc138.other (by decide), n77]
                      · have n7 : num g120 7 = O := by rw [up120.2.1, up112.other (by decide), k3]
                        have n8 : num g127 8 = L := by rw [up127.2.1, up120.other (by decide), up112.2.1, k2]
                        have n77 : num g127 7 = O := by rw [up127.other (by decide), n7]
                        rw [hc138.2.1, n8, n77]
                      · rw [k2, k3] at c_105
                        omega
                      · rw [k2, k3] at c_105
                        rw [Nat.gcd_sub_self_right (by omega), Nat.gcd_comm]; exact k6
                      · exact hc138.1
                      · intro e9 h1 h2 h3 h4
                        exact ⟨by rw [hc138.other h4, up127.other h4, up120.other h3, up112.other h2]; exact (k8 e9 h1 h2 h3 h4).1, by rw [pk_un h4, pk_un h3, pk_un h2]; exact (k8 e9 h1 h2 h3 h4).2⟩
                  · have c_85 := bz_1 c_85
                    refine lv_aload_n hx hb dX4_divisor_88 rfl (lv_at hl 0 rfl) ?_
                    refine lv_bipush (v := 8) hx hb dX4_divisor_89 (by decide) ?_
                    refine fin_v (wr := [(sa, .inl (cI, 16, .inl sx))]) (va_runV (As := [.int 8]) (rest := []) ⟨hx, hb, hml, hown, hTB⟩ (c_X4_halve l D cZ cI cJ o wa sa ma tl gx gy tx tz kx ky cd ln cn ah g 8 k7 (by decide) _) (cw_V hTB tb_14_9 tb_1_5 tb_14_6 tb_14_7 tb_14_8 nd_X4_halve rfl rfl ⟨Nat.le_of_ble_eq_true rfl, Nat.le_of_ble_eq_true rfl⟩) (pre_V (q0 := 0) hK hP hD [0, 1] rfl rfl rfl rfl) rfl rfl hl.1 rfl (lv_room (Nat.le_of_ble_eq_true rfl)) dX4_divisor_91 ⟨Nat.le_of_ble_eq_true rfl, Nat.le_of_ble_eq_true rfl⟩) hP hD hS hA [0, 1] [2] rfl rfl rfl (by decide) (fun u91 H locs hc91 hP hD hS => ?_)
                    have hP : va_P D vwCl [(sa, .inl (cI, 16, .inl sx)), (o, .inr (4, [.int cd, .ref wa, .ref sa, .ref ma, .ref tl, .ref gx, .ref gy, .ref tx, .ref tz, .int ln, .ref kx, .ref ky, .int cn, .int ah])), (wa, .inl (cJ, 96, .inr (.inl u91)))] H := hP
                    have hD : va_D A [(sa, .inl (cI, 16, .inl sx)), (o, .inr (4, [.int cd, .ref wa, .ref sa, .ref ma, .ref tl, .ref gx, .ref gy, .ref tx, .ref tz, .int ln, .ref kx, .ref ky, .int cn, .int ah])), (wa, .inl (cJ, 96, .inr (.inl u91)))] := hD
                    refine lv_goto (tgt := 79) hx hb dX4_divisor_94 (by decide) ?_
                    refine ih79 (O / 2) u91 ?_ ?_ ?_ ?_ ?_ ?_ ?_ ?_ _ _ (hP.sub [1, 2, 0] rfl) (hD.sub [1, 2, 0] (by decide) rfl) hS _ (lv_sub hl [0, 1, 2, 3] rfl)
                    · rw [k3] at c_85; omega
                    · rw [k3] at c_85; omega
                    · rw [hc91.other (by decide), k2]
                    · rw [hc91.2.1, k3]
                    · exact k4
                    · rw [k3] at c_85; rw [g_oe k4.2 c_85]; exact k6
                    · exact hc91.1
                    · intro e9 h1 h2 h3 h4
                      exact ⟨by rw [hc91.other (by omega)]; exact (k8 e9 h1 h2 h3 h4).1, (k8 e9 h1 h2 h3 h4).2⟩
              refine L79 (O + 1) O g ?_ ?_ ?_ ?_ ?_ ?_ ?_ ?_ _ _ hP hD hS _ (lv_sub hl [0, 1, 2, 3] rfl)
              · omega
              · rw [k3] at c_76; omega
              · exact k2
              · exact k3
              · exact k4
              · exact k6
              · exact k7
              · exact k8
        refine L70 (L + O + 1) L O g (upd (upd fs 7 (fs a)) 8 ((upd fs 7 (fs a)) b)) ?_ ?_ ?_ ?_ ?_ ?_ ?_ _ _ hP hD hS _ (lv_sub hl [0, 1, 2, 3] rfl)
        · omega
        · exact k2
        · exact k3
        · rw [k2] at c_58; exact ⟨k4, by omega⟩
        · exact k6
        · exact k7
        · exact k8
      · have c_58 := bz_1 c_58
        refine lv_aload_n hx hb dX4_divisor_61 rfl (lv_at hl 0 rfl) ?_
        refine lv_bipush (v := 7) hx hb dX4_divisor_62 (by decide) ?_
        refine fin_v (wr := [(sa, .inl (cI, 16, .inl (upd (upd fs 7 (fs a)) 8 ((upd fs 7 (fs a)) b))))]) (va_runV (As := [.int 7]) (rest := []) ⟨hx, hb, hml, hown, hTB⟩ (c_X4_halve l D cZ cI cJ o wa sa ma tl gx gy tx tz kx ky cd ln cn ah g 7 k7 (by decide) _) (cw_V hTB tb_14_9 tb_1_5 tb_14_6 tb_14_7 tb_14_8 nd_X4_halve rfl rfl ⟨Nat.le_of_ble_eq_true rfl, Nat.le_of_ble_eq_true rfl⟩) (pre_V (q0 := 0) hK hP hD [0, 1] rfl rfl rfl rfl) rfl rfl hl.1 rfl (lv_room (Nat.le_of_ble_eq_true rfl)) dX4_divisor_64 ⟨Nat.le_of_ble_eq_true rfl, Nat.le_of_ble_eq_true rfl⟩) hP hD hS hA [0, 1] [2] rfl rfl rfl (by decide) (fun u64 H locs hc64 hP hD hS => ?_)
        have hP : va_P D vwCl [(sa, .inl (cI, 16, .inl (upd (upd fs 7 (fs a)) 8 ((upd fs 7 (fs a)) b)))), (o, .inr (4, [.int cd, .ref wa, .ref sa, .ref ma, .ref tl, .ref gx, .ref gy, .ref tx, .ref tz, .int ln, .ref kx, .ref ky, .int cn, .int ah])), (wa, .inl (cJ, 96, .inr (.inl u64)))] H := hP
        have hD : va_D A [(sa, .inl (cI, 16, .inl (upd (upd fs 7 (fs a)) 8 ((upd fs 7 (fs a)) b)))), (o, .inr (4, [.int cd, .ref wa, .ref sa, .ref ma, .ref tl, .ref gx, .ref gy, .ref tx, .ref tz, .int ln, .ref kx, .ref ky, .int cn, .int ah])), (wa, .inl (cJ, 96, .inr (.inl u64)))] := hD
        refine lv_goto (tgt := 52) hx hb dX4_divisor_67 (by decide) ?_
        refine ih52 t (L / 2) O u64 ?_ ?_ ?_ ?_ ?_ ?_ ?_ ?_ ?_ ?_ _ _ (hP.sub [1, 2, 0] rfl) (hD.sub [1, 2, 0] (by decide) rfl) hS _ (lv_sub hl [0, 1, 2, 3] rfl)
        · rw [k2] at c_58; omega
        · exact k5
        · rw [k2] at c_58; omega
        · rw [hc64.2.1, k2]
        · rw [hc64.other (by decide), k3]
        · rw [k2] at c_58; omega
        · rw [k2] at c_58; rw [g_eo c_58 (by omega)]; exact k6
        · exact hc64.1
        · intro e9 h1 h2 h3 h4
          exact ⟨by rw [hc64.other (by omega)]; exact (k8 e9 h1 h2 h3 h4).1, (k8 e9 h1 h2 h3 h4).2⟩
        · rw [k2] at c_58; exact Nat.le_trans (Nat.mul_le_mul_left _ (Nat.div_le_self _ _)) k9
  have L16 : ∀ (n16 : Nat) (t L O : Nat) (g : Nat → Int64), (L < n16) → (0 < O) → (num g 7 = L) → (num g 8 = O) → (0 < L) → (Nat.gcd L O * 2 ^ t = Nat.gcd (num fw a) (num fw b)) → (lim g) → (∀ e9, e9 < 16 → e9 ≠ 0 → e9 ≠ 7 → e9 ≠ 8 → num g e9 = num fw e9 ∧ (upd (upd fs 7 (fs a)) 8 ((upd fs 7 (fs a)) b)) e9 = fs e9) → (2 ^ t * L ≤ num fw a) → ∀ (H : Heap) (locs : List Loc), va_P D vwCl [(o, .inr (4, [.int cd, .ref wa, .ref sa, .ref ma, .ref tl, .ref gx, .ref gy, .ref tx, .ref tz, .int ln, .ref kx, .ref ky, .int cn, .int ah])), (wa, .inl (cJ, 96, .inr (.inl g))), (sa, .inl (cI, 16, .inl (upd (upd fs 7 (fs a)) 8 ((upd fs 7 (fs a)) b))))] H → va_D A [(o, .inr (4, [.int cd, .ref wa, .ref sa, .ref ma, .ref tl, .ref gx, .ref gy, .ref tx, .ref tz, .int ln, .ref kx, .ref ky, .int cn, .int ah])), (wa, .inl (cJ, 96, .inr (.inl g))), (sa, .inl (cI, 16, .inl (upd (upd fs 7 (fs a)) 8 ((upd fs 7 (fs a)) b))))] → va_S A s.heap H locs → ∀ (ls : Array Slot), lv_has ls 5 [(0, .ref o), (1, .int (nI a)), (2, .int (nI b)), (3, .int (nI t))] → W p l e { frames := 2, cells := 0, slots := 0, locals := 50 } s m args below meth c H locs 0 0 Q (F0 m 16 ls []) := by
    intro n16
    induction n16 with
    | zero =>
      intro t L O g k1 k5 k2 k3 k4 k6 k7 k8 k9
      exfalso; omega
    | succ n16 ih16 =>
      intro t L O g k1 k5 k2 k3 k4 k6 k7 k8 k9 H locs hP hD hS ls hl
      refine lv_aload_n hx hb dX4_divisor_16 rfl (lv_at hl 0 rfl) ?_
      refine lv_bipush (v := 7) hx hb dX4_divisor_17 (by decide) ?_
      refine vp_callSi (va_runV (As := [.int 7]) (rest := []) ⟨hx, hb, hml, hown, hTB⟩ (c_X4_isEven l D cZ cI cJ o wa sa ma tl gx gy tx tz kx ky cd ln cn ah g 7 (by decide)) (cw_V hTB tb_14_5 tb_1_5 tb_14_2 tb_14_3 tb_14_4 nd_X4_isEven rfl rfl ⟨Nat.le_of_ble_eq_true rfl, Nat.le_of_ble_eq_true rfl⟩) (prr_V (q0 := 0) hK hP [0, 1] rfl rfl rfl) rfl rfl hl.1 rfl (lv_room (Nat.le_of_ble_eq_true rfl)) dX4_divisor_19 ⟨Nat.le_of_ble_eq_true rfl, Nat.le_of_ble_eq_true rfl⟩).run (fun r19 hc19 => ?_)
      subst hc19
      refine lv_if_eq (tgt := 52) hx hb dX4_divisor_22 (by decide) (fun c_22 => ?_) (fun c_22 => ?_)
      · have c_22 := bz_0 c_22
        refine L52 (L + 1) t L O g ?_ ?_ ?_ ?_ ?_ ?_ ?_ ?_ ?_ ?_ _ _ hP hD hS _ (lv_sub hl [0, 1, 2, 3] rfl)
        · omega
        · exact k5
        · rw [k2] at c_22; omega
        · exact k2
        · exact k3
        · exact k4
        · exact k6
        · exact k7
        · exact k8
        · exact k9
      · have c_22 := bz_1 c_22
        refine lv_aload_n hx hb dX4_divisor_25 rfl (lv_at hl 0 rfl) ?_
        refine lv_bipush (v := 8) hx hb dX4_divisor_26 (by decide) ?_
        refine vp_callSi (va_runV (As := [.int 8]) (rest := []) ⟨hx, hb, hml, hown, hTB⟩ (c_X4_isEven l D cZ cI cJ o wa sa ma tl gx gy tx tz kx ky cd ln cn ah g 8 (by decide)) (cw_V hTB tb_14_5 tb_1_5 tb_14_2 tb_14_3 tb_14_4 nd_X4_isEven rfl rfl ⟨Nat.le_of_ble_eq_true rfl, Nat.le_of_ble_eq_true rfl⟩) (prr_V (q0 := 0) hK hP [0, 1] rfl rfl rfl) rfl rfl hl.1 rfl (lv_room (Nat.le_of_ble_eq_true rfl)) dX4_divisor_28 ⟨Nat.le_of_ble_eq_true rfl, Nat.le_of_ble_eq_true rfl⟩).run (fun r28 hc28 => ?_)
        subst hc28
        refine lv_if_eq (tgt := 52) hx hb dX4_divisor_31 (by decide) (fun c_31 => ?_) (fun c_31 => ?_)
        · have c_31 := bz_0 c_31
          refine L52 (L + 1) t L O g ?_ ?_ ?_ ?_ ?_ ?_ ?_ ?_ ?_ ?_ _ _ hP hD hS _ (lv_sub hl [0, 1, 2, 3] rfl)
          · omega
          · exact k5
          · rw [k3] at c_31; omega
          · exact k2
          · exact k3
          · exact k4
          · exact k6
          · exact k7
          · exact k8
          · exact k9
        · have c_31 := bz_1 c_31
          refine lv_aload_n hx hb dX4_divisor_34 rfl (lv_at hl 0 rfl) ?_
          refine lv_bipush (v := 7) hx hb dX4_divisor_35 (by decide) ?_
          refine fin_v (wr := [(sa, .inl (cI, 16, .inl (upd (upd fs 7 (fs a)) 8 ((upd fs 7 (fs a)) b))))]) (va_runV (As := [.int 7]) (rest := []) ⟨hx, hb, hml, hown, hTB⟩ (c_X4_halve l D cZ cI cJ o wa sa ma tl gx gy tx tz kx ky cd ln cn ah g 7 k7 (by decide) _) (cw_V hTB tb_14_9 tb_1_5 tb_14_6 tb_14_7 tb_14_8 nd_X4_halve rfl rfl ⟨Nat.le_of_ble_eq_true rfl, Nat.le_of_ble_eq_true rfl⟩) (pre_V (q0 := 0) hK hP hD [0, 1] rfl rfl rfl rfl) rfl rfl hl.1 rfl (lv_room (Nat.le_of_ble_eq_true rfl)) dX4_divisor_37 ⟨Nat.le_of_ble_eq_true rfl, Nat.le_of_ble_eq_true rfl⟩) hP hD hS hA [0, 1] [2] rfl rfl rfl (by decide) (fun u37 H locs hc37 hP hD hS => ?_)
          have hP : va_P D vwCl [(sa, .inl (cI, 16, .inl (upd (upd fs 7 (fs a)) 8 ((upd fs 7 (fs a)) b)))), (o, .inr (4, [.int cd, .ref wa, .ref sa, .ref ma, .ref tl, .ref gx, .ref gy, .ref tx, .ref tz, .int ln, .ref kx, .ref ky, .int cn, .int ah])), (wa, .inl (cJ, 96, .inr (.inl u37)))] H := hP
          have hD : va_D A [(sa, .inl (cI, 16, .inl (upd (upd fs 7 (fs a)) 8 ((upd fs 7 (fs a)) b)))), (o, .inr (4, [.int cd, .ref wa, .ref sa, .ref ma, .ref tl, .ref gx, .ref gy, .ref tx, .ref tz, .int ln, .ref kx, .ref ky, .int cn, .int ah])), (wa, .inl (cJ, 96, .inr (.inl u37)))] := hD
          refine lv_aload_n hx hb dX4_divisor_40 rfl (lv_at hl 0 rfl) ?_
          refine lv_bipush (v := 8) hx hb dX4_divisor_41 (by decide) ?_
          refine fin_v (wr := [(sa, .inl (cI, 16, .inl (upd (upd fs 7 (fs a)) 8 ((upd fs 7 (fs a)) b))))]) (va_runV (As := [.int 8]) (rest := []) ⟨hx, hb, hml, hown, hTB⟩ (c_X4_halve l D cZ cI cJ o wa sa ma tl gx gy tx tz kx ky cd ln cn ah u37 8 hc37.1 (by decide) _) (cw_V hTB tb_14_9 tb_1_5 tb_14_6 tb_14_7 tb_14_8 nd_X4_halve rfl rfl ⟨Nat.le_of_ble_eq_true rfl, Nat.le_of_ble_eq_true rfl⟩) (pre_V (q0 := 1) hK hP hD [1, 2] rfl rfl rfl rfl) rfl rfl hl.1 rfl (lv_room (Nat.le_of_ble_eq_true rfl)) dX4_divisor_43 ⟨Nat.le_of_ble_eq_true rfl, Nat.le_of_ble_eq_true rfl⟩) hP hD hS hA [1, 2] [0] rfl rfl rfl (by decide) (fun u43 H locs hc43 hP hD hS => ?_)
          have hP : va_P D vwCl [(sa, .inl (cI, 16, .inl (upd (upd fs 7 (fs a)) 8 ((upd fs 7 (fs a)) b)))), (o, .inr (4, [.int cd, .ref wa, .ref sa, .ref ma, .ref tl, .ref gx, .ref gy, .ref tx, .ref tz, .int ln, .ref kx, .ref ky, .int cn, .int ah])), (wa, .inl (cJ, 96, .inr (.inl u43)))] H := hP
          have hD : va_D A [(sa, .inl (cI, 16, .inl (upd (upd fs 7 (fs a)) 8 ((upd fs 7 (fs a)) b)))), (o, .inr (4, [.int cd, .ref wa, .ref sa, .ref ma, .ref tl, .ref gx, .ref gy, .ref tx, .ref tz, .int ln, .ref kx, .ref ky, .int cn, .int ah])), (wa, .inl (cJ, 96, .inr (.inl u43)))] := hD
          obtain ⟨i3_2, ei3_2⟩ : ∃ y : Int32, y = (nI t) + 1 := ⟨_, rfl⟩
          refine lv_iinc (v := i3_2) (lv' := [(3, .int i3_2), (0, .ref o), (1, .int (nI a)), (2, .int (nI b))]) hx hb dX4_divisor_46 hl (k := 3) rfl (by rw [ei3_2]; rfl) (by decide) rfl (fun ls hl => ?_)
          refine lv_goto (tgt := 16) hx hb dX4_divisor_49 (by decide) ?_
          have q3 : i3_2 = nI (t + 1) := by rw [ei3_2]; exact nI_1 t
          subst q3
          refine ih16 (t + 1) (L / 2) (O / 2) u43 ?_ ?_ ?_ ?_ ?_ ?_ ?_ ?_ ?_ _ _ (hP.sub [1, 2, 0] rfl) (hD.sub [1, 2, 0] (by decide) rfl) hS _ (lv_sub hl [1, 2, 3, 0] rfl)
          · rw [k2] at c_22
            rw [k3] at c_31
            omega
          · rw [k2] at c_22
            rw [k3] at c_31
            omega
          · rw [hc43.other (by decide), hc37.2.1, k2]
          · rw [hc43.2.1, hc37.other (by decide), k3]
          · rw [k2] at c_22
            rw [k3] at c_31
            omega
          · rw [k2] at c_22
            rw [k3] at c_31
            rw [← k6, g_ee c_22 c_31, Nat.pow_succ, Nat.mul_comm (2 ^ t) 2, ← Nat.mul_assoc, Nat.mul_comm _ 2]
          · exact hc43.1
          · intro e9 h1 h2 h3 h4
            exact ⟨by rw [hc43.other (by omega), hc37.other (by omega)]; exact (k8 e9 h1 h2 h3 h4).1, (k8 e9 h1 h2 h3 h4).2⟩
          · rw [k2] at c_22
            rw [k3] at c_31
            rw [Nat.pow_succ, Nat.mul_assoc]
            have h9 : 2 * (L / 2) = L := by omega
            rw [h9]; exact k9
  refine L16 (num fw a + 1) 0 (num fw a) (num fw b) g11 ?_ ?_ ?_ ?_ ?_ ?_ ?_ ?_ ?_ _ _ hP hD hS _ (lv_sub hl [1, 2, 3, 0] rfl)
  · omega
  · exact hB0
  · rw [up11.other (by decide)]; exact up4.2.1
  · rw [up11.2.1, up4.other hb7]
  · exact hA0
  · rw [Nat.pow_zero, Nat.mul_one]
  · exact up11.1
  · intro e9 h1 h2 h3 h4
    exact ⟨by rw [up11.other h4, up4.other h3], by rw [pk_un h4, pk_un h3]⟩
  · rw [Nat.pow_zero, Nat.one_mul]; exact Nat.le_refl _

set_option maxHeartbeats 4000000 in
set_option maxRecDepth 100000 in
theorem c_X4_reduce (l : Launch) (D : va_G) (cZ cI cJ : ClassId) (o wa sa ma tl gx gy tx tz kx ky : Nat) (cd ln cn ah : Int32) (fw : Nat → Int64) (fs : Nat → Int32) (a : Nat) (Z : Int) (Dn : Nat) (hlim : lim fw) (ha : 11 < a) (ha15 : a < 15) (hza : hz fw fs a Z) (hDn : num fw (a + 1) = Dn) (hD0 : 0 < Dn) (hD1 : Dn < 340282366920938463463374607431768211456) : Cv l D cZ cI cJ yX4_reduce cX4_reduce 3 { frames := 3, cells := 0, slots := 0, locals := 74 } [.ref o, .int (nI a)] [(o, .inr (4, [.int cd, .ref wa, .ref sa, .ref ma, .ref tl, .ref gx, .ref gy, .ref tx, .ref tz, .int ln, .ref kx, .ref ky, .int cn, .int ah])), (wa, .inl (cJ, 96, .inr (.inl fw))), (sa, .inl (cI, 16, .inl fs))] (S := (Nat → Int64) × (Nat → Int32)) (fun u => lim u.1 ∧ hz u.1 u.2 a (Z / (((Nat.gcd Z.natAbs Dn) : Nat) : Int)) ∧ hz u.1 u.2 (a + 1) ((Dn : Int) / (((Nat.gcd Z.natAbs Dn) : Nat) : Int)) ∧ (∀ e9, e9 < 16 → e9 ≠ 0 → e9 ≠ 7 → e9 ≠ 8 → e9 ≠ 9 → e9 ≠ 10 → e9 ≠ a → e9 ≠ a + 1 → num u.1 e9 = num fw e9 ∧ u.2 e9 = fs e9)) (fun u => [(o, .inr (4, [.int cd, .ref wa, .ref sa, .ref ma, .ref tl, .ref gx, .ref gy, .ref tx, .ref tz, .int ln, .ref kx, .ref ky, .int cn, .int ah])), (wa, .inl (cJ, 96, .inr (.inl u.1))), (sa, .inl (cI, 16, .inl u.2))]) := by
  refine Cv.of (by decide) ?_
  intro p e s m args below meth c A Q hB hret hP hD hA
  obtain ⟨hx, hb, hr, hlocks, hml, hown, hnm, hTB, hK⟩ := hB
  have hown : s.vm.findClass RX4 = some m.cls := hown
  have hS : va_S A s.heap s.heap [] := va_S.rf
  have ha9 : a < 16 := by omega
  have ea0 : num fw a = Z.natAbs := hza.1
  have ed0 : num fw (a + 1) = Dn := hDn
  have hG0 : 0 < (Nat.gcd Z.natAbs Dn) := Nat.gcd_pos_of_pos_right _ hD0
  have hG1 : (Nat.gcd Z.natAbs Dn) ≤ Dn := Nat.gcd_le_right _ hD0
  have hl := lv_entry ([.ref o, .int (nI a)]) (n := 3) (Nat.le_of_ble_eq_true rfl)
  rw [lg_entry_eq]
  generalize (lg_sl ([.ref o, .int (nI a)]) ++ List.replicate (3 - (lg_sl ([.ref o, .int (nI a)])).length) Slot.unset).toArray = ls at hl ⊢
  have hl : lv_has ls 3 [(0, .ref o), (1, .int (nI a))] := hl
  refine lv_aload_n hx hb dX4_reduce_0 rfl (lv_at hl 0 rfl) ?_
  refine va_get (D := D) (ci := 4) (v := .ref sa) (C := RX4) (T := TX4) (N := 14) hx hb hTB tb_X4 hown hK.1 hP 0 rfl rfl 2 (by decide) (hTB _ tb_3_15) (fun _ h9 => h9) rfl dX4_reduce_1 ?_
  refine lv_iload_n hx hb dX4_reduce_4 rfl (lv_at hl 1 rfl) ?_
  refine va_iald (f := fs) hx hb hK.1 hP 2 1 rfl rfl (vp_in_nI (show a < 16 by omega) (by decide)) dX4_reduce_5 ?_
  rw [show (nI a).toNatClampNeg = a from nI_clamp (by omega)]
  refine lv_if_ne (tgt := 18) hx hb dX4_reduce_6 (by decide) (fun c_6 => ?_) (fun c_6 => ?_)
  · have hZ0 : Z ≠ 0 := fun q => c_6 (by rw [hza.2, q]; rfl)
    refine lv_aload_n hx hb dX4_reduce_18 rfl (lv_at hl 0 rfl) ?_
    refine lv_iload_n hx hb dX4_reduce_19 rfl (lv_at hl 1 rfl) ?_
    refine lv_iload_n hx hb dX4_reduce_20 rfl (lv_at hl 1 rfl) ?_
    refine lv_iconst (v := 1) hx hb dX4_reduce_21 (by decide) ?_
    refine lv_iadd hx hb dX4_reduce_22 ?_
    rw [nI_1]
    refine fin_v (wr := []) (va_runV (As := [.int (nI a), .int (nI (a + 1))]) (rest := []) ⟨hx, hb, hml, hown, hTB⟩ (c_X4_divisor l D cZ cI cJ o wa sa ma tl gx gy tx tz kx ky cd ln cn ah fw fs a (a + 1) hlim ha9 (by omega) (by omega) (by omega) (by omega) (by omega) (by omega) _) (cw_V hTB tb_14_1 tb_1_5 tb_13_22 tb_13_23 tb_14_0 nd_X4_divisor rfl rfl ⟨Nat.le_of_ble_eq_true rfl, Nat.le_of_ble_eq_true rfl⟩) (pre_V (q0 := 0) hK hP hD [0, 1, 2] rfl rfl rfl rfl) rfl rfl hl.1 rfl (lv_room (Nat.le_of_ble_eq_true rfl)) dX4_reduce_23 ⟨Nat.le_of_ble_eq_true rfl, Nat.le_of_ble_eq_true rfl⟩) hP hD hS hA [0, 1, 2] [] rfl rfl rfl (by decide) (fun u23 H locs hc23 hP hD hS => ?_)
    obtain ⟨g23, s23⟩ := u23
    dsimp only at hc23
    obtain ⟨lm23, n723, kp23⟩ := hc23
    have hP : va_P D vwCl [(o, .inr (4, [.int cd, .ref wa, .ref sa, .ref ma, .ref tl, .ref gx, .ref gy, .ref tx, .ref tz, .int ln, .ref kx, .ref ky, .int cn, .int ah])), (wa, .inl (cJ, 96, .inr (.inl g23))), (sa, .inl (cI, 16, .inl s23))] H := hP
    have hD : va_D A [(o, .inr (4, [.int cd, .ref wa, .ref sa, .ref ma, .ref tl, .ref gx, .ref gy, .ref tx, .ref tz, .int ln, .ref kx, .ref ky, .int cn, .int ah])), (wa, .inl (cJ, 96, .inr (.inl g23))), (sa, .inl (cI, 16, .inl s23))] := hD
    have ea : num g23 a = num fw a := (kp23 a ha9 (by omega) (by omega) (by omega)).1
    refine lv_aload_n hx hb dX4_reduce_26 rfl (lv_at hl 0 rfl) ?_
    refine va_get (D := D) (ci := 4) (v := .ref sa) (C := RX4) (T := TX4) (N := 14) hx hb hTB tb_X4 hown hK.1 hP 0 rfl rfl 2 (by decide) (hTB _ tb_3_15) (fun _ h9 => h9) rfl dX4_reduce_27 ?_
    refine lv_iload_n hx hb dX4_reduce_30 rfl (lv_at hl 1 rfl) ?_
    refine va_iald (f := s23) hx hb hK.1 hP 2 1 rfl rfl (vp_in_nI (show a < 16 by omega) (by decide)) dX4_reduce_31 ?_
    rw [show (nI a).toNatClampNeg = a from nI_clamp (by omega)]
    refine lv_istore_n (lv' := [(2, .int (s23 a)), (0, .ref o), (1, .int (nI a))]) hx hb dX4_reduce_32 rfl hl (by decide) rfl (fun ls hl => ?_)
    refine lv_aload_n hx hb dX4_reduce_33 rfl (lv_at hl 1 rfl) ?_
    refine lv_iload_n hx hb dX4_reduce_34 rfl (lv_at hl 2 rfl) ?_
    refine lv_bipush (v := 7) hx hb dX4_reduce_35 (by decide) ?_
    refine fin_v (wr := []) (va_runV (As := [.int (nI a), .int 7]) (rest := []) ⟨hx, hb, hml, hown, hTB⟩ (c_X4_divide l D cZ cI cJ o wa sa ma tl gx gy tx tz kx ky cd ln cn ah g23 s23 a 7 lm23 ha9 (by decide) (by omega) (by omega) (by decide) (by decide) (by rw [n723, ea0, ed0]; exact hG0) (by rw [n723, ea0, ed0]; omega) _) (cw_V hTB tb_14_17 tb_1_5 tb_14_14 tb_14_15 tb_14_16 nd_X4_divide rfl rfl ⟨Nat.le_of_ble_eq_true rfl, Nat.le_of_ble_eq_true rfl⟩) (pre_V (q0 := 0) hK hP hD [0, 1, 2] rfl rfl rfl rfl) rfl rfl hl.1 rfl (lv_room (Nat.le_of_ble_eq_true rfl)) dX4_reduce_37 ⟨Nat.le_of_ble_eq_true rfl, Nat.le_of_ble_eq_true rfl⟩) hP hD hS hA [0, 1, 2] [] rfl rfl rfl (by decide) (fun u37 H locs hc37 hP hD hS => ?_)
    obtain ⟨g37, s37⟩ := u37
    dsimp only at hc37
    obtain ⟨lm37, nq37, nr37, fr37, rfl⟩ := hc37
    have hP : va_P D vwCl [(o, .inr (4, [.int cd, .ref wa, .ref sa, .ref ma, .ref tl, .ref gx, .ref gy, .ref tx, .ref tz, .int ln, .ref kx, .ref ky, .int cn, .int ah])), (wa, .inl (cJ, 96, .inr (.inl g37))), (sa, .inl (cI, 16, .inl (upd (upd s23 9 0) 10 0)))] H := hP
    have hD : va_D A [(o, .inr (4, [.int cd, .ref wa, .ref sa, .ref ma, .ref tl, .ref gx, .ref gy, .ref tx, .ref tz, .int ln, .ref kx, .ref ky, .int cn, .int ah])), (wa, .inl (cJ, 96, .inr (.inl g37))), (sa, .inl (cI, 16, .inl (upd (upd s23 9 0) 10 0)))] := hD
    refine lv_aload_n hx hb dX4_reduce_40 rfl (lv_at hl 1 rfl) ?_
    refine lv_iload_n hx hb dX4_reduce_41 rfl (lv_at hl 2 rfl) ?_
    refine lv_bipush (v := 9) hx hb dX4_reduce_42 (by decide) ?_
    refine fin_v (wr := []) (va_runV (As := [.int (nI a), .int 9]) (rest := []) ⟨hx, hb, hml, hown, hTB⟩ (c_X4_copy l D cZ cI cJ o wa sa ma tl gx gy tx tz kx ky cd ln cn ah g37 (upd (upd s23 9 0) 10 0) a 9 lm37 ha9 (by decide) (by omega) _) (cw_V hTB tb_13_17 tb_1_5 tb_13_14 tb_13_15 tb_13_16 nd_X4_copy rfl rfl ⟨Nat.le_of_ble_eq_true rfl, Nat.le_of_ble_eq_true rfl⟩) (pre_V (q0 := 0) hK hP hD [0, 1, 2] rfl rfl rfl rfl) rfl rfl hl.1 rfl (lv_room (Nat.le_of_ble_eq_true rfl)) dX4_reduce_44 ⟨Nat.le_of_ble_eq_true rfl, Nat.le_of_ble_eq_true rfl⟩) hP hD hS hA [0, 1, 2] [] rfl rfl rfl (by decide) (fun u44 H locs hc44 hP hD hS => ?_)
    obtain ⟨g44, s44⟩ := u44
    dsimp only at hc44
    obtain ⟨up44, rfl⟩ := hc44
    have hP : va_P D vwCl [(o, .inr (4, [.int cd, .ref wa, .ref sa, .ref ma, .ref tl, .ref gx, .ref gy, .ref tx, .ref tz, .int ln, .ref kx, .ref ky, .int cn, .int ah])), (wa, .inl (cJ, 96, .inr (.inl g44))), (sa, .inl (cI, 16, .inl (upd (upd (upd s23 9 0) 10 0) a ((upd (upd s23 9 0) 10 0) 9))))] H := hP
    have hD : va_D A [(o, .inr (4, [.int cd, .ref wa, .ref sa, .ref ma, .ref tl, .ref gx, .ref gy, .ref tx, .ref tz, .int ln, .ref kx, .ref ky, .int cn, .int ah])), (wa, .inl (cJ, 96, .inr (.inl g44))), (sa, .inl (cI, 16, .inl (upd (upd (upd s23 9 0) 10 0) a ((upd (upd s23 9 0) 10 0) 9))))] := hD
    refine lv_aload_n hx hb dX4_reduce_47 rfl (lv_at hl 1 rfl) ?_
    refine va_get (D := D) (ci := 4) (v := .ref sa) (C := RX4) (T := TX4) (N := 14) hx hb hTB tb_X4 hown hK.1 hP 0 rfl rfl 2 (by decide) (hTB _ tb_3_15) (fun _ h9 => h9) rfl dX4_reduce_48 ?_
    refine lv_iload_n hx hb dX4_reduce_51 rfl (lv_at hl 2 rfl) ?_
    refine lv_iload_n hx hb dX4_reduce_52 rfl (lv_at hl 0 rfl) ?_
    refine va_iast (f := (upd (upd (upd s23 9 0) 10 0) a ((upd (upd s23 9 0) 10 0) 9))) hx hb hK.1 hP hD hS 2 1 rfl rfl (vp_in_nI (show a < 16 by omega) (by decide)) dX4_reduce_53 (fun H locs hP hD hS => ?_)
    rw [show (nI a).toNatClampNeg = a from nI_clamp (by omega)] at hP hD
    have hP : va_P D vwCl [(o, .inr (4, [.int cd, .ref wa, .ref sa, .ref ma, .ref tl, .ref gx, .ref gy, .ref tx, .ref tz, .int ln, .ref kx, .ref ky, .int cn, .int ah])), (wa, .inl (cJ, 96, .inr (.inl g44))), (sa, .inl (cI, 16, .inl (upd (upd (upd (upd s23 9 0) 10 0) a ((upd (upd s23 9 0) 10 0) 9)) a (s23 a))))] H := hP
    have hD : va_D A [(o, .inr (4, [.int cd, .ref wa, .ref sa, .ref ma, .ref tl, .ref gx, .ref gy, .ref tx, .ref tz, .int ln, .ref kx, .ref ky, .int cn, .int ah])), (wa, .inl (cJ, 96, .inr (.inl g44))), (sa, .inl (cI, 16, .inl (upd (upd (upd (upd s23 9 0) 10 0) a ((upd (upd s23 9 0) 10 0) 9)) a (s23 a))))] := hD
    refine lv_aload_n hx hb dX4_reduce_54 rfl (lv_at hl 1 rfl) ?_
    refine lv_iload_n hx hb dX4_reduce_55 rfl (lv_at hl 2 rfl) ?_
    refine lv_iconst (v := 1) hx hb dX4_reduce_56 (by decide) ?_
    refine lv_iadd hx hb dX4_reduce_57 ?_
    rw [nI_1]
    refine lv_bipush (v := 7) hx hb dX4_reduce_58 (by decide) ?_
    refine fin_v (wr := []) (va_runV (As := [.int (nI (a + 1)), .int 7]) (rest := []) ⟨hx, hb, hml, hown, hTB⟩ (c_X4_divide l D cZ cI cJ o wa sa ma tl gx gy tx tz kx ky cd ln cn ah g44 (upd (upd (upd (upd s23 9 0) 10 0) a ((upd (upd s23 9 0) 10 0) 9)) a (s23 a)) (a + 1) 7 up44.1 (by omega) (by decide) (by omega) (by omega) (by decide) (by decide) (by rw [up44.other (by omega), fr37 7 (by decide) (by decide) (by decide), n723, ea0, ed0]; exact hG0) (by rw [up44.other (by omega), fr37 7 (by decide) (by decide) (by decide), n723, ea0, ed0]; omega) _) (cw_V hTB tb_14_17 tb_1_5 tb_14_14 tb_14_15 tb_14_16 nd_X4_divide rfl rfl ⟨Nat.le_of_ble_eq_true rfl, Nat.le_of_ble_eq_true rfl⟩) (pre_V (q0 := 0) hK hP hD [0, 1, 2] rfl rfl rfl rfl) rfl rfl hl.1 rfl (lv_room (Nat.le_of_ble_eq_true rfl)) dX4_reduce_60 ⟨Nat.le_of_ble_eq_true rfl, Nat.le_of_ble_eq_true rfl⟩) hP hD hS hA [0, 1, 2] [] rfl rfl rfl (by decide) (fun u60 H locs hc60 hP hD hS => ?_)
    obtain ⟨g60, s60⟩ := u60
    dsimp only at hc60
    obtain ⟨lm60, nq60, nr60, fr60, rfl⟩ := hc60
    have hP : va_P D vwCl [(o, .inr (4, [.int cd, .ref wa, .ref sa, .ref ma, .ref tl, .ref gx, .ref gy, .ref tx, .ref tz, .int ln, .ref kx, .ref ky, .int cn, .int ah])), (wa, .inl (cJ, 96, .inr (.inl g60))), (sa, .inl (cI, 16, .inl (upd (upd (upd (upd (upd (upd s23 9 0) 10 0) a ((upd (upd s23 9 0) 10 0) 9)) a (s23 a)) 9 0) 10 0)))] H := hP
    have hD : va_D A [(o, .inr (4, [.int cd, .ref wa, .ref sa, .ref ma, .ref tl, .ref gx, .ref gy, .ref tx, .ref tz, .int ln, .ref kx, .ref ky, .int cn, .int ah])), (wa, .inl (cJ, 96, .inr (.inl g60))), (sa, .inl (cI, 16, .inl (upd (upd (upd (upd (upd (upd s23 9 0) 10 0) a ((upd (upd s23 9 0) 10 0) 9)) a (s23 a)) 9 0) 10 0)))] := hD
    refine lv_aload_n hx hb dX4_reduce_63 rfl (lv_at hl 1 rfl) ?_
    refine lv_iload_n hx hb dX4_reduce_64 rfl (lv_at hl 2 rfl) ?_
    refine lv_iconst (v := 1) hx hb dX4_reduce_65 (by decide) ?_
    refine lv_iadd hx hb dX4_reduce_66 ?_
    rw [nI_1]
    refine lv_bipush (v := 9) hx hb dX4_reduce_67 (by decide) ?_
    refine fin_v (wr := []) (va_runV (As := [.int (nI (a + 1)), .int 9]) (rest := []) ⟨hx, hb, hml, hown, hTB⟩ (c_X4_copy l D cZ cI cJ o wa sa ma tl gx gy tx tz kx ky cd ln cn ah g60 (upd (upd (upd (upd (upd (upd s23 9 0) 10 0) a ((upd (upd s23 9 0) 10 0) 9)) a (s23 a)) 9 0) 10 0) (a + 1) 9 lm60 (by omega) (by decide) (by omega) _) (cw_V hTB tb_13_17 tb_1_5 tb_13_14 tb_13_15 tb_13_16 nd_X4_copy rfl rfl ⟨Nat.le_of_ble_eq_true rfl, Nat.le_of_ble_eq_true rfl⟩) (pre_V (q0 := 0) hK hP hD [0, 1, 2] rfl rfl rfl rfl) rfl rfl hl.1 rfl (lv_room (Nat.le_of_ble_eq_true rfl)) dX4_reduce_69 ⟨Nat.le_of_ble_eq_true rfl, Nat.le_of_ble_eq_true rfl⟩) hP hD hS hA [0, 1, 2] [] rfl rfl rfl (by decide) (fun u69 H locs hc69 hP hD hS => ?_)
    obtain ⟨g69, s69⟩ := u69
    dsimp only at hc69
    obtain ⟨up69, rfl⟩ := hc69
    have hP : va_P D vwCl [(o, .inr (4, [.int cd, .ref wa, .ref sa, .ref ma, .ref tl, .ref gx, .ref gy, .ref tx, .ref tz, .int ln, .ref kx, .ref ky, .int cn, .int ah])), (wa, .inl (cJ, 96, .inr (.inl g69))), (sa, .inl (cI, 16, .inl (upd (upd (upd (upd (upd (upd (upd s23 9 0) 10 0) a ((upd (upd s23 9 0) 10 0) 9)) a (s23 a)) 9 0) 10 0) (a + 1) ((upd (upd (upd (upd (upd (upd s23 9 0) 10 0) a ((upd (upd s23 9 0) 10 0) 9)) a (s23 a)) 9 0) 10 0) 9))))] H := hP
    have hD : va_D A [(o, .inr (4, [.int cd, .ref wa, .ref sa, .ref ma, .ref tl, .ref gx, .ref gy, .ref tx, .ref tz, .int ln, .ref kx, .ref ky, .int cn, .int ah])), (wa, .inl (cJ, 96, .inr (.inl g69))), (sa, .inl (cI, 16, .inl (upd (upd (upd (upd (upd (upd (upd s23 9 0) 10 0) a ((upd (upd s23 9 0) 10 0) 9)) a (s23 a)) 9 0) 10 0) (a + 1) ((upd (upd (upd (upd (upd (upd s23 9 0) 10 0) a ((upd (upd s23 9 0) 10 0) 9)) a (s23 a)) 9 0) 10 0) 9))))] := hD
    refine lv_aload_n hx hb dX4_reduce_72 rfl (lv_at hl 1 rfl) ?_
    refine va_get (D := D) (ci := 4) (v := .ref sa) (C := RX4) (T := TX4) (N := 14) hx hb hTB tb_X4 hown hK.1 hP 0 rfl rfl 2 (by decide) (hTB _ tb_3_15) (fun _ h9 => h9) rfl dX4_reduce_73 ?_
    refine lv_iload_n hx hb dX4_reduce_76 rfl (lv_at hl 2 rfl) ?_
    refine lv_iconst (v := 1) hx hb dX4_reduce_77 (by decide) ?_
    refine lv_iadd hx hb dX4_reduce_78 ?_
    rw [nI_1]
    refine lv_iconst (v := 1) hx hb dX4_reduce_79 (by decide) ?_
    refine va_iast (f := (upd (upd (upd (upd (upd (upd (upd s23 9 0) 10 0) a ((upd (upd s23 9 0) 10 0) 9)) a (s23 a)) 9 0) 10 0) (a + 1) ((upd (upd (upd (upd (upd (upd s23 9 0) 10 0) a ((upd (upd s23 9 0) 10 0) 9)) a (s23 a)) 9 0) 10 0) 9))) hx hb hK.1 hP hD hS 2 1 rfl rfl (vp_in_nI (show a + 1 < 16 by omega) (by decide)) dX4_reduce_80 (fun H locs hP hD hS => ?_)
    rw [show (nI (a + 1)).toNatClampNeg = a + 1 from nI_clamp (by omega)] at hP hD
    have hP : va_P D vwCl [(o, .inr (4, [.int cd, .ref wa, .ref sa, .ref ma, .ref tl, .ref gx, .ref gy, .ref tx, .ref tz, .int ln, .ref kx, .ref ky, .int cn, .int ah])), (wa, .inl (cJ, 96, .inr (.inl g69))), (sa, .inl (cI, 16, .inl (upd (upd (upd (upd (upd (upd (upd (upd s23 9 0) 10 0) a ((upd (upd s23 9 0) 10 0) 9)) a (s23 a)) 9 0) 10 0) (a + 1) ((upd (upd (upd (upd (upd (upd s23 9 0) 10 0) a ((upd (upd s23 9 0) 10 0) 9)) a (s23 a)) 9 0) 10 0) 9)) (a + 1) 1)))] H := hP
    have hD : va_D A [(o, .inr (4, [.int cd, .ref wa, .ref sa, .ref ma, .ref tl, .ref gx, .ref gy, .ref tx, .ref tz, .int ln, .ref kx, .ref ky, .int cn, .int ah])), (wa, .inl (cJ, 96, .inr (.inl g69))), (sa, .inl (cI, 16, .inl (upd (upd (upd (upd (upd (upd (upd (upd s23 9 0) 10 0) a ((upd (upd s23 9 0) 10 0) 9)) a (s23 a)) 9 0) 10 0) (a + 1) ((upd (upd (upd (upd (upd (upd s23 9 0) 10 0) a ((upd (upd s23 9 0) 10 0) 9)) a (s23 a)) 9 0) 10 0) 9)) (a + 1) 1)))] := hD
    have q1 : num g44 a = Z.natAbs / (Nat.gcd Z.natAbs Dn) := by rw [up44.2.1, nq37, ea, n723, ea0, ed0]
    have q2 : num g69 a = Z.natAbs / (Nat.gcd Z.natAbs Dn) := by rw [up69.other (by omega), fr60 a ha9 (by omega) (by omega), q1]
    have q3 : num g69 (a + 1) = Dn / (Nat.gcd Z.natAbs Dn) := by
      rw [up69.2.1, nq60, up44.other (by omega), fr37 (a + 1) (by omega) (by omega) (by omega), (kp23 (a + 1) (by omega) (by omega) (by omega) (by omega)).1, up44.other (by omega), fr37 7 (by decide) (by decide) (by decide), n723, ea0, ed0]
    have q4 : Z / (((Nat.gcd Z.natAbs Dn) : Nat) : Int) = if Z < 0 then -((Z.natAbs / (Nat.gcd Z.natAbs Dn) : Nat) : Int) else ((Z.natAbs / (Nat.gcd Z.natAbs Dn) : Nat) : Int) := by
      split
      · exact exd1 (Nat.gcd_dvd_left _ _) hG0 (by assumption)
      · exact exd0 hG0 (by omega)
    have q5 : 0 < Z.natAbs / (Nat.gcd Z.natAbs Dn) := Nat.div_pos (Nat.gcd_le_left _ (by omega)) hG0
    have q6 : 0 < Dn / (Nat.gcd Z.natAbs Dn) := Nat.div_pos (Nat.gcd_le_right _ hD0) hG0
    have q7 : ((Dn : Int) / (((Nat.gcd Z.natAbs Dn) : Nat) : Int)) = ((Dn / (Nat.gcd Z.natAbs Dn) : Nat) : Int) := (Int.natCast_ediv _ _).symm
    generalize hk1 : Z.natAbs / (Nat.gcd Z.natAbs Dn) = k1 at *
    generalize hk2 : Dn / (Nat.gcd Z.natAbs Dn) = k2 at *
    exact hret hP hD hS (g69, upd (upd (upd (upd (upd (upd (upd (upd s23 9 0) 10 0) a ((upd (upd s23 9 0) 10 0) 9)) a (s23 a)) 9 0) 10 0) (a + 1) ((upd (upd (upd (upd (upd (upd s23 9 0) 10 0) a ((upd (upd s23 9 0) 10 0) 9)) a (s23 a)) 9 0) 10 0) 9)) (a + 1) 1) (⟨up69.1, ⟨by dsimp only; rw [q2, q4]; split <;> omega, by dsimp only; rw [q4, pk_un (by omega), pk_un (by omega), pk_un (by omega), pk_un (by omega), pk_us, (kp23 a ha9 (by omega) (by omega) (by omega)).2, hza.2]; unfold sg; split <;> (split <;> first | rfl | omega | (split <;> first | rfl | omega))⟩, ⟨by dsimp only; rw [q3, q7]; omega, by dsimp only; rw [pk_us, q7, sg_pos (by omega)]⟩, fun e9 h1 h2 h3 h4 h5 h6 h7 h8 => ⟨by dsimp only; rw [up69.other h8, fr60 e9 h1 h5 h6, up44.other h7, fr37 e9 h1 h5 h6, (kp23 e9 h1 h2 h3 h4).1], by dsimp only; rw [pk_un h8, pk_un h8, pk_un h6, pk_un h5, pk_un h7, pk_un h7, pk_un h6, pk_un h5, (kp23 e9 h1 h2 h3 h4).2]⟩⟩) [0, 1, 2] rfl (by decide) dX4_reduce_81 (Nat.le_of_ble_eq_true rfl) (Nat.le_of_ble_eq_true rfl)
  · refine lv_aload_n hx hb dX4_reduce_9 rfl (lv_at hl 0 rfl) ?_
    refine lv_iload_n hx hb dX4_reduce_10 rfl (lv_at hl 1 rfl) ?_
    refine lv_iconst (v := 1) hx hb dX4_reduce_11 (by decide) ?_
    refine lv_iadd hx hb dX4_reduce_12 ?_
    rw [nI_1]
    refine lv_lconst (v := 1) hx hb dX4_reduce_13 (by decide) ?_
    refine fin_v (wr := []) (va_runV (As := [.int (nI (a + 1)), .long 1]) (rest := []) ⟨hx, hb, hml, hown, hTB⟩ (c_X4_put l D cZ cI cJ o wa sa ma tl gx gy tx tz kx ky cd ln cn ah fw fs (a + 1) 1 hlim (by omega) _) (cw_V hTB tb_6_21 tb_1_5 tb_6_18 tb_6_19 tb_6_20 nd_X4_put rfl rfl ⟨Nat.le_of_ble_eq_true rfl, Nat.le_of_ble_eq_true rfl⟩) (pre_V (q0 := 0) hK hP hD [0, 1, 2] rfl rfl rfl rfl) rfl rfl hl.1 rfl (lv_room (Nat.le_of_ble_eq_true rfl)) dX4_reduce_14 ⟨Nat.le_of_ble_eq_true rfl, Nat.le_of_ble_eq_true rfl⟩) hP hD hS hA [0, 1, 2] [] rfl rfl rfl (by decide) (fun u14 H locs hc14 hP hD hS => ?_)
    obtain ⟨g14, s14⟩ := u14
    dsimp only at hc14
    obtain ⟨up14, rfl⟩ := hc14
    have hP : va_P D vwCl [(o, .inr (4, [.int cd, .ref wa, .ref sa, .ref ma, .ref tl, .ref gx, .ref gy, .ref tx, .ref tz, .int ln, .ref kx, .ref ky, .int cn, .int ah])), (wa, .inl (cJ, 96, .inr (.inl g14))), (sa, .inl (cI, 16, .inl (upd fs (a + 1) (sg ((1 : Int64).toInt)))))] H := hP
    have hD : va_D A [(o, .inr (4, [.int cd, .ref wa, .ref sa, .ref ma, .ref tl, .ref gx, .ref gy, .ref tx, .ref tz, .int ln, .ref kx, .ref ky, .int cn, .int ah])), (wa, .inl (cJ, 96, .inr (.inl g14))), (sa, .inl (cI, 16, .inl (upd fs (a + 1) (sg ((1 : Int64).toInt)))))] := hD
    exact hret hP hD hS (g14, upd fs (a + 1) (sg ((1 : Int64).toInt))) (by have z0 : Z = 0 := (by rw [hza.2] at c_6; exact sg_eqt c_6); subst z0; rw [show (0 : Int).natAbs = 0 from rfl, Nat.gcd_zero_left, Int.zero_ediv, Int.ediv_self (by omega)]; exact ⟨up14.1, hza.keep up14 (by omega), hz.new (z := 1) up14, fun e9 h1 h2 h3 h4 h5 h6 h7 h8 => ⟨up14.other h8, pk_un h8⟩⟩) [0, 1, 2] rfl (by decide) dX4_reduce_17 (Nat.le_of_ble_eq_true rfl) (Nat.le_of_ble_eq_true rfl)
