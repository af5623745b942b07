/-! THE CLAIM OUT OF ONE WALK OF THE LAW'S BODY. Your part is whole_start (and what it stands on); all else here is the same for every law, but numbers. -/
def R_law : String := "GridSumsLaw"
def lw_P (b : Addr) (xs : List Int32) (args : Array Value) (s : State) : Prop := args = #[.ref b] ∧ s.IntsAt b xs ∧ xs.length ≤ 6656 ∧ (Jvm.Cond.and given_1 narrow_1).before args s = true
def lw_Q (_ : Array Value) (s : State) (o : Outcome) (t : State) : Prop := o = .returned (some (.int 1)) ∧ Framed s o t [] 1063 8819
def lw_Z (below : List Frame) (a : Array Value) (s : State) : State → Prop := fun t => ∃ o, t.status = .running ∧ Ended t below o ∧ lw_Q a s o t
/-- the law's own end, with 1 on the stack, nothing written that was there before, its room as the claim has it -/
theorem lw_ret {p : Program} {l : Launch} {e : Env} {s : State} {m : MethodId} {below : List Frame} {meth : Method} {c : Code} {b : Nat} (hx : p.tables.exec = Jvm.exec) (hb : c.code = code) (hr : meth.sig.returnType = ret) (hlocks : meth.locks = false) {pc : Nat} {H : Heap} {ls : Array Slot} (hdg : decode code pc = .ok (.ireturn, 1)) : W p l e room_1 s m #[Value.ref b] below meth c H [] 1063 8819 (lw_Z below #[Value.ref b] s) (F0 m pc ls [.int 1]) := by
  intro T hT X
  obtain ⟨fs, hret, hrun, hended, hW, hframe⟩ := X.leave (v := some (.int 1)) (hlocks := hlocks) (fun h => by rw [hr] at h; cases h)
  have hmeth' : T.vm.method? m = some meth := X.method'
  refine ⟨T.setFrames fs, ?_, .returned (some (.int 1)), hrun, hended, rfl, ⟨_, rfl⟩, hW, hframe⟩
  jvm_step X.here [X.here.top, hx, hb, hdg, hmeth', hr, ret, narrow_b1]
  (try refine ⟨rfl, ?_⟩); (try refine ⟨rfl, ?_⟩)
  first | (intro acts; rw [hret _ acts rfl rfl rfl]) | rw [hret _ _ rfl rfl rfl]
  exact Steps.refl _
/-- what holds at the law's entry: the machine, the code, the tables' words (any of lw_tbl by 'hts w (by decide +kernel)'), the script of L ints xs at the cell b, what the Statement gives of the start (any of its parts by flat_of_before) -/
def lw_At (p : Program) (s : State) (m : MethodId) (meth : Method) (c : Code) (b L : Nat) (xs : Nat → Int32) : Prop :=
  p.tables.exec = Jvm.exec ∧ c.code = code ∧ meth.sig.returnType = ret ∧ c.maxLocals = 8 ∧ s.vm.findClass R_law = some m.cls ∧ (∀ w ∈ lw_tbl, w.before #[Value.ref b] s = true) ∧ va_X b L xs s s.heap ∧ b < s.heap.size ∧ meth.locks = false ∧ (Jvm.Cond.and given_1 narrow_1).before #[Value.ref b] s = true
set_option maxHeartbeats 4000000 in
set_option maxRecDepth 100000 in
theorem law_loop (p : Program) (l : Launch) (e : Env) (s : State) (m : MethodId) (below : List Frame) (meth : Method) (c : Code) (D : va_G) (A : Nat → Prop) (cZ cI cJ : ClassId) (b L : Nat) (xs : Nat → Int32) (Q : State → Prop) (o tl sx sy wx wy kx ky fx fy xu xl yu yl dv q r d lm co sp p1 p2 mo wa sa ma tl2 gx gy tx tz kx2 ky2 ou : Nat) (hC : LC p l s m c D A cZ cI cJ b L xs) (hr : meth.sig.returnType = ret) (hlocks : meth.locks = false) (hA2 : ∀ q, A q → s.heap.size ≤ q) (hQ : Q = lw_Z below #[Value.ref b] s) : ∀ (fuel j : Nat), L < 13 * j + fuel → 13 * j ≤ L → LG p l e s m below meth c D A cZ cI cJ b L xs Q j o tl sx sy wx wy kx ky fx fy xu xl yu yl dv q r d lm co sp p1 p2 mo wa sa ma tl2 gx gy tx tz kx2 ky2 ou 23 0 := by
  intro fuel
  induction fuel with
  | zero => intro j h1 h2; exfalso; omega
  | succ fuel ih =>
    intro j h1 h2 ft ft2 fsx fsy fwx fwy ftx fty fkx fky n ph cd ln xuh xul xlh xll yuh yul ylh yll qh ql rh rl dh dl lmh lml coh col sph spl p1h p1l p2h p2l fw fs fm fo hR H locs hP hD hS ls hl
    have hC0 := hC
    obtain ⟨hx, hb, hml, hown, hTB, hTX, hK, hX, hXs, hbl, hbA, hA, hl9, hL⟩ := hC
    refine lv_iload hx hb dL_law_23 (lv_at hl 4 rfl) ?_
    refine lv_aload_n hx hb dL_law_25 rfl (lv_at hl 0 rfl) ?_
    refine va_slen hx hb hXs hbl hbA hS dL_law_26 ?_
    refine lv_bipush (v := 13) hx hb dL_law_27 (by decide) ?_
    refine lv_isub hx hb dL_law_29 ?_
    refine lv_icmp_gt (tgt := 1757) hx hb dL_law_30 (by decide) (fun c_30 => ?_) (fun c_30 => ?_)
    · refine lv_iconst (v := 1) hx hb dL_law_1757 (by decide) ?_
      refine va_forget (fun q hq => hA2 _ (hS.2.2 q hq)) ?_
      refine W.widen (k := 1063) (n := 8819) (by omega) (by omega) ?_
      rw [hQ]
      exact lw_ret hx hb hr hlocks dL_law_1758
    · have e1 := ic_nlt c_30
      rw [show (Int32.ofNat L - 13).toInt = (L : Int) - 13 from i13 hL, nI_toInt (n := 13 * j) (by omega)] at e1
      have hj : 13 * j + 13 ≤ L := by omega
      have hJ : LG p l e s m below meth c D A cZ cI cJ b L xs Q j o tl sx sy wx wy kx ky fx fy xu xl yu yl dv q r d lm co sp p1 p2 mo wa sa ma tl2 gx gy tx tz kx2 ky2 ou 1751 1 := by
        intro ft ft2 fsx fsy fwx fwy ftx fty fkx fky n ph cd ln xuh xul xlh xll yuh yul ylh yll qh ql rh rl dh dl lmh lml coh col sph spl p1h p1l p2h p2l fw fs fm fo hR H locs hP hD hS ls hl
        refine lv_iinc (v := nI (13 * (j + 1))) (lv' := [(4, .int (nI (13 * (j + 1)))), (0, .ref b), (1, .ref o), (2, .ref mo), (3, .ref ou)]) hx hb dL_law_1751 hl (k := 4) rfl (by rw [show nI (13 * (j + 1)) = nI (13 * j) + 13 from (nI_add (13 * j) 13).symm]; rfl) (by decide) rfl (fun ls hl => ?_)
        refine lv_goto (tgt := 23) hx hb dL_law_1754 (by decide) ?_
        exact ih (j + 1) (by omega) (by omega) ft ft2 fsx fsy fwx fwy ftx fty fkx fky n ph cd ln xuh xul xlh xll yuh yul ylh yll qh ql rh rl dh dl lmh lml coh col sph spl p1h p1l p2h p2l fw fs fm fo hR H locs hP hD hS ls (lv_sub hl [1, 2, 3, 4, 0] rfl)
      refine lv_aload_n hx hb dL_law_33 rfl (lv_at hl 0 rfl) ?_
      refine lv_iload hx hb dL_law_34 (lv_at hl 4 rfl) ?_
      refine va_sld hx hb hXs hbl hbA hS (vp_in_nI (show 13 * j < L by omega) (by omega)) dL_law_36 ?_
      rw [nI_clamp (show 13 * j < 2 ^ 31 by omega)]
      refine lv_bipush (v := 15) hx hb dL_law_37 (by decide) ?_
      refine lv_iand hx hb dL_law_39 ?_
      rcases sw_14 (xs (13 * j) &&& 15) with k_40 | k_40 | k_40 | k_40 | k_40 | k_40 | k_40 | k_40 | k_40 | k_40 | k_40 | k_40 | k_40 | k_40 | k_40 | k_40
      · refine lv_tableIn (off := 76) (tgt := 116) hx hb dL_law_40 (by rw [k_40]; decide) (by rw [k_40]; decide) (by rw [k_40]; rfl) (by decide) ?_
        exact law_0 p l e s m below meth c D A cZ cI cJ b L xs Q j o tl sx sy wx wy kx ky fx fy xu xl yu yl dv q r d lm co sp p1 p2 mo wa sa ma tl2 gx gy tx tz kx2 ky2 ou ft ft2 fsx fsy fwx fwy ftx fty fkx fky n ph cd ln xuh xul xlh xll yuh yul ylh yll qh ql rh rl dh dl lmh lml coh col sph spl p1h p1l p2h p2l fw fs fm fo hC0 hj hR hJ hP hD hS hl
      · refine lv_tableIn (off := 367) (tgt := 407) hx hb dL_law_40 (by rw [k_40]; decide) (by rw [k_40]; decide) (by rw [k_40]; rfl) (by decide) ?_
        exact law_1 p l e s m below meth c D A cZ cI cJ b L xs Q j o tl sx sy wx wy kx ky fx fy xu xl yu yl dv q r d lm co sp p1 p2 mo wa sa ma tl2 gx gy tx tz kx2 ky2 ou ft ft2 fsx fsy fwx fwy ftx fty fkx fky n ph cd ln xuh xul xlh xll yuh yul ylh yll qh ql rh rl dh dl lmh lml coh col sph spl p1h p1l p2h p2l fw fs fm fo hC0 hj hR hJ hP hD hS hl
      · refine lv_tableIn (off := 576) (tgt := 616) hx hb dL_law_40 (by rw [k_40]; decide) (by rw [k_40]; decide) (by rw [k_40]; rfl) (by decide) ?_
        exact law_2 p l e s m below meth c D A cZ cI cJ b L xs Q j o tl sx sy wx wy kx ky fx fy xu xl yu yl dv q r d lm co sp p1 p2 mo wa sa ma tl2 gx gy tx tz kx2 ky2 ou ft ft2 fsx fsy fwx fwy ftx fty fkx fky n ph cd ln xuh xul xlh xll yuh yul ylh yll qh ql rh rl dh dl lmh lml coh col sph spl p1h p1l p2h p2l fw fs fm fo hC0 hj hR hJ hP hD hS hl
      · refine lv_tableIn (off := 613) (tgt := 653) hx hb dL_law_40 (by rw [k_40]; decide) (by rw [k_40]; decide) (by rw [k_40]; rfl) (by decide) ?_
        exact law_3 p l e s m below meth c D A cZ cI cJ b L xs Q j o tl sx sy wx wy kx ky fx fy xu xl yu yl dv q r d lm co sp p1 p2 mo wa sa ma tl2 gx gy tx tz kx2 ky2 ou ft ft2 fsx fsy fwx fwy ftx fty fkx fky n ph cd ln xuh xul xlh xll yuh yul ylh yll qh ql rh rl dh dl lmh lml coh col sph spl p1h p1l p2h p2l fw fs fm fo hC0 hj hR hJ hP hD hS hl
      · refine lv_tableIn (off := 639) (tgt := 679) hx hb dL_law_40 (by rw [k_40]; decide) (by rw [k_40]; decide) (by rw [k_40]; rfl) (by decide) ?_
        exact law_4 p l e s m below meth c D A cZ cI cJ b L xs Q j o tl sx sy wx wy kx ky fx fy xu xl yu yl dv q r d lm co sp p1 p2 mo wa sa ma tl2 gx gy tx tz kx2 ky2 ou ft ft2 fsx fsy fwx fwy ftx fty fkx fky n ph cd ln xuh xul xlh xll yuh yul ylh yll qh ql rh rl dh dl lmh lml coh col sph spl p1h p1l p2h p2l fw fs fm fo hC0 hj hR hJ hP hD hS hl
      · refine lv_tableIn (off := 718) (tgt := 758) hx hb dL_law_40 (by rw [k_40]; decide) (by rw [k_40]; decide) (by rw [k_40]; rfl) (by decide) ?_
        exact law_5 p l e s m below meth c D A cZ cI cJ b L xs Q j o tl sx sy wx wy kx ky fx fy xu xl yu yl dv q r d lm co sp p1 p2 mo wa sa ma tl2 gx gy tx tz kx2 ky2 ou ft ft2 fsx fsy fwx fwy ftx fty fkx fky n ph cd ln xuh xul xlh xll yuh yul ylh yll qh ql rh rl dh dl lmh lml coh col sph spl p1h p1l p2h p2l fw fs fm fo hC0 hj hR hJ hP hD hS hl
      · refine lv_tableIn (off := 819) (tgt := 859) hx hb dL_law_40 (by rw [k_40]; decide) (by rw [k_40]; decide) (by rw [k_40]; rfl) (by decide) ?_
        exact law_6 p l e s m below meth c D A cZ cI cJ b L xs Q j o tl sx sy wx wy kx ky fx fy xu xl yu yl dv q r d lm co sp p1 p2 mo wa sa ma tl2 gx gy tx tz kx2 ky2 ou ft ft2 fsx fsy fwx fwy ftx fty fkx fky n ph cd ln xuh xul xlh xll yuh yul ylh yll qh ql rh rl dh dl lmh lml coh col sph spl p1h p1l p2h p2l fw fs fm fo hC0 hj hR hJ hP hD hS hl
      · refine lv_tableIn (off := 874) (tgt := 914) hx hb dL_law_40 (by rw [k_40]; decide) (by rw [k_40]; decide) (by rw [k_40]; rfl) (by decide) ?_
        exact law_7 p l e s m below meth c D A cZ cI cJ b L xs Q j o tl sx sy wx wy kx ky fx fy xu xl yu yl dv q r d lm co sp p1 p2 mo wa sa ma tl2 gx gy tx tz kx2 ky2 ou ft ft2 fsx fsy fwx fwy ftx fty fkx fky n ph cd ln xuh xul xlh xll yuh yul ylh yll qh ql rh rl dh dl lmh lml coh col sph spl p1h p1l p2h p2l fw fs fm fo hC0 hj hR hJ hP hD hS hl
      · refine lv_tableIn (off := 975) (tgt := 1015) hx hb dL_law_40 (by rw [k_40]; decide) (by rw [k_40]; decide) (by rw [k_40]; rfl) (by decide) ?_
        exact law_8 p l e s m below meth c D A cZ cI cJ b L xs Q j o tl sx sy wx wy kx ky fx fy xu xl yu yl dv q r d lm co sp p1 p2 mo wa sa ma tl2 gx gy tx tz kx2 ky2 ou ft ft2 fsx fsy fwx fwy ftx fty fkx fky n ph cd ln xuh xul xlh xll yuh yul ylh yll qh ql rh rl dh dl lmh lml coh col sph spl p1h p1l p2h p2l fw fs fm fo hC0 hj hR hJ hP hD hS hl
      · refine lv_tableIn (off := 1118) (tgt := 1158) hx hb dL_law_40 (by rw [k_40]; decide) (by rw [k_40]; decide) (by rw [k_40]; rfl) (by decide) ?_
        exact law_9 p l e s m below meth c D A cZ cI cJ b L xs Q j o tl sx sy wx wy kx ky fx fy xu xl yu yl dv q r d lm co sp p1 p2 mo wa sa ma tl2 gx gy tx tz kx2 ky2 ou ft ft2 fsx fsy fwx fwy ftx fty fkx fky n ph cd ln xuh xul xlh xll yuh yul ylh yll qh ql rh rl dh dl lmh lml coh col sph spl p1h p1l p2h p2l fw fs fm fo hC0 hj hR hJ hP hD hS hl
      · refine lv_tableIn (off := 1261) (tgt := 1301) hx hb dL_law_40 (by rw [k_40]; decide) (by rw [k_40]; decide) (by rw [k_40]; rfl) (by decide) ?_
        exact law_10 p l e s m below meth c D A cZ cI cJ b L xs Q j o tl sx sy wx wy kx ky fx fy xu xl yu yl dv q r d lm co sp p1 p2 mo wa sa ma tl2 gx gy tx tz kx2 ky2 ou ft ft2 fsx fsy fwx fwy ftx fty fkx fky n ph cd ln xuh xul xlh xll yuh yul ylh yll qh ql rh rl dh dl lmh lml coh col sph spl p1h p1l p2h p2l fw fs fm fo hC0 hj hR hJ hP hD hS hl
      · refine lv_tableIn (off := 1452) (tgt := 1492) hx hb dL_law_40 (by rw [k_40]; decide) (by rw [k_40]; decide) (by rw [k_40]; rfl) (by decide) ?_
        exact law_11 p l e s m below meth c D A cZ cI cJ b L xs Q j o tl sx sy wx wy kx ky fx fy xu xl yu yl dv q r d lm co sp p1 p2 mo wa sa ma tl2 gx gy tx tz kx2 ky2 ou ft ft2 fsx fsy fwx fwy ftx fty fkx fky n ph cd ln xuh xul xlh xll yuh yul ylh yll qh ql rh rl dh dl lmh lml coh col sph spl p1h p1l p2h p2l fw fs fm fo hC0 hj hR hJ hP hD hS hl
      · refine lv_tableIn (off := 1563) (tgt := 1603) hx hb dL_law_40 (by rw [k_40]; decide) (by rw [k_40]; decide) (by rw [k_40]; rfl) (by decide) ?_
        exact law_12 p l e s m below meth c D A cZ cI cJ b L xs Q j o tl sx sy wx wy kx ky fx fy xu xl yu yl dv q r d lm co sp p1 p2 mo wa sa ma tl2 gx gy tx tz kx2 ky2 ou ft ft2 fsx fsy fwx fwy ftx fty fkx fky n ph cd ln xuh xul xlh xll yuh yul ylh yll qh ql rh rl dh dl lmh lml coh col sph spl p1h p1l p2h p2l fw fs fm fo hC0 hj hR hJ hP hD hS hl
      · refine lv_tableIn (off := 1675) (tgt := 1715) hx hb dL_law_40 (by rw [k_40]; decide) (by rw [k_40]; decide) (by rw [k_40]; rfl) (by decide) ?_
        exact law_13 p l e s m below meth c D A cZ cI cJ b L xs Q j o tl sx sy wx wy kx ky fx fy xu xl yu yl dv q r d lm co sp p1 p2 mo wa sa ma tl2 gx gy tx tz kx2 ky2 ou ft ft2 fsx fsy fwx fwy ftx fty fkx fky n ph cd ln xuh xul xlh xll yuh yul ylh yll qh ql rh rl dh dl lmh lml coh col sph spl p1h p1l p2h p2l fw fs fm fo hC0 hj hR hJ hP hD hS hl
      · refine lv_tableIn (off := 1686) (tgt := 1726) hx hb dL_law_40 (by rw [k_40]; decide) (by rw [k_40]; decide) (by rw [k_40]; rfl) (by decide) ?_
        exact law_14 p l e s m below meth c D A cZ cI cJ b L xs Q j o tl sx sy wx wy kx ky fx fy xu xl yu yl dv q r d lm co sp p1 p2 mo wa sa ma tl2 gx gy tx tz kx2 ky2 ou ft ft2 fsx fsy fwx fwy ftx fty fkx fky n ph cd ln xuh xul xlh xll yuh yul ylh yll qh ql rh rl dh dl lmh lml coh col sph spl p1h p1l p2h p2l fw fs fm fo hC0 hj hR hJ hP hD hS hl
      · refine lv_tableOut (tgt := 1751) hx hb dL_law_40 k_40 (by decide) ?_
        refine W.widen (k := 35 + (j + 1)) (n := 603 + 6 * (j + 1)) (by omega) (by omega) ?_
        exact hJ ft ft2 fsx fsy fwx fwy ftx fty fkx fky n ph cd ln xuh xul xlh xll yuh yul ylh yll qh ql rh rl dh dl lmh lml coh col sph spl p1h p1l p2h p2l fw fs fm fo hR _ _ hP hD hS _ hl
theorem REL_0 : REL (fun _ => 0) (fun _ => 0) (fun _ => 0) (fun _ => 0) (fun _ => 0) (fun _ => 0) (fun _ => 0) (fun _ => 0) (fun _ => 0) (fun _ => 0) 0 0 0 (wv 0 0) (wv 0 0) (wv 0 0) (wv 0 0) (fun _ => 0) (fun _ => 0) :=
  ⟨fun _ _ => rfl, by rw [cnt_z (fun _ _ => rfl)]; rfl, fun _ _ h => absurd rfl h, by omega, fun k h => by omega, fun k _ => (by decide : uN 0 < 4294967296), fun h => absurd rfl h⟩
theorem lt_n : ∀ w ∈ nWs, w ∈ lw_tbl := by decide +kernel
theorem lt_xw : ∀ w ∈ xWs, w ∈ lw_tbl := by decide +kernel
theorem lt_U : Cond.laysStatic Bundle.tN "UNASSIGNED_STACK" Bundle.steD ∈ lw_tbl := by decide +kernel
theorem lt_S : Cond.laysStatic Bundle.tN "SUPPRESSED_SENTINEL" Bundle.listD ∈ lw_tbl := by decide +kernel
theorem lt_I : Cond.initialized Bundle.tN ∈ lw_tbl := by decide +kernel
theorem lt_s1 : Cond.stringRef RX3 205 "no such limb" ∈ lw_tbl := by decide +kernel
theorem lt_s2 : Cond.stringRef RX3 199 "by 0" ∈ lw_tbl := by decide +kernel
theorem lt_s3 : Cond.stringRef RX3 146 "no such share" ∈ lw_tbl := by decide +kernel
theorem lt_s4 : Cond.stringRef RX3 160 "no such digit" ∈ lw_tbl := by decide +kernel
theorem nw_on {w : Cond} (h : nw_form w = true) : w.onTables = true := by
  cases w <;> first | rfl | (simp [nw_form] at h)
theorem arr_of {args : Array Value} {s : State} {ty : FieldType} (h : (Cond.arrayClass ty).before args s = true) : ∃ cA : ClassId, ArrOfT s cA ty ∧ s.vm.findClass ("[" ++ ty.toString) = some cA := by
  obtain ⟨c, k, comp, h1, h2, h3⟩ := Cond.arrayClass_spec h
  exact ⟨c, fun n z => ⟨fun k h => (by cases h), k, h2, comp, h3⟩, h1⟩
theorem kk_start {args : Array Value} {s : State} (hTB : ∀ w ∈ TB, w.before args s = true) (hN : ∀ w ∈ nWs, va_Nw w s) : ∃ (D : va_G) (cZ cI cJ : ClassId), KK D cZ cI cJ s := by
  obtain ⟨c0, i0, h0⟩ := u_known (C := RX0) (T := TX0) (N := 5) (n := 5) hTB tb_X0 (hTB _ tb_2_4)
  obtain ⟨c1, i1, h1⟩ := u_known (C := RX1) (T := TX1) (N := 2) (n := 2) hTB tb_X1 (hTB _ tb_1_23)
  obtain ⟨c2, i2, h2⟩ := u_known (C := RX2) (T := TX2) (N := 2) (n := 2) hTB tb_X2 (hTB _ tb_2_8)
  obtain ⟨c3, i3, h3⟩ := u_known (C := RX3) (T := TX3) (N := 15) (n := 15) hTB tb_X3 (hTB _ tb_1_1)
  obtain ⟨c4, i4, h4⟩ := u_known (C := RX4) (T := TX4) (N := 14) (n := 14) hTB tb_X4 (hTB _ tb_1_4)
  obtain ⟨cZ, z1, z2⟩ := arr_of (hTB _ tb_1_14)
  obtain ⟨cI, z3, z4⟩ := arr_of (hTB _ tb_3_14)
  obtain ⟨cJ, z5, z6⟩ := arr_of (hTB _ tb_1_6)
  refine ⟨(fun k => if k = 0 then c0 else if k = 1 then c1 else if k = 2 then c2 else if k = 3 then c3 else c4, fun k => if k = 0 then i0 else if k = 1 then i1 else if k = 2 then i2 else if k = 3 then i3 else i4), cZ, cI, cJ, ⟨?_, ?_⟩, hN⟩
  · intro k q hq
    match k, hq with
    | 0, hq => cases hq; exact h0
    | 1, hq => cases hq; exact h1
    | 2, hq => cases hq; exact h2
    | 3, hq => cases hq; exact h3
    | 4, hq => cases hq; exact h4
    | k + 5, hq => simp [vwCl] at hq
  · intro k q hq
    match k, hq with
    | 0, hq => cases hq; exact ⟨z1, z2⟩
    | 1, hq => cases hq; exact ⟨z3, z4⟩
    | 2, hq => cases hq; exact ⟨z5, z6⟩
    | k + 3, hq => simp at hq
theorem str_of {args : Array Value} {s : State} {k : Nat} {tx : String} (h1 : (Cond.stringRef RX3 k tx).before args s = true) (h2 : (Cond.exactly (.string RX3 k) "java/lang/String").before args s = true) : ∃ a, vk_R RX3 k tx a s := by
  obtain ⟨a, c, cell, kk, q1, -⟩ := Cond.exactly_spec (args := args) (first := s) (o := none) (s := s) (idx := []) (t := .string RX3 k) (cls := "java/lang/String") h2
  exact ⟨a, vk_R.of h1 q1⟩
set_option maxHeartbeats 4000000 in
set_option maxRecDepth 100000 in
theorem whole_start {p : Program} {e : Env} {s : State} {m : MethodId} {below : List Frame} {meth : Method} {c : Code} (l : Launch) (hl9 : l.stackTraces = false) {b L : Nat} {xs : Nat → Int32} (hL : L ≤ 6656) (C0 : lw_At p s m meth c b L xs) : W p l e room_1 s m #[Value.ref b] below meth c s.heap [] 0 0 (lw_Z below #[Value.ref b] s) (entryFrame m ([Value.ref b] : List Value).toArray 8) := by
  obtain ⟨hx, hb, hr, hml, hown, hts, hXs, hbl, hlocks, hgv⟩ := id C0
  have hown : s.vm.findClass RL = some m.cls := hown
  have hTX : ∀ w ∈ TX, w.before #[Value.ref b] s = true := fun w h => hts w (lt_TX w h)
  have hTB : ∀ w ∈ TB, w.before #[Value.ref b] s = true := fun w h => hts w (lt_TB w h)
  have hfl := flat_of_before _ hgv
  obtain ⟨A, hAd⟩ : ∃ A : Nat → Prop, A = fun q => s.heap.size ≤ q := ⟨_, rfl⟩
  have hA : ∀ q : Nat, s.heap.size ≤ q → A q := fun q h => by rw [hAd]; exact h
  have hA2 : ∀ q : Nat, A q → s.heap.size ≤ q := fun q h => by rw [hAd] at h; exact h
  have hbA : ¬ A b := fun h => by have := hA2 b h; omega
  have hnA : ∀ a : Nat, a < s.heap.size → ¬ A a := fun a h q => by have := hA2 a q; omega
  obtain ⟨D, cZ, cI, cJ, hK⟩ := kk_start hTB (fun w hw => va_Nw.of (nw_on (nw_forms w hw)) (hts w (lt_n w hw)))
  have hX : KX A s s.heap := ⟨vx_Zqof (hts _ lt_U) (hts _ lt_I) (hfl _ (by decide +kernel)) hnA, vx_Zqof (hts _ lt_S) (hts _ lt_I) (hfl _ (by decide +kernel)) hnA, fun w hw => va_Nw.of (xw_on (xw_forms w hw)) (hts w (lt_xw w hw)), str_of (hts _ lt_s1) (hfl _ (by decide +kernel)), str_of (hts _ lt_s2) (hfl _ (by decide +kernel)), str_of (hts _ lt_s3) (hfl _ (by decide +kernel)), str_of (hts _ lt_s4) (hfl _ (by decide +kernel))⟩
  have hS : va_S A s.heap s.heap [] := va_S.rf
  have hP : va_P D vwCl [] s.heap := fun k q h => by simp at h
  have hD : va_D A [] := ⟨fun i j p q h => by simp at h, fun k q h => by simp at h⟩
  have hl := lv_entry ([.ref b]) (n := 8) (Nat.le_of_ble_eq_true rfl)
  rw [lg_entry_eq]
  generalize (lg_sl ([.ref b]) ++ List.replicate (8 - (lg_sl ([.ref b])).length) Slot.unset).toArray = ls at hl ⊢
  have hl : lv_has ls 8 [(0, .ref b)] := hl
  refine va_new (D := D) (ci := 3) (fs := [.null, .null, .null, .null, .null, .null, .null, .int 0, .int 0, .null, .null, .null, .null, .null, .null]) (C := RX3) (T := TX3) (N := 15) hx hb hTB tb_X3 tyX3 tyX3_ok hown (hTB _ tb_1_0) (hTB _ tb_1_1) (hTB _ tb_1_2) hK.1 hP hD hS hA rfl (fun j hj => by rcases (show j = 0 ∨ j = 1 ∨ j = 2 ∨ j = 3 ∨ j = 4 ∨ j = 5 ∨ j = 6 ∨ j = 7 ∨ j = 8 ∨ j = 9 ∨ j = 10 ∨ j = 11 ∨ j = 12 ∨ j = 13 ∨ j = 14 by omega) with rfl | rfl | rfl | rfl | rfl | rfl | rfl | rfl | rfl | rfl | rfl | rfl | rfl | rfl | rfl <;> rfl) (Nat.le_of_ble_eq_true rfl) (Nat.le_of_ble_eq_true rfl) dL_law_0 (fun n0 H hP hD hS => ?_)
  have hP : va_P D vwCl [(n0, .inr (3, [.null, .null, .null, .null, .null, .null, .null, .int 0, .int 0, .null, .null, .null, .null, .null, .null]))] H := hP
  have hD : va_D A [(n0, .inr (3, [.null, .null, .null, .null, .null, .null, .null, .int 0, .int 0, .null, .null, .null, .null, .null, .null]))] := hD
  refine W.widen (k := 1) (n := 15) (by decide) (by decide) ?_
  refine lv_dup hx hb dL_law_3 rfl ?_
  refine fin_v (wr := []) (va_runI (As := []) (rest := [.ref n0]) ⟨hx, hb, hml, hown, hTB⟩ (c_X3_init l D cZ cI cJ n0 _) (cw_I hTB tb_1_10 tb_1_2 tb_1_8 tb_1_9 rfl nd_X3_init rfl rfl ⟨Nat.le_of_ble_eq_true rfl, Nat.le_of_ble_eq_true rfl⟩) (pre_S hK hP hD [0] rfl rfl) rfl rfl hl.1 rfl (lv_room (Nat.le_of_ble_eq_true rfl)) dL_law_4 ⟨Nat.le_of_ble_eq_true rfl, Nat.le_of_ble_eq_true rfl⟩) hP hD hS hA [0] [] rfl rfl rfl (by decide) (fun u4 H locs hc4 hP hD hS => ?_)
  obtain ⟨tl, sx, sy, wx, wy, kx, ky, fx, xu, xl, fy, yu, yl, dv, q, r, d, lm, co, sp, p1, p2⟩ := u4
  have hP : va_P D vwCl [(n0, .inr (3, [.ref tl, .ref sx, .ref sy, .ref wx, .ref wy, .ref kx, .ref ky, .int 0, .int 0, .ref fx, .ref fy, .ref dv, .ref sp, .ref p1, .ref p2])), (tl, .inl (cZ, 16, .inl (fun _ => 0))), (sx, .inl (cJ, 16, .inr (.inl (fun _ => 0)))), (sy, .inl (cJ, 16, .inr (.inl (fun _ => 0)))), (wx, .inl (cJ, 16, .inr (.inl (fun _ => 0)))), (wy, .inl (cJ, 16, .inr (.inl (fun _ => 0)))), (kx, .inl (cJ, 64, .inr (.inl (fun _ => 0)))), (ky, .inl (cJ, 64, .inr (.inl (fun _ => 0)))), (fx, .inr (1, [.ref xu, .ref xl])), (xu, .inr (2, [.long 0, .long 0])), (xl, .inr (2, [.long 0, .long 0])), (fy, .inr (1, [.ref yu, .ref yl])), (yu, .inr (2, [.long 0, .long 0])), (yl, .inr (2, [.long 0, .long 0])), (dv, .inr (0, [.ref q, .ref r, .ref d, .ref lm, .ref co])), (q, .inr (2, [.long 0, .long 0])), (r, .inr (2, [.long 0, .long 0])), (d, .inr (2, [.long 0, .long 0])), (lm, .inr (2, [.long 0, .long 0])), (co, .inr (2, [.long 0, .long 0])), (sp, .inr (2, [.long 0, .long 0])), (p1, .inr (2, [.long 0, .long 0])), (p2, .inr (2, [.long 0, .long 0]))] H := hP
  have hD : va_D A [(n0, .inr (3, [.ref tl, .ref sx, .ref sy, .ref wx, .ref wy, .ref kx, .ref ky, .int 0, .int 0, .ref fx, .ref fy, .ref dv, .ref sp, .ref p1, .ref p2])), (tl, .inl (cZ, 16, .inl (fun _ => 0))), (sx, .inl (cJ, 16, .inr (.inl (fun _ => 0)))), (sy, .inl (cJ, 16, .inr (.inl (fun _ => 0)))), (wx, .inl (cJ, 16, .inr (.inl (fun _ => 0)))), (wy, .inl (cJ, 16, .inr (.inl (fun _ => 0)))), (kx, .inl (cJ, 64, .inr (.inl (fun _ => 0)))), (ky, .inl (cJ, 64, .inr (.inl (fun _ => 0)))), (fx, .inr (1, [.ref xu, .ref xl])), (xu, .inr (2, [.long 0, .long 0])), (xl, .inr (2, [.long 0, .long 0])), (fy, .inr (1, [.ref yu, .ref yl])), (yu, .inr (2, [.long 0, .long 0])), (yl, .inr (2, [.long 0, .long 0])), (dv, .inr (0, [.ref q, .ref r, .ref d, .ref lm, .ref co])), (q, .inr (2, [.long 0, .long 0])), (r, .inr (2, [.long 0, .long 0])), (d, .inr (2, [.long 0, .long 0])), (lm, .inr (2, [.long 0, .long 0])), (co, .inr (2, [.long 0, .long 0])), (sp, .inr (2, [.long 0, .long 0])), (p1, .inr (2, [.long 0, .long 0])), (p2, .inr (2, [.long 0, .long 0]))] := hD
  refine W.widen (k := 23) (n := 256) (by decide) (by decide) ?_
  refine lv_astore_n (lv' := [(1, .ref n0), (0, .ref b)]) hx hb dL_law_7 rfl hl (by decide) rfl (fun ls hl => ?_)
  refine va_new (D := D) (ci := 4) (fs := [.int 0, .null, .null, .null, .null, .null, .null, .null, .null, .int 0, .null, .null, .int 0, .int 0]) (C := RX4) (T := TX4) (N := 14) hx hb hTB tb_X4 tyX4 tyX4_ok hown (hTB _ tb_1_3) (hTB _ tb_1_4) (hTB _ tb_1_5) hK.1 hP hD hS hA rfl (fun j hj => by rcases (show j = 0 ∨ j = 1 ∨ j = 2 ∨ j = 3 ∨ j = 4 ∨ j = 5 ∨ j = 6 ∨ j = 7 ∨ j = 8 ∨ j = 9 ∨ j = 10 ∨ j = 11 ∨ j = 12 ∨ j = 13 by omega) with rfl | rfl | rfl | rfl | rfl | rfl | rfl | rfl | rfl | rfl | rfl | rfl | rfl | rfl <;> rfl) (Nat.le_of_ble_eq_true rfl) (Nat.le_of_ble_eq_true rfl) dL_law_8 (fun n8 H hP hD hS => ?_)
  have hP : va_P D vwCl [(n0, .inr (3, [.ref tl, .ref sx, .ref sy, .ref wx, .ref wy, .ref kx, .ref ky, .int 0, .int 0, .ref fx, .ref fy, .ref dv, .ref sp, .ref p1, .ref p2])), (tl, .inl (cZ, 16, .inl (fun _ => 0))), (sx, .inl (cJ, 16, .inr (.inl (fun _ => 0)))), (sy, .inl (cJ, 16, .inr (.inl (fun _ => 0)))), (wx, .inl (cJ, 16, .inr (.inl (fun _ => 0)))), (wy, .inl (cJ, 16, .inr (.inl (fun _ => 0)))), (kx, .inl (cJ, 64, .inr (.inl (fun _ => 0)))), (ky, .inl (cJ, 64, .inr (.inl (fun _ => 0)))), (fx, .inr (1, [.ref xu, .ref xl])), (xu, .inr (2, [.long 0, .long 0])), (xl, .inr (2, [.long 0, .long 0])), (fy, .inr (1, [.ref yu, .ref yl])), (yu, .inr (2, [.long 0, .long 0])), (yl, .inr (2, [.long 0, .long 0])), (dv, .inr (0, [.ref q, .ref r, .ref d, .ref lm, .ref co])), (q, .inr (2, [.long 0, .long 0])), (r, .inr (2, [.long 0, .long 0])), (d, .inr (2, [.long 0, .long 0])), (lm, .inr (2, [.long 0, .long 0])), (co, .inr (2, [.long 0, .long 0])), (sp, .inr (2, [.long 0, .long 0])), (p1, .inr (2, [.long 0, .long 0])), (p2, .inr (2, [.long 0, .long 0])), (n8, .inr (4, [.int 0, .null, .null, .null, .null, .null, .null, .null, .null, .int 0, .null, .null, .int 0, .int 0]))] H := hP
  have hD : va_D A [(n0, .inr (3, [.ref tl, .ref sx, .ref sy, .ref wx, .ref wy, .ref kx, .ref ky, .int 0, .int 0, .ref fx, .ref fy, .ref dv, .ref sp, .ref p1, .ref p2])), (tl, .inl (cZ, 16, .inl (fun _ => 0))), (sx, .inl (cJ, 16, .inr (.inl (fun _ => 0)))), (sy, .inl (cJ, 16, .inr (.inl (fun _ => 0)))), (wx, .inl (cJ, 16, .inr (.inl (fun _ => 0)))), (wy, .inl (cJ, 16, .inr (.inl (fun _ => 0)))), (kx, .inl (cJ, 64, .inr (.inl (fun _ => 0)))), (ky, .inl (cJ, 64, .inr (.inl (fun _ => 0)))), (fx, .inr (1, [.ref xu, .ref xl])), (xu, .inr (2, [.long 0, .long 0])), (xl, .inr (2, [.long 0, .long 0])), (fy, .inr (1, [.ref yu, .ref yl])), (yu, .inr (2, [.long 0, .long 0])), (yl, .inr (2, [.long 0, .long 0])), (dv, .inr (0, [.ref q, .ref r, .ref d, .ref lm, .ref co])), (q, .inr (2, [.long 0, .long 0])), (r, .inr (2, [.long 0, .long 0])), (d, .inr (2, [.long 0, .long 0])), (lm, .inr (2, [.long 0, .long 0])), (co, .inr (2, [.long 0, .long 0])), (sp, .inr (2, [.long 0, .long 0])), (p1, .inr (2, [.long 0, .long 0])), (p2, .inr (2, [.long 0, .long 0])), (n8, .inr (4, [.int 0, .null, .null, .null, .null, .null, .null, .null, .null, .int 0, .null, .null, .int 0, .int 0]))] := hD
  refine W.widen (k := 24) (n := 270) (by decide) (by decide) ?_
  refine lv_dup hx hb dL_law_11 rfl ?_
  refine fin_v (wr := [(n0, .inr (3, [.ref tl, .ref sx, .ref sy, .ref wx, .ref wy, .ref kx, .ref ky, .int 0, .int 0, .ref fx, .ref fy, .ref dv, .ref sp, .ref p1, .ref p2])), (tl, .inl (cZ, 16, .inl (fun _ => 0))), (sx, .inl (cJ, 16, .inr (.inl (fun _ => 0)))), (sy, .inl (cJ, 16, .inr (.inl (fun _ => 0)))), (wx, .inl (cJ, 16, .inr (.inl (fun _ => 0)))), (wy, .inl (cJ, 16, .inr (.inl (fun _ => 0)))), (kx, .inl (cJ, 64, .inr (.inl (fun _ => 0)))), (ky, .inl (cJ, 64, .inr (.inl (fun _ => 0)))), (fx, .inr (1, [.ref xu, .ref xl])), (xu, .inr (2, [.long 0, .long 0])), (xl, .inr (2, [.long 0, .long 0])), (fy, .inr (1, [.ref yu, .ref yl])), (yu, .inr (2, [.long 0, .long 0])), (yl, .inr (2, [.long 0, .long 0])), (dv, .inr (0, [.ref q, .ref r, .ref d, .ref lm, .ref co])), (q, .inr (2, [.long 0, .long 0])), (r, .inr (2, [.long 0, .long 0])), (d, .inr (2, [.long 0, .long 0])), (lm, .inr (2, [.long 0, .long 0])), (co, .inr (2, [.long 0, .long 0])), (sp, .inr (2, [.long 0, .long 0])), (p1, .inr (2, [.long 0, .long 0])), (p2, .inr (2, [.long 0, .long 0]))]) (va_runI (As := []) (rest := [.ref n8]) ⟨hx, hb, hml, hown, hTB⟩ (c_X4_init l D cZ cI cJ n8 _) (cw_I hTB tb_3_11 tb_1_5 tb_3_9 tb_3_10 rfl nd_X4_init rfl rfl ⟨Nat.le_of_ble_eq_true rfl, Nat.le_of_ble_eq_true rfl⟩) (pre_S hK hP hD [23] rfl rfl) rfl rfl hl.1 rfl (lv_room (Nat.le_of_ble_eq_true rfl)) dL_law_12 ⟨Nat.le_of_ble_eq_true rfl, Nat.le_of_ble_eq_true rfl⟩) hP hD hS hA [23] [0, 1, 2, 3, 4, 5, 6, 7, 8, 9, 10, 11, 12, 13, 14, 15, 16, 17, 18, 19, 20, 21, 22] rfl rfl rfl (by decide) (fun u12 H locs hc12 hP hD hS => ?_)
  obtain ⟨wa, sa, ma, tl2, gx, gy, tx, tz, kx2, ky2⟩ := u12
  have hP : va_P D vwCl [(n0, .inr (3, [.ref tl, .ref sx, .ref sy, .ref wx, .ref wy, .ref kx, .ref ky, .int 0, .int 0, .ref fx, .ref fy, .ref dv, .ref sp, .ref p1, .ref p2])), (tl, .inl (cZ, 16, .inl (fun _ => 0))), (sx, .inl (cJ, 16, .inr (.inl (fun _ => 0)))), (sy, .inl (cJ, 16, .inr (.inl (fun _ => 0)))), (wx, .inl (cJ, 16, .inr (.inl (fun _ => 0)))), (wy, .inl (cJ, 16, .inr (.inl (fun _ => 0)))), (kx, .inl (cJ, 64, .inr (.inl (fun _ => 0)))), (ky, .inl (cJ, 64, .inr (.inl (fun _ => 0)))), (fx, .inr (1, [.ref xu, .ref xl])), (xu, .inr (2, [.long 0, .long 0])), (xl, .inr (2, [.long 0, .long 0])), (fy, .inr (1, [.ref yu, .ref yl])), (yu, .inr (2, [.long 0, .long 0])), (yl, .inr (2, [.long 0, .long 0])), (dv, .inr (0, [.ref q, .ref r, .ref d, .ref lm, .ref co])), (q, .inr (2, [.long 0, .long 0])), (r, .inr (2, [.long 0, .long 0])), (d, .inr (2, [.long 0, .long 0])), (lm, .inr (2, [.long 0, .long 0])), (co, .inr (2, [.long 0, .long 0])), (sp, .inr (2, [.long 0, .long 0])), (p1, .inr (2, [.long 0, .long 0])), (p2, .inr (2, [.long 0, .long 0])), (n8, .inr (4, [.int 0, .ref wa, .ref sa, .ref ma, .ref tl2, .ref gx, .ref gy, .ref tx, .ref tz, .int 0, .ref kx2, .ref ky2, .int 0, .int 0])), (wa, .inl (cJ, 96, .inr (.inl (fun _ => 0)))), (sa, .inl (cI, 16, .inl (fun _ => 0))), (ma, .inl (cJ, 12, .inr (.inl (fun _ => 0)))), (tl2, .inl (cZ, 16, .inl (fun _ => 0))), (gx, .inl (cJ, 16, .inr (.inl (fun _ => 0)))), (gy, .inl (cJ, 16, .inr (.inl (fun _ => 0)))), (tx, .inl (cJ, 16, .inr (.inl (fun _ => 0)))), (tz, .inl (cJ, 16, .inr (.inl (fun _ => 0)))), (kx2, .inl (cJ, 64, .inr (.inl (fun _ => 0)))), (ky2, .inl (cJ, 64, .inr (.inl (fun _ => 0))))] H := hP
  have hD : va_D A [(n0, .inr (3, [.ref tl, .ref sx, .ref sy, .ref wx, .ref wy, .ref kx, .ref ky, .int 0, .int 0, .ref fx, .ref fy, .ref dv, .ref sp, .ref p1, .ref p2])), (tl, .inl (cZ, 16, .inl (fun _ => 0))), (sx, .inl (cJ, 16, .inr (.inl (fun _ => 0)))), (sy, .inl (cJ, 16, .inr (.inl (fun _ => 0)))), (wx, .inl (cJ, 16, .inr (.inl (fun _ => 0)))), (wy, .inl (cJ, 16, .inr (.inl (fun _ => 0)))), (kx, .inl (cJ, 64, .inr (.inl (fun _ => 0)))), (ky, .inl (cJ, 64, .inr (.inl (fun _ => 0)))), (fx, .inr (1, [.ref xu, .ref xl])), (xu, .inr (2, [.long 0, .long 0])), (xl, .inr (2, [.long 0, .long 0])), (fy, .inr (1, [.ref yu, .ref yl])), (yu, .inr (2, [.long 0, .long 0])), (yl, .inr (2, [.long 0, .long 0])), (dv, .inr (0, [.ref q, .ref r, .ref d, .ref lm, .ref co])), (q, .inr (2, [.long 0, .long 0])), (r, .inr (2, [.long 0, .long 0])), (d, .inr (2, [.long 0, .long 0])), (lm, .inr (2, [.long 0, .long 0])), (co, .inr (2, [.long 0, .long 0])), (sp, .inr (2, [.long 0, .long 0])), (p1, .inr (2, [.long 0, .long 0])), (p2, .inr (2, [.long 0, .long 0])), (n8, .inr (4, [.int 0, .ref wa, .ref sa, .ref ma, .ref tl2, .ref gx, .ref gy, .ref tx, .ref tz, .int 0, .ref kx2, .ref ky2, .int 0, .int 0])), (wa, .inl (cJ, 96, .inr (.inl (fun _ => 0)))), (sa, .inl (cI, 16, .inl (fun _ => 0))), (ma, .inl (cJ, 12, .inr (.inl (fun _ => 0)))), (tl2, .inl (cZ, 16, .inl (fun _ => 0))), (gx, .inl (cJ, 16, .inr (.inl (fun _ => 0)))), (gy, .inl (cJ, 16, .inr (.inl (fun _ => 0)))), (tx, .inl (cJ, 16, .inr (.inl (fun _ => 0)))), (tz, .inl (cJ, 16, .inr (.inl (fun _ => 0)))), (kx2, .inl (cJ, 64, .inr (.inl (fun _ => 0)))), (ky2, .inl (cJ, 64, .inr (.inl (fun _ => 0))))] := hD
  refine W.widen (k := 34) (n := 602) (by decide) (by decide) ?_
  refine lv_astore_n (lv' := [(2, .ref n8), (1, .ref n0), (0, .ref b)]) hx hb dL_law_15 rfl hl (by decide) rfl (fun ls hl => ?_)
  refine lv_iconst (v := 1) hx hb dL_law_16 (by decide) ?_
  refine nw_J (N' := 1) hx hb (hTB _ tb_1_6) hK hP hD hS hA (by decide) (by decide) (by decide) (Nat.le_of_ble_eq_true rfl) (Nat.le_of_ble_eq_true rfl) dL_law_17 (fun n17 H hP hD hS => ?_)
  have hP : va_P D vwCl [(n0, .inr (3, [.ref tl, .ref sx, .ref sy, .ref wx, .ref wy, .ref kx, .ref ky, .int 0, .int 0, .ref fx, .ref fy, .ref dv, .ref sp, .ref p1, .ref p2])), (tl, .inl (cZ, 16, .inl (fun _ => 0))), (sx, .inl (cJ, 16, .inr (.inl (fun _ => 0)))), (sy, .inl (cJ, 16, .inr (.inl (fun _ => 0)))), (wx, .inl (cJ, 16, .inr (.inl (fun _ => 0)))), (wy, .inl (cJ, 16, .inr (.inl (fun _ => 0)))), (kx, .inl (cJ, 64, .inr (.inl (fun _ => 0)))), (ky, .inl (cJ, 64, .inr (.inl (fun _ => 0)))), (fx, .inr (1, [.ref xu, .ref xl])), (xu, .inr (2, [.long 0, .long 0])), (xl, .inr (2, [.long 0, .long 0])), (fy, .inr (1, [.ref yu, .ref yl])), (yu, .inr (2, [.long 0, .long 0])), (yl, .inr (2, [.long 0, .long 0])), (dv, .inr (0, [.ref q, .ref r, .ref d, .ref lm, .ref co])), (q, .inr (2, [.long 0, .long 0])), (r, .inr (2, [.long 0, .long 0])), (d, .inr (2, [.long 0, .long 0])), (lm, .inr (2, [.long 0, .long 0])), (co, .inr (2, [.long 0, .long 0])), (sp, .inr (2, [.long 0, .long 0])), (p1, .inr (2, [.long 0, .long 0])), (p2, .inr (2, [.long 0, .long 0])), (n8, .inr (4, [.int 0, .ref wa, .ref sa, .ref ma, .ref tl2, .ref gx, .ref gy, .ref tx, .ref tz, .int 0, .ref kx2, .ref ky2, .int 0, .int 0])), (wa, .inl (cJ, 96, .inr (.inl (fun _ => 0)))), (sa, .inl (cI, 16, .inl (fun _ => 0))), (ma, .inl (cJ, 12, .inr (.inl (fun _ => 0)))), (tl2, .inl (cZ, 16, .inl (fun _ => 0))), (gx, .inl (cJ, 16, .inr (.inl (fun _ => 0)))), (gy, .inl (cJ, 16, .inr (.inl (fun _ => 0)))), (tx, .inl (cJ, 16, .inr (.inl (fun _ => 0)))), (tz, .inl (cJ, 16, .inr (.inl (fun _ => 0)))), (kx2, .inl (cJ, 64, .inr (.inl (fun _ => 0)))), (ky2, .inl (cJ, 64, .inr (.inl (fun _ => 0)))), (n17, .inl (cJ, 1, .inr (.inl (fun _ => 0))))] H := hP
  have hD : va_D A [(n0, .inr (3, [.ref tl, .ref sx, .ref sy, .ref wx, .ref wy, .ref kx, .ref ky, .int 0, .int 0, .ref fx, .ref fy, .ref dv, .ref sp, .ref p1, .ref p2])), (tl, .inl (cZ, 16, .inl (fun _ => 0))), (sx, .inl (cJ, 16, .inr (.inl (fun _ => 0)))), (sy, .inl (cJ, 16, .inr (.inl (fun _ => 0)))), (wx, .inl (cJ, 16, .inr (.inl (fun _ => 0)))), (wy, .inl (cJ, 16, .inr (.inl (fun _ => 0)))), (kx, .inl (cJ, 64, .inr (.inl (fun _ => 0)))), (ky, .inl (cJ, 64, .inr (.inl (fun _ => 0)))), (fx, .inr (1, [.ref xu, .ref xl])), (xu, .inr (2, [.long 0, .long 0])), (xl, .inr (2, [.long 0, .long 0])), (fy, .inr (1, [.ref yu, .ref yl])), (yu, .inr (2, [.long 0, .long 0])), (yl, .inr (2, [.long 0, .long 0])), (dv, .inr (0, [.ref q, .ref r, .ref d, .ref lm, .ref co])), (q, .inr (2, [.long 0, .long 0])), (r, .inr (2, [.long 0, .long 0])), (d, .inr (2, [.long 0, .long 0])), (lm, .inr (2, [.long 0, .long 0])), (co, .inr (2, [.long 0, .long 0])), (sp, .inr (2, [.long 0, .long 0])), (p1, .inr (2, [.long 0, .long 0])), (p2, .inr (2, [.long 0, .long 0])), (n8, .inr (4, [.int 0, .ref wa, .ref sa, .ref ma, .ref tl2, .ref gx, .ref gy, .ref tx, .ref tz, .int 0, .ref kx2, .ref ky2, .int 0, .int 0])), (wa, .inl (cJ, 96, .inr (.inl (fun _ => 0)))), (sa, .inl (cI, 16, .inl (fun _ => 0))), (ma, .inl (cJ, 12, .inr (.inl (fun _ => 0)))), (tl2, .inl (cZ, 16, .inl (fun _ => 0))), (gx, .inl (cJ, 16, .inr (.inl (fun _ => 0)))), (gy, .inl (cJ, 16, .inr (.inl (fun _ => 0)))), (tx, .inl (cJ, 16, .inr (.inl (fun _ => 0)))), (tz, .inl (cJ, 16, .inr (.inl (fun _ => 0)))), (kx2, .inl (cJ, 64, .inr (.inl (fun _ => 0)))), (ky2, .inl (cJ, 64, .inr (.inl (fun _ => 0)))), (n17, .inl (cJ, 1, .inr (.inl (fun _ => 0))))] := hD
  refine W.widen (k := 35) (n := 603) (by decide) (by decide) ?_
  refine lv_astore_n (lv' := [(3, .ref n17), (2, .ref n8), (1, .ref n0), (0, .ref b)]) hx hb dL_law_19 rfl hl (by decide) rfl (fun ls hl => ?_)
  refine lv_iconst (v := 0) hx hb dL_law_20 (by decide) ?_
  refine lv_istore (lv' := [(4, .int 0), (3, .ref n17), (2, .ref n8), (1, .ref n0), (0, .ref b)]) hx hb dL_law_21 hl (by decide) rfl (fun ls hl => ?_)
  exact law_loop p l e s m below meth c D A cZ cI cJ b L xs (lw_Z below #[Value.ref b] s) n0 tl sx sy wx wy kx ky fx fy xu xl yu yl dv q r d lm co sp p1 p2 n8 wa sa ma tl2 gx gy tx tz kx2 ky2 n17 ⟨hx, hb, hml, hown, hTB, hTX, hK, hX, hXs, hbl, hbA, hA, hl9, hL⟩ hr hlocks hA2 rfl (L + 1) 0 (by omega) (by omega) (fun _ => 0) (fun _ => 0) (fun _ => 0) (fun _ => 0) (fun _ => 0) (fun _ => 0) (fun _ => 0) (fun _ => 0) (fun _ => 0) (fun _ => 0) 0 0 0 0 0 0 0 0 0 0 0 0 0 0 0 0 0 0 0 0 0 0 0 0 0 0 0 0 (fun _ => 0) (fun _ => 0) (fun _ => 0) (fun _ => 0) REL_0 _ _ (hP.sub [0, 1, 2, 3, 4, 5, 6, 7, 8, 11, 9, 10, 12, 13, 14, 15, 16, 17, 18, 19, 20, 21, 22, 23, 24, 25, 26, 27, 28, 29, 30, 31, 32, 33, 34] rfl) (hD.sub [0, 1, 2, 3, 4, 5, 6, 7, 8, 11, 9, 10, 12, 13, 14, 15, 16, 17, 18, 19, 20, 21, 22, 23, 24, 25, 26, 27, 28, 29, 30, 31, 32, 33, 34] (by decide) rfl) hS _ (lv_sub hl [4, 3, 2, 1, 0] rfl)
set_option maxHeartbeats 4000000 in
theorem lw_walk (l : Launch) (hl9 : l.stackTraces = false) (b : Addr) (xs : List Int32) : MetFree l x (headSpec (Jvm.Cond.code x code maxLocals ret :: tables_1) room_1) (lw_P b xs) (fun _ _ _ _ _ => True) lw_Q := by
  refine MetFree.of_bodyS (code := code) (maxLocals := maxLocals) (ret := ret) (by decide) ?_ ?_
  · intro args s m h hn
    obtain ⟨meth, c, h1, h2, h3, h4, h5, h6, -, -⟩ := Cond.code_spec hn (atoms_spec (ws := Jvm.Cond.code x code maxLocals ret :: tables_1) h _ List.mem_cons_self)
    exact ⟨meth, c, h1, h2, h3, h4, h5, h6⟩
  · intro p e s m args below meth c s₁ B hml0 hP _
    obtain ⟨rfl, hx, hbd, hgv⟩ := hP
    obtain ⟨scr, harrAt, hlist, hof, hsmall⟩ := hx
    obtain ⟨hcb, hkn, -, -⟩ := State.arrayAt?_spec harrAt
    have hown : s.vm.findClass R_law = some m.cls := findClass_of_methodNamed B.named
    have hts0 : ∀ c ∈ (Jvm.Cond.code x code maxLocals ret :: tables_1), c.before #[Value.ref b] s = true := atoms_spec (ws := Jvm.Cond.code x code maxLocals ret :: tables_1) B.pre
    have hts : ∀ w ∈ lw_tbl, w.before #[Value.ref b] s = true := k2_hts_sels lw_privs (fun w hw => hts0 w (List.mem_cons_of_mem _ hw)) lw_privs_ok
    have hml : c.maxLocals = 8 := B.maxLocals_eq (hts0 _ List.mem_cons_self)
    have X₀ : Stand p l e room_1 s m #[Value.ref b] below meth c s₁ [] 0 0 := Stand.of_body B
    have hh0 : s₁.heap = s.heap := by rw [B.state]; rfl
    have hsz : scr.slots.size = xs.length := by rw [← Array.length_toList, hlist, List.length_map]
    have hval : ∀ j : Nat, j < xs.length → scr.slots[j]? = some (.int (xs.getD j 0)) := fun j hj => by
      rw [← Array.getElem?_toList, hlist]
      simp [hj]
    have hbl : b < s.heap.size := (Array.getElem?_eq_some_iff.mp hcb).1
    have hX : va_X b xs.length (fun j => xs.getD j 0) s s.heap := ⟨scr, hcb, hof, hkn, hsz, hval⟩
    have K : W p l e room_1 s m #[Value.ref b] below meth c s₁.heap [] 0 0 (lw_Z below #[Value.ref b] s) (entryFrame m ([Value.ref b] : List Value).toArray 8) := by
      rw [hh0]
      exact whole_start l hl9 hbd ⟨B.exec, B.bytes, B.returns, hml, hown, hts, hX, hbl, B.notSynchronized, hgv⟩
    obtain ⟨t, a1, o, b1, b2, b3⟩ := K s₁ rfl X₀
    exact ⟨t, o, a1, b1, b2, b3⟩
theorem lw_pre_spec {args : Array Value} {s : State} (h : (Jvm.Cond.and given_1 narrow_1).before args s = true) (hr : rest_1_c.before args s = true) : ∃ (b : Addr) (xs : List Int32), lw_P b xs args s := by
  have hs := flat_of_before _ h
  have hq := flat_of_before _ hr
  have hc : (Cond.count 1).before args s = true := hs _ (by decide +kernel)
  have harr : (Cond.arrayOf (.arg 0) .int).before args s = true := hs _ (by decide +kernel)
  have hle : (Cond.le (.length (.arg 0)) (.int 6656)).before args s = true := hs _ (by decide +kernel)
  have hlen : (Cond.isInt (.length (.arg 0))).before args s = true := hq _ (by decide +kernel)
  have hall : (Cond.all (.arg 0) (.isInt (.elem (.arg 0) (.index 0)))).before args s = true := hq _ (by decide +kernel)
  obtain ⟨b, xs, hb, hx⟩ := State.ints_of_pre rfl harr hlen hall
  have hsm : xs.length < 2 ^ 31 := hx.choose_spec.2.2.2
  have hev : (Term.length (.arg 0)).eval args s none [] s = some (.int xs.length.toInt32) := hx.length_eval hb
  have hv := Cond.le_ints hev (show (Term.int 6656).eval args s none [] s = some (.int 6656) from rfl)
  have hd : xs.length.toInt32 ≤ 6656 := by
    simpa [Cond.before, Cond.holds, hv] using hle
  have hN : xs.length ≤ 6656 := (Int32.ofNat_le_ofNat hsm (by decide)).mp (show Int32.ofNat xs.length ≤ Int32.ofNat 6656 from hd)
  exact ⟨b, xs, Cond.one_arg hc (show args[0]? = some (.ref b) from hb), hx, hN, h⟩
theorem lw_comes (l : Launch) (hl9 : l.stackTraces = false) : Comes l x (Jvm.Cond.code x code maxLocals ret :: tables_1) room_1 (fun tb e args s => Calls_1 tb e args s ∧ rest_1 tb e args s ∧ Pre_1 tb e args s)
    (fun _ _ args s o t => lw_Q args s o t) := by
  intro p e ha hc hk s m args below hf hfit hheap happ hpre
  obtain ⟨b, xs, hP⟩ := lw_pre_spec hpre.2.2 hpre.2.1
  obtain ⟨k, o, h1, h2, h3, hQ⟩ := lw_walk l hl9 b xs p e ha hc hk s m args below hf ((Spec.applies_iff_loose hf).mp happ).1 hP trivial
  exact ⟨k, o, h1, h2, h3, hQ⟩
theorem lw_frame {s t : State} {o : Outcome} {args : Array Value} (h : Framed s o t [] 1063 8819) :
    Framed s o t (fieldLocs frame_1_writes args s ++ arrayLocs frame_1_arrays args s ++ staticLocs frame_1_statics s) 1063 8819 := h
theorem lw_limb (L : Cond) (hL : ∀ (args : Array Value) (s t : State), L.after args s (.returned (some (.int 1))) t = true) :
    ArmFor flags0 classFile x code maxLocals ret World_1 tables_1 room_1 Calls_1 rest_1 Pre_1
      (fun tb e a s o t => postC L tb e a s o t ∧ Framed s o t (fieldLocs frame_1_writes a s ++ arrayLocs frame_1_arrays a s ++ staticLocs frame_1_statics s) 1063 8819) := by
  intro l hfl _ _ p e ha hc hk s m args below hf hfit hheap happ hpre
  obtain ⟨k, o, h1, h2, h3, rfl, hF⟩ := lw_comes l (by unfold Launch.stackTraces; rw [hfl]; decide +kernel) p e ha hc hk s m args below hf hfit hheap happ hpre
  exact ⟨k, _, h1, h2, h3, hL args s _, lw_frame hF⟩
theorem i_vc : Claimed_1_1 ∧ Claimed_1_2 := ⟨lw_limb limb_1_1 (fun args s t => by simp [limb_1_1, Cond.after, Cond.holds, Cond.value]), lw_limb limb_1_2 (fun args s t => Cond.after_iff.mpr (by
  first | (rw [show limb_1_2 = Cond.eq .result (.int 1) from rfl, Cond.eq_ints (x := 1) (y := 1) rfl rfl]; simp; done) | (simp [limb_1_2, Cond.value, Term.eval]; done)))⟩
