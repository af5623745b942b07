/-! THE LAW, CASE BY CASE -/
def LG (p : Program) (l : Launch) (e : Env) (s : State) (m : MethodId) (below : List Frame) (meth : Method) (c : Code) (D : va_G) (A : Nat → Prop) (cZ cI cJ : ClassId) (b L : Nat) (xs : Nat → Int32) (Q : State → Prop) (j : Nat) (o tl sx sy wx wy kx ky fx fy xu xl yu yl dv q r d lm co sp p1 p2 mo wa sa ma tl2 gx gy tx tz kx2 ky2 ou : Nat) (pc k : Nat) : Prop :=
  ∀ (ft ft2 : Nat → Int32) (fsx fsy fwx fwy ftx fty fkx fky : Nat → Int64) (n : Nat) (ph cd ln : Int32) (xuh xul xlh xll yuh yul ylh yll qh ql rh rl dh dl lmh lml coh col sph spl p1h p1l p2h p2l : Int64) (fw : Nat → Int64) (fs : Nat → Int32) (fm fo : Nat → Int64), REL ft ft2 fsx fsy fwx fwy ftx fty fkx fky n ph ln (wv xuh xul) (wv xlh xll) (wv yuh yul) (wv ylh yll) fw fs → ∀ (H : Heap) (locs : List Loc), va_P D vwCl [(o, .inr (3, [.ref tl, .ref sx, .ref sy, .ref wx, .ref wy, .ref kx, .ref ky, .int (nI n), .int ph, .ref fx, .ref fy, .ref dv, .ref sp, .ref p1, .ref p2])), (tl, .inl (cZ, 16, .inl ft)), (sx, .inl (cJ, 16, .inr (.inl fsx))), (sy, .inl (cJ, 16, .inr (.inl fsy))), (wx, .inl (cJ, 16, .inr (.inl fwx))), (wy, .inl (cJ, 16, .inr (.inl fwy))), (kx, .inl (cJ, 64, .inr (.inl fkx))), (ky, .inl (cJ, 64, .inr (.inl fky))), (fx, .inr (1, [.ref xu, .ref xl])), (fy, .inr (1, [.ref yu, .ref yl])), (xu, .inr (2, [.long xuh, .long xul])), (xl, .inr (2, [.long xlh, .long xll])), (yu, .inr (2, [.long yuh, .long yul])), (yl, .inr (2, [.long ylh, .long yll])), (dv, .inr (0, [.ref q, .ref r, .ref d, .ref lm, .ref co])), (q, .inr (2, [.long qh, .long ql])), (r, .inr (2, [.long rh, .long rl])), (d, .inr (2, [.long dh, .long dl])), (lm, .inr (2, [.long lmh, .long lml])), (co, .inr (2, [.long coh, .long col])), (sp, .inr (2, [.long sph, .long spl])), (p1, .inr (2, [.long p1h, .long p1l])), (p2, .inr (2, [.long p2h, .long p2l])), (mo, .inr (4, [.int cd, .ref wa, .ref sa, .ref ma, .ref tl2, .ref gx, .ref gy, .ref tx, .ref tz, .int ln, .ref kx2, .ref ky2, .int (nI n), .int ph])), (wa, .inl (cJ, 96, .inr (.inl fw))), (sa, .inl (cI, 16, .inl fs)), (ma, .inl (cJ, 12, .inr (.inl fm))), (tl2, .inl (cZ, 16, .inl ft2)), (gx, .inl (cJ, 16, .inr (.inl fsx))), (gy, .inl (cJ, 16, .inr (.inl fsy))), (tx, .inl (cJ, 16, .inr (.inl ftx))), (tz, .inl (cJ, 16, .inr (.inl fty))), (kx2, .inl (cJ, 64, .inr (.inl fkx))), (ky2, .inl (cJ, 64, .inr (.inl fky))), (ou, .inl (cJ, 1, .inr (.inl fo)))] H → va_D A [(o, .inr (3, [.ref tl, .ref sx, .ref sy, .ref wx, .ref wy, .ref kx, .ref ky, .int (nI n), .int ph, .ref fx, .ref fy, .ref dv, .ref sp, .ref p1, .ref p2])), (tl, .inl (cZ, 16, .inl ft)), (sx, .inl (cJ, 16, .inr (.inl fsx))), (sy, .inl (cJ, 16, .inr (.inl fsy))), (wx, .inl (cJ, 16, .inr (.inl fwx))), (wy, .inl (cJ, 16, .inr (.inl fwy))), (kx, .inl (cJ, 64, .inr (.inl fkx))), (ky, .inl (cJ, 64, .inr (.inl fky))), (fx, .inr (1, [.ref xu, .ref xl])), (fy, .inr (1, [.ref yu, .ref yl])), (xu, .inr (2, [.long xuh, .long xul])), (xl, .inr (2, [.long xlh, .long xll])), (yu, .inr (2, [.long yuh, .long yul])), (yl, .inr (2, [.long ylh, .long yll])), (dv, .inr (0, [.ref q, .ref r, .ref d, .ref lm, .ref co])), (q, .inr (2, [.long qh, .long ql])), (r, .inr (2, [.long rh, .long rl])), (d, .inr (2, [.long dh, .long dl])), (lm, .inr (2, [.long lmh, .long lml])), (co, .inr (2, [.long coh, .long col])), (sp, .inr (2, [.long sph, .long spl])), (p1, .inr (2, [.long p1h, .long p1l])), (p2, .inr (2, [.long p2h, .long p2l])), (mo, .inr (4, [.int cd, .ref wa, .ref sa, .ref ma, .ref tl2, .ref gx, .ref gy, .ref tx, .ref tz, .int ln, .ref kx2, .ref ky2, .int (nI n), .int ph])), (wa, .inl (cJ, 96, .inr (.inl fw))), (sa, .inl (cI, 16, .inl fs)), (ma, .inl (cJ, 12, .inr (.inl fm))), (tl2, .inl (cZ, 16, .inl ft2)), (gx, .inl (cJ, 16, .inr (.inl fsx))), (gy, .inl (cJ, 16, .inr (.inl fsy))), (tx, .inl (cJ, 16, .inr (.inl ftx))), (tz, .inl (cJ, 16, .inr (.inl fty))), (kx2, .inl (cJ, 64, .inr (.inl fkx))), (ky2, .inl (cJ, 64, .inr (.inl fky))), (ou, .inl (cJ, 1, .inr (.inl fo)))] → va_S A s.heap H locs → ∀ (ls : Array Slot), lv_has ls 8 [(0, .ref b), (1, .ref o), (2, .ref mo), (3, .ref ou), (4, .int (nI (13 * j)))] → W p l e room_1 s m #[Value.ref b] below meth c H locs (35 + (j + k)) (603 + 6 * (j + k)) Q (F0 m pc ls [])
def LC (p : Program) (l : Launch)  (s : State) (m : MethodId)   (c : Code) (D : va_G) (A : Nat → Prop) (cZ cI cJ : ClassId) (b L : Nat) (xs : Nat → Int32) : Prop := p.tables.exec = Jvm.exec ∧ c.code = code ∧ c.maxLocals = 8 ∧ s.vm.findClass RL = some m.cls ∧ (∀ w ∈ TB, w.before #[Value.ref b] s = true) ∧ (∀ w ∈ TX, w.before #[Value.ref b] s = true) ∧ KK D cZ cI cJ s ∧ KX A s s.heap ∧ va_X b L xs s s.heap ∧ b < s.heap.size ∧ ¬ A b ∧ (∀ q, s.heap.size ≤ q → A q) ∧ l.stackTraces = false ∧ L ≤ 6656
set_option maxHeartbeats 4000000 in
set_option maxRecDepth 100000 in
theorem law_0 (p : Program) (l : Launch) (e : Env) (s : State) (m : MethodId) (below : List Frame) (meth : Method) (c : Code) (D : va_G) (A : Nat → Prop) (cZ cI cJ : ClassId) (b L : Nat) (xs : Nat → Int32) (Q : State → Prop) (j : Nat) (o tl sx sy wx wy kx ky fx fy xu xl yu yl dv q r d lm co sp p1 p2 mo wa sa ma tl2 gx gy tx tz kx2 ky2 ou : Nat) (ft ft2 : Nat → Int32) (fsx fsy fwx fwy ftx fty fkx fky : Nat → Int64) (n : Nat) (ph cd ln : Int32) (xuh xul xlh xll yuh yul ylh yll qh ql rh rl dh dl lmh lml coh col sph spl p1h p1l p2h p2l : Int64) (fw : Nat → Int64) (fs : Nat → Int32) (fm fo : Nat → Int64) (hC : LC p l s m c D A cZ cI cJ b L xs) (hj : 13 * j + 13 ≤ L) (hR : REL ft ft2 fsx fsy fwx fwy ftx fty fkx fky n ph ln (wv xuh xul) (wv xlh xll) (wv yuh yul) (wv ylh yll) fw fs) (hJ : LG p l e s m below meth c D A cZ cI cJ b L xs Q j o tl sx sy wx wy kx ky fx fy xu xl yu yl dv q r d lm co sp p1 p2 mo wa sa ma tl2 gx gy tx tz kx2 ky2 ou 1751 1) {H : Heap} {locs : List Loc} {ls : Array Slot} (hP : va_P D vwCl [(o, .inr (3, [.ref tl, .ref sx, .ref sy, .ref wx, .ref wy, .ref kx, .ref ky, .int (nI n), .int ph, .ref fx, .ref fy, .ref dv, .ref sp, .ref p1, .ref p2])), (tl, .inl (cZ, 16, .inl ft)), (sx, .inl (cJ, 16, .inr (.inl fsx))), (sy, .inl (cJ, 16, .inr (.inl fsy))), (wx, .inl (cJ, 16, .inr (.inl fwx))), (wy, .inl (cJ, 16, .inr (.inl fwy))), (kx, .inl (cJ, 64, .inr (.inl fkx))), (ky, .inl (cJ, 64, .inr (.inl fky))), (fx, .inr (1, [.ref xu, .ref xl])), (fy, .inr (1, [.ref yu, .ref yl])), (xu, .inr (2, [.long xuh, .long xul])), (xl, .inr (2, [.long xlh, .long xll])), (yu, .inr (2, [.long yuh, .long yul])), (yl, .inr (2, [.long ylh, .long yll])), (dv, .inr (0, [.ref q, .ref r, .ref d, .ref lm, .ref co])), (q, .inr (2, [.long qh, .long ql])), (r, .inr (2, [.long rh, .long rl])), (d, .inr (2, [.long dh, .long dl])), (lm, .inr (2, [.long lmh, .long lml])), (co, .inr (2, [.long coh, .long col])), (sp, .inr (2, [.long sph, .long spl])), (p1, .inr (2, [.long p1h, .long p1l])), (p2, .inr (2, [.long p2h, .long p2l])), (mo, .inr (4, [.int cd, .ref wa, .ref sa, .ref ma, .ref tl2, .ref gx, .ref gy, .ref tx, .ref tz, .int ln, .ref kx2, .ref ky2, .int (nI n), .int ph])), (wa, .inl (cJ, 96, .inr (.inl fw))), (sa, .inl (cI, 16, .inl fs)), (ma, .inl (cJ, 12, .inr (.inl fm))), (tl2, .inl (cZ, 16, .inl ft2)), (gx, .inl (cJ, 16, .inr (.inl fsx))), (gy, .inl (cJ, 16, .inr (.inl fsy))), (tx, .inl (cJ, 16, .inr (.inl ftx))), (tz, .inl (cJ, 16, .inr (.inl fty))), (kx2, .inl (cJ, 64, .inr (.inl fkx))), (ky2, .inl (cJ, 64, .inr (.inl fky))), (ou, .inl (cJ, 1, .inr (.inl fo)))] H) (hD : va_D A [(o, .inr (3, [.ref tl, .ref sx, .ref sy, .ref wx, .ref wy, .ref kx, .ref ky, .int (nI n), .int ph, .ref fx, .ref fy, .ref dv, .ref sp, .ref p1, .ref p2])), (tl, .inl (cZ, 16, .inl ft)), (sx, .inl (cJ, 16, .inr (.inl fsx))), (sy, .inl (cJ, 16, .inr (.inl fsy))), (wx, .inl (cJ, 16, .inr (.inl fwx))), (wy, .inl (cJ, 16, .inr (.inl fwy))), (kx, .inl (cJ, 64, .inr (.inl fkx))), (ky, .inl (cJ, 64, .inr (.inl fky))), (fx, .inr (1, [.ref xu, .ref xl])), (fy, .inr (1, [.ref yu, .ref yl])), (xu, .inr (2, [.long xuh, .long xul])), (xl, .inr (2, [.long xlh, .long xll])), (yu, .inr (2, [.long yuh, .long yul])), (yl, .inr (2, [.long ylh, .long yll])), (dv, .inr (0, [.ref q, .ref r, .ref d, .ref lm, .ref co])), (q, .inr (2, [.long qh, .long ql])), (r, .inr (2, [.long rh, .long rl])), (d, .inr (2, [.long dh, .long dl])), (lm, .inr (2, [.long lmh, .long lml])), (co, .inr (2, [.long coh, .long col])), (sp, .inr (2, [.long sph, .long spl])), (p1, .inr (2, [.long p1h, .long p1l])), (p2, .inr (2, [.long p2h, .long p2l])), (mo, .inr (4, [.int cd, .ref wa, .ref sa, .ref ma, .ref tl2, .ref gx, .ref gy, .ref tx, .ref tz, .int ln, .ref kx2, .ref ky2, .int (nI n), .int ph])), (wa, .inl (cJ, 96, .inr (.inl fw))), (sa, .inl (cI, 16, .inl fs)), (ma, .inl (cJ, 12, .inr (.inl fm))), (tl2, .inl (cZ, 16, .inl ft2)), (gx, .inl (cJ, 16, .inr (.inl fsx))), (gy, .inl (cJ, 16, .inr (.inl fsy))), (tx, .inl (cJ, 16, .inr (.inl ftx))), (tz, .inl (cJ, 16, .inr (.inl fty))), (kx2, .inl (cJ, 64, .inr (.inl fkx))), (ky2, .inl (cJ, 64, .inr (.inl fky))), (ou, .inl (cJ, 1, .inr (.inl fo)))]) (hS : va_S A s.heap H locs) (hl : lv_has ls 8 [(0, .ref b), (1, .ref o), (2, .ref mo), (3, .ref ou), (4, .int (nI (13 * j)))]) : W p l e room_1 s m #[Value.ref b] below meth c H locs (35 + j) (603 + 6 * j) Q (F0 m 116 ls []) := by
  obtain ⟨hx, hb, hml, hown, hTB, hTX, hK, hX, hXs, hbl, hbA, hA, hl9, hL⟩ := hC
  refine lv_aload_n hx hb dL_law_116 rfl (lv_at hl 1 rfl) ?_
  refine lv_aload_n hx hb dL_law_117 rfl (lv_at hl 0 rfl) ?_
  refine lv_iload hx hb dL_law_118 (lv_at hl 4 rfl) ?_
  refine lv_iconst (v := 1) hx hb dL_law_120 (by decide) ?_
  refine lv_iadd hx hb dL_law_121 ?_
  refine va_sld hx hb hXs hbl hbA hS (sx_in (k := 1) (by omega) hL) dL_law_122 ?_
  rw [show (nI (13 * j) + 1).toNatClampNeg = 13 * j + 1 from sx_cl (k := 1) (by omega)]
  refine lv_i2l (v := (xs (13 * j + 1)).toInt64) hx hb dL_law_123 rfl ?_
  refine lv_bipush (v := 32) hx hb dL_law_124 (by decide) ?_
  refine lv_lshl (v := ((xs (13 * j + 1)).toInt64) <<< ((32 : Int32).toInt64 &&& 63)) hx hb dL_law_126 rfl ?_
  refine lv_aload_n hx hb dL_law_127 rfl (lv_at hl 0 rfl) ?_
  refine lv_iload hx hb dL_law_128 (lv_at hl 4 rfl) ?_
  refine lv_iconst (v := 2) hx hb dL_law_130 (by decide) ?_
  refine lv_iadd hx hb dL_law_131 ?_
  refine va_sld hx hb hXs hbl hbA hS (sx_in (k := 2) (by omega) hL) dL_law_132 ?_
  rw [show (nI (13 * j) + 2).toNatClampNeg = 13 * j + 2 from sx_cl (k := 2) (by omega)]
  refine lv_i2l (v := (xs (13 * j + 2)).toInt64) hx hb dL_law_133 rfl ?_
  refine lv_ldc2 (v := 4294967295) hx hb hown (hTB _ tb_1_7) dL_law_134 ?_
  refine lv_land hx hb dL_law_137 ?_
  refine lv_lor hx hb dL_law_138 ?_
  refine lv_aload_n hx hb dL_law_139 rfl (lv_at hl 0 rfl) ?_
  refine lv_iload hx hb dL_law_140 (lv_at hl 4 rfl) ?_
  refine lv_iconst (v := 3) hx hb dL_law_142 (by decide) ?_
  refine lv_iadd hx hb dL_law_143 ?_
  refine va_sld hx hb hXs hbl hbA hS (sx_in (k := 3) (by omega) hL) dL_law_144 ?_
  rw [show (nI (13 * j) + 3).toNatClampNeg = 13 * j + 3 from sx_cl (k := 3) (by omega)]
  refine lv_i2l (v := (xs (13 * j + 3)).toInt64) hx hb dL_law_145 rfl ?_
  refine lv_bipush (v := 32) hx hb dL_law_146 (by decide) ?_
  refine lv_lshl (v := ((xs (13 * j + 3)).toInt64) <<< ((32 : Int32).toInt64 &&& 63)) hx hb dL_law_148 rfl ?_
  refine lv_aload_n hx hb dL_law_149 rfl (lv_at hl 0 rfl) ?_
  refine lv_iload hx hb dL_law_150 (lv_at hl 4 rfl) ?_
  refine lv_iconst (v := 4) hx hb dL_law_152 (by decide) ?_
  refine lv_iadd hx hb dL_law_153 ?_
  refine va_sld hx hb hXs hbl hbA hS (sx_in (k := 4) (by omega) hL) dL_law_154 ?_
  rw [show (nI (13 * j) + 4).toNatClampNeg = 13 * j + 4 from sx_cl (k := 4) (by omega)]
  refine lv_i2l (v := (xs (13 * j + 4)).toInt64) hx hb dL_law_155 rfl ?_
  refine lv_ldc2 (v := 4294967295) hx hb hown (hTB _ tb_1_7) dL_law_156 ?_
  refine lv_land hx hb dL_law_159 ?_
  refine lv_lor hx hb dL_law_160 ?_
  refine lv_aload_n hx hb dL_law_161 rfl (lv_at hl 0 rfl) ?_
  refine lv_iload hx hb dL_law_162 (lv_at hl 4 rfl) ?_
  refine lv_iconst (v := 5) hx hb dL_law_164 (by decide) ?_
  refine lv_iadd hx hb dL_law_165 ?_
  refine va_sld hx hb hXs hbl hbA hS (sx_in (k := 5) (by omega) hL) dL_law_166 ?_
  rw [show (nI (13 * j) + 5).toNatClampNeg = 13 * j + 5 from sx_cl (k := 5) (by omega)]
  refine lv_i2l (v := (xs (13 * j + 5)).toInt64) hx hb dL_law_167 rfl ?_
  refine lv_bipush (v := 32) hx hb dL_law_168 (by decide) ?_
  refine lv_lshl (v := ((xs (13 * j + 5)).toInt64) <<< ((32 : Int32).toInt64 &&& 63)) hx hb dL_law_170 rfl ?_
  refine lv_aload_n hx hb dL_law_171 rfl (lv_at hl 0 rfl) ?_
  refine lv_iload hx hb dL_law_172 (lv_at hl 4 rfl) ?_
  refine lv_bipush (v := 6) hx hb dL_law_174 (by decide) ?_
  refine lv_iadd hx hb dL_law_176 ?_
  refine va_sld hx hb hXs hbl hbA hS (sx_in (k := 6) (by omega) hL) dL_law_177 ?_
  rw [show (nI (13 * j) + 6).toNatClampNeg = 13 * j + 6 from sx_cl (k := 6) (by omega)]
  refine lv_i2l (v := (xs (13 * j + 6)).toInt64) hx hb dL_law_178 rfl ?_
  refine lv_ldc2 (v := 4294967295) hx hb hown (hTB _ tb_1_7) dL_law_179 ?_
  refine lv_land hx hb dL_law_182 ?_
  refine lv_lor hx hb dL_law_183 ?_
  refine lv_aload_n hx hb dL_law_184 rfl (lv_at hl 0 rfl) ?_
  refine lv_iload hx hb dL_law_185 (lv_at hl 4 rfl) ?_
  refine lv_bipush (v := 7) hx hb dL_law_187 (by decide) ?_
  refine lv_iadd hx hb dL_law_189 ?_
  refine va_sld hx hb hXs hbl hbA hS (sx_in (k := 7) (by omega) hL) dL_law_190 ?_
  rw [show (nI (13 * j) + 7).toNatClampNeg = 13 * j + 7 from sx_cl (k := 7) (by omega)]
  refine lv_i2l (v := (xs (13 * j + 7)).toInt64) hx hb dL_law_191 rfl ?_
  refine lv_bipush (v := 32) hx hb dL_law_192 (by decide) ?_
  refine lv_lshl (v := ((xs (13 * j + 7)).toInt64) <<< ((32 : Int32).toInt64 &&& 63)) hx hb dL_law_194 rfl ?_
  refine lv_aload_n hx hb dL_law_195 rfl (lv_at hl 0 rfl) ?_
  refine lv_iload hx hb dL_law_196 (lv_at hl 4 rfl) ?_
  refine lv_bipush (v := 8) hx hb dL_law_198 (by decide) ?_
  refine lv_iadd hx hb dL_law_200 ?_
  refine va_sld hx hb hXs hbl hbA hS (sx_in (k := 8) (by omega) hL) dL_law_201 ?_
  rw [show (nI (13 * j) + 8).toNatClampNeg = 13 * j + 8 from sx_cl (k := 8) (by omega)]
  refine lv_i2l (v := (xs (13 * j + 8)).toInt64) hx hb dL_law_202 rfl ?_
  refine lv_ldc2 (v := 4294967295) hx hb hown (hTB _ tb_1_7) dL_law_203 ?_
  refine lv_land hx hb dL_law_206 ?_
  refine lv_lor hx hb dL_law_207 ?_
  refine lv_aload_n hx hb dL_law_208 rfl (lv_at hl 0 rfl) ?_
  refine lv_iload hx hb dL_law_209 (lv_at hl 4 rfl) ?_
  refine lv_bipush (v := 9) hx hb dL_law_211 (by decide) ?_
  refine lv_iadd hx hb dL_law_213 ?_
  refine va_sld hx hb hXs hbl hbA hS (sx_in (k := 9) (by omega) hL) dL_law_214 ?_
  rw [show (nI (13 * j) + 9).toNatClampNeg = 13 * j + 9 from sx_cl (k := 9) (by omega)]
  refine lv_i2l (v := (xs (13 * j + 9)).toInt64) hx hb dL_law_215 rfl ?_
  refine lv_bipush (v := 32) hx hb dL_law_216 (by decide) ?_
  refine lv_lshl (v := ((xs (13 * j + 9)).toInt64) <<< ((32 : Int32).toInt64 &&& 63)) hx hb dL_law_218 rfl ?_
  refine lv_aload_n hx hb dL_law_219 rfl (lv_at hl 0 rfl) ?_
  refine lv_iload hx hb dL_law_220 (lv_at hl 4 rfl) ?_
  refine lv_bipush (v := 10) hx hb dL_law_222 (by decide) ?_
  refine lv_iadd hx hb dL_law_224 ?_
  refine va_sld hx hb hXs hbl hbA hS (sx_in (k := 10) (by omega) hL) dL_law_225 ?_
  rw [show (nI (13 * j) + 10).toNatClampNeg = 13 * j + 10 from sx_cl (k := 10) (by omega)]
  refine lv_i2l (v := (xs (13 * j + 10)).toInt64) hx hb dL_law_226 rfl ?_
  refine lv_ldc2 (v := 4294967295) hx hb hown (hTB _ tb_1_7) dL_law_227 ?_
  refine lv_land hx hb dL_law_230 ?_
  refine lv_lor hx hb dL_law_231 ?_
  refine lv_aload_n hx hb dL_law_232 rfl (lv_at hl 0 rfl) ?_
  refine lv_iload hx hb dL_law_233 (lv_at hl 4 rfl) ?_
  refine lv_bipush (v := 11) hx hb dL_law_235 (by decide) ?_
  refine lv_iadd hx hb dL_law_237 ?_
  refine va_sld hx hb hXs hbl hbA hS (sx_in (k := 11) (by omega) hL) dL_law_238 ?_
  rw [show (nI (13 * j) + 11).toNatClampNeg = 13 * j + 11 from sx_cl (k := 11) (by omega)]
  refine lv_i2l (v := (xs (13 * j + 11)).toInt64) hx hb dL_law_239 rfl ?_
  refine lv_bipush (v := 32) hx hb dL_law_240 (by decide) ?_
  refine lv_lshl (v := ((xs (13 * j + 11)).toInt64) <<< ((32 : Int32).toInt64 &&& 63)) hx hb dL_law_242 rfl ?_
  refine lv_aload_n hx hb dL_law_243 rfl (lv_at hl 0 rfl) ?_
  refine lv_iload hx hb dL_law_244 (lv_at hl 4 rfl) ?_
  refine lv_bipush (v := 12) hx hb dL_law_246 (by decide) ?_
  refine lv_iadd hx hb dL_law_248 ?_
  refine va_sld hx hb hXs hbl hbA hS (sx_in (k := 12) (by omega) hL) dL_law_249 ?_
  rw [show (nI (13 * j) + 12).toNatClampNeg = 13 * j + 12 from sx_cl (k := 12) (by omega)]
  refine lv_i2l (v := (xs (13 * j + 12)).toInt64) hx hb dL_law_250 rfl ?_
  refine lv_ldc2 (v := 4294967295) hx hb hown (hTB _ tb_1_7) dL_law_251 ?_
  refine lv_land hx hb dL_law_254 ?_
  refine lv_lor hx hb dL_law_255 ?_
  refine fin_i (wr := [(tl, .inl (cZ, 16, .inl ft)), (sx, .inl (cJ, 16, .inr (.inl fsx))), (sy, .inl (cJ, 16, .inr (.inl fsy))), (wx, .inl (cJ, 16, .inr (.inl fwx))), (wy, .inl (cJ, 16, .inr (.inl fwy))), (kx, .inl (cJ, 64, .inr (.inl fkx))), (ky, .inl (cJ, 64, .inr (.inl fky))), (fx, .inr (1, [.ref xu, .ref xl])), (fy, .inr (1, [.ref yu, .ref yl])), (xu, .inr (2, [.long xuh, .long xul])), (xl, .inr (2, [.long xlh, .long xll])), (yu, .inr (2, [.long yuh, .long yul])), (yl, .inr (2, [.long ylh, .long yll])), (dv, .inr (0, [.ref q, .ref r, .ref d, .ref lm, .ref co])), (q, .inr (2, [.long qh, .long ql])), (r, .inr (2, [.long rh, .long rl])), (d, .inr (2, [.long dh, .long dl])), (lm, .inr (2, [.long lmh, .long lml])), (co, .inr (2, [.long coh, .long col])), (p1, .inr (2, [.long p1h, .long p1l])), (p2, .inr (2, [.long p2h, .long p2l])), (mo, .inr (4, [.int cd, .ref wa, .ref sa, .ref ma, .ref tl2, .ref gx, .ref gy, .ref tx, .ref tz, .int ln, .ref kx2, .ref ky2, .int (nI n), .int ph])), (wa, .inl (cJ, 96, .inr (.inl fw))), (sa, .inl (cI, 16, .inl fs)), (ma, .inl (cJ, 12, .inr (.inl fm))), (tl2, .inl (cZ, 16, .inl ft2)), (gx, .inl (cJ, 16, .inr (.inl fsx))), (gy, .inl (cJ, 16, .inr (.inl fsy))), (tx, .inl (cJ, 16, .inr (.inl ftx))), (tz, .inl (cJ, 16, .inr (.inl fty))), (kx2, .inl (cJ, 64, .inr (.inl fkx))), (ky2, .inl (cJ, 64, .inr (.inl fky))), (ou, .inl (cJ, 1, .inr (.inl fo)))]) (va_runV (As := [.long (lg (xs (13 * j + 1)) (xs (13 * j + 2))), .long (lg (xs (13 * j + 3)) (xs (13 * j + 4))), .long (lg (xs (13 * j + 5)) (xs (13 * j + 6))), .long (lg (xs (13 * j + 7)) (xs (13 * j + 8))), .long (lg (xs (13 * j + 9)) (xs (13 * j + 10))), .long (lg (xs (13 * j + 11)) (xs (13 * j + 12)))]) (rest := []) ⟨hx, hb, hml, hown, hTB⟩ (c_X3_turn l D cZ cI cJ o tl sx sy wx wy kx ky fx fy dv sp p1 p2 (nI n) ph sph spl (lg (xs (13 * j + 1)) (xs (13 * j + 2))) (lg (xs (13 * j + 3)) (xs (13 * j + 4))) (lg (xs (13 * j + 5)) (xs (13 * j + 6))) (lg (xs (13 * j + 7)) (xs (13 * j + 8))) (lg (xs (13 * j + 9)) (xs (13 * j + 10))) (lg (xs (13 * j + 11)) (xs (13 * j + 12))) _) (cw_V hTB tb_4_3 tb_1_2 tb_4_0 tb_4_1 tb_4_2 nd_X3_turn rfl rfl ⟨Nat.le_of_ble_eq_true rfl, Nat.le_of_ble_eq_true rfl⟩) (pre_V (q0 := 0) hK hP hD [0, 20] rfl rfl rfl rfl) rfl rfl hl.1 rfl (lv_room (Nat.le_of_ble_eq_true rfl)) dL_law_256 ⟨by show 35 + j + 0 + 0 ≤ 1063; omega, by show 603 + 6 * j + 0 + 0 ≤ 8819; omega⟩) hP hD hS hA [0, 20] [1, 2, 3, 4, 5, 6, 7, 8, 9, 10, 11, 12, 13, 14, 15, 16, 17, 18, 19, 21, 22, 23, 24, 25, 26, 27, 28, 29, 30, 31, 32, 33, 34] rfl rfl rfl (by decide) (fun r256 u256 H locs hc256 hP hD hS => ?_)
  obtain ⟨t1h, t1l⟩ := u256
  try dsimp only at hc256
  have hP : va_P D vwCl [(tl, .inl (cZ, 16, .inl ft)), (sx, .inl (cJ, 16, .inr (.inl fsx))), (sy, .inl (cJ, 16, .inr (.inl fsy))), (wx, .inl (cJ, 16, .inr (.inl fwx))), (wy, .inl (cJ, 16, .inr (.inl fwy))), (kx, .inl (cJ, 64, .inr (.inl fkx))), (ky, .inl (cJ, 64, .inr (.inl fky))), (fx, .inr (1, [.ref xu, .ref xl])), (fy, .inr (1, [.ref yu, .ref yl])), (xu, .inr (2, [.long xuh, .long xul])), (xl, .inr (2, [.long xlh, .long xll])), (yu, .inr (2, [.long yuh, .long yul])), (yl, .inr (2, [.long ylh, .long yll])), (dv, .inr (0, [.ref q, .ref r, .ref d, .ref lm, .ref co])), (q, .inr (2, [.long qh, .long ql])), (r, .inr (2, [.long rh, .long rl])), (d, .inr (2, [.long dh, .long dl])), (lm, .inr (2, [.long lmh, .long lml])), (co, .inr (2, [.long coh, .long col])), (p1, .inr (2, [.long p1h, .long p1l])), (p2, .inr (2, [.long p2h, .long p2l])), (mo, .inr (4, [.int cd, .ref wa, .ref sa, .ref ma, .ref tl2, .ref gx, .ref gy, .ref tx, .ref tz, .int ln, .ref kx2, .ref ky2, .int (nI n), .int ph])), (wa, .inl (cJ, 96, .inr (.inl fw))), (sa, .inl (cI, 16, .inl fs)), (ma, .inl (cJ, 12, .inr (.inl fm))), (tl2, .inl (cZ, 16, .inl ft2)), (gx, .inl (cJ, 16, .inr (.inl fsx))), (gy, .inl (cJ, 16, .inr (.inl fsy))), (tx, .inl (cJ, 16, .inr (.inl ftx))), (tz, .inl (cJ, 16, .inr (.inl fty))), (kx2, .inl (cJ, 64, .inr (.inl fkx))), (ky2, .inl (cJ, 64, .inr (.inl fky))), (ou, .inl (cJ, 1, .inr (.inl fo))), (o, .inr (3, [.ref tl, .ref sx, .ref sy, .ref wx, .ref wy, .ref kx, .ref ky, .int (nI n), .int ph, .ref fx, .ref fy, .ref dv, .ref sp, .ref p1, .ref p2])), (sp, .inr (2, [.long t1h, .long t1l]))] H := hP
  have hD : va_D A [(tl, .inl (cZ, 16, .inl ft)), (sx, .inl (cJ, 16, .inr (.inl fsx))), (sy, .inl (cJ, 16, .inr (.inl fsy))), (wx, .inl (cJ, 16, .inr (.inl fwx))), (wy, .inl (cJ, 16, .inr (.inl fwy))), (kx, .inl (cJ, 64, .inr (.inl fkx))), (ky, .inl (cJ, 64, .inr (.inl fky))), (fx, .inr (1, [.ref xu, .ref xl])), (fy, .inr (1, [.ref yu, .ref yl])), (xu, .inr (2, [.long xuh, .long xul])), (xl, .inr (2, [.long xlh, .long xll])), (yu, .inr (2, [.long yuh, .long yul])), (yl, .inr (2, [.long ylh, .long yll])), (dv, .inr (0, [.ref q, .ref r, .ref d, .ref lm, .ref co])), (q, .inr (2, [.long qh, .long ql])), (r, .inr (2, [.long rh, .long rl])), (d, .inr (2, [.long dh, .long dl])), (lm, .inr (2, [.long lmh, .long lml])), (co, .inr (2, [.long coh, .long col])), (p1, .inr (2, [.long p1h, .long p1l])), (p2, .inr (2, [.long p2h, .long p2l])), (mo, .inr (4, [.int cd, .ref wa, .ref sa, .ref ma, .ref tl2, .ref gx, .ref gy, .ref tx, .ref tz, .int ln, .ref kx2, .ref ky2, .int (nI n), .int ph])), (wa, .inl (cJ, 96, .inr (.inl fw))), (sa, .inl (cI, 16, .inl fs)), (ma, .inl (cJ, 12, .inr (.inl fm))), (tl2, .inl (cZ, 16, .inl ft2)), (gx, .inl (cJ, 16, .inr (.inl fsx))), (gy, .inl (cJ, 16, .inr (.inl fsy))), (tx, .inl (cJ, 16, .inr (.inl ftx))), (tz, .inl (cJ, 16, .inr (.inl fty))), (kx2, .inl (cJ, 64, .inr (.inl fkx))), (ky2, .inl (cJ, 64, .inr (.inl fky))), (ou, .inl (cJ, 1, .inr (.inl fo))), (o, .inr (3, [.ref tl, .ref sx, .ref sy, .ref wx, .ref wy, .ref kx, .ref ky, .int (nI n), .int ph, .ref fx, .ref fy, .ref dv, .ref sp, .ref p1, .ref p2])), (sp, .inr (2, [.long t1h, .long t1l]))] := hD
  subst hc256
  refine lv_aload_n hx hb dL_law_259 rfl (lv_at hl 2 rfl) ?_
  refine lv_aload_n hx hb dL_law_260 rfl (lv_at hl 0 rfl) ?_
  refine lv_iload hx hb dL_law_261 (lv_at hl 4 rfl) ?_
  refine lv_iconst (v := 1) hx hb dL_law_263 (by decide) ?_
  refine lv_iadd hx hb dL_law_264 ?_
  refine va_sld hx hb hXs hbl hbA hS (sx_in (k := 1) (by omega) hL) dL_law_265 ?_
  rw [show (nI (13 * j) + 1).toNatClampNeg = 13 * j + 1 from sx_cl (k := 1) (by omega)]
  refine lv_i2l (v := (xs (13 * j + 1)).toInt64) hx hb dL_law_266 rfl ?_
  refine lv_bipush (v := 32) hx hb dL_law_267 (by decide) ?_
  refine lv_lshl (v := ((xs (13 * j + 1)).toInt64) <<< ((32 : Int32).toInt64 &&& 63)) hx hb dL_law_269 rfl ?_
  refine lv_aload_n hx hb dL_law_270 rfl (lv_at hl 0 rfl) ?_
  refine lv_iload hx hb dL_law_271 (lv_at hl 4 rfl) ?_
  refine lv_iconst (v := 2) hx hb dL_law_273 (by decide) ?_
  refine lv_iadd hx hb dL_law_274 ?_
  refine va_sld hx hb hXs hbl hbA hS (sx_in (k := 2) (by omega) hL) dL_law_275 ?_
  rw [show (nI (13 * j) + 2).toNatClampNeg = 13 * j + 2 from sx_cl (k := 2) (by omega)]
  refine lv_i2l (v := (xs (13 * j + 2)).toInt64) hx hb dL_law_276 rfl ?_
  refine lv_ldc2 (v := 4294967295) hx hb hown (hTB _ tb_1_7) dL_law_277 ?_
  refine lv_land hx hb dL_law_280 ?_
  refine lv_lor hx hb dL_law_281 ?_
  refine lv_aload_n hx hb dL_law_282 rfl (lv_at hl 0 rfl) ?_
  refine lv_iload hx hb dL_law_283 (lv_at hl 4 rfl) ?_
  refine lv_iconst (v := 3) hx hb dL_law_285 (by decide) ?_
  refine lv_iadd hx hb dL_law_286 ?_
  refine va_sld hx hb hXs hbl hbA hS (sx_in (k := 3) (by omega) hL) dL_law_287 ?_
  rw [show (nI (13 * j) + 3).toNatClampNeg = 13 * j + 3 from sx_cl (k := 3) (by omega)]
  refine lv_i2l (v := (xs (13 * j + 3)).toInt64) hx hb dL_law_288 rfl ?_
  refine lv_bipush (v := 32) hx hb dL_law_289 (by decide) ?_
  refine lv_lshl (v := ((xs (13 * j + 3)).toInt64) <<< ((32 : Int32).toInt64 &&& 63)) hx hb dL_law_291 rfl ?_
  refine lv_aload_n hx hb dL_law_292 rfl (lv_at hl 0 rfl) ?_
  refine lv_iload hx hb dL_law_293 (lv_at hl 4 rfl) ?_
  refine lv_iconst (v := 4) hx hb dL_law_295 (by decide) ?_
  refine lv_iadd hx hb dL_law_296 ?_
  refine va_sld hx hb hXs hbl hbA hS (sx_in (k := 4) (by omega) hL) dL_law_297 ?_
  rw [show (nI (13 * j) + 4).toNatClampNeg = 13 * j + 4 from sx_cl (k := 4) (by omega)]
  refine lv_i2l (v := (xs (13 * j + 4)).toInt64) hx hb dL_law_298 rfl ?_
  refine lv_ldc2 (v := 4294967295) hx hb hown (hTB _ tb_1_7) dL_law_299 ?_
  refine lv_land hx hb dL_law_302 ?_
  refine lv_lor hx hb dL_law_303 ?_
  refine lv_aload_n hx hb dL_law_304 rfl (lv_at hl 0 rfl) ?_
  refine lv_iload hx hb dL_law_305 (lv_at hl 4 rfl) ?_
  refine lv_iconst (v := 5) hx hb dL_law_307 (by decide) ?_
  refine lv_iadd hx hb dL_law_308 ?_
  refine va_sld hx hb hXs hbl hbA hS (sx_in (k := 5) (by omega) hL) dL_law_309 ?_
  rw [show (nI (13 * j) + 5).toNatClampNeg = 13 * j + 5 from sx_cl (k := 5) (by omega)]
  refine lv_i2l (v := (xs (13 * j + 5)).toInt64) hx hb dL_law_310 rfl ?_
  refine lv_bipush (v := 32) hx hb dL_law_311 (by decide) ?_
  refine lv_lshl (v := ((xs (13 * j + 5)).toInt64) <<< ((32 : Int32).toInt64 &&& 63)) hx hb dL_law_313 rfl ?_
  refine lv_aload_n hx hb dL_law_314 rfl (lv_at hl 0 rfl) ?_
  refine lv_iload hx hb dL_law_315 (lv_at hl 4 rfl) ?_
  refine lv_bipush (v := 6) hx hb dL_law_317 (by decide) ?_
  refine lv_iadd hx hb dL_law_319 ?_
  refine va_sld hx hb hXs hbl hbA hS (sx_in (k := 6) (by omega) hL) dL_law_320 ?_
  rw [show (nI (13 * j) + 6).toNatClampNeg = 13 * j + 6 from sx_cl (k := 6) (by omega)]
  refine lv_i2l (v := (xs (13 * j + 6)).toInt64) hx hb dL_law_321 rfl ?_
  refine lv_ldc2 (v := 4294967295) hx hb hown (hTB _ tb_1_7) dL_law_322 ?_
  refine lv_land hx hb dL_law_325 ?_
  refine lv_lor hx hb dL_law_326 ?_
  refine lv_aload_n hx hb dL_law_327 rfl (lv_at hl 0 rfl) ?_
  refine lv_iload hx hb dL_law_328 (lv_at hl 4 rfl) ?_
  refine lv_bipush (v := 7) hx hb dL_law_330 (by decide) ?_
  refine lv_iadd hx hb dL_law_332 ?_
  refine va_sld hx hb hXs hbl hbA hS (sx_in (k := 7) (by omega) hL) dL_law_333 ?_
  rw [show (nI (13 * j) + 7).toNatClampNeg = 13 * j + 7 from sx_cl (k := 7) (by omega)]
  refine lv_i2l (v := (xs (13 * j + 7)).toInt64) hx hb dL_law_334 rfl ?_
  refine lv_bipush (v := 32) hx hb dL_law_335 (by decide) ?_
  refine lv_lshl (v := ((xs (13 * j + 7)).toInt64) <<< ((32 : Int32).toInt64 &&& 63)) hx hb dL_law_337 rfl ?_
  refine lv_aload_n hx hb dL_law_338 rfl (lv_at hl 0 rfl) ?_
  refine lv_iload hx hb dL_law_339 (lv_at hl 4 rfl) ?_
  refine lv_bipush (v := 8) hx hb dL_law_341 (by decide) ?_
  refine lv_iadd hx hb dL_law_343 ?_
  refine va_sld hx hb hXs hbl hbA hS (sx_in (k := 8) (by omega) hL) dL_law_344 ?_
  rw [show (nI (13 * j) + 8).toNatClampNeg = 13 * j + 8 from sx_cl (k := 8) (by omega)]
  refine lv_i2l (v := (xs (13 * j + 8)).toInt64) hx hb dL_law_345 rfl ?_
  refine lv_ldc2 (v := 4294967295) hx hb hown (hTB _ tb_1_7) dL_law_346 ?_
  refine lv_land hx hb dL_law_349 ?_
  refine lv_lor hx hb dL_law_350 ?_
  refine lv_aload_n hx hb dL_law_351 rfl (lv_at hl 0 rfl) ?_
  refine lv_iload hx hb dL_law_352 (lv_at hl 4 rfl) ?_
  refine lv_bipush (v := 9) hx hb dL_law_354 (by decide) ?_
  refine lv_iadd hx hb dL_law_356 ?_
  refine va_sld hx hb hXs hbl hbA hS (sx_in (k := 9) (by omega) hL) dL_law_357 ?_
  rw [show (nI (13 * j) + 9).toNatClampNeg = 13 * j + 9 from sx_cl (k := 9) (by omega)]
  refine lv_i2l (v := (xs (13 * j + 9)).toInt64) hx hb dL_law_358 rfl ?_
  refine lv_bipush (v := 32) hx hb dL_law_359 (by decide) ?_
  refine lv_lshl (v := ((xs (13 * j + 9)).toInt64) <<< ((32 : Int32).toInt64 &&& 63)) hx hb dL_law_361 rfl ?_
  refine lv_aload_n hx hb dL_law_362 rfl (lv_at hl 0 rfl) ?_
  refine lv_iload hx hb dL_law_363 (lv_at hl 4 rfl) ?_
  refine lv_bipush (v := 10) hx hb dL_law_365 (by decide) ?_
  refine lv_iadd hx hb dL_law_367 ?_
  refine va_sld hx hb hXs hbl hbA hS (sx_in (k := 10) (by omega) hL) dL_law_368 ?_
  rw [show (nI (13 * j) + 10).toNatClampNeg = 13 * j + 10 from sx_cl (k := 10) (by omega)]
  refine lv_i2l (v := (xs (13 * j + 10)).toInt64) hx hb dL_law_369 rfl ?_
  refine lv_ldc2 (v := 4294967295) hx hb hown (hTB _ tb_1_7) dL_law_370 ?_
  refine lv_land hx hb dL_law_373 ?_
  refine lv_lor hx hb dL_law_374 ?_
  refine lv_aload_n hx hb dL_law_375 rfl (lv_at hl 0 rfl) ?_
  refine lv_iload hx hb dL_law_376 (lv_at hl 4 rfl) ?_
  refine lv_bipush (v := 11) hx hb dL_law_378 (by decide) ?_
  refine lv_iadd hx hb dL_law_380 ?_
  refine va_sld hx hb hXs hbl hbA hS (sx_in (k := 11) (by omega) hL) dL_law_381 ?_
  rw [show (nI (13 * j) + 11).toNatClampNeg = 13 * j + 11 from sx_cl (k := 11) (by omega)]
  refine lv_i2l (v := (xs (13 * j + 11)).toInt64) hx hb dL_law_382 rfl ?_
  refine lv_bipush (v := 32) hx hb dL_law_383 (by decide) ?_
  refine lv_lshl (v := ((xs (13 * j + 11)).toInt64) <<< ((32 : Int32).toInt64 &&& 63)) hx hb dL_law_385 rfl ?_
  refine lv_aload_n hx hb dL_law_386 rfl (lv_at hl 0 rfl) ?_
  refine lv_iload hx hb dL_law_387 (lv_at hl 4 rfl) ?_
  refine lv_bipush (v := 12) hx hb dL_law_389 (by decide) ?_
  refine lv_iadd hx hb dL_law_391 ?_
  refine va_sld hx hb hXs hbl hbA hS (sx_in (k := 12) (by omega) hL) dL_law_392 ?_
  rw [show (nI (13 * j) + 12).toNatClampNeg = 13 * j + 12 from sx_cl (k := 12) (by omega)]
  refine lv_i2l (v := (xs (13 * j + 12)).toInt64) hx hb dL_law_393 rfl ?_
  refine lv_ldc2 (v := 4294967295) hx hb hown (hTB _ tb_1_7) dL_law_394 ?_
  refine lv_land hx hb dL_law_397 ?_
  refine lv_lor hx hb dL_law_398 ?_
  refine fin_i (wr := [(tl, .inl (cZ, 16, .inl ft)), (sx, .inl (cJ, 16, .inr (.inl fsx))), (sy, .inl (cJ, 16, .inr (.inl fsy))), (wx, .inl (cJ, 16, .inr (.inl fwx))), (wy, .inl (cJ, 16, .inr (.inl fwy))), (kx, .inl (cJ, 64, .inr (.inl fkx))), (ky, .inl (cJ, 64, .inr (.inl fky))), (fx, .inr (1, [.ref xu, .ref xl])), (fy, .inr (1, [.ref yu, .ref yl])), (xu, .inr (2, [.long xuh, .long xul])), (xl, .inr (2, [.long xlh, .long xll])), (yu, .inr (2, [.long yuh, .long yul])), (yl, .inr (2, [.long ylh, .long yll])), (dv, .inr (0, [.ref q, .ref r, .ref d, .ref lm, .ref co])), (q, .inr (2, [.long qh, .long ql])), (r, .inr (2, [.long rh, .long rl])), (d, .inr (2, [.long dh, .long dl])), (lm, .inr (2, [.long lmh, .long lml])), (co, .inr (2, [.long coh, .long col])), (p1, .inr (2, [.long p1h, .long p1l])), (p2, .inr (2, [.long p2h, .long p2l])), (tl2, .inl (cZ, 16, .inl ft2)), (gx, .inl (cJ, 16, .inr (.inl fsx))), (gy, .inl (cJ, 16, .inr (.inl fsy))), (tx, .inl (cJ, 16, .inr (.inl ftx))), (tz, .inl (cJ, 16, .inr (.inl fty))), (kx2, .inl (cJ, 64, .inr (.inl fkx))), (ky2, .inl (cJ, 64, .inr (.inl fky))), (ou, .inl (cJ, 1, .inr (.inl fo))), (o, .inr (3, [.ref tl, .ref sx, .ref sy, .ref wx, .ref wy, .ref kx, .ref ky, .int (nI n), .int ph, .ref fx, .ref fy, .ref dv, .ref sp, .ref p1, .ref p2])), (sp, .inr (2, [.long t1h, .long t1l]))]) (va_runV (As := [.long (lg (xs (13 * j + 1)) (xs (13 * j + 2))), .long (lg (xs (13 * j + 3)) (xs (13 * j + 4))), .long (lg (xs (13 * j + 5)) (xs (13 * j + 6))), .long (lg (xs (13 * j + 7)) (xs (13 * j + 8))), .long (lg (xs (13 * j + 9)) (xs (13 * j + 10))), .long (lg (xs (13 * j + 11)) (xs (13 * j + 12)))]) (rest := [.int (trn (lg (xs (13 * j + 1)) (xs (13 * j + 2))) (lg (xs (13 * j + 3)) (xs (13 * j + 4))) (lg (xs (13 * j + 5)) (xs (13 * j + 6))) (lg (xs (13 * j + 7)) (xs (13 * j + 8))) (lg (xs (13 * j + 9)) (xs (13 * j + 10))) (lg (xs (13 * j + 11)) (xs (13 * j + 12))))]) ⟨hx, hb, hml, hown, hTB⟩ (c_X4_turn l D cZ cI cJ mo wa sa ma tl2 gx gy tx tz kx2 ky2 cd ln (nI n) ph fw fs fm (lg (xs (13 * j + 1)) (xs (13 * j + 2))) (lg (xs (13 * j + 3)) (xs (13 * j + 4))) (lg (xs (13 * j + 5)) (xs (13 * j + 6))) (lg (xs (13 * j + 7)) (xs (13 * j + 8))) (lg (xs (13 * j + 9)) (xs (13 * j + 10))) (lg (xs (13 * j + 11)) (xs (13 * j + 12))) hR.lm _) (cw_V hTB tb_6_3 tb_1_5 tb_6_0 tb_6_1 tb_6_2 nd_X4_turn rfl rfl ⟨Nat.le_of_ble_eq_true rfl, Nat.le_of_ble_eq_true rfl⟩) (pre_V (q0 := 21) hK hP hD [21, 22, 23, 24] rfl rfl rfl rfl) rfl rfl hl.1 rfl (lv_room (Nat.le_of_ble_eq_true rfl)) dL_law_399 ⟨by show 35 + j + 0 + 0 ≤ 1063; omega, by show 603 + 6 * j + 0 + 0 ≤ 8819; omega⟩) hP hD hS hA [21, 22, 23, 24] [0, 1, 2, 3, 4, 5, 6, 7, 8, 9, 10, 11, 12, 13, 14, 15, 16, 17, 18, 19, 20, 25, 26, 27, 28, 29, 30, 31, 32, 33, 34] rfl rfl rfl (by decide) (fun r399 u399 H locs hc399 hP hD hS => ?_)
  obtain ⟨g399, s399, m399⟩ := u399
  try dsimp only at hc399
  obtain ⟨ez, kp⟩ := hc399
  have hP : va_P D vwCl [(tl, .inl (cZ, 16, .inl ft)), (sx, .inl (cJ, 16, .inr (.inl fsx))), (sy, .inl (cJ, 16, .inr (.inl fsy))), (wx, .inl (cJ, 16, .inr (.inl fwx))), (wy, .inl (cJ, 16, .inr (.inl fwy))), (kx, .inl (cJ, 64, .inr (.inl fkx))), (ky, .inl (cJ, 64, .inr (.inl fky))), (fx, .inr (1, [.ref xu, .ref xl])), (fy, .inr (1, [.ref yu, .ref yl])), (xu, .inr (2, [.long xuh, .long xul])), (xl, .inr (2, [.long xlh, .long xll])), (yu, .inr (2, [.long yuh, .long yul])), (yl, .inr (2, [.long ylh, .long yll])), (dv, .inr (0, [.ref q, .ref r, .ref d, .ref lm, .ref co])), (q, .inr (2, [.long qh, .long ql])), (r, .inr (2, [.long rh, .long rl])), (d, .inr (2, [.long dh, .long dl])), (lm, .inr (2, [.long lmh, .long lml])), (co, .inr (2, [.long coh, .long col])), (p1, .inr (2, [.long p1h, .long p1l])), (p2, .inr (2, [.long p2h, .long p2l])), (tl2, .inl (cZ, 16, .inl ft2)), (gx, .inl (cJ, 16, .inr (.inl fsx))), (gy, .inl (cJ, 16, .inr (.inl fsy))), (tx, .inl (cJ, 16, .inr (.inl ftx))), (tz, .inl (cJ, 16, .inr (.inl fty))), (kx2, .inl (cJ, 64, .inr (.inl fkx))), (ky2, .inl (cJ, 64, .inr (.inl fky))), (ou, .inl (cJ, 1, .inr (.inl fo))), (o, .inr (3, [.ref tl, .ref sx, .ref sy, .ref wx, .ref wy, .ref kx, .ref ky, .int (nI n), .int ph, .ref fx, .ref fy, .ref dv, .ref sp, .ref p1, .ref p2])), (sp, .inr (2, [.long t1h, .long t1l])), (mo, .inr (4, [.int 0, .ref wa, .ref sa, .ref ma, .ref tl2, .ref gx, .ref gy, .ref tx, .ref tz, .int ln, .ref kx2, .ref ky2, .int (nI n), .int ph])), (wa, .inl (cJ, 96, .inr (.inl g399))), (sa, .inl (cI, 16, .inl s399)), (ma, .inl (cJ, 12, .inr (.inl m399)))] H := hP
  have hD : va_D A [(tl, .inl (cZ, 16, .inl ft)), (sx, .inl (cJ, 16, .inr (.inl fsx))), (sy, .inl (cJ, 16, .inr (.inl fsy))), (wx, .inl (cJ, 16, .inr (.inl fwx))), (wy, .inl (cJ, 16, .inr (.inl fwy))), (kx, .inl (cJ, 64, .inr (.inl fkx))), (ky, .inl (cJ, 64, .inr (.inl fky))), (fx, .inr (1, [.ref xu, .ref xl])), (fy, .inr (1, [.ref yu, .ref yl])), (xu, .inr (2, [.long xuh, .long xul])), (xl, .inr (2, [.long xlh, .long xll])), (yu, .inr (2, [.long yuh, .long yul])), (yl, .inr (2, [.long ylh, .long yll])), (dv, .inr (0, [.ref q, .ref r, .ref d, .ref lm, .ref co])), (q, .inr (2, [.long qh, .long ql])), (r, .inr (2, [.long rh, .long rl])), (d, .inr (2, [.long dh, .long dl])), (lm, .inr (2, [.long lmh, .long lml])), (co, .inr (2, [.long coh, .long col])), (p1, .inr (2, [.long p1h, .long p1l])), (p2, .inr (2, [.long p2h, .long p2l])), (tl2, .inl (cZ, 16, .inl ft2)), (gx, .inl (cJ, 16, .inr (.inl fsx))), (gy, .inl (cJ, 16, .inr (.inl fsy))), (tx, .inl (cJ, 16, .inr (.inl ftx))), (tz, .inl (cJ, 16, .inr (.inl fty))), (kx2, .inl (cJ, 64, .inr (.inl fkx))), (ky2, .inl (cJ, 64, .inr (.inl fky))), (ou, .inl (cJ, 1, .inr (.inl fo))), (o, .inr (3, [.ref tl, .ref sx, .ref sy, .ref wx, .ref wy, .ref kx, .ref ky, .int (nI n), .int ph, .ref fx, .ref fy, .ref dv, .ref sp, .ref p1, .ref p2])), (sp, .inr (2, [.long t1h, .long t1l])), (mo, .inr (4, [.int 0, .ref wa, .ref sa, .ref ma, .ref tl2, .ref gx, .ref gy, .ref tx, .ref tz, .int ln, .ref kx2, .ref ky2, .int (nI n), .int ph])), (wa, .inl (cJ, 96, .inr (.inl g399))), (sa, .inl (cI, 16, .inl s399)), (ma, .inl (cJ, 12, .inr (.inl m399)))] := hD
  subst ez
  refine lv_icmp_eq (tgt := 1751) hx hb dL_law_402 (by decide) (fun c_402 => ?_) (fun c_402 => absurd rfl c_402)
  refine W.widen (k := 35 + (j + 1)) (n := 603 + 6 * (j + 1)) (by show 35 + j + 0 ≤ 35 + (j + 1); omega) (by show 603 + 6 * j + 0 ≤ 603 + 6 * (j + 1); omega) ?_
  exact hJ ft ft2 fsx fsy fwx fwy ftx fty fkx fky n ph 0 ln xuh xul xlh xll yuh yul ylh yll qh ql rh rl dh dl lmh lml coh col t1h t1l p1h p1l p2h p2l g399 s399 m399 fo (hR.kp kp) _ _ (hP.sub [29, 0, 1, 2, 3, 4, 5, 6, 7, 8, 9, 10, 11, 12, 13, 14, 15, 16, 17, 18, 30, 19, 20, 31, 32, 33, 34, 21, 22, 23, 24, 25, 26, 27, 28] rfl) (hD.sub [29, 0, 1, 2, 3, 4, 5, 6, 7, 8, 9, 10, 11, 12, 13, 14, 15, 16, 17, 18, 30, 19, 20, 31, 32, 33, 34, 21, 22, 23, 24, 25, 26, 27, 28] (by decide) rfl) hS _ (lv_sub hl [0, 1, 2, 3, 4] rfl)

set_option maxHeartbeats 4000000 in
set_option maxRecDepth 100000 in
theorem law_1 (p : Program) (l : Launch) (e : Env) (s : State) (m : MethodId) (below : List Frame) (meth : Method) (c : Code) (D : va_G) (A : Nat → Prop) (cZ cI cJ : ClassId) (b L : Nat) (xs : Nat → Int32) (Q : State → Prop) (j : Nat) (o tl sx sy wx wy kx ky fx fy xu xl yu yl dv q r d lm co sp p1 p2 mo wa sa ma tl2 gx gy tx tz kx2 ky2 ou : Nat) (ft ft2 : Nat → Int32) (fsx fsy fwx fwy ftx fty fkx fky : Nat → Int64) (n : Nat) (ph cd ln : Int32) (xuh xul xlh xll yuh yul ylh yll qh ql rh rl dh dl lmh lml coh col sph spl p1h p1l p2h p2l : Int64) (fw : Nat → Int64) (fs : Nat → Int32) (fm fo : Nat → Int64) (hC : LC p l s m c D A cZ cI cJ b L xs) (hj : 13 * j + 13 ≤ L) (hR : REL ft ft2 fsx fsy fwx fwy ftx fty fkx fky n ph ln (wv xuh xul) (wv xlh xll) (wv yuh yul) (wv ylh yll) fw fs) (hJ : LG p l e s m below meth c D A cZ cI cJ b L xs Q j o tl sx sy wx wy kx ky fx fy xu xl yu yl dv q r d lm co sp p1 p2 mo wa sa ma tl2 gx gy tx tz kx2 ky2 ou 1751 1) {H : Heap} {locs : List Loc} {ls : Array Slot} (hP : va_P D vwCl [(o, .inr (3, [.ref tl, .ref sx, .ref sy, .ref wx, .ref wy, .ref kx, .ref ky, .int (nI n), .int ph, .ref fx, .ref fy, .ref dv, .ref sp, .ref p1, .ref p2])), (tl, .inl (cZ, 16, .inl ft)), (sx, .inl (cJ, 16, .inr (.inl fsx))), (sy, .inl (cJ, 16, .inr (.inl fsy))), (wx, .inl (cJ, 16, .inr (.inl fwx))), (wy, .inl (cJ, 16, .inr (.inl fwy))), (kx, .inl (cJ, 64, .inr (.inl fkx))), (ky, .inl (cJ, 64, .inr (.inl fky))), (fx, .inr (1, [.ref xu, .ref xl])), (fy, .inr (1, [.ref yu, .ref yl])), (xu, .inr (2, [.long xuh, .long xul])), (xl, .inr (2, [.long xlh, .long xll])), (yu, .inr (2, [.long yuh, .long yul])), (yl, .inr (2, [.long ylh, .long yll])), (dv, .inr (0, [.ref q, .ref r, .ref d, .ref lm, .ref co])), (q, .inr (2, [.long qh, .long ql])), (r, .inr (2, [.long rh, .long rl])), (d, .inr (2, [.long dh, .long dl])), (lm, .inr (2, [.long lmh, .long lml])), (co, .inr (2, [.long coh, .long col])), (sp, .inr (2, [.long sph, .long spl])), (p1, .inr (2, [.long p1h, .long p1l])), (p2, .inr (2, [.long p2h, .long p2l])), (mo, .inr (4, [.int cd, .ref wa, .ref sa, .ref ma, .ref tl2, .ref gx, .ref gy, .ref tx, .ref tz, .int ln, .ref kx2, .ref ky2, .int (nI n), .int ph])), (wa, .inl (cJ, 96, .inr (.inl fw))), (sa, .inl (cI, 16, .inl fs)), (ma, .inl (cJ, 12, .inr (.inl fm))), (tl2, .inl (cZ, 16, .inl ft2)), (gx, .inl (cJ, 16, .inr (.inl fsx))), (gy, .inl (cJ, 16, .inr (.inl fsy))), (tx, .inl (cJ, 16, .inr (.inl ftx))), (tz, .inl (cJ, 16, .inr (.inl fty))), (kx2, .inl (cJ, 64, .inr (.inl fkx))), (ky2, .inl (cJ, 64, .inr (.inl fky))), (ou, .inl (cJ, 1, .inr (.inl fo)))] H) (hD : va_D A [(o, .inr (3, [.ref tl, .ref sx, .ref sy, .ref wx, .ref wy, .ref kx, .ref ky, .int (nI n), .int ph, .ref fx, .ref fy, .ref dv, .ref sp, .ref p1, .ref p2])), (tl, .inl (cZ, 16, .inl ft)), (sx, .inl (cJ, 16, .inr (.inl fsx))), (sy, .inl (cJ, 16, .inr (.inl fsy))), (wx, .inl (cJ, 16, .inr (.inl fwx))), (wy, .inl (cJ, 16, .inr (.inl fwy))), (kx, .inl (cJ, 64, .inr (.inl fkx))), (ky, .inl (cJ, 64, .inr (.inl fky))), (fx, .inr (1, [.ref xu, .ref xl])), (fy, .inr (1, [.ref yu, .ref yl])), (xu, .inr (2, [.long xuh, .long xul])), (xl, .inr (2, [.long xlh, .long xll])), (yu, .inr (2, [.long yuh, .long yul])), (yl, .inr (2, [.long ylh, .long yll])), (dv, .inr (0, [.ref q, .ref r, .ref d, .ref lm, .ref co])), (q, .inr (2, [.long qh, .long ql])), (r, .inr (2, [.long rh, .long rl])), (d, .inr (2, [.long dh, .long dl])), (lm, .inr (2, [.long lmh, .long lml])), (co, .inr (2, [.long coh, .long col])), (sp, .inr (2, [.long sph, .long spl])), (p1, .inr (2, [.long p1h, .long p1l])), (p2, .inr (2, [.long p2h, .long p2l])), (mo, .inr (4, [.int cd, .ref wa, .ref sa, .ref ma, .ref tl2, .ref gx, .ref gy, .ref tx, .ref tz, .int ln, .ref kx2, .ref ky2, .int (nI n), .int ph])), (wa, .inl (cJ, 96, .inr (.inl fw))), (sa, .inl (cI, 16, .inl fs)), (ma, .inl (cJ, 12, .inr (.inl fm))), (tl2, .inl (cZ, 16, .inl ft2)), (gx, .inl (cJ, 16, .inr (.inl fsx))), (gy, .inl (cJ, 16, .inr (.inl fsy))), (tx, .inl (cJ, 16, .inr (.inl ftx))), (tz, .inl (cJ, 16, .inr (.inl fty))), (kx2, .inl (cJ, 64, .inr (.inl fkx))), (ky2, .inl (cJ, 64, .inr (.inl fky))), (ou, .inl (cJ, 1, .inr (.inl fo)))]) (hS : va_S A s.heap H locs) (hl : lv_has ls 8 [(0, .ref b), (1, .ref o), (2, .ref mo), (3, .ref ou), (4, .int (nI (13 * j)))]) : W p l e room_1 s m #[Value.ref b] below meth c H locs (35 + j) (603 + 6 * j) Q (F0 m 407 ls []) := by
  obtain ⟨hx, hb, hml, hown, hTB, hTX, hK, hX, hXs, hbl, hbA, hA, hl9, hL⟩ := hC
  refine lv_aload_n hx hb dL_law_407 rfl (lv_at hl 1 rfl) ?_
  refine lv_aload_n hx hb dL_law_408 rfl (lv_at hl 0 rfl) ?_
  refine lv_iload hx hb dL_law_409 (lv_at hl 4 rfl) ?_
  refine lv_iconst (v := 1) hx hb dL_law_411 (by decide) ?_
  refine lv_iadd hx hb dL_law_412 ?_
  refine va_sld hx hb hXs hbl hbA hS (sx_in (k := 1) (by omega) hL) dL_law_413 ?_
  rw [show (nI (13 * j) + 1).toNatClampNeg = 13 * j + 1 from sx_cl (k := 1) (by omega)]
  refine lv_aload_n hx hb dL_law_414 rfl (lv_at hl 0 rfl) ?_
  refine lv_iload hx hb dL_law_415 (lv_at hl 4 rfl) ?_
  refine lv_iconst (v := 2) hx hb dL_law_417 (by decide) ?_
  refine lv_iadd hx hb dL_law_418 ?_
  refine va_sld hx hb hXs hbl hbA hS (sx_in (k := 2) (by omega) hL) dL_law_419 ?_
  rw [show (nI (13 * j) + 2).toNatClampNeg = 13 * j + 2 from sx_cl (k := 2) (by omega)]
  refine lv_i2l (v := (xs (13 * j + 2)).toInt64) hx hb dL_law_420 rfl ?_
  refine lv_bipush (v := 32) hx hb dL_law_421 (by decide) ?_
  refine lv_lshl (v := ((xs (13 * j + 2)).toInt64) <<< ((32 : Int32).toInt64 &&& 63)) hx hb dL_law_423 rfl ?_
  refine lv_aload_n hx hb dL_law_424 rfl (lv_at hl 0 rfl) ?_
  refine lv_iload hx hb dL_law_425 (lv_at hl 4 rfl) ?_
  refine lv_iconst (v := 3) hx hb dL_law_427 (by decide) ?_
  refine lv_iadd hx hb dL_law_428 ?_
  refine va_sld hx hb hXs hbl hbA hS (sx_in (k := 3) (by omega) hL) dL_law_429 ?_
  rw [show (nI (13 * j) + 3).toNatClampNeg = 13 * j + 3 from sx_cl (k := 3) (by omega)]
  refine lv_i2l (v := (xs (13 * j + 3)).toInt64) hx hb dL_law_430 rfl ?_
  refine lv_ldc2 (v := 4294967295) hx hb hown (hTB _ tb_1_7) dL_law_431 ?_
  refine lv_land hx hb dL_law_434 ?_
  refine lv_lor hx hb dL_law_435 ?_
  refine lv_aload_n hx hb dL_law_436 rfl (lv_at hl 0 rfl) ?_
  refine lv_iload hx hb dL_law_437 (lv_at hl 4 rfl) ?_
  refine lv_iconst (v := 4) hx hb dL_law_439 (by decide) ?_
  refine lv_iadd hx hb dL_law_440 ?_
  refine va_sld hx hb hXs hbl hbA hS (sx_in (k := 4) (by omega) hL) dL_law_441 ?_
  rw [show (nI (13 * j) + 4).toNatClampNeg = 13 * j + 4 from sx_cl (k := 4) (by omega)]
  refine lv_i2l (v := (xs (13 * j + 4)).toInt64) hx hb dL_law_442 rfl ?_
  refine lv_bipush (v := 32) hx hb dL_law_443 (by decide) ?_
  refine lv_lshl (v := ((xs (13 * j + 4)).toInt64) <<< ((32 : Int32).toInt64 &&& 63)) hx hb dL_law_445 rfl ?_
  refine lv_aload_n hx hb dL_law_446 rfl (lv_at hl 0 rfl) ?_
  refine lv_iload hx hb dL_law_447 (lv_at hl 4 rfl) ?_
  refine lv_iconst (v := 5) hx hb dL_law_449 (by decide) ?_
  refine lv_iadd hx hb dL_law_450 ?_
  refine va_sld hx hb hXs hbl hbA hS (sx_in (k := 5) (by omega) hL) dL_law_451 ?_
  rw [show (nI (13 * j) + 5).toNatClampNeg = 13 * j + 5 from sx_cl (k := 5) (by omega)]
  refine lv_i2l (v := (xs (13 * j + 5)).toInt64) hx hb dL_law_452 rfl ?_
  refine lv_ldc2 (v := 4294967295) hx hb hown (hTB _ tb_1_7) dL_law_453 ?_
  refine lv_land hx hb dL_law_456 ?_
  refine lv_lor hx hb dL_law_457 ?_
  refine lv_aload_n hx hb dL_law_458 rfl (lv_at hl 0 rfl) ?_
  refine lv_iload hx hb dL_law_459 (lv_at hl 4 rfl) ?_
  refine lv_bipush (v := 6) hx hb dL_law_461 (by decide) ?_
  refine lv_iadd hx hb dL_law_463 ?_
  refine va_sld hx hb hXs hbl hbA hS (sx_in (k := 6) (by omega) hL) dL_law_464 ?_
  rw [show (nI (13 * j) + 6).toNatClampNeg = 13 * j + 6 from sx_cl (k := 6) (by omega)]
  refine lv_i2l (v := (xs (13 * j + 6)).toInt64) hx hb dL_law_465 rfl ?_
  refine lv_bipush (v := 32) hx hb dL_law_466 (by decide) ?_
  refine lv_lshl (v := ((xs (13 * j + 6)).toInt64) <<< ((32 : Int32).toInt64 &&& 63)) hx hb dL_law_468 rfl ?_
  refine lv_aload_n hx hb dL_law_469 rfl (lv_at hl 0 rfl) ?_
  refine lv_iload hx hb dL_law_470 (lv_at hl 4 rfl) ?_
  refine lv_bipush (v := 7) hx hb dL_law_472 (by decide) ?_
  refine lv_iadd hx hb dL_law_474 ?_
  refine va_sld hx hb hXs hbl hbA hS (sx_in (k := 7) (by omega) hL) dL_law_475 ?_
  rw [show (nI (13 * j) + 7).toNatClampNeg = 13 * j + 7 from sx_cl (k := 7) (by omega)]
  refine lv_i2l (v := (xs (13 * j + 7)).toInt64) hx hb dL_law_476 rfl ?_
  refine lv_ldc2 (v := 4294967295) hx hb hown (hTB _ tb_1_7) dL_law_477 ?_
  refine lv_land hx hb dL_law_480 ?_
  refine lv_lor hx hb dL_law_481 ?_
  refine lv_aload_n hx hb dL_law_482 rfl (lv_at hl 0 rfl) ?_
  refine lv_iload hx hb dL_law_483 (lv_at hl 4 rfl) ?_
  refine lv_bipush (v := 8) hx hb dL_law_485 (by decide) ?_
  refine lv_iadd hx hb dL_law_487 ?_
  refine va_sld hx hb hXs hbl hbA hS (sx_in (k := 8) (by omega) hL) dL_law_488 ?_
  rw [show (nI (13 * j) + 8).toNatClampNeg = 13 * j + 8 from sx_cl (k := 8) (by omega)]
  refine lv_i2l (v := (xs (13 * j + 8)).toInt64) hx hb dL_law_489 rfl ?_
  refine lv_bipush (v := 32) hx hb dL_law_490 (by decide) ?_
  refine lv_lshl (v := ((xs (13 * j + 8)).toInt64) <<< ((32 : Int32).toInt64 &&& 63)) hx hb dL_law_492 rfl ?_
  refine lv_aload_n hx hb dL_law_493 rfl (lv_at hl 0 rfl) ?_
  refine lv_iload hx hb dL_law_494 (lv_at hl 4 rfl) ?_
  refine lv_bipush (v := 9) hx hb dL_law_496 (by decide) ?_
  refine lv_iadd hx hb dL_law_498 ?_
  refine va_sld hx hb hXs hbl hbA hS (sx_in (k := 9) (by omega) hL) dL_law_499 ?_
  rw [show (nI (13 * j) + 9).toNatClampNeg = 13 * j + 9 from sx_cl (k := 9) (by omega)]
  refine lv_i2l (v := (xs (13 * j + 9)).toInt64) hx hb dL_law_500 rfl ?_
  refine lv_ldc2 (v := 4294967295) hx hb hown (hTB _ tb_1_7) dL_law_501 ?_
  refine lv_land hx hb dL_law_504 ?_
  refine lv_lor hx hb dL_law_505 ?_
  refine fin_i (wr := [(kx, .inl (cJ, 64, .inr (.inl fkx))), (ky, .inl (cJ, 64, .inr (.inl fky))), (fx, .inr (1, [.ref xu, .ref xl])), (fy, .inr (1, [.ref yu, .ref yl])), (xu, .inr (2, [.long xuh, .long xul])), (xl, .inr (2, [.long xlh, .long xll])), (yu, .inr (2, [.long yuh, .long yul])), (yl, .inr (2, [.long ylh, .long yll])), (dv, .inr (0, [.ref q, .ref r, .ref d, .ref lm, .ref co])), (q, .inr (2, [.long qh, .long ql])), (r, .inr (2, [.long rh, .long rl])), (d, .inr (2, [.long dh, .long dl])), (lm, .inr (2, [.long lmh, .long lml])), (co, .inr (2, [.long coh, .long col])), (sp, .inr (2, [.long sph, .long spl])), (p1, .inr (2, [.long p1h, .long p1l])), (p2, .inr (2, [.long p2h, .long p2l])), (mo, .inr (4, [.int cd, .ref wa, .ref sa, .ref ma, .ref tl2, .ref gx, .ref gy, .ref tx, .ref tz, .int ln, .ref kx2, .ref ky2, .int (nI n), .int ph])), (wa, .inl (cJ, 96, .inr (.inl fw))), (sa, .inl (cI, 16, .inl fs)), (ma, .inl (cJ, 12, .inr (.inl fm))), (tl2, .inl (cZ, 16, .inl ft2)), (gx, .inl (cJ, 16, .inr (.inl fsx))), (gy, .inl (cJ, 16, .inr (.inl fsy))), (tx, .inl (cJ, 16, .inr (.inl ftx))), (tz, .inl (cJ, 16, .inr (.inl fty))), (kx2, .inl (cJ, 64, .inr (.inl fkx))), (ky2, .inl (cJ, 64, .inr (.inl fky))), (ou, .inl (cJ, 1, .inr (.inl fo)))]) (va_runV (As := [.int (xs (13 * j + 1)), .long (lg (xs (13 * j + 2)) (xs (13 * j + 3))), .long (lg (xs (13 * j + 4)) (xs (13 * j + 5))), .long (lg (xs (13 * j + 6)) (xs (13 * j + 7))), .long (lg (xs (13 * j + 8)) (xs (13 * j + 9)))]) (rest := []) ⟨hx, hb, hml, hown, hTB⟩ (c_X3_line l D cZ cI cJ o tl sx sy wx wy kx ky fx fy dv sp p1 p2 (nI n) ph ft fsx fsy fwx fwy (xs (13 * j + 1)) (lg (xs (13 * j + 2)) (xs (13 * j + 3))) (lg (xs (13 * j + 4)) (xs (13 * j + 5))) (lg (xs (13 * j + 6)) (xs (13 * j + 7))) (lg (xs (13 * j + 8)) (xs (13 * j + 9))) _) (cw_V hTB tb_7_22 tb_1_2 tb_7_19 tb_7_20 tb_7_21 nd_X3_line rfl rfl ⟨Nat.le_of_ble_eq_true rfl, Nat.le_of_ble_eq_true rfl⟩) (pre_V (q0 := 0) hK hP hD [0, 1, 2, 3, 4, 5] rfl rfl rfl rfl) rfl rfl hl.1 rfl (lv_room (Nat.le_of_ble_eq_true rfl)) dL_law_506 ⟨by show 35 + j + 0 + 0 ≤ 1063; omega, by show 603 + 6 * j + 0 + 0 ≤ 8819; omega⟩) hP hD hS hA [0, 1, 2, 3, 4, 5] [6, 7, 8, 9, 10, 11, 12, 13, 14, 15, 16, 17, 18, 19, 20, 21, 22, 23, 24, 25, 26, 27, 28, 29, 30, 31, 32, 33, 34] rfl rfl rfl (by decide) (fun r506 u506 H locs hc506 hP hD hS => ?_)
  obtain ⟨a1, a2, a3, a4, a5⟩ := u506
  try dsimp only at hc506
  obtain ⟨hz1, hy1, hn1⟩ := hc506
  have hP : va_P D vwCl [(kx, .inl (cJ, 64, .inr (.inl fkx))), (ky, .inl (cJ, 64, .inr (.inl fky))), (fx, .inr (1, [.ref xu, .ref xl])), (fy, .inr (1, [.ref yu, .ref yl])), (xu, .inr (2, [.long xuh, .long xul])), (xl, .inr (2, [.long xlh, .long xll])), (yu, .inr (2, [.long yuh, .long yul])), (yl, .inr (2, [.long ylh, .long yll])), (dv, .inr (0, [.ref q, .ref r, .ref d, .ref lm, .ref co])), (q, .inr (2, [.long qh, .long ql])), (r, .inr (2, [.long rh, .long rl])), (d, .inr (2, [.long dh, .long dl])), (lm, .inr (2, [.long lmh, .long lml])), (co, .inr (2, [.long coh, .long col])), (sp, .inr (2, [.long sph, .long spl])), (p1, .inr (2, [.long p1h, .long p1l])), (p2, .inr (2, [.long p2h, .long p2l])), (mo, .inr (4, [.int cd, .ref wa, .ref sa, .ref ma, .ref tl2, .ref gx, .ref gy, .ref tx, .ref tz, .int ln, .ref kx2, .ref ky2, .int (nI n), .int ph])), (wa, .inl (cJ, 96, .inr (.inl fw))), (sa, .inl (cI, 16, .inl fs)), (ma, .inl (cJ, 12, .inr (.inl fm))), (tl2, .inl (cZ, 16, .inl ft2)), (gx, .inl (cJ, 16, .inr (.inl fsx))), (gy, .inl (cJ, 16, .inr (.inl fsy))), (tx, .inl (cJ, 16, .inr (.inl ftx))), (tz, .inl (cJ, 16, .inr (.inl fty))), (kx2, .inl (cJ, 64, .inr (.inl fkx))), (ky2, .inl (cJ, 64, .inr (.inl fky))), (ou, .inl (cJ, 1, .inr (.inl fo))), (o, .inr (3, [.ref tl, .ref sx, .ref sy, .ref wx, .ref wy, .ref kx, .ref ky, .int (nI n), .int ph, .ref fx, .ref fy, .ref dv, .ref sp, .ref p1, .ref p2])), (tl, .inl (cZ, 16, .inl a1)), (sx, .inl (cJ, 16, .inr (.inl a2))), (sy, .inl (cJ, 16, .inr (.inl a3))), (wx, .inl (cJ, 16, .inr (.inl a4))), (wy, .inl (cJ, 16, .inr (.inl a5)))] H := hP
  have hD : va_D A [(kx, .inl (cJ, 64, .inr (.inl fkx))), (ky, .inl (cJ, 64, .inr (.inl fky))), (fx, .inr (1, [.ref xu, .ref xl])), (fy, .inr (1, [.ref yu, .ref yl])), (xu, .inr (2, [.long xuh, .long xul])), (xl, .inr (2, [.long xlh, .long xll])), (yu, .inr (2, [.long yuh, .long yul])), (yl, .inr (2, [.long ylh, .long yll])), (dv, .inr (0, [.ref q, .ref r, .ref d, .ref lm, .ref co])), (q, .inr (2, [.long qh, .long ql])), (r, .inr (2, [.long rh, .long rl])), (d, .inr (2, [.long dh, .long dl])), (lm, .inr (2, [.long lmh, .long lml])), (co, .inr (2, [.long coh, .long col])), (sp, .inr (2, [.long sph, .long spl])), (p1, .inr (2, [.long p1h, .long p1l])), (p2, .inr (2, [.long p2h, .long p2l])), (mo, .inr (4, [.int cd, .ref wa, .ref sa, .ref ma, .ref tl2, .ref gx, .ref gy, .ref tx, .ref tz, .int ln, .ref kx2, .ref ky2, .int (nI n), .int ph])), (wa, .inl (cJ, 96, .inr (.inl fw))), (sa, .inl (cI, 16, .inl fs)), (ma, .inl (cJ, 12, .inr (.inl fm))), (tl2, .inl (cZ, 16, .inl ft2)), (gx, .inl (cJ, 16, .inr (.inl fsx))), (gy, .inl (cJ, 16, .inr (.inl fsy))), (tx, .inl (cJ, 16, .inr (.inl ftx))), (tz, .inl (cJ, 16, .inr (.inl fty))), (kx2, .inl (cJ, 64, .inr (.inl fkx))), (ky2, .inl (cJ, 64, .inr (.inl fky))), (ou, .inl (cJ, 1, .inr (.inl fo))), (o, .inr (3, [.ref tl, .ref sx, .ref sy, .ref wx, .ref wy, .ref kx, .ref ky, .int (nI n), .int ph, .ref fx, .ref fy, .ref dv, .ref sp, .ref p1, .ref p2])), (tl, .inl (cZ, 16, .inl a1)), (sx, .inl (cJ, 16, .inr (.inl a2))), (sy, .inl (cJ, 16, .inr (.inl a3))), (wx, .inl (cJ, 16, .inr (.inl a4))), (wy, .inl (cJ, 16, .inr (.inl a5)))] := hD
  subst hz1
  refine lv_aload_n hx hb dL_law_509 rfl (lv_at hl 2 rfl) ?_
  refine lv_aload_n hx hb dL_law_510 rfl (lv_at hl 0 rfl) ?_
  refine lv_iload hx hb dL_law_511 (lv_at hl 4 rfl) ?_
  refine lv_iconst (v := 1) hx hb dL_law_513 (by decide) ?_
  refine lv_iadd hx hb dL_law_514 ?_
  refine va_sld hx hb hXs hbl hbA hS (sx_in (k := 1) (by omega) hL) dL_law_515 ?_
  rw [show (nI (13 * j) + 1).toNatClampNeg = 13 * j + 1 from sx_cl (k := 1) (by omega)]
  refine lv_aload_n hx hb dL_law_516 rfl (lv_at hl 0 rfl) ?_
  refine lv_iload hx hb dL_law_517 (lv_at hl 4 rfl) ?_
  refine lv_iconst (v := 2) hx hb dL_law_519 (by decide) ?_
  refine lv_iadd hx hb dL_law_520 ?_
  refine va_sld hx hb hXs hbl hbA hS (sx_in (k := 2) (by omega) hL) dL_law_521 ?_
  rw [show (nI (13 * j) + 2).toNatClampNeg = 13 * j + 2 from sx_cl (k := 2) (by omega)]
  refine lv_i2l (v := (xs (13 * j + 2)).toInt64) hx hb dL_law_522 rfl ?_
  refine lv_bipush (v := 32) hx hb dL_law_523 (by decide) ?_
  refine lv_lshl (v := ((xs (13 * j + 2)).toInt64) <<< ((32 : Int32).toInt64 &&& 63)) hx hb dL_law_525 rfl ?_
  refine lv_aload_n hx hb dL_law_526 rfl (lv_at hl 0 rfl) ?_
  refine lv_iload hx hb dL_law_527 (lv_at hl 4 rfl) ?_
  refine lv_iconst (v := 3) hx hb dL_law_529 (by decide) ?_
  refine lv_iadd hx hb dL_law_530 ?_
  refine va_sld hx hb hXs hbl hbA hS (sx_in (k := 3) (by omega) hL) dL_law_531 ?_
  rw [show (nI (13 * j) + 3).toNatClampNeg = 13 * j + 3 from sx_cl (k := 3) (by omega)]
  refine lv_i2l (v := (xs (13 * j + 3)).toInt64) hx hb dL_law_532 rfl ?_
  refine lv_ldc2 (v := 4294967295) hx hb hown (hTB _ tb_1_7) dL_law_533 ?_
  refine lv_land hx hb dL_law_536 ?_
  refine lv_lor hx hb dL_law_537 ?_
  refine lv_aload_n hx hb dL_law_538 rfl (lv_at hl 0 rfl) ?_
  refine lv_iload hx hb dL_law_539 (lv_at hl 4 rfl) ?_
  refine lv_iconst (v := 4) hx hb dL_law_541 (by decide) ?_
  refine lv_iadd hx hb dL_law_542 ?_
  refine va_sld hx hb hXs hbl hbA hS (sx_in (k := 4) (by omega) hL) dL_law_543 ?_
  rw [show (nI (13 * j) + 4).toNatClampNeg = 13 * j + 4 from sx_cl (k := 4) (by omega)]
  refine lv_i2l (v := (xs (13 * j + 4)).toInt64) hx hb dL_law_544 rfl ?_
  refine lv_bipush (v := 32) hx hb dL_law_545 (by decide) ?_
  refine lv_lshl (v := ((xs (13 * j + 4)).toInt64) <<< ((32 : Int32).toInt64 &&& 63)) hx hb dL_law_547 rfl ?_
  refine lv_aload_n hx hb dL_law_548 rfl (lv_at hl 0 rfl) ?_
  refine lv_iload hx hb dL_law_549 (lv_at hl 4 rfl) ?_
  refine lv_iconst (v := 5) hx hb dL_law_551 (by decide) ?_
  refine lv_iadd hx hb dL_law_552 ?_
  refine va_sld hx hb hXs hbl hbA hS (sx_in (k := 5) (by omega) hL) dL_law_553 ?_
  rw [show (nI (13 * j) + 5).toNatClampNeg = 13 * j + 5 from sx_cl (k := 5) (by omega)]
  refine lv_i2l (v := (xs (13 * j + 5)).toInt64) hx hb dL_law_554 rfl ?_
  refine lv_ldc2 (v := 4294967295) hx hb hown (hTB _ tb_1_7) dL_law_555 ?_
  refine lv_land hx hb dL_law_558 ?_
  refine lv_lor hx hb dL_law_559 ?_
  refine lv_aload_n hx hb dL_law_560 rfl (lv_at hl 0 rfl) ?_
  refine lv_iload hx hb dL_law_561 (lv_at hl 4 rfl) ?_
  refine lv_bipush (v := 6) hx hb dL_law_563 (by decide) ?_
  refine lv_iadd hx hb dL_law_565 ?_
  refine va_sld hx hb hXs hbl hbA hS (sx_in (k := 6) (by omega) hL) dL_law_566 ?_
  rw [show (nI (13 * j) + 6).toNatClampNeg = 13 * j + 6 from sx_cl (k := 6) (by omega)]
  refine lv_i2l (v := (xs (13 * j + 6)).toInt64) hx hb dL_law_567 rfl ?_
  refine lv_bipush (v := 32) hx hb dL_law_568 (by decide) ?_
  refine lv_lshl (v := ((xs (13 * j + 6)).toInt64) <<< ((32 : Int32).toInt64 &&& 63)) hx hb dL_law_570 rfl ?_
  refine lv_aload_n hx hb dL_law_571 rfl (lv_at hl 0 rfl) ?_
  refine lv_iload hx hb dL_law_572 (lv_at hl 4 rfl) ?_
  refine lv_bipush (v := 7) hx hb dL_law_574 (by decide) ?_
  refine lv_iadd hx hb dL_law_576 ?_
  refine va_sld hx hb hXs hbl hbA hS (sx_in (k := 7) (by omega) hL) dL_law_577 ?_
  rw [show (nI (13 * j) + 7).toNatClampNeg = 13 * j + 7 from sx_cl (k := 7) (by omega)]
  refine lv_i2l (v := (xs (13 * j + 7)).toInt64) hx hb dL_law_578 rfl ?_
  refine lv_ldc2 (v := 4294967295) hx hb hown (hTB _ tb_1_7) dL_law_579 ?_
  refine lv_land hx hb dL_law_582 ?_
  refine lv_lor hx hb dL_law_583 ?_
  refine lv_aload_n hx hb dL_law_584 rfl (lv_at hl 0 rfl) ?_
  refine lv_iload hx hb dL_law_585 (lv_at hl 4 rfl) ?_
  refine lv_bipush (v := 8) hx hb dL_law_587 (by decide) ?_
  refine lv_iadd hx hb dL_law_589 ?_
  refine va_sld hx hb hXs hbl hbA hS (sx_in (k := 8) (by omega) hL) dL_law_590 ?_
  rw [show (nI (13 * j) + 8).toNatClampNeg = 13 * j + 8 from sx_cl (k := 8) (by omega)]
  refine lv_i2l (v := (xs (13 * j + 8)).toInt64) hx hb dL_law_591 rfl ?_
  refine lv_bipush (v := 32) hx hb dL_law_592 (by decide) ?_
  refine lv_lshl (v := ((xs (13 * j + 8)).toInt64) <<< ((32 : Int32).toInt64 &&& 63)) hx hb dL_law_594 rfl ?_
  refine lv_aload_n hx hb dL_law_595 rfl (lv_at hl 0 rfl) ?_
  refine lv_iload hx hb dL_law_596 (lv_at hl 4 rfl) ?_
  refine lv_bipush (v := 9) hx hb dL_law_598 (by decide) ?_
  refine lv_iadd hx hb dL_law_600 ?_
  refine va_sld hx hb hXs hbl hbA hS (sx_in (k := 9) (by omega) hL) dL_law_601 ?_
  rw [show (nI (13 * j) + 9).toNatClampNeg = 13 * j + 9 from sx_cl (k := 9) (by omega)]
  refine lv_i2l (v := (xs (13 * j + 9)).toInt64) hx hb dL_law_602 rfl ?_
  refine lv_ldc2 (v := 4294967295) hx hb hown (hTB _ tb_1_7) dL_law_603 ?_
  refine lv_land hx hb dL_law_606 ?_
  refine lv_lor hx hb dL_law_607 ?_
  refine fin_i (wr := [(kx, .inl (cJ, 64, .inr (.inl fkx))), (ky, .inl (cJ, 64, .inr (.inl fky))), (fx, .inr (1, [.ref xu, .ref xl])), (fy, .inr (1, [.ref yu, .ref yl])), (xu, .inr (2, [.long xuh, .long xul])), (xl, .inr (2, [.long xlh, .long xll])), (yu, .inr (2, [.long yuh, .long yul])), (yl, .inr (2, [.long ylh, .long yll])), (dv, .inr (0, [.ref q, .ref r, .ref d, .ref lm, .ref co])), (q, .inr (2, [.long qh, .long ql])), (r, .inr (2, [.long rh, .long rl])), (d, .inr (2, [.long dh, .long dl])), (lm, .inr (2, [.long lmh, .long lml])), (co, .inr (2, [.long coh, .long col])), (sp, .inr (2, [.long sph, .long spl])), (p1, .inr (2, [.long p1h, .long p1l])), (p2, .inr (2, [.long p2h, .long p2l])), (wa, .inl (cJ, 96, .inr (.inl fw))), (sa, .inl (cI, 16, .inl fs)), (ma, .inl (cJ, 12, .inr (.inl fm))), (kx2, .inl (cJ, 64, .inr (.inl fkx))), (ky2, .inl (cJ, 64, .inr (.inl fky))), (ou, .inl (cJ, 1, .inr (.inl fo))), (o, .inr (3, [.ref tl, .ref sx, .ref sy, .ref wx, .ref wy, .ref kx, .ref ky, .int (nI n), .int ph, .ref fx, .ref fy, .ref dv, .ref sp, .ref p1, .ref p2])), (tl, .inl (cZ, 16, .inl a1)), (sx, .inl (cJ, 16, .inr (.inl a2))), (sy, .inl (cJ, 16, .inr (.inl a3))), (wx, .inl (cJ, 16, .inr (.inl a4))), (wy, .inl (cJ, 16, .inr (.inl a5)))]) (va_runV (As := [.int (xs (13 * j + 1)), .long (lg (xs (13 * j + 2)) (xs (13 * j + 3))), .long (lg (xs (13 * j + 4)) (xs (13 * j + 5))), .long (lg (xs (13 * j + 6)) (xs (13 * j + 7))), .long (lg (xs (13 * j + 8)) (xs (13 * j + 9)))]) (rest := [.int (bz (lnok (xs (13 * j + 1)) (lg (xs (13 * j + 2)) (xs (13 * j + 3))) (lg (xs (13 * j + 4)) (xs (13 * j + 5))) (lg (xs (13 * j + 6)) (xs (13 * j + 7))) (lg (xs (13 * j + 8)) (xs (13 * j + 9)))))]) ⟨hx, hb, hml, hown, hTB⟩ (c_X4_line l D cZ cI cJ mo wa sa ma tl2 gx gy tx tz kx2 ky2 cd ln (nI n) ph ft2 fsx fsy ftx fty (xs (13 * j + 1)) (lg (xs (13 * j + 2)) (xs (13 * j + 3))) (lg (xs (13 * j + 4)) (xs (13 * j + 5))) (lg (xs (13 * j + 6)) (xs (13 * j + 7))) (lg (xs (13 * j + 8)) (xs (13 * j + 9))) _) (cw_V hTB tb_8_2 tb_1_5 tb_7_23 tb_8_0 tb_8_1 nd_X4_line rfl rfl ⟨Nat.le_of_ble_eq_true rfl, Nat.le_of_ble_eq_true rfl⟩) (pre_V (q0 := 17) hK hP hD [17, 21, 22, 23, 24, 25] rfl rfl rfl rfl) rfl rfl hl.1 rfl (lv_room (Nat.le_of_ble_eq_true rfl)) dL_law_608 ⟨by show 35 + j + 0 + 0 ≤ 1063; omega, by show 603 + 6 * j + 0 + 0 ≤ 8819; omega⟩) hP hD hS hA [17, 21, 22, 23, 24, 25] [0, 1, 2, 3, 4, 5, 6, 7, 8, 9, 10, 11, 12, 13, 14, 15, 16, 18, 19, 20, 26, 27, 28, 29, 30, 31, 32, 33, 34] rfl rfl rfl (by decide) (fun r608 u608 H locs hc608 hP hD hS => ?_)
  obtain ⟨b0, b1, b2, b3, b4, b5⟩ := u608
  try dsimp only at hc608
  obtain ⟨hz2, hy2, hn2⟩ := hc608
  have hP : va_P D vwCl [(kx, .inl (cJ, 64, .inr (.inl fkx))), (ky, .inl (cJ, 64, .inr (.inl fky))), (fx, .inr (1, [.ref xu, .ref xl])), (fy, .inr (1, [.ref yu, .ref yl])), (xu, .inr (2, [.long xuh, .long xul])), (xl, .inr (2, [.long xlh, .long xll])), (yu, .inr (2, [.long yuh, .long yul])), (yl, .inr (2, [.long ylh, .long yll])), (dv, .inr (0, [.ref q, .ref r, .ref d, .ref lm, .ref co])), (q, .inr (2, [.long qh, .long ql])), (r, .inr (2, [.long rh, .long rl])), (d, .inr (2, [.long dh, .long dl])), (lm, .inr (2, [.long lmh, .long lml])), (co, .inr (2, [.long coh, .long col])), (sp, .inr (2, [.long sph, .long spl])), (p1, .inr (2, [.long p1h, .long p1l])), (p2, .inr (2, [.long p2h, .long p2l])), (wa, .inl (cJ, 96, .inr (.inl fw))), (sa, .inl (cI, 16, .inl fs)), (ma, .inl (cJ, 12, .inr (.inl fm))), (kx2, .inl (cJ, 64, .inr (.inl fkx))), (ky2, .inl (cJ, 64, .inr (.inl fky))), (ou, .inl (cJ, 1, .inr (.inl fo))), (o, .inr (3, [.ref tl, .ref sx, .ref sy, .ref wx, .ref wy, .ref kx, .ref ky, .int (nI n), .int ph, .ref fx, .ref fy, .ref dv, .ref sp, .ref p1, .ref p2])), (tl, .inl (cZ, 16, .inl a1)), (sx, .inl (cJ, 16, .inr (.inl a2))), (sy, .inl (cJ, 16, .inr (.inl a3))), (wx, .inl (cJ, 16, .inr (.inl a4))), (wy, .inl (cJ, 16, .inr (.inl a5))), (mo, .inr (4, [.int 0, .ref wa, .ref sa, .ref ma, .ref tl2, .ref gx, .ref gy, .ref tx, .ref tz, .int b0, .ref kx2, .ref ky2, .int (nI n), .int ph])), (tl2, .inl (cZ, 16, .inl b1)), (gx, .inl (cJ, 16, .inr (.inl b2))), (gy, .inl (cJ, 16, .inr (.inl b3))), (tx, .inl (cJ, 16, .inr (.inl b4))), (tz, .inl (cJ, 16, .inr (.inl b5)))] H := hP
  have hD : va_D A [(kx, .inl (cJ, 64, .inr (.inl fkx))), (ky, .inl (cJ, 64, .inr (.inl fky))), (fx, .inr (1, [.ref xu, .ref xl])), (fy, .inr (1, [.ref yu, .ref yl])), (xu, .inr (2, [.long xuh, .long xul])), (xl, .inr (2, [.long xlh, .long xll])), (yu, .inr (2, [.long yuh, .long yul])), (yl, .inr (2, [.long ylh, .long yll])), (dv, .inr (0, [.ref q, .ref r, .ref d, .ref lm, .ref co])), (q, .inr (2, [.long qh, .long ql])), (r, .inr (2, [.long rh, .long rl])), (d, .inr (2, [.long dh, .long dl])), (lm, .inr (2, [.long lmh, .long lml])), (co, .inr (2, [.long coh, .long col])), (sp, .inr (2, [.long sph, .long spl])), (p1, .inr (2, [.long p1h, .long p1l])), (p2, .inr (2, [.long p2h, .long p2l])), (wa, .inl (cJ, 96, .inr (.inl fw))), (sa, .inl (cI, 16, .inl fs)), (ma, .inl (cJ, 12, .inr (.inl fm))), (kx2, .inl (cJ, 64, .inr (.inl fkx))), (ky2, .inl (cJ, 64, .inr (.inl fky))), (ou, .inl (cJ, 1, .inr (.inl fo))), (o, .inr (3, [.ref tl, .ref sx, .ref sy, .ref wx, .ref wy, .ref kx, .ref ky, .int (nI n), .int ph, .ref fx, .ref fy, .ref dv, .ref sp, .ref p1, .ref p2])), (tl, .inl (cZ, 16, .inl a1)), (sx, .inl (cJ, 16, .inr (.inl a2))), (sy, .inl (cJ, 16, .inr (.inl a3))), (wx, .inl (cJ, 16, .inr (.inl a4))), (wy, .inl (cJ, 16, .inr (.inl a5))), (mo, .inr (4, [.int 0, .ref wa, .ref sa, .ref ma, .ref tl2, .ref gx, .ref gy, .ref tx, .ref tz, .int b0, .ref kx2, .ref ky2, .int (nI n), .int ph])), (tl2, .inl (cZ, 16, .inl b1)), (gx, .inl (cJ, 16, .inr (.inl b2))), (gy, .inl (cJ, 16, .inr (.inl b3))), (tx, .inl (cJ, 16, .inr (.inl b4))), (tz, .inl (cJ, 16, .inr (.inl b5)))] := hD
  subst hz2
  obtain ⟨rfl, rfl, hR2⟩ := hR.line hy1 hn1 hy2 hn2
  refine lv_icmp_eq (tgt := 1751) hx hb dL_law_611 (by decide) (fun c_611 => ?_) (fun c_611 => absurd rfl c_611)
  refine W.widen (k := 35 + (j + 1)) (n := 603 + 6 * (j + 1)) (by show 35 + j + 0 ≤ 35 + (j + 1); omega) (by show 603 + 6 * j + 0 ≤ 603 + 6 * (j + 1); omega) ?_
  exact hJ a1 b1 a2 a3 a4 a5 b4 b5 fkx fky n ph 0 b0 xuh xul xlh xll yuh yul ylh yll qh ql rh rl dh dl lmh lml coh col sph spl p1h p1l p2h p2l fw fs fm fo (hR2) _ _ (hP.sub [23, 24, 25, 26, 27, 28, 0, 1, 2, 3, 4, 5, 6, 7, 8, 9, 10, 11, 12, 13, 14, 15, 16, 29, 17, 18, 19, 30, 31, 32, 33, 34, 20, 21, 22] rfl) (hD.sub [23, 24, 25, 26, 27, 28, 0, 1, 2, 3, 4, 5, 6, 7, 8, 9, 10, 11, 12, 13, 14, 15, 16, 29, 17, 18, 19, 30, 31, 32, 33, 34, 20, 21, 22] (by decide) rfl) hS _ (lv_sub hl [0, 1, 2, 3, 4] rfl)

set_option maxHeartbeats 4000000 in
set_option maxRecDepth 100000 in
theorem law_2 (p : Program) (l : Launch) (e : Env) (s : State) (m : MethodId) (below : List Frame) (meth : Method) (c : Code) (D : va_G) (A : Nat → Prop) (cZ cI cJ : ClassId) (b L : Nat) (xs : Nat → Int32) (Q : State → Prop) (j : Nat) (o tl sx sy wx wy kx ky fx fy xu xl yu yl dv q r d lm co sp p1 p2 mo wa sa ma tl2 gx gy tx tz kx2 ky2 ou : Nat) (ft ft2 : Nat → Int32) (fsx fsy fwx fwy ftx fty fkx fky : Nat → Int64) (n : Nat) (ph cd ln : Int32) (xuh xul xlh xll yuh yul ylh yll qh ql rh rl dh dl lmh lml coh col sph spl p1h p1l p2h p2l : Int64) (fw : Nat → Int64) (fs : Nat → Int32) (fm fo : Nat → Int64) (hC : LC p l s m c D A cZ cI cJ b L xs) (hj : 13 * j + 13 ≤ L) (hR : REL ft ft2 fsx fsy fwx fwy ftx fty fkx fky n ph ln (wv xuh xul) (wv xlh xll) (wv yuh yul) (wv ylh yll) fw fs) (hJ : LG p l e s m below meth c D A cZ cI cJ b L xs Q j o tl sx sy wx wy kx ky fx fy xu xl yu yl dv q r d lm co sp p1 p2 mo wa sa ma tl2 gx gy tx tz kx2 ky2 ou 1751 1) {H : Heap} {locs : List Loc} {ls : Array Slot} (hP : va_P D vwCl [(o, .inr (3, [.ref tl, .ref sx, .ref sy, .ref wx, .ref wy, .ref kx, .ref ky, .int (nI n), .int ph, .ref fx, .ref fy, .ref dv, .ref sp, .ref p1, .ref p2])), (tl, .inl (cZ, 16, .inl ft)), (sx, .inl (cJ, 16, .inr (.inl fsx))), (sy, .inl (cJ, 16, .inr (.inl fsy))), (wx, .inl (cJ, 16, .inr (.inl fwx))), (wy, .inl (cJ, 16, .inr (.inl fwy))), (kx, .inl (cJ, 64, .inr (.inl fkx))), (ky, .inl (cJ, 64, .inr (.inl fky))), (fx, .inr (1, [.ref xu, .ref xl])), (fy, .inr (1, [.ref yu, .ref yl])), (xu, .inr (2, [.long xuh, .long xul])), (xl, .inr (2, [.long xlh, .long xll])), (yu, .inr (2, [.long yuh, .long yul])), (yl, .inr (2, [.long ylh, .long yll])), (dv, .inr (0, [.ref q, .ref r, .ref d, .ref lm, .ref co])), (q, .inr (2, [.long qh, .long ql])), (r, .inr (2, [.long rh, .long rl])), (d, .inr (2, [.long dh, .long dl])), (lm, .inr (2, [.long lmh, .long lml])), (co, .inr (2, [.long coh, .long col])), (sp, .inr (2, [.long sph, .long spl])), (p1, .inr (2, [.long p1h, .long p1l])), (p2, .inr (2, [.long p2h, .long p2l])), (mo, .inr (4, [.int cd, .ref wa, .ref sa, .ref ma, .ref tl2, .ref gx, .ref gy, .ref tx, .ref tz, .int ln, .ref kx2, .ref ky2, .int (nI n), .int ph])), (wa, .inl (cJ, 96, .inr (.inl fw))), (sa, .inl (cI, 16, .inl fs)), (ma, .inl (cJ, 12, .inr (.inl fm))), (tl2, .inl (cZ, 16, .inl ft2)), (gx, .inl (cJ, 16, .inr (.inl fsx))), (gy, .inl (cJ, 16, .inr (.inl fsy))), (tx, .inl (cJ, 16, .inr (.inl ftx))), (tz, .inl (cJ, 16, .inr (.inl fty))), (kx2, .inl (cJ, 64, .inr (.inl fkx))), (ky2, .inl (cJ, 64, .inr (.inl fky))), (ou, .inl (cJ, 1, .inr (.inl fo)))] H) (hD : va_D A [(o, .inr (3, [.ref tl, .ref sx, .ref sy, .ref wx, .ref wy, .ref kx, .ref ky, .int (nI n), .int ph, .ref fx, .ref fy, .ref dv, .ref sp, .ref p1, .ref p2])), (tl, .inl (cZ, 16, .inl ft)), (sx, .inl (cJ, 16, .inr (.inl fsx))), (sy, .inl (cJ, 16, .inr (.inl fsy))), (wx, .inl (cJ, 16, .inr (.inl fwx))), (wy, .inl (cJ, 16, .inr (.inl fwy))), (kx, .inl (cJ, 64, .inr (.inl fkx))), (ky, .inl (cJ, 64, .inr (.inl fky))), (fx, .inr (1, [.ref xu, .ref xl])), (fy, .inr (1, [.ref yu, .ref yl])), (xu, .inr (2, [.long xuh, .long xul])), (xl, .inr (2, [.long xlh, .long xll])), (yu, .inr (2, [.long yuh, .long yul])), (yl, .inr (2, [.long ylh, .long yll])), (dv, .inr (0, [.ref q, .ref r, .ref d, .ref lm, .ref co])), (q, .inr (2, [.long qh, .long ql])), (r, .inr (2, [.long rh, .long rl])), (d, .inr (2, [.long dh, .long dl])), (lm, .inr (2, [.long lmh, .long lml])), (co, .inr (2, [.long coh, .long col])), (sp, .inr (2, [.long sph, .long spl])), (p1, .inr (2, [.long p1h, .long p1l])), (p2, .inr (2, [.long p2h, .long p2l])), (mo, .inr (4, [.int cd, .ref wa, .ref sa, .ref ma, .ref tl2, .ref gx, .ref gy, .ref tx, .ref tz, .int ln, .ref kx2, .ref ky2, .int (nI n), .int ph])), (wa, .inl (cJ, 96, .inr (.inl fw))), (sa, .inl (cI, 16, .inl fs)), (ma, .inl (cJ, 12, .inr (.inl fm))), (tl2, .inl (cZ, 16, .inl ft2)), (gx, .inl (cJ, 16, .inr (.inl fsx))), (gy, .inl (cJ, 16, .inr (.inl fsy))), (tx, .inl (cJ, 16, .inr (.inl ftx))), (tz, .inl (cJ, 16, .inr (.inl fty))), (kx2, .inl (cJ, 64, .inr (.inl fkx))), (ky2, .inl (cJ, 64, .inr (.inl fky))), (ou, .inl (cJ, 1, .inr (.inl fo)))]) (hS : va_S A s.heap H locs) (hl : lv_has ls 8 [(0, .ref b), (1, .ref o), (2, .ref mo), (3, .ref ou), (4, .int (nI (13 * j)))]) : W p l e room_1 s m #[Value.ref b] below meth c H locs (35 + j) (603 + 6 * j) Q (F0 m 616 ls []) := by
  obtain ⟨hx, hb, hml, hown, hTB, hTX, hK, hX, hXs, hbl, hbA, hA, hl9, hL⟩ := hC
  refine lv_aload_n hx hb dL_law_616 rfl (lv_at hl 1 rfl) ?_
  refine lv_aload_n hx hb dL_law_617 rfl (lv_at hl 0 rfl) ?_
  refine lv_iload hx hb dL_law_618 (lv_at hl 4 rfl) ?_
  refine lv_iconst (v := 1) hx hb dL_law_620 (by decide) ?_
  refine lv_iadd hx hb dL_law_621 ?_
  refine va_sld hx hb hXs hbl hbA hS (sx_in (k := 1) (by omega) hL) dL_law_622 ?_
  rw [show (nI (13 * j) + 1).toNatClampNeg = 13 * j + 1 from sx_cl (k := 1) (by omega)]
  refine lv_aload_n hx hb dL_law_623 rfl (lv_at hl 0 rfl) ?_
  refine lv_iload hx hb dL_law_624 (lv_at hl 4 rfl) ?_
  refine lv_iconst (v := 2) hx hb dL_law_626 (by decide) ?_
  refine lv_iadd hx hb dL_law_627 ?_
  refine va_sld hx hb hXs hbl hbA hS (sx_in (k := 2) (by omega) hL) dL_law_628 ?_
  rw [show (nI (13 * j) + 2).toNatClampNeg = 13 * j + 2 from sx_cl (k := 2) (by omega)]
  refine fin_i (wr := [(kx, .inl (cJ, 64, .inr (.inl fkx))), (ky, .inl (cJ, 64, .inr (.inl fky))), (mo, .inr (4, [.int cd, .ref wa, .ref sa, .ref ma, .ref tl2, .ref gx, .ref gy, .ref tx, .ref tz, .int ln, .ref kx2, .ref ky2, .int (nI n), .int ph])), (wa, .inl (cJ, 96, .inr (.inl fw))), (sa, .inl (cI, 16, .inl fs)), (ma, .inl (cJ, 12, .inr (.inl fm))), (tl2, .inl (cZ, 16, .inl ft2)), (gx, .inl (cJ, 16, .inr (.inl fsx))), (gy, .inl (cJ, 16, .inr (.inl fsy))), (tx, .inl (cJ, 16, .inr (.inl ftx))), (tz, .inl (cJ, 16, .inr (.inl fty))), (kx2, .inl (cJ, 64, .inr (.inl fkx))), (ky2, .inl (cJ, 64, .inr (.inl fky))), (ou, .inl (cJ, 1, .inr (.inl fo)))]) (va_runV (As := [.int (xs (13 * j + 1)), .int (xs (13 * j + 2))]) (rest := []) ⟨hx, hb, hml, hown, hTB⟩ (c_X3_cross l D cZ cI cJ o tl sx sy wx wy kx ky fx fy dv sp p1 p2 (nI n) ph ft fsx fsy fwx fwy (xs (13 * j + 1)) (xs (13 * j + 2)) sph spl p1h p1l p2h p2l xu xl yu yl xuh xul xlh xll yuh yul ylh yll q r d lm co qh ql rh rl dh dl lmh lml coh col hR.cbd _) (cw_V hTB tb_8_10 tb_1_2 tb_8_7 tb_8_8 tb_8_9 nd_X3_cross rfl rfl ⟨Nat.le_of_ble_eq_true rfl, Nat.le_of_ble_eq_true rfl⟩) (pre_V (q0 := 0) hK hP hD [0, 1, 2, 3, 4, 5, 20, 21, 22, 8, 9, 10, 11, 12, 13, 14, 15, 16, 17, 18, 19] rfl rfl rfl rfl) rfl rfl hl.1 rfl (lv_room (Nat.le_of_ble_eq_true rfl)) dL_law_629 ⟨by show 35 + j + 0 + 0 ≤ 1063; omega, by show 603 + 6 * j + 0 + 0 ≤ 8819; omega⟩) hP hD hS hA [0, 1, 2, 3, 4, 5, 20, 21, 22, 8, 9, 10, 11, 12, 13, 14, 15, 16, 17, 18, 19] [6, 7, 23, 24, 25, 26, 27, 28, 29, 30, 31, 32, 33, 34] rfl rfl rfl (by decide) (fun r629 u629 H locs hc629 hP hD hS => ?_)
  obtain ⟨ph9, ⟨kxuh, kxul⟩, ⟨kxlh, kxll⟩, ⟨kyuh, kyul⟩, ⟨kylh, kyll⟩, ⟨ksph, kspl⟩, ⟨kp1h, kp1l⟩, ⟨kp2h, kp2l⟩, ⟨kqh, kql⟩, ⟨krh, krl⟩, ⟨kdh, kdl⟩, ⟨klmh, klml⟩, kcoh, kcol⟩ := u629
  try dsimp only at hc629
  have hP : va_P D vwCl [(kx, .inl (cJ, 64, .inr (.inl fkx))), (ky, .inl (cJ, 64, .inr (.inl fky))), (mo, .inr (4, [.int cd, .ref wa, .ref sa, .ref ma, .ref tl2, .ref gx, .ref gy, .ref tx, .ref tz, .int ln, .ref kx2, .ref ky2, .int (nI n), .int ph])), (wa, .inl (cJ, 96, .inr (.inl fw))), (sa, .inl (cI, 16, .inl fs)), (ma, .inl (cJ, 12, .inr (.inl fm))), (tl2, .inl (cZ, 16, .inl ft2)), (gx, .inl (cJ, 16, .inr (.inl fsx))), (gy, .inl (cJ, 16, .inr (.inl fsy))), (tx, .inl (cJ, 16, .inr (.inl ftx))), (tz, .inl (cJ, 16, .inr (.inl fty))), (kx2, .inl (cJ, 64, .inr (.inl fkx))), (ky2, .inl (cJ, 64, .inr (.inl fky))), (ou, .inl (cJ, 1, .inr (.inl fo))), (o, .inr (3, [.ref tl, .ref sx, .ref sy, .ref wx, .ref wy, .ref kx, .ref ky, .int (nI n), .int ph9, .ref fx, .ref fy, .ref dv, .ref sp, .ref p1, .ref p2])), (tl, .inl (cZ, 16, .inl ft)), (sx, .inl (cJ, 16, .inr (.inl fsx))), (sy, .inl (cJ, 16, .inr (.inl fsy))), (wx, .inl (cJ, 16, .inr (.inl fwx))), (wy, .inl (cJ, 16, .inr (.inl fwy))), (sp, .inr (2, [.long ksph, .long kspl])), (p1, .inr (2, [.long kp1h, .long kp1l])), (p2, .inr (2, [.long kp2h, .long kp2l])), (fx, .inr (1, [.ref xu, .ref xl])), (fy, .inr (1, [.ref yu, .ref yl])), (xu, .inr (2, [.long kxuh, .long kxul])), (xl, .inr (2, [.long kxlh, .long kxll])), (yu, .inr (2, [.long kyuh, .long kyul])), (yl, .inr (2, [.long kylh, .long kyll])), (dv, .inr (0, [.ref q, .ref r, .ref d, .ref lm, .ref co])), (q, .inr (2, [.long kqh, .long kql])), (r, .inr (2, [.long krh, .long krl])), (d, .inr (2, [.long kdh, .long kdl])), (lm, .inr (2, [.long klmh, .long klml])), (co, .inr (2, [.long kcoh, .long kcol]))] H := hP
  have hD : va_D A [(kx, .inl (cJ, 64, .inr (.inl fkx))), (ky, .inl (cJ, 64, .inr (.inl fky))), (mo, .inr (4, [.int cd, .ref wa, .ref sa, .ref ma, .ref tl2, .ref gx, .ref gy, .ref tx, .ref tz, .int ln, .ref kx2, .ref ky2, .int (nI n), .int ph])), (wa, .inl (cJ, 96, .inr (.inl fw))), (sa, .inl (cI, 16, .inl fs)), (ma, .inl (cJ, 12, .inr (.inl fm))), (tl2, .inl (cZ, 16, .inl ft2)), (gx, .inl (cJ, 16, .inr (.inl fsx))), (gy, .inl (cJ, 16, .inr (.inl fsy))), (tx, .inl (cJ, 16, .inr (.inl ftx))), (tz, .inl (cJ, 16, .inr (.inl fty))), (kx2, .inl (cJ, 64, .inr (.inl fkx))), (ky2, .inl (cJ, 64, .inr (.inl fky))), (ou, .inl (cJ, 1, .inr (.inl fo))), (o, .inr (3, [.ref tl, .ref sx, .ref sy, .ref wx, .ref wy, .ref kx, .ref ky, .int (nI n), .int ph9, .ref fx, .ref fy, .ref dv, .ref sp, .ref p1, .ref p2])), (tl, .inl (cZ, 16, .inl ft)), (sx, .inl (cJ, 16, .inr (.inl fsx))), (sy, .inl (cJ, 16, .inr (.inl fsy))), (wx, .inl (cJ, 16, .inr (.inl fwx))), (wy, .inl (cJ, 16, .inr (.inl fwy))), (sp, .inr (2, [.long ksph, .long kspl])), (p1, .inr (2, [.long kp1h, .long kp1l])), (p2, .inr (2, [.long kp2h, .long kp2l])), (fx, .inr (1, [.ref xu, .ref xl])), (fy, .inr (1, [.ref yu, .ref yl])), (xu, .inr (2, [.long kxuh, .long kxul])), (xl, .inr (2, [.long kxlh, .long kxll])), (yu, .inr (2, [.long kyuh, .long kyul])), (yl, .inr (2, [.long kylh, .long kyll])), (dv, .inr (0, [.ref q, .ref r, .ref d, .ref lm, .ref co])), (q, .inr (2, [.long kqh, .long kql])), (r, .inr (2, [.long krh, .long krl])), (d, .inr (2, [.long kdh, .long kdl])), (lm, .inr (2, [.long klmh, .long klml])), (co, .inr (2, [.long kcoh, .long kcol]))] := hD
  refine lv_aload_n hx hb dL_law_632 rfl (lv_at hl 2 rfl) ?_
  refine lv_aload_n hx hb dL_law_633 rfl (lv_at hl 0 rfl) ?_
  refine lv_iload hx hb dL_law_634 (lv_at hl 4 rfl) ?_
  refine lv_iconst (v := 1) hx hb dL_law_636 (by decide) ?_
  refine lv_iadd hx hb dL_law_637 ?_
  refine va_sld hx hb hXs hbl hbA hS (sx_in (k := 1) (by omega) hL) dL_law_638 ?_
  rw [show (nI (13 * j) + 1).toNatClampNeg = 13 * j + 1 from sx_cl (k := 1) (by omega)]
  refine lv_aload_n hx hb dL_law_639 rfl (lv_at hl 0 rfl) ?_
  refine lv_iload hx hb dL_law_640 (lv_at hl 4 rfl) ?_
  refine lv_iconst (v := 2) hx hb dL_law_642 (by decide) ?_
  refine lv_iadd hx hb dL_law_643 ?_
  refine va_sld hx hb hXs hbl hbA hS (sx_in (k := 2) (by omega) hL) dL_law_644 ?_
  rw [show (nI (13 * j) + 2).toNatClampNeg = 13 * j + 2 from sx_cl (k := 2) (by omega)]
  refine fin_i (wr := [(kx, .inl (cJ, 64, .inr (.inl fkx))), (ky, .inl (cJ, 64, .inr (.inl fky))), (kx2, .inl (cJ, 64, .inr (.inl fkx))), (ky2, .inl (cJ, 64, .inr (.inl fky))), (ou, .inl (cJ, 1, .inr (.inl fo))), (o, .inr (3, [.ref tl, .ref sx, .ref sy, .ref wx, .ref wy, .ref kx, .ref ky, .int (nI n), .int ph9, .ref fx, .ref fy, .ref dv, .ref sp, .ref p1, .ref p2])), (tl, .inl (cZ, 16, .inl ft)), (sx, .inl (cJ, 16, .inr (.inl fsx))), (sy, .inl (cJ, 16, .inr (.inl fsy))), (wx, .inl (cJ, 16, .inr (.inl fwx))), (wy, .inl (cJ, 16, .inr (.inl fwy))), (sp, .inr (2, [.long ksph, .long kspl])), (p1, .inr (2, [.long kp1h, .long kp1l])), (p2, .inr (2, [.long kp2h, .long kp2l])), (fx, .inr (1, [.ref xu, .ref xl])), (fy, .inr (1, [.ref yu, .ref yl])), (xu, .inr (2, [.long kxuh, .long kxul])), (xl, .inr (2, [.long kxlh, .long kxll])), (yu, .inr (2, [.long kyuh, .long kyul])), (yl, .inr (2, [.long kylh, .long kyll])), (dv, .inr (0, [.ref q, .ref r, .ref d, .ref lm, .ref co])), (q, .inr (2, [.long kqh, .long kql])), (r, .inr (2, [.long krh, .long krl])), (d, .inr (2, [.long kdh, .long kdl])), (lm, .inr (2, [.long klmh, .long klml])), (co, .inr (2, [.long kcoh, .long kcol]))]) (va_runV (As := [.int (xs (13 * j + 1)), .int (xs (13 * j + 2))]) (rest := [.int r629]) ⟨hx, hb, hml, hown, hTB⟩ (c_X4_cross l D cZ cI cJ mo wa sa ma tl2 gx gy tx tz kx2 ky2 cd ln (nI n) ph fw fs fm ft2 fsx fsy ftx fty (xs (13 * j + 1)) (xs (13 * j + 2)) hR.lm hR.mbd _) (cw_V hTB tb_12_21 tb_1_5 tb_12_18 tb_12_19 tb_12_20 nd_X4_cross rfl rfl ⟨Nat.le_of_ble_eq_true rfl, Nat.le_of_ble_eq_true rfl⟩) (pre_V (q0 := 2) hK hP hD [2, 3, 4, 5, 6, 7, 8, 9, 10] rfl rfl rfl rfl) rfl rfl hl.1 rfl (lv_room (Nat.le_of_ble_eq_true rfl)) dL_law_645 ⟨by show 35 + j + 0 + 0 ≤ 1063; omega, by show 603 + 6 * j + 0 + 0 ≤ 8819; omega⟩) hP hD hS hA [2, 3, 4, 5, 6, 7, 8, 9, 10] [0, 1, 11, 12, 13, 14, 15, 16, 17, 18, 19, 20, 21, 22, 23, 24, 25, 26, 27, 28, 29, 30, 31, 32, 33, 34] rfl rfl rfl (by decide) (fun r645 u645 H locs hc645 hP hD hS => ?_)
  obtain ⟨ah9, g645, s645, m645⟩ := u645
  try dsimp only at hc645
  have hP : va_P D vwCl [(kx, .inl (cJ, 64, .inr (.inl fkx))), (ky, .inl (cJ, 64, .inr (.inl fky))), (kx2, .inl (cJ, 64, .inr (.inl fkx))), (ky2, .inl (cJ, 64, .inr (.inl fky))), (ou, .inl (cJ, 1, .inr (.inl fo))), (o, .inr (3, [.ref tl, .ref sx, .ref sy, .ref wx, .ref wy, .ref kx, .ref ky, .int (nI n), .int ph9, .ref fx, .ref fy, .ref dv, .ref sp, .ref p1, .ref p2])), (tl, .inl (cZ, 16, .inl ft)), (sx, .inl (cJ, 16, .inr (.inl fsx))), (sy, .inl (cJ, 16, .inr (.inl fsy))), (wx, .inl (cJ, 16, .inr (.inl fwx))), (wy, .inl (cJ, 16, .inr (.inl fwy))), (sp, .inr (2, [.long ksph, .long kspl])), (p1, .inr (2, [.long kp1h, .long kp1l])), (p2, .inr (2, [.long kp2h, .long kp2l])), (fx, .inr (1, [.ref xu, .ref xl])), (fy, .inr (1, [.ref yu, .ref yl])), (xu, .inr (2, [.long kxuh, .long kxul])), (xl, .inr (2, [.long kxlh, .long kxll])), (yu, .inr (2, [.long kyuh, .long kyul])), (yl, .inr (2, [.long kylh, .long kyll])), (dv, .inr (0, [.ref q, .ref r, .ref d, .ref lm, .ref co])), (q, .inr (2, [.long kqh, .long kql])), (r, .inr (2, [.long krh, .long krl])), (d, .inr (2, [.long kdh, .long kdl])), (lm, .inr (2, [.long klmh, .long klml])), (co, .inr (2, [.long kcoh, .long kcol])), (mo, .inr (4, [.int 0, .ref wa, .ref sa, .ref ma, .ref tl2, .ref gx, .ref gy, .ref tx, .ref tz, .int ln, .ref kx2, .ref ky2, .int (nI n), .int ah9])), (wa, .inl (cJ, 96, .inr (.inl g645))), (sa, .inl (cI, 16, .inl s645)), (ma, .inl (cJ, 12, .inr (.inl m645))), (tl2, .inl (cZ, 16, .inl ft2)), (gx, .inl (cJ, 16, .inr (.inl fsx))), (gy, .inl (cJ, 16, .inr (.inl fsy))), (tx, .inl (cJ, 16, .inr (.inl ftx))), (tz, .inl (cJ, 16, .inr (.inl fty)))] H := hP
  have hD : va_D A [(kx, .inl (cJ, 64, .inr (.inl fkx))), (ky, .inl (cJ, 64, .inr (.inl fky))), (kx2, .inl (cJ, 64, .inr (.inl fkx))), (ky2, .inl (cJ, 64, .inr (.inl fky))), (ou, .inl (cJ, 1, .inr (.inl fo))), (o, .inr (3, [.ref tl, .ref sx, .ref sy, .ref wx, .ref wy, .ref kx, .ref ky, .int (nI n), .int ph9, .ref fx, .ref fy, .ref dv, .ref sp, .ref p1, .ref p2])), (tl, .inl (cZ, 16, .inl ft)), (sx, .inl (cJ, 16, .inr (.inl fsx))), (sy, .inl (cJ, 16, .inr (.inl fsy))), (wx, .inl (cJ, 16, .inr (.inl fwx))), (wy, .inl (cJ, 16, .inr (.inl fwy))), (sp, .inr (2, [.long ksph, .long kspl])), (p1, .inr (2, [.long kp1h, .long kp1l])), (p2, .inr (2, [.long kp2h, .long kp2l])), (fx, .inr (1, [.ref xu, .ref xl])), (fy, .inr (1, [.ref yu, .ref yl])), (xu, .inr (2, [.long kxuh, .long kxul])), (xl, .inr (2, [.long kxlh, .long kxll])), (yu, .inr (2, [.long kyuh, .long kyul])), (yl, .inr (2, [.long kylh, .long kyll])), (dv, .inr (0, [.ref q, .ref r, .ref d, .ref lm, .ref co])), (q, .inr (2, [.long kqh, .long kql])), (r, .inr (2, [.long krh, .long krl])), (d, .inr (2, [.long kdh, .long kdl])), (lm, .inr (2, [.long klmh, .long klml])), (co, .inr (2, [.long kcoh, .long kcol])), (mo, .inr (4, [.int 0, .ref wa, .ref sa, .ref ma, .ref tl2, .ref gx, .ref gy, .ref tx, .ref tz, .int ln, .ref kx2, .ref ky2, .int (nI n), .int ah9])), (wa, .inl (cJ, 96, .inr (.inl g645))), (sa, .inl (cI, 16, .inl s645)), (ma, .inl (cJ, 12, .inr (.inl m645))), (tl2, .inl (cZ, 16, .inl ft2)), (gx, .inl (cJ, 16, .inr (.inl fsx))), (gy, .inl (cJ, 16, .inr (.inl fsy))), (tx, .inl (cJ, 16, .inr (.inl ftx))), (tz, .inl (cJ, 16, .inr (.inl fty)))] := hD
  obtain ⟨hzz, rfl, hR2⟩ := hR.cross (fun q => by
    obtain ⟨y1, y2, y3, y4, y5, y6⟩ := hc629.1 q
    simp only [Prod.mk.injEq] at y3 y4 y5 y6
    exact ⟨y1, y2, by rw [y3.1, y3.2], by rw [y4.1, y4.2], by rw [y5.1, y5.2], by rw [y6.1, y6.2]⟩) hc629.2 (fun q => by
    obtain ⟨y1, y2⟩ := hc645.1 q
    simp only [Prod.mk.injEq] at y2
    exact ⟨y1, y2.1, y2.2.1, y2.2.2.1⟩) hc645.2
  refine lv_icmp_eq (tgt := 1751) hx hb dL_law_648 (by decide) (fun c_648 => ?_) (fun c_648 => absurd hzz c_648)
  refine W.widen (k := 35 + (j + 1)) (n := 603 + 6 * (j + 1)) (by show 35 + j + 0 ≤ 35 + (j + 1); omega) (by show 603 + 6 * j + 0 ≤ 603 + 6 * (j + 1); omega) ?_
  exact hJ ft ft2 fsx fsy fwx fwy ftx fty fkx fky n ph9 0 ln kxuh kxul kxlh kxll kyuh kyul kylh kyll kqh kql krh krl kdh kdl klmh klml kcoh kcol ksph kspl kp1h kp1l kp2h kp2l g645 s645 m645 fo (hR2) _ _ (hP.sub [5, 6, 7, 8, 9, 10, 0, 1, 14, 15, 16, 17, 18, 19, 20, 21, 22, 23, 24, 25, 11, 12, 13, 26, 27, 28, 29, 30, 31, 32, 33, 34, 2, 3, 4] rfl) (hD.sub [5, 6, 7, 8, 9, 10, 0, 1, 14, 15, 16, 17, 18, 19, 20, 21, 22, 23, 24, 25, 11, 12, 13, 26, 27, 28, 29, 30, 31, 32, 33, 34, 2, 3, 4] (by decide) rfl) hS _ (lv_sub hl [0, 1, 2, 3, 4] rfl)

set_option maxHeartbeats 4000000 in
set_option maxRecDepth 100000 in
theorem law_3 (p : Program) (l : Launch) (e : Env) (s : State) (m : MethodId) (below : List Frame) (meth : Method) (c : Code) (D : va_G) (A : Nat → Prop) (cZ cI cJ : ClassId) (b L : Nat) (xs : Nat → Int32) (Q : State → Prop) (j : Nat) (o tl sx sy wx wy kx ky fx fy xu xl yu yl dv q r d lm co sp p1 p2 mo wa sa ma tl2 gx gy tx tz kx2 ky2 ou : Nat) (ft ft2 : Nat → Int32) (fsx fsy fwx fwy ftx fty fkx fky : Nat → Int64) (n : Nat) (ph cd ln : Int32) (xuh xul xlh xll yuh yul ylh yll qh ql rh rl dh dl lmh lml coh col sph spl p1h p1l p2h p2l : Int64) (fw : Nat → Int64) (fs : Nat → Int32) (fm fo : Nat → Int64) (hC : LC p l s m c D A cZ cI cJ b L xs) (hj : 13 * j + 13 ≤ L) (hR : REL ft ft2 fsx fsy fwx fwy ftx fty fkx fky n ph ln (wv xuh xul) (wv xlh xll) (wv yuh yul) (wv ylh yll) fw fs) (hJ : LG p l e s m below meth c D A cZ cI cJ b L xs Q j o tl sx sy wx wy kx ky fx fy xu xl yu yl dv q r d lm co sp p1 p2 mo wa sa ma tl2 gx gy tx tz kx2 ky2 ou 1751 1) {H : Heap} {locs : List Loc} {ls : Array Slot} (hP : va_P D vwCl [(o, .inr (3, [.ref tl, .ref sx, .ref sy, .ref wx, .ref wy, .ref kx, .ref ky, .int (nI n), .int ph, .ref fx, .ref fy, .ref dv, .ref sp, .ref p1, .ref p2])), (tl, .inl (cZ, 16, .inl ft)), (sx, .inl (cJ, 16, .inr (.inl fsx))), (sy, .inl (cJ, 16, .inr (.inl fsy))), (wx, .inl (cJ, 16, .inr (.inl fwx))), (wy, .inl (cJ, 16, .inr (.inl fwy))), (kx, .inl (cJ, 64, .inr (.inl fkx))), (ky, .inl (cJ, 64, .inr (.inl fky))), (fx, .inr (1, [.ref xu, .ref xl])), (fy, .inr (1, [.ref yu, .ref yl])), (xu, .inr (2, [.long xuh, .long xul])), (xl, .inr (2, [.long xlh, .long xll])), (yu, .inr (2, [.long yuh, .long yul])), (yl, .inr (2, [.long ylh, .long yll])), (dv, .inr (0, [.ref q, .ref r, .ref d, .ref lm, .ref co])), (q, .inr (2, [.long qh, .long ql])), (r, .inr (2, [.long rh, .long rl])), (d, .inr (2, [.long dh, .long dl])), (lm, .inr (2, [.long lmh, .long lml])), (co, .inr (2, [.long coh, .long col])), (sp, .inr (2, [.long sph, .long spl])), (p1, .inr (2, [.long p1h, .long p1l])), (p2, .inr (2, [.long p2h, .long p2l])), (mo, .inr (4, [.int cd, .ref wa, .ref sa, .ref ma, .ref tl2, .ref gx, .ref gy, .ref tx, .ref tz, .int ln, .ref kx2, .ref ky2, .int (nI n), .int ph])), (wa, .inl (cJ, 96, .inr (.inl fw))), (sa, .inl (cI, 16, .inl fs)), (ma, .inl (cJ, 12, .inr (.inl fm))), (tl2, .inl (cZ, 16, .inl ft2)), (gx, .inl (cJ, 16, .inr (.inl fsx))), (gy, .inl (cJ, 16, .inr (.inl fsy))), (tx, .inl (cJ, 16, .inr (.inl ftx))), (tz, .inl (cJ, 16, .inr (.inl fty))), (kx2, .inl (cJ, 64, .inr (.inl fkx))), (ky2, .inl (cJ, 64, .inr (.inl fky))), (ou, .inl (cJ, 1, .inr (.inl fo)))] H) (hD : va_D A [(o, .inr (3, [.ref tl, .ref sx, .ref sy, .ref wx, .ref wy, .ref kx, .ref ky, .int (nI n), .int ph, .ref fx, .ref fy, .ref dv, .ref sp, .ref p1, .ref p2])), (tl, .inl (cZ, 16, .inl ft)), (sx, .inl (cJ, 16, .inr (.inl fsx))), (sy, .inl (cJ, 16, .inr (.inl fsy))), (wx, .inl (cJ, 16, .inr (.inl fwx))), (wy, .inl (cJ, 16, .inr (.inl fwy))), (kx, .inl (cJ, 64, .inr (.inl fkx))), (ky, .inl (cJ, 64, .inr (.inl fky))), (fx, .inr (1, [.ref xu, .ref xl])), (fy, .inr (1, [.ref yu, .ref yl])), (xu, .inr (2, [.long xuh, .long xul])), (xl, .inr (2, [.long xlh, .long xll])), (yu, .inr (2, [.long yuh, .long yul])), (yl, .inr (2, [.long ylh, .long yll])), (dv, .inr (0, [.ref q, .ref r, .ref d, .ref lm, .ref co])), (q, .inr (2, [.long qh, .long ql])), (r, .inr (2, [.long rh, .long rl])), (d, .inr (2, [.long dh, .long dl])), (lm, .inr (2, [.long lmh, .long lml])), (co, .inr (2, [.long coh, .long col])), (sp, .inr (2, [.long sph, .long spl])), (p1, .inr (2, [.long p1h, .long p1l])), (p2, .inr (2, [.long p2h, .long p2l])), (mo, .inr (4, [.int cd, .ref wa, .ref sa, .ref ma, .ref tl2, .ref gx, .ref gy, .ref tx, .ref tz, .int ln, .ref kx2, .ref ky2, .int (nI n), .int ph])), (wa, .inl (cJ, 96, .inr (.inl fw))), (sa, .inl (cI, 16, .inl fs)), (ma, .inl (cJ, 12, .inr (.inl fm))), (tl2, .inl (cZ, 16, .inl ft2)), (gx, .inl (cJ, 16, .inr (.inl fsx))), (gy, .inl (cJ, 16, .inr (.inl fsy))), (tx, .inl (cJ, 16, .inr (.inl ftx))), (tz, .inl (cJ, 16, .inr (.inl fty))), (kx2, .inl (cJ, 64, .inr (.inl fkx))), (ky2, .inl (cJ, 64, .inr (.inl fky))), (ou, .inl (cJ, 1, .inr (.inl fo)))]) (hS : va_S A s.heap H locs) (hl : lv_has ls 8 [(0, .ref b), (1, .ref o), (2, .ref mo), (3, .ref ou), (4, .int (nI (13 * j)))]) : W p l e room_1 s m #[Value.ref b] below meth c H locs (35 + j) (603 + 6 * j) Q (F0 m 653 ls []) := by
  obtain ⟨hx, hb, hml, hown, hTB, hTX, hK, hX, hXs, hbl, hbA, hA, hl9, hL⟩ := hC
  refine lv_aload_n hx hb dL_law_653 rfl (lv_at hl 1 rfl) ?_
  refine lv_aload_n hx hb dL_law_654 rfl (lv_at hl 0 rfl) ?_
  refine lv_iload hx hb dL_law_655 (lv_at hl 4 rfl) ?_
  refine lv_iconst (v := 1) hx hb dL_law_657 (by decide) ?_
  refine lv_iadd hx hb dL_law_658 ?_
  refine va_sld hx hb hXs hbl hbA hS (sx_in (k := 1) (by omega) hL) dL_law_659 ?_
  rw [show (nI (13 * j) + 1).toNatClampNeg = 13 * j + 1 from sx_cl (k := 1) (by omega)]
  refine fin_l (wr := [(tl, .inl (cZ, 16, .inl ft)), (sx, .inl (cJ, 16, .inr (.inl fsx))), (sy, .inl (cJ, 16, .inr (.inl fsy))), (wx, .inl (cJ, 16, .inr (.inl fwx))), (wy, .inl (cJ, 16, .inr (.inl fwy))), (kx, .inl (cJ, 64, .inr (.inl fkx))), (ky, .inl (cJ, 64, .inr (.inl fky))), (co, .inr (2, [.long coh, .long col])), (sp, .inr (2, [.long sph, .long spl])), (p1, .inr (2, [.long p1h, .long p1l])), (p2, .inr (2, [.long p2h, .long p2l])), (mo, .inr (4, [.int cd, .ref wa, .ref sa, .ref ma, .ref tl2, .ref gx, .ref gy, .ref tx, .ref tz, .int ln, .ref kx2, .ref ky2, .int (nI n), .int ph])), (wa, .inl (cJ, 96, .inr (.inl fw))), (sa, .inl (cI, 16, .inl fs)), (ma, .inl (cJ, 12, .inr (.inl fm))), (tl2, .inl (cZ, 16, .inl ft2)), (gx, .inl (cJ, 16, .inr (.inl fsx))), (gy, .inl (cJ, 16, .inr (.inl fsy))), (tx, .inl (cJ, 16, .inr (.inl ftx))), (tz, .inl (cJ, 16, .inr (.inl fty))), (kx2, .inl (cJ, 64, .inr (.inl fkx))), (ky2, .inl (cJ, 64, .inr (.inl fky))), (ou, .inl (cJ, 1, .inr (.inl fo)))]) (va_runV (As := [.int (xs (13 * j + 1))]) (rest := []) ⟨hx, hb, hml, hown, hTB⟩ (c_X3_at l D cZ cI cJ o tl sx sy wx wy kx ky fx fy dv sp p1 p2 (nI n) ph xu xl yu yl xuh xul xlh xll yuh yul ylh yll q r d lm co qh ql rh rl dh dl lmh lml (xs (13 * j + 1)) hR.cX hR.cY _) (cw_V hTB tb_14_21 tb_1_2 tb_14_18 tb_14_19 tb_14_20 nd_X3_at rfl rfl ⟨Nat.le_of_ble_eq_true rfl, Nat.le_of_ble_eq_true rfl⟩) (pre_V (q0 := 0) hK hP hD [0, 8, 9, 10, 11, 12, 13, 14, 15, 16, 17, 18] rfl rfl rfl rfl) rfl rfl hl.1 rfl (lv_room (Nat.le_of_ble_eq_true rfl)) dL_law_660 ⟨by show 35 + j + 0 + 0 ≤ 1063; omega, by show 603 + 6 * j + 0 + 0 ≤ 8819; omega⟩) hP hD hS hA [0, 8, 9, 10, 11, 12, 13, 14, 15, 16, 17, 18] [1, 2, 3, 4, 5, 6, 7, 19, 20, 21, 22, 23, 24, 25, 26, 27, 28, 29, 30, 31, 32, 33, 34] rfl rfl rfl (by decide) (fun r660 u660 H locs hc660 hP hD hS => ?_)
  obtain ⟨⟨kqh, kql⟩, ⟨krh, krl⟩, ⟨kdh, kdl⟩, klmh, klml⟩ := u660
  try dsimp only at hc660
  have hP : va_P D vwCl [(tl, .inl (cZ, 16, .inl ft)), (sx, .inl (cJ, 16, .inr (.inl fsx))), (sy, .inl (cJ, 16, .inr (.inl fsy))), (wx, .inl (cJ, 16, .inr (.inl fwx))), (wy, .inl (cJ, 16, .inr (.inl fwy))), (kx, .inl (cJ, 64, .inr (.inl fkx))), (ky, .inl (cJ, 64, .inr (.inl fky))), (co, .inr (2, [.long coh, .long col])), (sp, .inr (2, [.long sph, .long spl])), (p1, .inr (2, [.long p1h, .long p1l])), (p2, .inr (2, [.long p2h, .long p2l])), (mo, .inr (4, [.int cd, .ref wa, .ref sa, .ref ma, .ref tl2, .ref gx, .ref gy, .ref tx, .ref tz, .int ln, .ref kx2, .ref ky2, .int (nI n), .int ph])), (wa, .inl (cJ, 96, .inr (.inl fw))), (sa, .inl (cI, 16, .inl fs)), (ma, .inl (cJ, 12, .inr (.inl fm))), (tl2, .inl (cZ, 16, .inl ft2)), (gx, .inl (cJ, 16, .inr (.inl fsx))), (gy, .inl (cJ, 16, .inr (.inl fsy))), (tx, .inl (cJ, 16, .inr (.inl ftx))), (tz, .inl (cJ, 16, .inr (.inl fty))), (kx2, .inl (cJ, 64, .inr (.inl fkx))), (ky2, .inl (cJ, 64, .inr (.inl fky))), (ou, .inl (cJ, 1, .inr (.inl fo))), (o, .inr (3, [.ref tl, .ref sx, .ref sy, .ref wx, .ref wy, .ref kx, .ref ky, .int (nI n), .int ph, .ref fx, .ref fy, .ref dv, .ref sp, .ref p1, .ref p2])), (fx, .inr (1, [.ref xu, .ref xl])), (fy, .inr (1, [.ref yu, .ref yl])), (xu, .inr (2, [.long xuh, .long xul])), (xl, .inr (2, [.long xlh, .long xll])), (yu, .inr (2, [.long yuh, .long yul])), (yl, .inr (2, [.long ylh, .long yll])), (dv, .inr (0, [.ref q, .ref r, .ref d, .ref lm, .ref co])), (q, .inr (2, [.long kqh, .long kql])), (r, .inr (2, [.long krh, .long krl])), (d, .inr (2, [.long kdh, .long kdl])), (lm, .inr (2, [.long klmh, .long klml]))] H := hP
  have hD : va_D A [(tl, .inl (cZ, 16, .inl ft)), (sx, .inl (cJ, 16, .inr (.inl fsx))), (sy, .inl (cJ, 16, .inr (.inl fsy))), (wx, .inl (cJ, 16, .inr (.inl fwx))), (wy, .inl (cJ, 16, .inr (.inl fwy))), (kx, .inl (cJ, 64, .inr (.inl fkx))), (ky, .inl (cJ, 64, .inr (.inl fky))), (co, .inr (2, [.long coh, .long col])), (sp, .inr (2, [.long sph, .long spl])), (p1, .inr (2, [.long p1h, .long p1l])), (p2, .inr (2, [.long p2h, .long p2l])), (mo, .inr (4, [.int cd, .ref wa, .ref sa, .ref ma, .ref tl2, .ref gx, .ref gy, .ref tx, .ref tz, .int ln, .ref kx2, .ref ky2, .int (nI n), .int ph])), (wa, .inl (cJ, 96, .inr (.inl fw))), (sa, .inl (cI, 16, .inl fs)), (ma, .inl (cJ, 12, .inr (.inl fm))), (tl2, .inl (cZ, 16, .inl ft2)), (gx, .inl (cJ, 16, .inr (.inl fsx))), (gy, .inl (cJ, 16, .inr (.inl fsy))), (tx, .inl (cJ, 16, .inr (.inl ftx))), (tz, .inl (cJ, 16, .inr (.inl fty))), (kx2, .inl (cJ, 64, .inr (.inl fkx))), (ky2, .inl (cJ, 64, .inr (.inl fky))), (ou, .inl (cJ, 1, .inr (.inl fo))), (o, .inr (3, [.ref tl, .ref sx, .ref sy, .ref wx, .ref wy, .ref kx, .ref ky, .int (nI n), .int ph, .ref fx, .ref fy, .ref dv, .ref sp, .ref p1, .ref p2])), (fx, .inr (1, [.ref xu, .ref xl])), (fy, .inr (1, [.ref yu, .ref yl])), (xu, .inr (2, [.long xuh, .long xul])), (xl, .inr (2, [.long xlh, .long xll])), (yu, .inr (2, [.long yuh, .long yul])), (yl, .inr (2, [.long ylh, .long yll])), (dv, .inr (0, [.ref q, .ref r, .ref d, .ref lm, .ref co])), (q, .inr (2, [.long kqh, .long kql])), (r, .inr (2, [.long krh, .long krl])), (d, .inr (2, [.long kdh, .long kdl])), (lm, .inr (2, [.long klmh, .long klml]))] := hD
  subst hc660
  refine lv_aload_n hx hb dL_law_663 rfl (lv_at hl 2 rfl) ?_
  refine lv_aload_n hx hb dL_law_664 rfl (lv_at hl 0 rfl) ?_
  refine lv_iload hx hb dL_law_665 (lv_at hl 4 rfl) ?_
  refine lv_iconst (v := 1) hx hb dL_law_667 (by decide) ?_
  refine lv_iadd hx hb dL_law_668 ?_
  refine va_sld hx hb hXs hbl hbA hS (sx_in (k := 1) (by omega) hL) dL_law_669 ?_
  rw [show (nI (13 * j) + 1).toNatClampNeg = 13 * j + 1 from sx_cl (k := 1) (by omega)]
  refine fin_l (wr := [(tl, .inl (cZ, 16, .inl ft)), (sx, .inl (cJ, 16, .inr (.inl fsx))), (sy, .inl (cJ, 16, .inr (.inl fsy))), (wx, .inl (cJ, 16, .inr (.inl fwx))), (wy, .inl (cJ, 16, .inr (.inl fwy))), (kx, .inl (cJ, 64, .inr (.inl fkx))), (ky, .inl (cJ, 64, .inr (.inl fky))), (co, .inr (2, [.long coh, .long col])), (sp, .inr (2, [.long sph, .long spl])), (p1, .inr (2, [.long p1h, .long p1l])), (p2, .inr (2, [.long p2h, .long p2l])), (ma, .inl (cJ, 12, .inr (.inl fm))), (tl2, .inl (cZ, 16, .inl ft2)), (gx, .inl (cJ, 16, .inr (.inl fsx))), (gy, .inl (cJ, 16, .inr (.inl fsy))), (tx, .inl (cJ, 16, .inr (.inl ftx))), (tz, .inl (cJ, 16, .inr (.inl fty))), (kx2, .inl (cJ, 64, .inr (.inl fkx))), (ky2, .inl (cJ, 64, .inr (.inl fky))), (ou, .inl (cJ, 1, .inr (.inl fo))), (o, .inr (3, [.ref tl, .ref sx, .ref sy, .ref wx, .ref wy, .ref kx, .ref ky, .int (nI n), .int ph, .ref fx, .ref fy, .ref dv, .ref sp, .ref p1, .ref p2])), (fx, .inr (1, [.ref xu, .ref xl])), (fy, .inr (1, [.ref yu, .ref yl])), (xu, .inr (2, [.long xuh, .long xul])), (xl, .inr (2, [.long xlh, .long xll])), (yu, .inr (2, [.long yuh, .long yul])), (yl, .inr (2, [.long ylh, .long yll])), (dv, .inr (0, [.ref q, .ref r, .ref d, .ref lm, .ref co])), (q, .inr (2, [.long kqh, .long kql])), (r, .inr (2, [.long krh, .long krl])), (d, .inr (2, [.long kdh, .long kdl])), (lm, .inr (2, [.long klmh, .long klml]))]) (va_runV (As := [.int (xs (13 * j + 1))]) (rest := [.long (if isa ph (xs (13 * j + 1)) then (if (xs (13 * j + 1)) = 0 then rdv 4 (wv xuh xul) (wv xlh xll) else rdv 4 (wv yuh yul) (wv ylh yll)) else -4611686018427387904)]) ⟨hx, hb, hml, hown, hTB⟩ (c_X4_at l D cZ cI cJ mo wa sa ma tl2 gx gy tx tz kx2 ky2 cd ln (nI n) ph fw fs (wv xuh xul) (wv xlh xll) (wv yuh yul) (wv ylh yll) (xs (13 * j + 1)) hR.lm hR.fX hR.fY _) (cw_V hTB tb_15_18 tb_1_5 tb_15_15 tb_15_16 tb_15_17 nd_X4_at rfl rfl ⟨Nat.le_of_ble_eq_true rfl, Nat.le_of_ble_eq_true rfl⟩) (pre_V (q0 := 11) hK hP hD [11, 12, 13] rfl rfl rfl rfl) rfl rfl hl.1 rfl (lv_room (Nat.le_of_ble_eq_true rfl)) dL_law_670 ⟨by show 35 + j + 0 + 0 ≤ 1063; omega, by show 603 + 6 * j + 0 + 0 ≤ 8819; omega⟩) hP hD hS hA [11, 12, 13] [0, 1, 2, 3, 4, 5, 6, 7, 8, 9, 10, 14, 15, 16, 17, 18, 19, 20, 21, 22, 23, 24, 25, 26, 27, 28, 29, 30, 31, 32, 33, 34] rfl rfl rfl (by decide) (fun r670 u670 H locs hc670 hP hD hS => ?_)
  obtain ⟨g670, s670⟩ := u670
  try dsimp only at hc670
  obtain ⟨ez, kp⟩ := hc670
  have hP : va_P D vwCl [(tl, .inl (cZ, 16, .inl ft)), (sx, .inl (cJ, 16, .inr (.inl fsx))), (sy, .inl (cJ, 16, .inr (.inl fsy))), (wx, .inl (cJ, 16, .inr (.inl fwx))), (wy, .inl (cJ, 16, .inr (.inl fwy))), (kx, .inl (cJ, 64, .inr (.inl fkx))), (ky, .inl (cJ, 64, .inr (.inl fky))), (co, .inr (2, [.long coh, .long col])), (sp, .inr (2, [.long sph, .long spl])), (p1, .inr (2, [.long p1h, .long p1l])), (p2, .inr (2, [.long p2h, .long p2l])), (ma, .inl (cJ, 12, .inr (.inl fm))), (tl2, .inl (cZ, 16, .inl ft2)), (gx, .inl (cJ, 16, .inr (.inl fsx))), (gy, .inl (cJ, 16, .inr (.inl fsy))), (tx, .inl (cJ, 16, .inr (.inl ftx))), (tz, .inl (cJ, 16, .inr (.inl fty))), (kx2, .inl (cJ, 64, .inr (.inl fkx))), (ky2, .inl (cJ, 64, .inr (.inl fky))), (ou, .inl (cJ, 1, .inr (.inl fo))), (o, .inr (3, [.ref tl, .ref sx, .ref sy, .ref wx, .ref wy, .ref kx, .ref ky, .int (nI n), .int ph, .ref fx, .ref fy, .ref dv, .ref sp, .ref p1, .ref p2])), (fx, .inr (1, [.ref xu, .ref xl])), (fy, .inr (1, [.ref yu, .ref yl])), (xu, .inr (2, [.long xuh, .long xul])), (xl, .inr (2, [.long xlh, .long xll])), (yu, .inr (2, [.long yuh, .long yul])), (yl, .inr (2, [.long ylh, .long yll])), (dv, .inr (0, [.ref q, .ref r, .ref d, .ref lm, .ref co])), (q, .inr (2, [.long kqh, .long kql])), (r, .inr (2, [.long krh, .long krl])), (d, .inr (2, [.long kdh, .long kdl])), (lm, .inr (2, [.long klmh, .long klml])), (mo, .inr (4, [.int 0, .ref wa, .ref sa, .ref ma, .ref tl2, .ref gx, .ref gy, .ref tx, .ref tz, .int ln, .ref kx2, .ref ky2, .int (nI n), .int ph])), (wa, .inl (cJ, 96, .inr (.inl g670))), (sa, .inl (cI, 16, .inl s670))] H := hP
  have hD : va_D A [(tl, .inl (cZ, 16, .inl ft)), (sx, .inl (cJ, 16, .inr (.inl fsx))), (sy, .inl (cJ, 16, .inr (.inl fsy))), (wx, .inl (cJ, 16, .inr (.inl fwx))), (wy, .inl (cJ, 16, .inr (.inl fwy))), (kx, .inl (cJ, 64, .inr (.inl fkx))), (ky, .inl (cJ, 64, .inr (.inl fky))), (co, .inr (2, [.long coh, .long col])), (sp, .inr (2, [.long sph, .long spl])), (p1, .inr (2, [.long p1h, .long p1l])), (p2, .inr (2, [.long p2h, .long p2l])), (ma, .inl (cJ, 12, .inr (.inl fm))), (tl2, .inl (cZ, 16, .inl ft2)), (gx, .inl (cJ, 16, .inr (.inl fsx))), (gy, .inl (cJ, 16, .inr (.inl fsy))), (tx, .inl (cJ, 16, .inr (.inl ftx))), (tz, .inl (cJ, 16, .inr (.inl fty))), (kx2, .inl (cJ, 64, .inr (.inl fkx))), (ky2, .inl (cJ, 64, .inr (.inl fky))), (ou, .inl (cJ, 1, .inr (.inl fo))), (o, .inr (3, [.ref tl, .ref sx, .ref sy, .ref wx, .ref wy, .ref kx, .ref ky, .int (nI n), .int ph, .ref fx, .ref fy, .ref dv, .ref sp, .ref p1, .ref p2])), (fx, .inr (1, [.ref xu, .ref xl])), (fy, .inr (1, [.ref yu, .ref yl])), (xu, .inr (2, [.long xuh, .long xul])), (xl, .inr (2, [.long xlh, .long xll])), (yu, .inr (2, [.long yuh, .long yul])), (yl, .inr (2, [.long ylh, .long yll])), (dv, .inr (0, [.ref q, .ref r, .ref d, .ref lm, .ref co])), (q, .inr (2, [.long kqh, .long kql])), (r, .inr (2, [.long krh, .long krl])), (d, .inr (2, [.long kdh, .long kdl])), (lm, .inr (2, [.long klmh, .long klml])), (mo, .inr (4, [.int 0, .ref wa, .ref sa, .ref ma, .ref tl2, .ref gx, .ref gy, .ref tx, .ref tz, .int ln, .ref kx2, .ref ky2, .int (nI n), .int ph])), (wa, .inl (cJ, 96, .inr (.inl g670))), (sa, .inl (cI, 16, .inl s670))] := hD
  subst ez
  refine W.lcmp hx hb dL_law_673 ?_
  refine lv_if_eq (tgt := 1751) hx hb dL_law_674 (by decide) (fun c_674 => ?_) (fun c_674 => absurd ((lg_cmp_eq _ _).mpr rfl) c_674)
  refine W.widen (k := 35 + (j + 1)) (n := 603 + 6 * (j + 1)) (by show 35 + j + 0 ≤ 35 + (j + 1); omega) (by show 603 + 6 * j + 0 ≤ 603 + 6 * (j + 1); omega) ?_
  exact hJ ft ft2 fsx fsy fwx fwy ftx fty fkx fky n ph 0 ln xuh xul xlh xll yuh yul ylh yll kqh kql krh krl kdh kdl klmh klml coh col sph spl p1h p1l p2h p2l g670 s670 fm fo (hR.kp kp) _ _ (hP.sub [20, 0, 1, 2, 3, 4, 5, 6, 21, 22, 23, 24, 25, 26, 27, 28, 29, 30, 31, 7, 8, 9, 10, 32, 33, 34, 11, 12, 13, 14, 15, 16, 17, 18, 19] rfl) (hD.sub [20, 0, 1, 2, 3, 4, 5, 6, 21, 22, 23, 24, 25, 26, 27, 28, 29, 30, 31, 7, 8, 9, 10, 32, 33, 34, 11, 12, 13, 14, 15, 16, 17, 18, 19] (by decide) rfl) hS _ (lv_sub hl [0, 1, 2, 3, 4] rfl)
