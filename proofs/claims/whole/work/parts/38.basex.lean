/-! METHODS THAT MAY THROW: their words (TX), what a throw needs (KX), contracts Tl, Ti, their start, ends and use. -/
abbrev IOB : String := "java/lang/IndexOutOfBoundsException"
abbrev ARX : String := "java/lang/ArithmeticException"
abbrev chn : List String := ["java/lang/RuntimeException", "java/lang/Exception"]
def TX : List Cond := TB ++ (vx_atS RX3 148 IOB chn).filter goodWord ++ (vx_atS RX3 201 ARX chn).filter goodWord
theorem tx_good : ∀ w ∈ TX, goodWord w = true := fun w h => (List.mem_append.mp h).elim (fun h => (List.mem_append.mp h).elim (fun h => tb_good w h) (fun h => (List.mem_filter.mp h).2)) (fun h => (List.mem_filter.mp h).2)
theorem tx_TB : ∀ w ∈ TB, w ∈ TX := fun _ h => List.mem_append_left _ (List.mem_append_left _ h)
theorem tx_G {c : Cond} (h : c ∈ TB) : GoodIn TX (c :: TX) := fun w hw => (List.mem_cons.mp hw).elim (fun e => by rw [e]; exact ⟨tx_TB _ h, good_of_word (tb_good c h)⟩) (fun hw => ⟨hw, good_of_word (tx_good w hw)⟩)
abbrev wTX (y : MethodName) (cc : ByteArray) (maxL : Nat) (ret : Option FieldType) : List Cond := Cond.code y cc maxL ret :: TX
def xWs : List Cond := [.castable IOB IOB, .castable ARX ARX, .declares (Bundle.initS "java/lang/RuntimeException"), .declares (Bundle.initS "java/lang/Exception"), .declares (Bundle.initS Bundle.tN)]
def xw_form (w : Cond) : Bool := match w with
  | .castable .. => true
  | .declares .. => true
  | _ => false
theorem xw_forms : ∀ w ∈ xWs, xw_form w = true := by decide +kernel
theorem xw_on {w : Cond} (h : xw_form w = true) : w.onTables = true := by
  cases w <;> first | rfl | (simp [xw_form] at h)
theorem xw_warm {s U : State} (hW : s.WarmedH U.vm) {w : Cond} (hf : xw_form w = true) (h : va_Nw w s) : va_Nw w U := by
  cases w <;> first | exact va_Nw.warmC hW h | exact va_Nw.warmD hW h | (simp [xw_form] at hf)
theorem at_I {args : Array Value} {s : State} (h1 : ∀ w ∈ TX, w.before args s = true) (h2 : ∀ w ∈ xWs, va_Nw w s) : ∀ w ∈ vx_atS RX3 148 IOB chn, w.before args s = true :=
  vx_hat (B := xWs) (fun w hw => h1 w (List.mem_append_left _ (List.mem_append_right _ hw))) (by decide +kernel) (fun w hw => va_Nw.use (xw_on (xw_forms w hw)) (h2 w hw))
theorem at_A {args : Array Value} {s : State} (h1 : ∀ w ∈ TX, w.before args s = true) (h2 : ∀ w ∈ xWs, va_Nw w s) : ∀ w ∈ vx_atS RX3 201 ARX chn, w.before args s = true :=
  vx_hat (B := xWs) (fun w hw => h1 w (List.mem_append_right _ hw)) (by decide +kernel) (fun w hw => va_Nw.use (xw_on (xw_forms w hw)) (h2 w hw))
theorem ot_I : ∀ w ∈ Cond.classLink RX3 144 IOB :: Cond.initialized IOB :: vx_atS RX3 148 IOB chn, vx_ot w = true := by decide +kernel
theorem ot_A : ∀ w ∈ Cond.classLink RX3 197 ARX :: Cond.initialized ARX :: vx_atS RX3 201 ARX chn, vx_ot w = true := by decide +kernel
def KX (A : Nat → Prop) (U : State) (H : Heap) : Prop := vx_Zq Bundle.tN "UNASSIGNED_STACK" Bundle.steD A U H ∧ vx_Zq Bundle.tN "SUPPRESSED_SENTINEL" Bundle.listD A U H ∧ (∀ w ∈ xWs, va_Nw w U) ∧ (∃ a, vk_R RX3 205 "no such limb" a U) ∧ (∃ a, vk_R RX3 199 "by 0" a U) ∧ (∃ a, vk_R RX3 146 "no such share" a U) ∧ (∃ a, vk_R RX3 160 "no such digit" a U)
theorem KX.warm {A : Nat → Prop} {s U : State} {H : Heap} (hW : s.WarmedH U.vm) (h : KX A s H) : KX A U H :=
  ⟨vx_Zq.moved hW.alike h.1, vx_Zq.moved hW.alike h.2.1, fun w hw => xw_warm hW (xw_forms w hw) (h.2.2.1 w hw), h.2.2.2.1.imp (fun _ q => vk_R.warm hW q), h.2.2.2.2.1.imp (fun _ q => vk_R.warm hW q), h.2.2.2.2.2.1.imp (fun _ q => vk_R.warm hW q), h.2.2.2.2.2.2.imp (fun _ q => vk_R.warm hW q)⟩
theorem KX.same {A : Nat → Prop} {s U : State} {H : Heap} (hvm : s.vm = U.vm) (h : KX A s H) : KX A U H :=
  ⟨vx_Zq.moved (by rw [hvm]; exact Vm.Alike.refl _) h.1, vx_Zq.moved (by rw [hvm]; exact Vm.Alike.refl _) h.2.1, fun w hw => va_Nw.same (xw_on (xw_forms w hw)) hvm (h.2.2.1 w hw), h.2.2.2.1.imp (fun _ q => vk_R.same hvm.symm q), h.2.2.2.2.1.imp (fun _ q => vk_R.same hvm.symm q), h.2.2.2.2.2.1.imp (fun _ q => vk_R.same hvm.symm q), h.2.2.2.2.2.2.imp (fun _ q => vk_R.same hvm.symm q)⟩
theorem KX.narrow {A B : Nat → Prop} {U : State} {H : Heap} (h : KX A U H) (hAB : ∀ q, B q → A q) : KX B U H := ⟨h.1.narrow hAB, h.2.1.narrow hAB, h.2.2⟩
theorem KX.kept {A : Nat → Prop} {U : State} {H H1 : Heap} (h : KX A U H) (hq : ∀ a : Nat, a < H.size → ¬ A a → H1[a]? = H[a]?) : KX A U H1 := ⟨h.1.kept hq, h.2.1.kept hq, h.2.2⟩
def PX (D : va_G) (cZ cI cJ : ClassId) (sz : Nat) (ws : va_W) (U : State) : Prop := PB D cZ cI cJ sz ws U ∧ KX (va_A ws sz) U U.heap
def WX {S : Type} (E : String) (D : va_G) (A : Nat → Prop) (wx : S → va_W) (E' : String) (u : S) (t : State) : Prop := E' = E ∧ WB D A wx u t
def Tl (l : Launch) (D : va_G) (cZ cI cJ : ClassId) (y : MethodName) (cc : ByteArray) (maxL : Nat) (ret : Option FieldType) (rm : Room) (av : List Value) (ws : va_W) (E : String) {S SX : Type} (post : Int64 → S → Prop) (wo : S → va_W) (px : SX → Prop) (wx : SX → va_W) : Prop :=
  ∀ sz : Nat, vx_Met l y (wTX y cc maxL ret) rm (va_Pc av (PX D cZ cI cJ sz ws)) (va_Ql post (WB D (va_A ws sz) wo) (va_A ws sz)) (vx_X px (WX E D (va_A ws sz) wx) (va_A ws sz)) rm.cells rm.slots (va_A ws sz)
def Ti (l : Launch) (D : va_G) (cZ cI cJ : ClassId) (y : MethodName) (cc : ByteArray) (maxL : Nat) (ret : Option FieldType) (rm : Room) (av : List Value) (ws : va_W) (E : String) {S SX : Type} (post : Int32 → S → Prop) (wo : S → va_W) (px : SX → Prop) (wx : SX → va_W) : Prop :=
  ∀ sz : Nat, vx_Met l y (wTX y cc maxL ret) rm (va_Pc av (PX D cZ cI cJ sz ws)) (va_Qi post (WB D (va_A ws sz) wo) (va_A ws sz)) (vx_X px (WX E D (va_A ws sz) wx) (va_A ws sz)) rm.cells rm.slots (va_A ws sz)
def StX (p : Program) (s : State) (m : MethodId) (meth : Method) (c : Code) (D : va_G) (cZ cI cJ : ClassId) (y : MethodName) (cc : ByteArray) (maxL : Nat) (ret : Option FieldType) (args : Array Value) (A : Nat → Prop) : Prop :=
  St p s m meth c D cZ cI cJ y cc maxL ret args ∧ (∀ w ∈ TX, w.before args s = true) ∧ KX A s s.heap
def ThrX (p : Program) (l : Launch) (e : Env) (rm : Room) (s : State) (m : MethodId) (args : Array Value) (below : List Frame) (meth : Method) (c : Code) (D : va_G) (A : Nat → Prop) (cc : ByteArray) (Q : State → Prop) (E : String) {SX : Type} (px : SX → Prop) (wx : SX → va_W) : Prop :=
  ∀ {H : Heap} {locs : List Loc} {cells slots pc ik is ic : Nat} {text : String} {ls : Array Slot} {rest : List Value} {we : va_W}, va_P D vwCl we H → va_D A we → va_S A s.heap H locs → ∀ (u : SX), px u → ∀ (js : List Nat), js.map (fun i => we[i]?) = (wx u).map some → va_nd js = true →
    s.vm.findClass RX3 = some m.cls → (Cond.classLink RX3 ik E).before args s = true → (Cond.initialized E).before args s = true → (∃ a, vk_R RX3 is text a s) → (∀ w ∈ vx_atS RX3 ic E chn, w.before args s = true) → (∀ w ∈ Cond.classLink RX3 ik E :: Cond.initialized E :: vx_atS RX3 ic E chn, vx_ot w = true) → ls.size = c.maxLocals →
    decode cc pc = .ok (.new ik, 3) → decode cc (pc + 3) = .ok (.dup, 1) → decode cc (pc + 4) = .ok (.ldc is, 2) → decode cc (pc + 6) = .ok (.invokespecial ic, 3) → decode cc (pc + 9) = .ok (.athrow, 1) →
    5 < rm.frames → (rest.map fun v => v.category).sum + 82 ≤ rm.locals → cells + 1 ≤ rm.cells → slots + 6 ≤ rm.slots → W p l e rm s m args below meth c H locs cells slots Q (F0 m pc ls rest)
def OutX (p : Program) (l : Launch) (e : Env) (rm : Room) (s : State) (m : MethodId) (args : Array Value) (below : List Frame) (meth : Method) (c : Code) (D : va_G) (A : Nat → Prop) (Q : State → Prop) (E : String) {SX : Type} (px : SX → Prop) (wx : SX → va_W) : Prop :=
  ∀ {H : Heap} {locs : List Loc} {cells slots pc : Nat} {ls : Array Slot} {rest : List Value} {we : va_W} {q : Addr} {ce : Cell}, va_P D vwCl we H → va_D A we → va_S A s.heap H locs → ∀ (u : SX), px u → ∀ (js : List Nat), js.map (fun i => we[i]?) = (wx u).map some → va_nd js = true →
    H[q]? = some ce → ce.vm = .none → s.vm.findClass E = some ce.cls → cells ≤ rm.cells → slots ≤ rm.slots → vx_W p l e rm s m args below meth c H locs cells slots Q (F0 m pc ls rest) q
section BASEX
variable {p : Program} {l : Launch} {e : Env} {R : Room} {s : State} {m : MethodId} {args : Array Value} {below : List Frame} {meth : Method} {c : Code} {H : Heap} {locs : List Loc} {cells slots : Nat} {Q : State → Prop}
variable {cc bytes : ByteArray} {pc nL maxL index n mc ms : Nat} {ls : Array Slot} {rest st0 : List Value} {D : va_G} {cZ cI cJ : ClassId} {A : Nat → Prop} {ws wc wr we : va_W} {S SX : Type} {own C E : String} {y : MethodName} {ret : Option FieldType} {rm : Room} {b : Addr} {As av : List Value}
theorem stx_of {p : Program} {e : Env} {s : State} {m : MethodId} {args : Array Value} {below : List Frame} {meth : Method} {c : Code} {s₁ : State} (B : BodyLoose p l y (headSpec (wTX y cc maxL ret) rm) cc maxL ret e s m args below meth c s₁) (hml : c.maxLocals = maxL) (hK : KK D cZ cI cJ s) (hX : KX A s s.heap) : StX p s m meth c D cZ cI cJ y cc maxL ret args A :=
  ⟨⟨B.exec, B.bytes, B.returns, B.notSynchronized, hml, findClass_of_methodNamed B.named, (name_of_methodNamed B.named B.method).1, fun w hw => atoms_spec (ws := wTX y cc maxL ret) B.pre w (List.mem_cons_of_mem _ (tx_TB w hw)), hK⟩, fun w hw => atoms_spec (ws := wTX y cc maxL ret) B.pre w (List.mem_cons_of_mem _ hw), hX⟩
theorem out_x {Qc : Array Value → State → Outcome → State → Prop} {px : SX → Prop} {wx : SX → va_W} (hlocks : meth.locks = false) (hx0 : ∀ x ∈ c.exceptionTable.toList, False) : OutX p l e rm s m args below meth c D A (vx_MQ below Qc (vx_X px (WX E D A wx) A) args s rm.cells rm.slots A) E px wx := by
  intro H locs cells slots pc ls rest we q ce hP hD hS u hu js hs hn hq hv hcl h1 h2
  exact vx_out (fun x hx => (hx0 x hx).elim) hlocks hq hv hcl (fun t ht _ => ⟨u, hu, ⟨rfl, by rw [ht]; exact hP.sub js (fm_of hs), hD.sub js hn hs⟩, hS.F ht⟩) hS.2.2 h1 h2
theorem thr_x {Qc : Array Value → State → Outcome → State → Prop} {px : SX → Prop} {wx : SX → va_W} (hexec : p.tables.exec = Jvm.exec) (hb : c.code = cc) (hl : l.stackTraces = false) (hE : Bundle.fit E = true) (hlocks : meth.locks = false) (hx0 : ∀ x ∈ c.exceptionTable.toList, False) (hX : KX A s s.heap) : ThrX p l e rm s m args below meth c D A cc (vx_MQ below Qc (vx_X px (WX E D A wx) A) args s rm.cells rm.slots A) E px wx := by
  intro H locs cells slots pc ik is ic text ls rest we hP hD hS u hu js hs hn hown hk hini hstr hat hgood hsz d0 d3 d4 d6 d9 hf hlo h1 h2
  obtain ⟨sa, hstr⟩ := hstr
  have hlt : ∀ (k : Nat) (q : Nat × va_E), we[k]? = some q → q.1 < H.size := fun k q hk => vx_lt hP hk
  refine vx_throwS (A := A) hexec hb hl hown hE (by decide) hk hini hstr hat hgood hX.1 hX.2.1 hS hsz d0 d3 d4 d6 d9 (fun x hx => (hx0 x hx).elim) hf (by simpa using hlo) h1 h2 hlocks (fun t _ hz hq => ?_) hS.2.2 h1 h2
  refine ⟨u, hu, ⟨rfl, (hP.kept (fun k q hk => hq q.1 (hlt k q hk))).sub js (fm_of hs), hD.sub js hn hs⟩, Nat.le_trans hS.1 hz, fun q h3 h4 => ?_⟩
  rw [hq q (Nat.lt_of_lt_of_le h3 hS.1)]
  exact hS.2.1 q h3 h4
theorem Tl.of {post : Int64 → S → Prop} {wo : S → va_W} {px : SX → Prop} {wx : SX → va_W} (hl : l.stackTraces = false) (hE : Bundle.fit E = true) (hy : plainName y.cls = true)
    (body : ∀ p e s m args below meth c A Q, StX p s m meth c D cZ cI cJ y cc maxL (some .long) args A → RetL p l e rm s m args below meth c D A cc Q post wo → ThrX p l e rm s m args below meth c D A cc Q E px wx → OutX p l e rm s m args below meth c D A Q E px wx → va_P D vwCl ws s.heap → va_D A ws → (∀ q : Nat, s.heap.size ≤ q → A q) → W p l e rm s m args below meth c s.heap [] 0 0 Q (entryFrame m av.toArray maxL)) : Tl l D cZ cI cJ y cc maxL (some .long) rm av ws E post wo px wx := by
  intro sz
  refine vx_ofW (cc := cc) (maxL := maxL) (ret := some .long) hy rfl ?_
  intro p e s m args below meth c s₁ B hml hx0 hv
  obtain ⟨rfl, ⟨rfl, hP, hK, hD0⟩, hX⟩ := hv
  exact body p e s m _ below meth c _ _ (stx_of B hml hK hX) (fun hP hD hS u hu is hs hn hdg h1 h2 => vx_ret (rt_l B.exec B.bytes B.returns B.notSynchronized hP hD hS u hu is hs hn hdg h1 h2)) (thr_x B.exec B.bytes hl hE B.notSynchronized hx0 hX) (out_x B.notSynchronized hx0) hP (hD0.self) (fun q h => Or.inr h)
theorem Ti.of {post : Int32 → S → Prop} {wo : S → va_W} {px : SX → Prop} {wx : SX → va_W} {ty : FieldType} (hl : l.stackTraces = false) (hE : Bundle.fit E = true) (hy : plainName y.cls = true)
    (body : ∀ p e s m args below meth c A Q, StX p s m meth c D cZ cI cJ y cc maxL (some ty) args A → RetI p l e rm s m args below meth c D A cc ty Q post wo → ThrX p l e rm s m args below meth c D A cc Q E px wx → OutX p l e rm s m args below meth c D A Q E px wx → va_P D vwCl ws s.heap → va_D A ws → (∀ q : Nat, s.heap.size ≤ q → A q) → W p l e rm s m args below meth c s.heap [] 0 0 Q (entryFrame m av.toArray maxL)) : Ti l D cZ cI cJ y cc maxL (some ty) rm av ws E post wo px wx := by
  intro sz
  refine vx_ofW (cc := cc) (maxL := maxL) (ret := some ty) hy rfl ?_
  intro p e s m args below meth c s₁ B hml hx0 hv
  obtain ⟨rfl, ⟨rfl, hP, hK, hD0⟩, hX⟩ := hv
  exact body p e s m _ below meth c _ _ (stx_of B hml hK hX) (fun hP hD hS hv u hu is hs hn hdg h1 h2 => vx_ret (rt_z B.exec B.bytes B.returns hv B.notSynchronized hP hD hS u hu is hs hn hdg h1 h2)) (thr_x B.exec B.bytes hl hE B.notSynchronized hx0 hX) (out_x B.notSynchronized hx0) hP (hD0.self) (fun q h => Or.inr h)
/-! a call of such a method -/
theorem cwx_V (hT : ∀ w ∈ TX, w.before args s = true) (hc : Cond.code y bytes maxL ret ∈ TB) (hi : Cond.initialized y.cls ∈ TB) (hl : Cond.methodLink own index y ∈ TB) (hin : Cond.instanceMethod y ∈ TB) (hse : Cond.selects C y y ∈ TB) (hd : y.cls ≠ "java/lang/invoke/MethodHandle" ∧ y.cls ≠ "java/lang/invoke/VarHandle" ∧ (parseMethodDescriptor y.desc).map (fun d => d.parameters.length) = some n) (hrc : rm.cells = mc) (hrs : rm.slots = ms) (hR : rm.frames + 1 ≤ R.frames ∧ 8 + (maxL + 11) + rm.locals ≤ R.locals) :
    CallW R s args own C index y bytes maxL ret (wTX y bytes maxL ret) rm mc ms n := ⟨callB_of n hT (tx_G hc) rfl hrc hrs (hT _ (tx_TB _ hi)) (hT _ (tx_TB _ hl)) hd hR, hT _ (tx_TB _ hin), hT _ (tx_TB _ hse)⟩
theorem cwx_S (hT : ∀ w ∈ TX, w.before args s = true) (hc : Cond.code y bytes maxL ret ∈ TB) (hi : Cond.initialized y.cls ∈ TB) (hl : Cond.methodLink own index y ∈ TB) (hst : Cond.static y ∈ TB) (hd : y.cls ≠ "java/lang/invoke/MethodHandle" ∧ y.cls ≠ "java/lang/invoke/VarHandle" ∧ (parseMethodDescriptor y.desc).map (fun d => d.parameters.length) = some n) (hrc : rm.cells = mc) (hrs : rm.slots = ms) (hR : rm.frames + 1 ≤ R.frames ∧ 8 + (maxL + 11) + rm.locals ≤ R.locals) :
    CallB R s args own index y bytes maxL ret (wTX y bytes maxL ret) rm mc ms n ∧ (Cond.static y).before args s = true := ⟨callB_of n hT (tx_G hc) rfl hrc hrs (hT _ (tx_TB _ hi)) (hT _ (tx_TB _ hl)) hd hR, hT _ (tx_TB _ hst)⟩
theorem blind_X (av : List Value) (sz : Nat) : FrameBlind (va_Pc av (PX D cZ cI cJ sz wc)) := fun a U g mk q => ⟨q.1, ⟨q.2.1.1, q.2.1.2.1, KK.same (s := U) (U := U.calling g mk a) rfl q.2.1.2.2.1, q.2.1.2.2.2⟩, KX.same (s := U) (U := U.calling g mk a) rfl q.2.2⟩
theorem prx_k (hX : KX A s s.heap) (hD : va_D A ws) (hS : va_S A s.heap H locs) (hA : ∀ q, s.heap.size ≤ q → A q) (isC : List Nat) (hC : isC.map (fun i => ws[i]?) = wc.map some) {U : State} (hU : U.heap = H) (hW : s.WarmedH U.vm) : KX (va_A wc H.size) U U.heap := by
  rw [hU]
  exact KX.warm hW ((hX.kept hS.2.1).narrow (va_free (wc := wc) hD hS hA isC hC))
theorem prx_S (hK : KK D cZ cI cJ s) (hX : KX A s s.heap) (hP : va_P D vwCl ws H) (hD : va_D A ws) (hS : va_S A s.heap H locs) (hA : ∀ q, s.heap.size ≤ q → A q) (isC : List Nat) (hC : isC.map (fun i => ws[i]?) = wc.map some) (hn : va_nd isC = true) : PreS s H (va_Pc As (PX D cZ cI cJ H.size wc)) As :=
  ⟨blind_X _ _, fun U hU hW => ⟨rfl, ⟨by rw [hU], by rw [hU]; exact hP.sub isC (fm_of hC), KK.warm hW hK, (hD.sub isC hn hC).weaken (fun _ _ _ _ => trivial)⟩, prx_k hX hD hS hA isC hC hU hW⟩⟩
theorem prx_V {q0 ci : Nat} {fs : List Value} {T : u_T} {N : Nat} (hK : KK D cZ cI cJ s) (hX : KX A s s.heap) (hP : va_P D vwCl ws H) (hD : va_D A ws) (hS : va_S A s.heap H locs) (hA : ∀ q, s.heap.size ≤ q → A q) (isC : List Nat) (hC : isC.map (fun i => ws[i]?) = wc.map some) (hn : va_nd isC = true) (hr : ws[q0]? = some (b, .inr (ci, fs))) (hc : vwCl[ci]? = some (C, T, N)) : PreV s H C b (va_Pc (.ref b :: As) (PX D cZ cI cJ H.size wc)) As :=
  ⟨blind_X _ _, va_recv hK.1 hP (q := (C, T, N)) hc hr, fun U hU hW => ⟨rfl, ⟨by rw [hU], by rw [hU]; exact hP.sub isC (fm_of hC), KK.warm hW hK, (hD.sub isC hn hC).weaken (fun _ _ _ _ => trivial)⟩, prx_k hX hD hS hA isC hC hU hW⟩⟩
theorem fin_xl {post : Int64 → S → Prop} {wo : S → va_W} {px : SX → Prop} {wx : SX → va_W} {a : Array Value} (hr : vx_Run p l e R s m args below meth c H locs cells slots mc ms (F0 m pc ls st0) rest (va_Ql post (WB D (va_A wc H.size) wo) (va_A wc H.size) a) (vx_X px (WX E D (va_A wc H.size) wx) (va_A wc H.size)) (va_A wc H.size)) (hP : va_P D vwCl ws H) (hD : va_D A ws) (hS : va_S A s.heap H locs) (hA : ∀ q, s.heap.size ≤ q → A q)
    (isC isR : List Nat) (hC : isC.map (fun i => ws[i]?) = wc.map some) (hR : isR.map (fun i => ws[i]?) = wr.map some) (hn : va_nd isR = true) (hdis : ∀ i ∈ isR, i ∉ isC)
    (kx : ∀ (u : SX) (q : Addr) (ce : Cell) (H1 : Heap) (locs1 : List Loc), px u → va_P D vwCl (wr ++ wx u) H1 → va_D A (wr ++ wx u) → va_S A s.heap H1 locs1 → H1[q]? = some ce → ce.vm = .none → s.vm.findClass E = some ce.cls → vx_W p l e R s m args below meth c H1 locs1 (cells + mc) (slots + ms) Q (F0 m pc ls rest) q)
    (kk : ∀ (r : Int64) (u : S) (H1 : Heap) (locs1 : List Loc), post r u → va_P D vwCl (wr ++ wo u) H1 → va_D A (wr ++ wo u) → va_S A s.heap H1 locs1 → W p l e R s m args below meth c H1 locs1 (cells + mc) (slots + ms) Q (F0 m (pc + 3) ls (.long r :: rest))) : W p l e R s m args below meth c H locs cells slots Q (F0 m pc ls st0) := by
  have hF := va_free (wc := wc) hD hS hA isC hC
  refine vx_calll hr hS (fun q _ h => hF q h) hF (fun q _ h => hF q h) (fun E' ce q u t H1 locs1 ht _ hu hB _ hk hS1 hq hv hcl => ?_) (fun r u t H1 locs1 ht _ hu hB _ hk hS1 => ?_)
  · obtain ⟨rfl, hP1, hD1⟩ := hB
    rw [ht] at hP1
    obtain ⟨hP2, hD2⟩ := va_join hP hD isC isR hC hR hn hdis hk hF hP1 hD1
    exact kx u q ce H1 locs1 hu hP2 hD2 hS1 hq hv hcl
  · obtain ⟨hP1, hD1⟩ := hB
    rw [ht] at hP1
    obtain ⟨hP2, hD2⟩ := va_join hP hD isC isR hC hR hn hdis hk hF hP1 hD1
    exact kk r u H1 locs1 hu hP2 hD2 hS1
theorem fin_xi {post : Int32 → S → Prop} {wo : S → va_W} {px : SX → Prop} {wx : SX → va_W} {a : Array Value} (hr : vx_Run p l e R s m args below meth c H locs cells slots mc ms (F0 m pc ls st0) rest (va_Qi post (WB D (va_A wc H.size) wo) (va_A wc H.size) a) (vx_X px (WX E D (va_A wc H.size) wx) (va_A wc H.size)) (va_A wc H.size)) (hP : va_P D vwCl ws H) (hD : va_D A ws) (hS : va_S A s.heap H locs) (hA : ∀ q, s.heap.size ≤ q → A q)
    (isC isR : List Nat) (hC : isC.map (fun i => ws[i]?) = wc.map some) (hR : isR.map (fun i => ws[i]?) = wr.map some) (hn : va_nd isR = true) (hdis : ∀ i ∈ isR, i ∉ isC)
    (kx : ∀ (u : SX) (q : Addr) (ce : Cell) (H1 : Heap) (locs1 : List Loc), px u → va_P D vwCl (wr ++ wx u) H1 → va_D A (wr ++ wx u) → va_S A s.heap H1 locs1 → H1[q]? = some ce → ce.vm = .none → s.vm.findClass E = some ce.cls → vx_W p l e R s m args below meth c H1 locs1 (cells + mc) (slots + ms) Q (F0 m pc ls rest) q)
    (kk : ∀ (r : Int32) (u : S) (H1 : Heap) (locs1 : List Loc), post r u → va_P D vwCl (wr ++ wo u) H1 → va_D A (wr ++ wo u) → va_S A s.heap H1 locs1 → W p l e R s m args below meth c H1 locs1 (cells + mc) (slots + ms) Q (F0 m (pc + 3) ls (.int r :: rest))) : W p l e R s m args below meth c H locs cells slots Q (F0 m pc ls st0) := by
  have hF := va_free (wc := wc) hD hS hA isC hC
  refine vx_calli hr hS (fun q _ h => hF q h) hF (fun q _ h => hF q h) (fun E' ce q u t H1 locs1 ht _ hu hB _ hk hS1 hq hv hcl => ?_) (fun r u t H1 locs1 ht _ hu hB _ hk hS1 => ?_)
  · obtain ⟨rfl, hP1, hD1⟩ := hB
    rw [ht] at hP1
    obtain ⟨hP2, hD2⟩ := va_join hP hD isC isR hC hR hn hdis hk hF hP1 hD1
    exact kx u q ce H1 locs1 hu hP2 hD2 hS1 hq hv hcl
  · obtain ⟨hP1, hD1⟩ := hB
    rw [ht] at hP1
    obtain ⟨hP2, hD2⟩ := va_join hP hD isC isR hC hR hn hdis hk hF hP1 hD1
    exact kk r u H1 locs1 hu hP2 hD2 hS1
end BASEX
