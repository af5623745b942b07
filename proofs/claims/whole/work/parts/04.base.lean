/-! THE BASE: one list of words (TB), one predicate of the tables (KK), contracts by worlds (Cv, Ci, Cl, Ri, Rl), their start, end and use. -/
def KK (D : va_G) (cZ cI cJ : ClassId) (U : State) : Prop := va_K D vwCl [(cZ, .boolean), (cI, .int), (cJ, .long)] U ∧ ∀ w ∈ nWs, va_Nw w U
def nw_form (w : Cond) : Bool := match w with
  | .fieldLinkNest .. => true
  | .methodLinkNest .. => true
  | _ => false
theorem nw_forms : ∀ w ∈ nWs, nw_form w = true := by decide +kernel
theorem nw_warm {s U : State} (hW : s.WarmedH U.vm) {w : Cond} (hf : nw_form w = true) (h : va_Nw w s) : va_Nw w U := by
  cases w <;> first | exact va_Nw.warmF hW h | exact va_Nw.warmM hW h | (simp [nw_form] at hf)
theorem nw_same {u U : State} (hvm : u.vm = U.vm) {w : Cond} (hf : nw_form w = true) (h : va_Nw w u) : va_Nw w U := by
  cases w <;> first | exact va_Nw.same rfl hvm h | (simp [nw_form] at hf)
theorem KK.warm {D : va_G} {cZ cI cJ : ClassId} {s U : State} (hW : s.WarmedH U.vm) (h : KK D cZ cI cJ s) : KK D cZ cI cJ U := ⟨va_K.moved hW.alike h.1, fun w hw => nw_warm hW (nw_forms w hw) (h.2 w hw)⟩
theorem KK.same {D : va_G} {cZ cI cJ : ClassId} {s U : State} (hvm : s.vm = U.vm) (h : KK D cZ cI cJ s) : KK D cZ cI cJ U := ⟨va_K.moved (by rw [hvm]; exact Vm.Alike.refl _) h.1, fun w hw => nw_same hvm (nw_forms w hw) (h.2 w hw)⟩
def PB (D : va_G) (cZ cI cJ : ClassId) (sz : Nat) (ws : va_W) (U : State) : Prop := U.heap.size = sz ∧ va_P D vwCl ws U.heap ∧ KK D cZ cI cJ U ∧ va_D (fun _ => True) ws
def PR (D : va_G) (cZ cI cJ : ClassId) (ws : va_W) (U : State) : Prop := va_P D vwCl ws U.heap ∧ KK D cZ cI cJ U
abbrev wT (y : MethodName) (cc : ByteArray) (maxL : Nat) (ret : Option FieldType) : List Cond := Cond.code y cc maxL ret :: TB
def WB {S : Type} (D : va_G) (A : Nat → Prop) (wo : S → va_W) (u : S) (t : State) : Prop := va_P D vwCl (wo u) t.heap ∧ va_D A (wo u)
def Cv (l : Launch) (D : va_G) (cZ cI cJ : ClassId) (y : MethodName) (cc : ByteArray) (maxL : Nat) (rm : Room) (av : List Value) (ws : va_W) {S : Type} (post : S → Prop) (wo : S → va_W) : Prop :=
  ∀ sz : Nat, Met l y (wT y cc maxL none) rm (va_Pc av (PB D cZ cI cJ sz ws)) (va_Qv post (WB D (va_A ws sz) wo) (va_A ws sz)) rm.cells rm.slots (va_A ws sz)
def Ci (l : Launch) (D : va_G) (cZ cI cJ : ClassId) (y : MethodName) (cc : ByteArray) (maxL : Nat) (ret : Option FieldType) (rm : Room) (av : List Value) (ws : va_W) {S : Type} (post : Int32 → S → Prop) (wo : S → va_W) : Prop :=
  ∀ sz : Nat, Met l y (wT y cc maxL ret) rm (va_Pc av (PB D cZ cI cJ sz ws)) (va_Qi post (WB D (va_A ws sz) wo) (va_A ws sz)) rm.cells rm.slots (va_A ws sz)
def Cl (l : Launch) (D : va_G) (cZ cI cJ : ClassId) (y : MethodName) (cc : ByteArray) (maxL : Nat) (ret : Option FieldType) (rm : Room) (av : List Value) (ws : va_W) {S : Type} (post : Int64 → S → Prop) (wo : S → va_W) : Prop :=
  ∀ sz : Nat, Met l y (wT y cc maxL ret) rm (va_Pc av (PB D cZ cI cJ sz ws)) (va_Ql post (WB D (va_A ws sz) wo) (va_A ws sz)) rm.cells rm.slots (va_A ws sz)
def Ri (l : Launch) (D : va_G) (cZ cI cJ : ClassId) (y : MethodName) (cc : ByteArray) (maxL : Nat) (ret : Option FieldType) (rm : Room) (av : List Value) (ws : va_W) (post : Int32 → Prop) : Prop :=
  Met l y (wT y cc maxL ret) rm (va_Pc av (PR D cZ cI cJ ws)) (vp_Si post) 0 0 (fun _ => False)
def Rl (l : Launch) (D : va_G) (cZ cI cJ : ClassId) (y : MethodName) (cc : ByteArray) (maxL : Nat) (ret : Option FieldType) (rm : Room) (av : List Value) (ws : va_W) (post : Int64 → Prop) : Prop :=
  Met l y (wT y cc maxL ret) rm (va_Pc av (PR D cZ cI cJ ws)) (vp_Sl post) 0 0 (fun _ => False)
/-- what holds where a method's body begins -/
def St (p : Program) (s : State) (m : MethodId) (meth : Method) (c : Code) (D : va_G) (cZ cI cJ : ClassId) (y : MethodName) (cc : ByteArray) (maxL : Nat) (ret : Option FieldType) (args : Array Value) : Prop :=
  p.tables.exec = Jvm.exec ∧ c.code = cc ∧ meth.sig.returnType = ret ∧ meth.locks = false ∧ c.maxLocals = maxL ∧ s.vm.findClass y.cls = some m.cls ∧ meth.name = y.name ∧ (∀ w ∈ TB, w.before args s = true) ∧ KK D cZ cI cJ s
section BASE1
variable {l : Launch} {D : va_G} {cZ cI cJ : ClassId} {y : MethodName} {cc : ByteArray} {maxL : Nat} {ret : Option FieldType} {rm : Room} {av : List Value} {ws : va_W} {S : Type}
theorem st_of {p : Program} {e : Env} {s : State} {m : MethodId} {args : Array Value} {below : List Frame} {meth : Method} {c : Code} {s₁ : State} (B : BodyLoose p l y (headSpec (wT y cc maxL ret) rm) cc maxL ret e s m args below meth c s₁) (hml : c.maxLocals = maxL) (hK : KK D cZ cI cJ s) : St p s m meth c D cZ cI cJ y cc maxL ret args :=
  ⟨B.exec, B.bytes, B.returns, B.notSynchronized, hml, findClass_of_methodNamed B.named, (name_of_methodNamed B.named B.method).1, fun w hw => atoms_spec (ws := wT y cc maxL ret) B.pre w (List.mem_cons_of_mem _ hw), hK⟩
end BASE1
theorem fm_of {α β : Type} {f : α → Option β} {is : List α} {w : List β} (h : is.map f = w.map some) : is.filterMap f = w := by
  induction is generalizing w with
  | nil => cases w with
    | nil => rfl
    | cons b w => simp at h
  | cons a is ih => cases w with
    | nil => simp at h
    | cons b w =>
      simp only [List.map_cons, List.cons.injEq] at h
      rw [List.filterMap_cons, h.1]
      simp [ih h.2]
section BASE2
variable {p : Program} {l : Launch} {e : Env} {R : Room} {s : State} {m : MethodId} {args : Array Value} {below : List Frame} {meth : Method} {c : Code} {H : Heap} {locs : List Loc} {cells slots : Nat} {Q : State → Prop}
variable {cc bytes : ByteArray} {pc nL maxL index n mc ms : Nat} {ls : Array Slot} {rest st0 : List Value} {D : va_G} {cZ cI cJ : ClassId} {A : Nat → Prop} {ws wc wr we : va_W} {S : Type} {own C : String} {y : MethodName} {ret : Option FieldType} {rm : Room} {b : Addr} {As : List Value}
/-! ends -/
theorem rt_v {post : S → Prop} {wo : S → va_W} (hx : p.tables.exec = Jvm.exec) (hb : c.code = cc) (hr : meth.sig.returnType = none) (hlocks : meth.locks = false) (hP : va_P D vwCl we H) (hD : va_D A we) (hS : va_S A s.heap H locs) (u : S) (hu : post u) (is : List Nat) (hs : is.map (fun i => we[i]?) = (wo u).map some) (hn : va_nd is = true) (hdg : decode cc pc = .ok (.return_, 1)) (h1 : cells ≤ mc) (h2 : slots ≤ ms) :
    W p l e R s m args below meth c H locs cells slots (MQ below (va_Qv post (WB D A wo) A) args s mc ms A) (F0 m pc ls []) :=
  W.widen h1 h2 (W.vret hx hb hr (fun _ ht _ => ⟨⟨u, rfl, hu, by rw [ht]; exact hP.sub is (fm_of hs), hD.sub is hn hs⟩, hS.F ht⟩) hS.2.2 hdg hlocks)
theorem rt_i {post : Int32 → S → Prop} {wo : S → va_W} {v : Int32} (hx : p.tables.exec = Jvm.exec) (hb : c.code = cc) (hr : meth.sig.returnType = some .int) (hlocks : meth.locks = false) (hP : va_P D vwCl we H) (hD : va_D A we) (hS : va_S A s.heap H locs) (u : S) (hu : post v u) (is : List Nat) (hs : is.map (fun i => we[i]?) = (wo u).map some) (hn : va_nd is = true) (hdg : decode cc pc = .ok (.ireturn, 1)) (h1 : cells ≤ mc) (h2 : slots ≤ ms) :
    W p l e R s m args below meth c H locs cells slots (MQ below (va_Qi post (WB D A wo) A) args s mc ms A) (F0 m pc ls [.int v]) :=
  W.widen h1 h2 (W.iret hx hb hr (fun _ ht _ => ⟨⟨v, u, rfl, hu, by rw [ht]; exact hP.sub is (fm_of hs), hD.sub is hn hs⟩, hS.F ht⟩) hS.2.2 hdg hlocks)
theorem rt_z {post : Int32 → S → Prop} {wo : S → va_W} {v : Int32} {ty : FieldType} (hx : p.tables.exec = Jvm.exec) (hb : c.code = cc) (hr : meth.sig.returnType = some ty) (hv : narrow ty (.int v) = .int v) (hlocks : meth.locks = false) (hP : va_P D vwCl we H) (hD : va_D A we) (hS : va_S A s.heap H locs) (u : S) (hu : post v u) (is : List Nat) (hs : is.map (fun i => we[i]?) = (wo u).map some) (hn : va_nd is = true) (hdg : decode cc pc = .ok (.ireturn, 1)) (h1 : cells ≤ mc) (h2 : slots ≤ ms) :
    W p l e R s m args below meth c H locs cells slots (MQ below (va_Qi post (WB D A wo) A) args s mc ms A) (F0 m pc ls [.int v]) :=
  W.widen h1 h2 (W.zret hx hb hr hv (fun _ ht _ => ⟨⟨v, u, rfl, hu, by rw [ht]; exact hP.sub is (fm_of hs), hD.sub is hn hs⟩, hS.F ht⟩) hS.2.2 hdg hlocks)
theorem rt_l {post : Int64 → S → Prop} {wo : S → va_W} {v : Int64} (hx : p.tables.exec = Jvm.exec) (hb : c.code = cc) (hr : meth.sig.returnType = some .long) (hlocks : meth.locks = false) (hP : va_P D vwCl we H) (hD : va_D A we) (hS : va_S A s.heap H locs) (u : S) (hu : post v u) (is : List Nat) (hs : is.map (fun i => we[i]?) = (wo u).map some) (hn : va_nd is = true) (hdg : decode cc pc = .ok (.lreturn, 1)) (h1 : cells ≤ mc) (h2 : slots ≤ ms) :
    W p l e R s m args below meth c H locs cells slots (MQ below (va_Ql post (WB D A wo) A) args s mc ms A) (F0 m pc ls [.long v]) :=
  W.widen h1 h2 (W.lret hx hb hr (fun _ ht _ => ⟨⟨v, u, rfl, hu, by rw [ht]; exact hP.sub is (fm_of hs), hD.sub is hn hs⟩, hS.F ht⟩) hS.2.2 hdg hlocks)
theorem rr_i {post : Int32 → Prop} {v : Int32} (hx : p.tables.exec = Jvm.exec) (hb : c.code = cc) (hr : meth.sig.returnType = some .int) (hlocks : meth.locks = false) (hu : post v) (hdg : decode cc pc = .ok (.ireturn, 1)) :
    W p l e R s m args below meth c s.heap [] 0 0 (MQ below (vp_Si post) args s 0 0 (fun _ => False)) (F0 m pc ls [.int v]) :=
  W.iret hx hb hr (fun _ ht _ => ⟨v, rfl, hu, ht⟩) (fun _ h => by cases h) hdg hlocks
theorem rr_z {post : Int32 → Prop} {v : Int32} {ty : FieldType} (hx : p.tables.exec = Jvm.exec) (hb : c.code = cc) (hr : meth.sig.returnType = some ty) (hv : narrow ty (.int v) = .int v) (hlocks : meth.locks = false) (hu : post v) (hdg : decode cc pc = .ok (.ireturn, 1)) :
    W p l e R s m args below meth c s.heap [] 0 0 (MQ below (vp_Si post) args s 0 0 (fun _ => False)) (F0 m pc ls [.int v]) :=
  W.zret hx hb hr hv (fun _ ht _ => ⟨v, rfl, hu, ht⟩) (fun _ h => by cases h) hdg hlocks
theorem rr_l {post : Int64 → Prop} {v : Int64} (hx : p.tables.exec = Jvm.exec) (hb : c.code = cc) (hr : meth.sig.returnType = some .long) (hlocks : meth.locks = false) (hu : post v) (hdg : decode cc pc = .ok (.lreturn, 1)) :
    W p l e R s m args below meth c s.heap [] 0 0 (MQ below (vp_Sl post) args s 0 0 (fun _ => False)) (F0 m pc ls [.long v]) :=
  W.lret hx hb hr (fun _ ht _ => ⟨v, rfl, hu, ht⟩) (fun _ h => by cases h) hdg hlocks
/-! the words of a call -/
theorem cw_V (hT : ∀ w ∈ TB, w.before args s = true) (hc : Cond.code y bytes maxL ret ∈ TB) (hi : Cond.initialized y.cls ∈ TB) (hl : Cond.methodLink own index y ∈ TB) (hin : Cond.instanceMethod y ∈ TB) (hse : Cond.selects C y y ∈ TB) (hd : y.cls ≠ "java/lang/invoke/MethodHandle" ∧ y.cls ≠ "java/lang/invoke/VarHandle" ∧ (parseMethodDescriptor y.desc).map (fun d => d.parameters.length) = some n) (hrc : rm.cells = mc) (hrs : rm.slots = ms) (hR : rm.frames + 1 ≤ R.frames ∧ 8 + (maxL + 11) + rm.locals ≤ R.locals) :
    CallW R s args own C index y bytes maxL ret (wT y bytes maxL ret) rm mc ms n := ⟨callB_of n hT (tb_G hc) rfl hrc hrs (hT _ hi) (hT _ hl) hd hR, hT _ hin, hT _ hse⟩
theorem cw_S (hT : ∀ w ∈ TB, w.before args s = true) (hc : Cond.code y bytes maxL ret ∈ TB) (hi : Cond.initialized y.cls ∈ TB) (hl : Cond.methodLink own index y ∈ TB) (hst : Cond.static y ∈ TB) (hd : y.cls ≠ "java/lang/invoke/MethodHandle" ∧ y.cls ≠ "java/lang/invoke/VarHandle" ∧ (parseMethodDescriptor y.desc).map (fun d => d.parameters.length) = some n) (hrc : rm.cells = mc) (hrs : rm.slots = ms) (hR : rm.frames + 1 ≤ R.frames ∧ 8 + (maxL + 11) + rm.locals ≤ R.locals) :
    CallB R s args own index y bytes maxL ret (wT y bytes maxL ret) rm mc ms n ∧ (Cond.static y).before args s = true := ⟨callB_of n hT (tb_G hc) rfl hrc hrs (hT _ hi) (hT _ hl) hd hR, hT _ hst⟩
theorem cw_I (hT : ∀ w ∈ TB, w.before args s = true) (hc : Cond.code y bytes maxL none ∈ TB) (hi : Cond.initialized y.cls ∈ TB) (hl : Cond.methodLink own index y ∈ TB) (hin : Cond.instanceMethod y ∈ TB) (hy : y.name = "<init>") (hd : y.cls ≠ "java/lang/invoke/MethodHandle" ∧ y.cls ≠ "java/lang/invoke/VarHandle" ∧ (parseMethodDescriptor y.desc).map (fun d => d.parameters.length) = some n) (hrc : rm.cells = mc) (hrs : rm.slots = ms) (hR : rm.frames + 1 ≤ R.frames ∧ 8 + (maxL + 11) + rm.locals ≤ R.locals) :
    CallB R s args own index y bytes maxL none (wT y bytes maxL none) rm mc ms n ∧ y.name = "<init>" ∧ (Cond.instanceMethod y).before args s = true := ⟨callB_of n hT (tb_G hc) rfl hrc hrs (hT _ hi) (hT _ hl) hd hR, hy, hT _ hin⟩
theorem cw_IN {host : String} (hT : ∀ w ∈ TB, w.before args s = true) (hK : KK D cZ cI cJ s) (hc : Cond.code y bytes maxL none ∈ TB) (hi : Cond.initialized y.cls ∈ TB) (hl : Cond.methodLinkNest own index y host ∈ nWs) (hin : Cond.instanceMethod y ∈ TB) (hy : y.name = "<init>") (hd : y.cls ≠ "java/lang/invoke/MethodHandle" ∧ y.cls ≠ "java/lang/invoke/VarHandle" ∧ (parseMethodDescriptor y.desc).map (fun d => d.parameters.length) = some n) (hrc : rm.cells = mc) (hrs : rm.slots = ms) (hR : rm.frames + 1 ≤ R.frames ∧ 8 + (maxL + 11) + rm.locals ≤ R.locals) :
    va_CN R s args own index y host bytes maxL none (wT y bytes maxL none) rm mc ms n ∧ y.name = "<init>" ∧ (Cond.instanceMethod y).before args s = true := ⟨va_cnB n hT (tb_G hc) rfl hrc hrs (hK.2 _ hl) (hT _ hi) hd hR, hy, hT _ hin⟩
/-! what a call is begun with -/
theorem blind_B (av : List Value) (sz : Nat) : FrameBlind (va_Pc av (PB D cZ cI cJ sz wc)) := fun a U g mk q => ⟨q.1, q.2.1, q.2.2.1, KK.same (s := U) (U := U.calling g mk a) rfl q.2.2.2.1, q.2.2.2.2⟩
theorem blind_R (av : List Value) : FrameBlind (va_Pc av (PR D cZ cI cJ wc)) := fun a U g mk q => ⟨q.1, q.2.1, KK.same (s := U) (U := U.calling g mk a) rfl q.2.2⟩
theorem pre_S (hK : KK D cZ cI cJ s) (hP : va_P D vwCl ws H) (hD : va_D A ws) (isC : List Nat) (hC : isC.map (fun i => ws[i]?) = wc.map some) (hn : va_nd isC = true) : PreS s H (va_Pc As (PB D cZ cI cJ H.size wc)) As :=
  ⟨blind_B _ _, fun U hU hW => ⟨rfl, by rw [hU], by rw [hU]; exact hP.sub isC (fm_of hC), KK.warm hW hK, (hD.sub isC hn hC).weaken (fun _ _ _ _ => trivial)⟩⟩
theorem pre_V {q0 ci : Nat} {fs : List Value} {T : u_T} {N : Nat} (hK : KK D cZ cI cJ s) (hP : va_P D vwCl ws H) (hD : va_D A ws) (isC : List Nat) (hC : isC.map (fun i => ws[i]?) = wc.map some) (hn : va_nd isC = true) (hr : ws[q0]? = some (b, .inr (ci, fs))) (hc : vwCl[ci]? = some (C, T, N)) : PreV s H C b (va_Pc (.ref b :: As) (PB D cZ cI cJ H.size wc)) As :=
  ⟨blind_B _ _, va_recv hK.1 hP (q := (C, T, N)) hc hr, fun U hU hW => ⟨rfl, by rw [hU], by rw [hU]; exact hP.sub isC (fm_of hC), KK.warm hW hK, (hD.sub isC hn hC).weaken (fun _ _ _ _ => trivial)⟩⟩
theorem prr_S (hK : KK D cZ cI cJ s) (hP : va_P D vwCl ws H) (isC : List Nat) (hC : isC.map (fun i => ws[i]?) = wc.map some) : PreS s H (va_Pc As (PR D cZ cI cJ wc)) As :=
  ⟨blind_R _, fun U hU hW => ⟨rfl, by rw [hU]; exact hP.sub isC (fm_of hC), KK.warm hW hK⟩⟩
theorem prr_V {q0 ci : Nat} {fs : List Value} {T : u_T} {N : Nat} (hK : KK D cZ cI cJ s) (hP : va_P D vwCl ws H) (isC : List Nat) (hC : isC.map (fun i => ws[i]?) = wc.map some) (hr : ws[q0]? = some (b, .inr (ci, fs))) (hc : vwCl[ci]? = some (C, T, N)) : PreV s H C b (va_Pc (.ref b :: As) (PR D cZ cI cJ wc)) As :=
  ⟨blind_R _, va_recv hK.1 hP (q := (C, T, N)) hc hr, fun U hU hW => ⟨rfl, by rw [hU]; exact hP.sub isC (fm_of hC), KK.warm hW hK⟩⟩
/-! behind a call -/
theorem fin_v {post : S → Prop} {wo : S → va_W} {a : Array Value} (hr : va_Run p l e R s m args below meth c H locs cells slots mc ms (F0 m pc ls st0) rest (va_Qv post (WB D (va_A wc H.size) wo) (va_A wc H.size) a) (va_A wc H.size)) (hP : va_P D vwCl ws H) (hD : va_D A ws) (hS : va_S A s.heap H locs) (hA : ∀ q, s.heap.size ≤ q → A q)
    (isC isR : List Nat) (hC : isC.map (fun i => ws[i]?) = wc.map some) (hR : isR.map (fun i => ws[i]?) = wr.map some) (hn : va_nd isR = true) (hdis : ∀ i ∈ isR, i ∉ isC)
    (kk : ∀ (u : S) (H1 : Heap) (locs1 : List Loc), post u → va_P D vwCl (wr ++ wo u) H1 → va_D A (wr ++ wo u) → va_S A s.heap H1 locs1 → W p l e R s m args below meth c H1 locs1 (cells + mc) (slots + ms) Q (F0 m (pc + 3) ls rest)) : W p l e R s m args below meth c H locs cells slots Q (F0 m pc ls st0) := by
  have hF := va_free (wc := wc) hD hS hA isC hC
  refine va_callv hr hS (fun q _ h => hF q h) hF (fun u t H1 locs1 ht _ hu hB _ hk hS1 => ?_)
  obtain ⟨hP1, hD1⟩ := hB
  rw [ht] at hP1
  obtain ⟨hP2, hD2⟩ := va_join hP hD isC isR hC hR hn hdis hk hF hP1 hD1
  exact kk u H1 locs1 hu hP2 hD2 hS1
theorem fin_i {post : Int32 → S → Prop} {wo : S → va_W} {a : Array Value} (hr : va_Run p l e R s m args below meth c H locs cells slots mc ms (F0 m pc ls st0) rest (va_Qi post (WB D (va_A wc H.size) wo) (va_A wc H.size) a) (va_A wc H.size)) (hP : va_P D vwCl ws H) (hD : va_D A ws) (hS : va_S A s.heap H locs) (hA : ∀ q, s.heap.size ≤ q → A q)
    (isC isR : List Nat) (hC : isC.map (fun i => ws[i]?) = wc.map some) (hR : isR.map (fun i => ws[i]?) = wr.map some) (hn : va_nd isR = true) (hdis : ∀ i ∈ isR, i ∉ isC)
    (kk : ∀ (r : Int32) (u : S) (H1 : Heap) (locs1 : List Loc), post r u → va_P D vwCl (wr ++ wo u) H1 → va_D A (wr ++ wo u) → va_S A s.heap H1 locs1 → W p l e R s m args below meth c H1 locs1 (cells + mc) (slots + ms) Q (F0 m (pc + 3) ls (.int r :: rest))) : W p l e R s m args below meth c H locs cells slots Q (F0 m pc ls st0) := by
  have hF := va_free (wc := wc) hD hS hA isC hC
  refine va_calli hr hS (fun q _ h => hF q h) hF (fun r u t H1 locs1 ht _ hu hB _ hk hS1 => ?_)
  obtain ⟨hP1, hD1⟩ := hB
  rw [ht] at hP1
  obtain ⟨hP2, hD2⟩ := va_join hP hD isC isR hC hR hn hdis hk hF hP1 hD1
  exact kk r u H1 locs1 hu hP2 hD2 hS1
theorem fin_l {post : Int64 → S → Prop} {wo : S → va_W} {a : Array Value} (hr : va_Run p l e R s m args below meth c H locs cells slots mc ms (F0 m pc ls st0) rest (va_Ql post (WB D (va_A wc H.size) wo) (va_A wc H.size) a) (va_A wc H.size)) (hP : va_P D vwCl ws H) (hD : va_D A ws) (hS : va_S A s.heap H locs) (hA : ∀ q, s.heap.size ≤ q → A q)
    (isC isR : List Nat) (hC : isC.map (fun i => ws[i]?) = wc.map some) (hR : isR.map (fun i => ws[i]?) = wr.map some) (hn : va_nd isR = true) (hdis : ∀ i ∈ isR, i ∉ isC)
    (kk : ∀ (r : Int64) (u : S) (H1 : Heap) (locs1 : List Loc), post r u → va_P D vwCl (wr ++ wo u) H1 → va_D A (wr ++ wo u) → va_S A s.heap H1 locs1 → W p l e R s m args below meth c H1 locs1 (cells + mc) (slots + ms) Q (F0 m (pc + 3) ls (.long r :: rest))) : W p l e R s m args below meth c H locs cells slots Q (F0 m pc ls st0) := by
  have hF := va_free (wc := wc) hD hS hA isC hC
  refine va_calll hr hS (fun q _ h => hF q h) hF (fun r u t H1 locs1 ht _ hu hB _ hk hS1 => ?_)
  obtain ⟨hP1, hD1⟩ := hB
  rw [ht] at hP1
  obtain ⟨hP2, hD2⟩ := va_join hP hD isC isR hC hR hn hdis hk hF hP1 hD1
  exact kk r u H1 locs1 hu hP2 hD2 hS1
end BASE2
def RetV (p : Program) (l : Launch) (e : Env) (rm : Room) (s : State) (m : MethodId) (args : Array Value) (below : List Frame) (meth : Method) (c : Code) (D : va_G) (A : Nat → Prop) (cc : ByteArray) (Q : State → Prop) {S : Type} (post : S → Prop) (wo : S → va_W) : Prop :=
  ∀ {H : Heap} {locs : List Loc} {cells slots pc : Nat} {ls : Array Slot} {we : va_W}, va_P D vwCl we H → va_D A we → va_S A s.heap H locs → ∀ (u : S), post u → ∀ (is : List Nat), is.map (fun i => we[i]?) = (wo u).map some → va_nd is = true → decode cc pc = .ok (.return_, 1) → cells ≤ rm.cells → slots ≤ rm.slots → W p l e rm s m args below meth c H locs cells slots Q (F0 m pc ls [])
def RetI (p : Program) (l : Launch) (e : Env) (rm : Room) (s : State) (m : MethodId) (args : Array Value) (below : List Frame) (meth : Method) (c : Code) (D : va_G) (A : Nat → Prop) (cc : ByteArray) (ty : FieldType) (Q : State → Prop) {S : Type} (post : Int32 → S → Prop) (wo : S → va_W) : Prop :=
  ∀ {H : Heap} {locs : List Loc} {cells slots pc : Nat} {ls : Array Slot} {we : va_W} {v : Int32}, va_P D vwCl we H → va_D A we → va_S A s.heap H locs → narrow ty (.int v) = .int v → ∀ (u : S), post v u → ∀ (is : List Nat), is.map (fun i => we[i]?) = (wo u).map some → va_nd is = true → decode cc pc = .ok (.ireturn, 1) → cells ≤ rm.cells → slots ≤ rm.slots → W p l e rm s m args below meth c H locs cells slots Q (F0 m pc ls [.int v])
def RetL (p : Program) (l : Launch) (e : Env) (rm : Room) (s : State) (m : MethodId) (args : Array Value) (below : List Frame) (meth : Method) (c : Code) (D : va_G) (A : Nat → Prop) (cc : ByteArray) (Q : State → Prop) {S : Type} (post : Int64 → S → Prop) (wo : S → va_W) : Prop :=
  ∀ {H : Heap} {locs : List Loc} {cells slots pc : Nat} {ls : Array Slot} {we : va_W} {v : Int64}, va_P D vwCl we H → va_D A we → va_S A s.heap H locs → ∀ (u : S), post v u → ∀ (is : List Nat), is.map (fun i => we[i]?) = (wo u).map some → va_nd is = true → decode cc pc = .ok (.lreturn, 1) → cells ≤ rm.cells → slots ≤ rm.slots → W p l e rm s m args below meth c H locs cells slots Q (F0 m pc ls [.long v])
def RtrI (p : Program) (l : Launch) (e : Env) (rm : Room) (s : State) (m : MethodId) (args : Array Value) (below : List Frame) (meth : Method) (c : Code) (cc : ByteArray) (ty : FieldType) (Q : State → Prop) (post : Int32 → Prop) : Prop :=
  ∀ {pc : Nat} {ls : Array Slot} {v : Int32}, narrow ty (.int v) = .int v → post v → decode cc pc = .ok (.ireturn, 1) → W p l e rm s m args below meth c s.heap [] 0 0 Q (F0 m pc ls [.int v])
def RtrL (p : Program) (l : Launch) (e : Env) (rm : Room) (s : State) (m : MethodId) (args : Array Value) (below : List Frame) (meth : Method) (c : Code) (cc : ByteArray) (Q : State → Prop) (post : Int64 → Prop) : Prop :=
  ∀ {pc : Nat} {ls : Array Slot} {v : Int64}, post v → decode cc pc = .ok (.lreturn, 1) → W p l e rm s m args below meth c s.heap [] 0 0 Q (F0 m pc ls [.long v])
section BASE3
variable {l : Launch} {D : va_G} {cZ cI cJ : ClassId} {y : MethodName} {cc : ByteArray} {maxL : Nat} {ret : Option FieldType} {rm : Room} {av : List Value} {ws : va_W} {S : Type}
theorem Cv.of {post : S → Prop} {wo : S → va_W} (hy : plainName y.cls = true)
    (body : ∀ p e s m args below meth c A Q, St p s m meth c D cZ cI cJ y cc maxL none args → RetV p l e rm s m args below meth c D A cc Q post wo → va_P D vwCl ws s.heap → va_D A ws → (∀ q : Nat, s.heap.size ≤ q → A q) → W p l e rm s m args below meth c s.heap [] 0 0 Q (entryFrame m av.toArray maxL)) : Cv l D cZ cI cJ y cc maxL rm av ws post wo := by
  intro sz
  refine Met.ofW (cc := cc) (maxL := maxL) (ret := none) hy rfl ?_
  intro p e s m args below meth c s₁ B hml hv
  obtain ⟨rfl, rfl, hP, hK, hD0⟩ := hv
  exact body p e s m _ below meth c _ _ (st_of B hml hK) (fun hP hD hS u hu is hs hn hdg h1 h2 => rt_v B.exec B.bytes B.returns B.notSynchronized hP hD hS u hu is hs hn hdg h1 h2) hP (hD0.self) (fun q h => Or.inr h)
theorem Ci.of {post : Int32 → S → Prop} {wo : S → va_W} {ty : FieldType} (hy : plainName y.cls = true)
    (body : ∀ p e s m args below meth c A Q, St p s m meth c D cZ cI cJ y cc maxL (some ty) args → RetI p l e rm s m args below meth c D A cc ty Q post wo → va_P D vwCl ws s.heap → va_D A ws → (∀ q : Nat, s.heap.size ≤ q → A q) → W p l e rm s m args below meth c s.heap [] 0 0 Q (entryFrame m av.toArray maxL)) : Ci l D cZ cI cJ y cc maxL (some ty) rm av ws post wo := by
  intro sz
  refine Met.ofW (cc := cc) (maxL := maxL) (ret := some ty) hy rfl ?_
  intro p e s m args below meth c s₁ B hml hv
  obtain ⟨rfl, rfl, hP, hK, hD0⟩ := hv
  exact body p e s m _ below meth c _ _ (st_of B hml hK) (fun hP hD hS hv u hu is hs hn hdg h1 h2 => rt_z B.exec B.bytes B.returns hv B.notSynchronized hP hD hS u hu is hs hn hdg h1 h2) hP (hD0.self) (fun q h => Or.inr h)
theorem Cl.of {post : Int64 → S → Prop} {wo : S → va_W} (hy : plainName y.cls = true)
    (body : ∀ p e s m args below meth c A Q, St p s m meth c D cZ cI cJ y cc maxL (some .long) args → RetL p l e rm s m args below meth c D A cc Q post wo → va_P D vwCl ws s.heap → va_D A ws → (∀ q : Nat, s.heap.size ≤ q → A q) → W p l e rm s m args below meth c s.heap [] 0 0 Q (entryFrame m av.toArray maxL)) : Cl l D cZ cI cJ y cc maxL (some .long) rm av ws post wo := by
  intro sz
  refine Met.ofW (cc := cc) (maxL := maxL) (ret := some .long) hy rfl ?_
  intro p e s m args below meth c s₁ B hml hv
  obtain ⟨rfl, rfl, hP, hK, hD0⟩ := hv
  exact body p e s m _ below meth c _ _ (st_of B hml hK) (fun hP hD hS u hu is hs hn hdg h1 h2 => rt_l B.exec B.bytes B.returns B.notSynchronized hP hD hS u hu is hs hn hdg h1 h2) hP (hD0.self) (fun q h => Or.inr h)
theorem Ri.of {post : Int32 → Prop} {ty : FieldType} (hy : plainName y.cls = true)
    (body : ∀ p e s m args below meth c Q, St p s m meth c D cZ cI cJ y cc maxL (some ty) args → RtrI p l e rm s m args below meth c cc ty Q post → va_P D vwCl ws s.heap → W p l e rm s m args below meth c s.heap [] 0 0 Q (entryFrame m av.toArray maxL)) : Ri l D cZ cI cJ y cc maxL (some ty) rm av ws post := by
  refine Met.ofW (cc := cc) (maxL := maxL) (ret := some ty) hy rfl ?_
  intro p e s m args below meth c s₁ B hml hv
  obtain ⟨rfl, hP, hK⟩ := hv
  exact body p e s m _ below meth c _ (st_of B hml hK) (fun hv hu hdg => rr_z B.exec B.bytes B.returns hv B.notSynchronized hu hdg) hP
theorem Rl.of {post : Int64 → Prop} (hy : plainName y.cls = true)
    (body : ∀ p e s m args below meth c Q, St p s m meth c D cZ cI cJ y cc maxL (some .long) args → RtrL p l e rm s m args below meth c cc Q post → va_P D vwCl ws s.heap → W p l e rm s m args below meth c s.heap [] 0 0 Q (entryFrame m av.toArray maxL)) : Rl l D cZ cI cJ y cc maxL (some .long) rm av ws post := by
  refine Met.ofW (cc := cc) (maxL := maxL) (ret := some .long) hy rfl ?_
  intro p e s m args below meth c s₁ B hml hv
  obtain ⟨rfl, hP, hK⟩ := hv
  exact body p e s m _ below meth c _ (st_of B hml hK) (fun hu hdg => rr_l B.exec B.bytes B.returns B.notSynchronized hu hdg) hP
end BASE3
