/-! THE LAW'S HELPERS: static, with a table of handlers; they return. -/
abbrev wTH (y : MethodName) (cc : ByteArray) (maxL : Nat) (ret : Option FieldType) (hh : List (Nat × Nat × Nat × Nat)) : List Cond := Cond.codeWith y cc maxL ret hh :: TX
def Hi (l : Launch) (D : va_G) (cZ cI cJ : ClassId) (y : MethodName) (cc : ByteArray) (maxL : Nat) (ret : Option FieldType) (hh : List (Nat × Nat × Nat × Nat)) (rm : Room) (av : List Value) (ws : va_W) {S : Type} (post : Int32 → S → Prop) (wo : S → va_W) : Prop :=
  ∀ sz : Nat, Met l y (wTH y cc maxL ret hh) rm (va_Pc av (PX D cZ cI cJ sz ws)) (va_Qi post (WB D (va_A ws sz) wo) (va_A ws sz)) rm.cells rm.slots (va_A ws sz)
section BASEL
variable {p : Program} {l : Launch} {e : Env} {R : Room} {s : State} {m : MethodId} {args : Array Value} {below : List Frame} {meth : Method} {c : Code} {H : Heap} {locs : List Loc} {cells slots : Nat} {Q : State → Prop}
variable {cc bytes : ByteArray} {maxL index n mc ms : Nat} {D : va_G} {cZ cI cJ : ClassId} {A : Nat → Prop} {ws : va_W} {S : Type} {own : String} {y : MethodName} {ret : Option FieldType} {rm : Room} {av : List Value} {hh : List (Nat × Nat × Nat × Nat)}
theorem sth_of {p : Program} {e : Env} {s : State} {m : MethodId} {args : Array Value} {below : List Frame} {meth : Method} {c : Code} {s₁ : State} (B : BodyLoose p l y (headSpec (wTH y cc maxL ret hh) rm) cc maxL ret e s m args below meth c s₁) (hml : c.maxLocals = maxL) (hK : KK D cZ cI cJ s) (hX : KX A s s.heap) : StX p s m meth c D cZ cI cJ y cc maxL ret args A :=
  ⟨⟨B.exec, B.bytes, B.returns, B.notSynchronized, hml, findClass_of_methodNamed B.named, (name_of_methodNamed B.named B.method).1, fun w hw => atoms_spec (ws := wTH y cc maxL ret hh) B.pre w (List.mem_cons_of_mem _ (tx_TB w hw)), hK⟩, fun w hw => atoms_spec (ws := wTH y cc maxL ret hh) B.pre w (List.mem_cons_of_mem _ hw), hX⟩
theorem Hi.of {post : Int32 → S → Prop} {wo : S → va_W} {ty : FieldType} (hy : plainName y.cls = true)
    (body : ∀ p e s m args below meth c A Q, StX p s m meth c D cZ cI cJ y cc maxL (some ty) args A → c.exceptionTable.toList = tableOf hh → RetI p l e rm s m args below meth c D A cc ty Q post wo → va_P D vwCl ws s.heap → va_D A ws → (∀ q : Nat, s.heap.size ≤ q → A q) → W p l e rm s m args below meth c s.heap [] 0 0 Q (entryFrame m av.toArray maxL)) : Hi l D cZ cI cJ y cc maxL (some ty) hh rm av ws post wo := by
  intro sz
  refine va_MetW (cc := cc) (maxL := maxL) (ret := some ty) (hh := hh) hy rfl ?_
  intro p e s m args below meth c s₁ B hml hv
  obtain ⟨rfl, ⟨rfl, hP, hK, hD0⟩, hX⟩ := hv
  exact body p e s m _ below meth c _ _ (sth_of B hml hK hX) (vx_table (x := y) B (atoms_spec (ws := wTH y cc maxL (some ty) hh) B.pre _ List.mem_cons_self)) (fun hP hD hS hv u hu is hs hn hdg h1 h2 => rt_z B.exec B.bytes B.returns hv B.notSynchronized hP hD hS u hu is hs hn hdg h1 h2) hP (hD0.self) (fun q h => Or.inr h)
theorem cwh_S (hT : ∀ w ∈ TX, w.before args s = true) (hc : Cond.codeWith y bytes maxL ret hh ∈ TB) (hi : Cond.initialized y.cls ∈ TB) (hl : Cond.methodLink own index y ∈ TB) (hst : Cond.static y ∈ TB) (hd : y.cls ≠ "java/lang/invoke/MethodHandle" ∧ y.cls ≠ "java/lang/invoke/VarHandle" ∧ (parseMethodDescriptor y.desc).map (fun d => d.parameters.length) = some n) (hrc : rm.cells = mc) (hrs : rm.slots = ms) (hR : rm.frames + 1 ≤ R.frames ∧ 8 + (maxL + 11) + rm.locals ≤ R.locals) :
    vx_CSW R s args own index y bytes maxL ret hh (wTH y bytes maxL ret hh) rm mc ms n := by
  have g1 : ∀ w, w ∈ TB → w ∈ TX ∧ ((w.onTables && w.keeps) = true ∨ ∃ ty, w = .arrayClass ty) := fun w h => ⟨tx_TB _ h, good_of_word (tb_good w h)⟩
  refine vx_cwSW (ws' := TX) n hT (fun w hw => ?_) rfl hrc hrs hd hR
  rcases List.mem_append.mp hw with h | h
  · simp only [List.mem_cons, List.not_mem_nil, or_false] at h
    rcases h with h | h | h
    · rw [h]; exact g1 _ hl
    · rw [h]; exact g1 _ hst
    · rw [h]; exact g1 _ hi
  · rcases List.mem_cons.mp h with h | h
    · rw [h]; exact g1 _ hc
    · exact ⟨h, good_of_word (tx_good w h)⟩
theorem xw_I : Cond.castable IOB IOB ∈ xWs := List.mem_of_getElem? (i := 0) rfl
theorem xw_A : Cond.castable ARX ARX ∈ xWs := List.mem_of_getElem? (i := 1) rfl
end BASEL
